/-! THE REFERENCE: what a TEXT gives, DRIES, LIGHT, SEAMS -/
section La
variable {u : Nat} {na nb nc : Int32} {bs : List Int32} {s s0 : Nat → Int32} {A : Nat → Nat → Int32} {m : Nat} {h : AH}
theorem ct_M_whole5 (hu : u < 2) (hb : bs.length ≤ 50) : MdC u na nb nc bs 0 39 mX12_whole (allB bs (facB (nI u) bs 5)) := ct_M_all (D := 34) (by omega) hu hb (PF.fac 5) (ct_M_factor hu hb 5 (by omega))
theorem rd_len (u : Nat) (bs : List Int32) : (rdAll (nI u) bs).1 ≤ bs.length := ((PF.fac (use := nI u) (bs := bs) 5).all (0, true, []) (Nat.zero_le _) rfl).1
theorem TxOk_rd (hu : u < 2) (hb : bs.length ≤ 50) (h : rdOk (nI u) bs = true) : TxOk (rdAll (nI u) bs).2.2 := by
  refine Or.inr fun a b c => ?_
  obtain ⟨x, hx, -⟩ := ct_M_whole5 (na := a) (nb := b) (nc := c) hu hb (0, true, []) (Nat.zero_le _) (Nat.zero_le _) rfl
  obtain ⟨e, he, hr⟩ := hx (Bool.and_eq_true_iff.mp h).1
  exact ⟨x, by show runS a b c (allB bs (facB (nI u) bs 5) (0, true, [])).2.2 [] = _; rw [he]; exact hr []⟩
theorem rd_eq (u : Nat) (bs : List Int32) : rdOk (nI u) bs = ((rdAll (nI u) bs).2.1 && decide ((rdAll (nI u) bs).1 = bs.length)) := by
  have := rd_len u bs
  unfold rdOk
  by_cases e : (rdAll (nI u) bs).1 = bs.length
  · rw [decide_eq_true e, decide_eq_true (by omega)]
  · rw [decide_eq_false e, decide_eq_false (by omega)]
set_option maxHeartbeats 4000000 in
theorem ct_M_walks (hu : u < 2) (hb : bs.length ≤ 50) {a b c : Int32} : ∃ x, (rdOk (nI u) bs = true → ∀ stk, runS a b c (rdAll (nI u) bs).2.2 stk = some (x :: stk)) ∧ ∀ (m : Nat) (h : AH) (s : Nat → Int32) (A : Nat → Nat → Int32), m + 14 < h.1 → A 0 (11 + u) = nI bs.length → (∀ j, j < bs.length → A 0 (167 + 50 * u + j) = bs.getD j 0) → CV 40 0 0 mX12_walks m [.int (nI u), .int a, .int b, .int c] (mh m h s A) (fun v g => v = some (.int x) ∧ ∃ s2, (s2 17 = b2i (rdOk (nI u) bs) ∧ s2 11 = nI (rdAll (nI u) bs).1 ∧ sFr s s2) ∧ MP m h s2 A g) := by
  obtain ⟨x, hx, hct⟩ := ct_M_whole5 (na := a) (nb := b) (nc := c) hu hb (0, true, []) (Nat.zero_le _) (Nat.zero_le _) rfl
  have hlen := rd_len u bs
  have heq := rd_eq u bs
  obtain ⟨τ, hτ⟩ : ∃ τ, τ = rdAll (nI u) bs := ⟨_, rfl⟩
  rw [show allB bs (facB (nI u) bs 5) (0, true, []) = τ from hτ.symm] at hx hct
  rw [← hτ] at hlen heq ⊢
  refine ⟨x, fun g stk => ?_, fun m h s A hm hsz hby => ⟨mV hm, ?_⟩⟩
  · rw [heq] at g
    obtain ⟨e, he, hr⟩ := hx (Bool.and_eq_true_iff.mp g).1
    rw [he]
    exact hr stk
  · refine ct_of (by decide) (fun _ _ => Nat.le_of_ble_eq_true rfl) ?_
    dsimp only [pad, ent]
    refine aw_P (P' := MP m h s A) (fun _ q => q) ?_
    have hTl := nI_T (n := bs.length) (by omega)
    have hTt := nI_T (n := τ.1) (by omega)
    have q0 : MdS u a b c bs 0 (0, true, []) (upd (upd (upd (upd (upd (upd (upd (upd s 10 (nI u)) 11 0) 12 (nI bs.length)) 13 0) 17 1) 14 a) 15 b) 16 c) A := ⟨rfl, rfl, rfl, rfl, rfl, rfl, rfl, rfl, hby⟩
    refine r_aload_n (pc := 0) dX12_walks_0 rfl ?_
    refine r_iload_n (pc := 1) dX12_walks_1 rfl ?_
    refine r_mp (pc := 2) (k := 10) hm dX12_walks_2 fX12_126 (by decide) rfl rfl (fun _ _ => rfl) (fun _ _ => rfl) rfl ?_
    refine r_aload_n (pc := 5) dX12_walks_5 rfl ?_
    refine r_iconst (pc := 6) (v := 0) dX12_walks_6 (by decide) ?_
    refine r_mp (pc := 7) (k := 11) hm dX12_walks_7 fX12_132 (by decide) rfl rfl (fun _ _ => rfl) (fun _ _ => rfl) rfl ?_
    refine r_aload_n (pc := 10) dX12_walks_10 rfl ?_
    refine r_aload_n (pc := 11) dX12_walks_11 rfl ?_
    refine r_getf (pc := 12) (k := 0) dX12_walks_12 hX12 eX12 (by decide) fX12_7 (fun _ q => mo hm q) rfl ?_
    refine r_bipush (pc := 15) (v := 11) dX12_walks_15 (by decide) ?_
    refine r_iload_n (pc := 17) dX12_walks_17 rfl ?_
    refine r_iadd (pc := 18) dX12_walks_18 ?_
    rw [show (11 : Int32) + nI u = nI (11 + u) from nI_add 11 u]
    refine r_ml (pc := 19) (i := 0) (j := (11 + u)) hm dX12_walks_19 (by decide) (nI_T (by omega)) (show (11 + u) < 267 by omega) ?_
    rw [hsz]
    refine r_mp (pc := 20) (k := 12) hm dX12_walks_20 fX12_122 (by decide) rfl rfl (fun _ _ => rfl) (fun _ _ => rfl) rfl ?_
    refine r_aload_n (pc := 23) dX12_walks_23 rfl ?_
    refine r_iconst (pc := 24) (v := 0) dX12_walks_24 (by decide) ?_
    refine r_mp (pc := 25) (k := 13) hm dX12_walks_25 fX12_159 (by decide) rfl rfl (fun _ _ => rfl) (fun _ _ => rfl) rfl ?_
    refine r_aload_n (pc := 28) dX12_walks_28 rfl ?_
    refine r_iconst (pc := 29) (v := 1) dX12_walks_29 (by decide) ?_
    refine r_mp (pc := 30) (k := 17) hm dX12_walks_30 fX12_129 (by decide) rfl rfl (fun _ _ => rfl) (fun _ _ => rfl) rfl ?_
    refine r_aload_n (pc := 33) dX12_walks_33 rfl ?_
    refine r_iload_n (pc := 34) dX12_walks_34 rfl ?_
    refine r_mp (pc := 35) (k := 14) hm dX12_walks_35 fX12_144 (by decide) rfl rfl (fun _ _ => rfl) (fun _ _ => rfl) rfl ?_
    refine r_aload_n (pc := 38) dX12_walks_38 rfl ?_
    refine r_iload_n (pc := 39) dX12_walks_39 rfl ?_
    refine r_mp (pc := 40) (k := 15) hm dX12_walks_40 fX12_147 (by decide) rfl rfl (fun _ _ => rfl) (fun _ _ => rfl) rfl ?_
    refine r_aload_n (pc := 43) dX12_walks_43 rfl ?_
    refine r_iload (pc := 44) dX12_walks_44 rfl ?_
    refine r_mp (pc := 46) (k := 16) hm dX12_walks_46 fX12_150 (by decide) rfl rfl (fun _ _ => rfl) (fun _ _ => rfl) rfl ?_
    refine r_aload_n (pc := 49) dX12_walks_49 rfl ?_
    refine r_Vi (pc := 50) (μ' := mX12_whole) dX12_walks_50 nX12_165 iX12_whole vX12_whole kX12_whole rfl rfl (rr (by omega) rfl) rfl ⟨Nat.zero_le _, Nat.zero_le _⟩ (fun _ q_ => cvq q_ (hct m h _ A hm q0)) ?_
    refine aw_ex fun s2 => aw_pr fun q2 => ?_
    have fr : sFr s s2 := ((((((((((sFr.rf s).up (by omega)).up (by omega)).up (by omega)).up (by omega)).up (by omega)).up (by omega)).up (by omega)).up (by omega)).tr q2.2)
    refine r_istore (pc := 53) dX12_walks_53 (Nat.le_of_ble_eq_true rfl) rfl ?_
    dsimp only [lset]
    refine r_aload_n (pc := 55) dX12_walks_55 rfl ?_
    refine r_aload_n (pc := 56) dX12_walks_56 rfl ?_
    refine r_getf (pc := 57) (k := 17) dX12_walks_57 hX12 eX12 (by decide) fX12_129 (fun _ q => mo hm q) rfl ?_
    rw [q2.1.2.2.2.2.2.2.2.1]
    refine r_if_eq (pc := 60) 78 dX12_walks_60 (by decide) (fun c60 => ?_) (fun c60 => ?_)
    · skip
      have hv : rdOk (nI u) bs = false := by rw [heq, b2i_0.mp c60, Bool.false_and]
      refine r_iconst (pc := 78) (v := 0) dX12_walks_78 (by decide) ?_
      refine r_mp (pc := 79) (k := 17) hm dX12_walks_79 fX12_129 (by decide) rfl rfl (fun _ _ => rfl) (fun _ _ => rfl) rfl ?_
      refine r_iload (pc := 82) dX12_walks_82 rfl ?_
      refine r_ireturn (pc := 84) (ty := .int) dX12_walks_84 rfl rfl ⟨Nat.zero_le _, Nat.zero_le _⟩ (fun gE hg => ?_)
      rw [hv]
      exact ⟨rfl, _, ⟨upd_s, (upd_n (by decide)).trans q2.1.2.1, fr.up (by omega)⟩, hg⟩
    · skip
      have hg6 := b2i_n0.mp c60
      refine r_aload_n (pc := 63) dX12_walks_63 rfl ?_
      refine r_getf (pc := 64) (k := 11) dX12_walks_64 hX12 eX12 (by decide) fX12_132 (fun _ q => mo hm q) rfl ?_
      rw [q2.1.2.1]
      refine r_aload_n (pc := 67) dX12_walks_67 rfl ?_
      refine r_getf (pc := 68) (k := 12) dX12_walks_68 hX12 eX12 (by decide) fX12_122 (fun _ q => mo hm q) rfl ?_
      rw [q2.1.2.2.1]
      refine r_icmp_ne (pc := 71) 78 dX12_walks_71 (by decide) (fun c71 => ?_) (fun c71 => ?_)
      · skip
        have hv : rdOk (nI u) bs = false := by rw [heq, decide_eq_false (fun x => c71 (by rw [x])), Bool.and_false]
        refine r_iconst (pc := 78) (v := 0) dX12_walks_78 (by decide) ?_
        refine r_mp (pc := 79) (k := 17) hm dX12_walks_79 fX12_129 (by decide) rfl rfl (fun _ _ => rfl) (fun _ _ => rfl) rfl ?_
        refine r_iload (pc := 82) dX12_walks_82 rfl ?_
        refine r_ireturn (pc := 84) (ty := .int) dX12_walks_84 rfl rfl ⟨Nat.zero_le _, Nat.zero_le _⟩ (fun gE hg => ?_)
        rw [hv]
        exact ⟨rfl, _, ⟨upd_s, (upd_n (by decide)).trans q2.1.2.1, fr.up (by omega)⟩, hg⟩
      · skip
        have hv : rdOk (nI u) bs = true := by rw [heq, hg6, decide_eq_true ((nI_eq (by omega) (by omega)).mp c71)]; rfl
        refine r_iconst (pc := 74) (v := 1) dX12_walks_74 (by decide) ?_
        refine r_goto (pc := 75) 79 dX12_walks_75 (by decide) ?_
        refine r_mp (pc := 79) (k := 17) hm dX12_walks_79 fX12_129 (by decide) rfl rfl (fun _ _ => rfl) (fun _ _ => rfl) rfl ?_
        refine r_iload (pc := 82) dX12_walks_82 rfl ?_
        refine r_ireturn (pc := 84) (ty := .int) dX12_walks_84 rfl rfl ⟨Nat.zero_le _, Nat.zero_le _⟩ (fun gE hg => ?_)
        rw [hv]
        exact ⟨rfl, _, ⟨upd_s, (upd_n (by decide)).trans q2.1.2.1, fr.up (by omega)⟩, hg⟩
theorem heI_held (v : Int32) : heI v 0 99 = heldI v := by
  have e0 : ∀ x : Int32, x < 0 ↔ x.toInt < 0 := fun x => fa_lt
  have e9 : ∀ x : Int32, (99 : Int32) < x ↔ 99 < x.toInt := fun x => fa_lt
  have e8 : ∀ x : Int32, x < 99 ↔ x.toInt < 99 := fun x => fa_lt
  have e7 : ∀ x : Int32, (0 : Int32) < x ↔ 0 < x.toInt := fun x => fa_lt
  unfold heI heldI
  by_cases a : v < 0
  · have := (e0 v).mp a
    rw [if_pos a, if_pos ((e8 v).mpr (by omega)), if_neg (fun x => by have := (e7 v).mp x; omega)]
  · have a2 : ¬ v.toInt < 0 := fun x => a ((e0 v).mpr x)
    rw [if_neg a]
    by_cases b : v < 99
    · have := (e8 v).mp b
      rw [if_pos b, if_neg (fun x => by have := (e9 v).mp x; omega)]
      by_cases c : (0 : Int32) < v
      · rw [if_pos c]
      · rw [if_neg c]
        have : ¬ 0 < v.toInt := fun x => c ((e7 v).mpr x)
        exact fa_eq.mpr (by rw [t0]; omega)
    · rw [if_neg b]
      have b2 : ¬ v.toInt < 99 := fun x => b ((e8 v).mpr x)
      rw [if_pos (show (0 : Int32) < 99 by decide)]
      by_cases c : (99 : Int32) < v
      · rw [if_pos c]
      · rw [if_neg c]
        have : ¬ 99 < v.toInt := fun x => c ((e9 v).mpr x)
        exact fa_eq.mpr (by rw [show (99 : Int32).toInt = 99 from rfl]; omega)
theorem lawI_nil (use a b c : Int32) : lawI use [] a b c = heldI (if use = 0 then 10 - c else 1 + c) := rfl
theorem lawI_run {use a b c x : Int32} {l : List Int32} (h : runS a b c l [] = some [x]) : lawI use l a b c = heldI x := by
  unfold lawI
  rw [if_neg (fun e => by
    have : l = [] := List.eq_nil_of_length_eq_zero e
    rw [this] at h
    exact absurd h (by show ¬ some ([] : List Int32) = some [x]; simp)), h]
  rfl
set_option maxHeartbeats 4000000 in
theorem ct_M_lawOf (hm : m + 14 < h.1) (hu : u < 2) {t : Option (List Int32)} {l : List Int32} (ht : TxM t (A 0 (11 + u)) (167 + 50 * u) (A 0)) (hr : TR (nI u) t l) {a b c : Int32} : CV 41 0 0 mX12_lawOf m [.int (nI u), .int a, .int b, .int c] (mh m h s A) (fun v g => v = some (.int (lawI (nI u) l a b c)) ∧ ∃ s2, sFr s s2 ∧ MP m h s2 A g) := by
  refine ⟨mV hm, ?_⟩
  refine ct_of (by decide) (fun _ _ => Nat.le_of_ble_eq_true rfl) ?_
  dsimp only [pad, ent]
  refine aw_P (P' := MP m h s A) (fun _ q => q) ?_
  rcases hr with ⟨rfl, rfl⟩ | ⟨bs, rfl, hb, hok, rfl⟩
  · rw [lawI_nil]
    have ht : A 0 (11 + u) = -1 := ht
    refine r_aload_n (pc := 0) dX12_lawOf_0 rfl ?_
    refine r_getf (pc := 1) (k := 0) dX12_lawOf_1 hX12 eX12 (by decide) fX12_7 (fun _ q => mo hm q) rfl ?_
    refine r_bipush (pc := 4) (v := 11) dX12_lawOf_4 (by decide) ?_
    refine r_iload_n (pc := 6) dX12_lawOf_6 rfl ?_
    refine r_iadd (pc := 7) dX12_lawOf_7 ?_
    rw [show (11 : Int32) + nI u = nI (11 + u) from nI_add 11 u]
    refine r_ml (pc := 8) (i := 0) (j := (11 + u)) hm dX12_lawOf_8 (by decide) (nI_T (by omega)) (show (11 + u) < 267 by omega) ?_
    rw [ht]
    refine r_if_ge (pc := 9) 35 dX12_lawOf_9 (by decide) (fun c9 => ?_) (fun c9 => ?_)
    · skip
      exact absurd c9 (by decide)
    · skip
      refine r_iload_n (pc := 12) dX12_lawOf_12 rfl ?_
      refine r_if_ne (pc := 13) 24 dX12_lawOf_13 (by decide) (fun c13 => ?_) (fun c13 => ?_)
      · skip
        rw [if_neg c13]
        refine r_iconst (pc := 24) (v := 1) dX12_lawOf_24 (by decide) ?_
        refine r_iload (pc := 25) dX12_lawOf_25 rfl ?_
        refine r_iadd (pc := 27) dX12_lawOf_27 ?_
        refine r_iconst (pc := 28) (v := 0) dX12_lawOf_28 (by decide) ?_
        refine r_bipush (pc := 29) (v := 99) dX12_lawOf_29 (by decide) ?_
        refine r_Sp (pc := 31) (μ' := mX12_held) dX12_lawOf_31 nX12_180 sX12_held kX12_held rfl rfl (rr (by omega) rfl) rfl ⟨Nat.zero_le _, Nat.zero_le _⟩ (fun h => ct_M_held h) ?_
        rw [heI_held]
        refine r_ireturn (pc := 34) (ty := .int) dX12_lawOf_34 rfl rfl ⟨Nat.zero_le _, Nat.zero_le _⟩ (fun gE hg => ?_)
        exact ⟨rfl, s, sFr.rf s, hg⟩
      · skip
        rw [if_pos c13]
        refine r_bipush (pc := 16) (v := 10) dX12_lawOf_16 (by decide) ?_
        refine r_iload (pc := 18) dX12_lawOf_18 rfl ?_
        refine r_isub (pc := 20) dX12_lawOf_20 ?_
        refine r_goto (pc := 21) 28 dX12_lawOf_21 (by decide) ?_
        refine r_iconst (pc := 28) (v := 0) dX12_lawOf_28 (by decide) ?_
        refine r_bipush (pc := 29) (v := 99) dX12_lawOf_29 (by decide) ?_
        refine r_Sp (pc := 31) (μ' := mX12_held) dX12_lawOf_31 nX12_180 sX12_held kX12_held rfl rfl (rr (by omega) rfl) rfl ⟨Nat.zero_le _, Nat.zero_le _⟩ (fun h => ct_M_held h) ?_
        rw [heI_held]
        refine r_ireturn (pc := 34) (ty := .int) dX12_lawOf_34 rfl rfl ⟨Nat.zero_le _, Nat.zero_le _⟩ (fun gE hg => ?_)
        exact ⟨rfl, s, sFr.rf s, hg⟩
  · obtain ⟨x, hx, hct⟩ := ct_M_walks (a := a) (b := b) (c := c) hu hb
    rw [lawI_run (hx hok [])]
    obtain ⟨t1', t2', t3'⟩ := ht
    refine r_aload_n (pc := 0) dX12_lawOf_0 rfl ?_
    refine r_getf (pc := 1) (k := 0) dX12_lawOf_1 hX12 eX12 (by decide) fX12_7 (fun _ q => mo hm q) rfl ?_
    refine r_bipush (pc := 4) (v := 11) dX12_lawOf_4 (by decide) ?_
    refine r_iload_n (pc := 6) dX12_lawOf_6 rfl ?_
    refine r_iadd (pc := 7) dX12_lawOf_7 ?_
    rw [show (11 : Int32) + nI u = nI (11 + u) from nI_add 11 u]
    refine r_ml (pc := 8) (i := 0) (j := (11 + u)) hm dX12_lawOf_8 (by decide) (nI_T (by omega)) (show (11 + u) < 267 by omega) ?_
    rw [t1']
    refine r_if_ge (pc := 9) 35 dX12_lawOf_9 (by decide) (fun c9 => ?_) (fun c9 => ?_)
    · skip
      refine r_aload_n (pc := 35) dX12_lawOf_35 rfl ?_
      refine r_iload_n (pc := 36) dX12_lawOf_36 rfl ?_
      refine r_iload_n (pc := 37) dX12_lawOf_37 rfl ?_
      refine r_iload_n (pc := 38) dX12_lawOf_38 rfl ?_
      refine r_iload (pc := 39) dX12_lawOf_39 rfl ?_
      refine r_Vi (pc := 41) (μ' := mX12_walks) dX12_lawOf_41 nX12_183 iX12_walks vX12_walks kX12_walks rfl rfl (rr (by omega) rfl) rfl ⟨Nat.zero_le _, Nat.zero_le _⟩ (fun _ q_ => cvq q_ (hct m h s A hm t1' t3')) ?_
      refine aw_ex fun s2 => aw_pr fun q2 => ?_
      refine r_iconst (pc := 44) (v := 0) dX12_lawOf_44 (by decide) ?_
      refine r_bipush (pc := 45) (v := 99) dX12_lawOf_45 (by decide) ?_
      refine r_Sp (pc := 47) (μ' := mX12_held) dX12_lawOf_47 nX12_180 sX12_held kX12_held rfl rfl (rr (by omega) rfl) rfl ⟨Nat.zero_le _, Nat.zero_le _⟩ (fun h => ct_M_held h) ?_
      rw [heI_held]
      refine r_ireturn (pc := 50) (ty := .int) dX12_lawOf_50 rfl rfl ⟨Nat.zero_le _, Nat.zero_le _⟩ (fun gE hg => ?_)
      exact ⟨rfl, s2, q2.2.2, hg⟩
    · skip
      exact absurd (nI_pos' (by omega)) c9
end La
def TbP (ro st he : Nat) (lD lL : List Int32) (s : Nat → Int32) (A : Nat → Nat → Int32) : Prop := s 9 = 0 ∨ (s 9 = 1 ∧ (∀ c, c < ro * st → A 5 c = nI (drL lD he (c / st) (c % st))) ∧ ∀ c d, c < ro * st → d < 100 → A 6 (100 * c + d) < 0 ∨ A 6 (100 * c + d) = nI (ltL lL (c / st) (c % st) d))
/-- a ceiling in the row, with texts as these steps -/
def SE (K : CK) (lD lL : List Int32) (s : Nat → Int32) (A : Nat → Nat → Int32) : Prop := RMk K (A 0) ∧ (∃ tD, TxM tD (A 0 11) 167 (A 0) ∧ TR 0 tD lD) ∧ (∃ tL, TxM tL (A 0 12) 217 (A 0) ∧ TR 1 tL lL) ∧ TbP (kRo K) (kSt K) (kHe K) lD lL s A
section Sn
variable {K : CK} {lD lL : List Int32} {s s2 : Nat → Int32} {A : Nat → Nat → Int32} {m : Nat} {h : AH}
theorem TbP.fr {ro st he : Nat} (q : TbP ro st he lD lL s A) (f : sFr s s2) : TbP ro st he lD lL s2 A := by
  unfold TbP at q ⊢
  rw [f 9 (by omega)]
  exact q
theorem SE.fr (q : SE K lD lL s A) (f : sFr s s2) : SE K lD lL s2 A := ⟨q.1, q.2.1, q.2.2.1, q.2.2.2.fr f⟩
theorem cel_rs {ro st c : Nat} (h : c < ro * st) (h0 : 0 < st) : c / st < ro ∧ c % st < st ∧ c / st * st + c % st = c := ⟨Nat.div_lt_of_lt_mul (by rw [Nat.mul_comm]; exact h), Nat.mod_lt _ h0, Nat.div_add_mod' c st⟩
theorem RMk.cell {f : Nat → Int32} (q : RMk K f) {c : Nat} (hc : c < kRo K * kSt K) (h0 : 0 < kSt K) : f (25 + 2 * c) = iI (kW K (c / kSt K) (c % kSt K)) ∧ f (26 + 2 * c) = nI (kV K (c / kSt K) (c % kSt K)) := by
  obtain ⟨h1, h2, h3⟩ := cel_rs hc h0
  have := q.2.2.2.2.2.2.2 _ _ h1 h2
  rw [h3] at this
  exact this
theorem lawN_dr (lD : List Int32) (he r c : Nat) : lawI 0 lD (nI r) (nI c) (nI he) = nI (drL lD he r c) := (lawN_ok 0 lD r c he).1
theorem lawN_lt (lL : List Int32) (r c d : Nat) : lawI 1 lL (nI r) (nI c) (nI d) = nI (ltL lL r c d) := (lawN_ok 1 lL r c d).1
set_option maxHeartbeats 4000000 in
theorem ct_M_driesAt (hm : m + 14 < h.1) (ok : KOk K) (q : SE K lD lL s A) {c : Nat} (hc : c < kRo K * kSt K) : CV 42 0 0 mX12_driesAt m [.int (nI c)] (mh m h s A) (fun v g => v = some (.int (nI (drL lD (kHe K) (c / kSt K) (c % kSt K)))) ∧ ∃ s2, sFr s s2 ∧ MP m h s2 A g) := by
  refine ⟨mV hm, ?_⟩
  refine ct_of (by decide) (fun _ _ => Nat.le_of_ble_eq_true rfl) ?_
  dsimp only [pad, ent]
  refine aw_P (P' := MP m h s A) (fun _ q => q) ?_
  have hst : 1 ≤ kSt K ∧ kSt K ≤ 6 := ok.2.1
  have hro : 1 ≤ kRo K ∧ kRo K ≤ 6 := ok.1
  have h36 : kRo K * kSt K ≤ 6 * 6 := Nat.mul_le_mul (by omega) (by omega)
  obtain ⟨rk, ⟨tD, hD, hD2⟩, -, tb⟩ := q
  have r1 := rk.2.1
  have r3 := rk.2.2.2.1
  have hne : ¬ nI (kSt K) = 0 := nI_ne0 (by omega) (by omega)
  have ct := ct_M_lawOf (s := s) (A := A) (u := 0) hm (by decide) hD hD2 (a := nI (c / kSt K)) (b := nI (c % kSt K)) (c := nI (kHe K))
  rw [show lawI (nI 0) lD (nI (c / kSt K)) (nI (c % kSt K)) (nI (kHe K)) = _ from lawN_dr lD (kHe K) _ _] at ct
  rcases tb with tb | ⟨tb, t2, -⟩
  · skip
    refine r_aload_n (pc := 0) dX12_driesAt_0 rfl ?_
    refine r_getf (pc := 1) (k := 9) dX12_driesAt_1 hX12 eX12 (by decide) fX12_70 (fun _ q => mo hm q) rfl ?_
    rw [tb]
    refine r_if_eq (pc := 4) 16 dX12_driesAt_4 (by decide) (fun c4 => ?_) (fun c4 => ?_)
    · skip
      refine r_aload_n (pc := 16) dX12_driesAt_16 rfl ?_
      refine r_iconst (pc := 17) (v := 0) dX12_driesAt_17 (by decide) ?_
      refine r_iload_n (pc := 18) dX12_driesAt_18 rfl ?_
      refine r_aload_n (pc := 19) dX12_driesAt_19 rfl ?_
      refine r_getf (pc := 20) (k := 0) dX12_driesAt_20 hX12 eX12 (by decide) fX12_7 (fun _ q => mo hm q) rfl ?_
      refine r_iconst (pc := 23) (v := 1) dX12_driesAt_23 (by decide) ?_
      refine r_ml (pc := 24) (i := 0) (j := 1) hm dX12_driesAt_24 (by decide) rfl (by decide) ?_
      rw [r1]
      refine r_idiv (pc := 25) dX12_driesAt_25 hne ?_
      rw [div_nI (d := kSt K) (by omega) (by omega) (by omega)]
      refine r_iload_n (pc := 26) dX12_driesAt_26 rfl ?_
      refine r_aload_n (pc := 27) dX12_driesAt_27 rfl ?_
      refine r_getf (pc := 28) (k := 0) dX12_driesAt_28 hX12 eX12 (by decide) fX12_7 (fun _ q => mo hm q) rfl ?_
      refine r_iconst (pc := 31) (v := 1) dX12_driesAt_31 (by decide) ?_
      refine r_ml (pc := 32) (i := 0) (j := 1) hm dX12_driesAt_32 (by decide) rfl (by decide) ?_
      rw [r1]
      refine r_irem' (pc := 33) dX12_driesAt_33 hne ?_
      rw [rem_nI (d := kSt K) (by omega) (by omega) (by omega)]
      refine r_aload_n (pc := 34) dX12_driesAt_34 rfl ?_
      refine r_getf (pc := 35) (k := 0) dX12_driesAt_35 hX12 eX12 (by decide) fX12_7 (fun _ q => mo hm q) rfl ?_
      refine r_iconst (pc := 38) (v := 3) dX12_driesAt_38 (by decide) ?_
      refine r_ml (pc := 39) (i := 0) (j := 3) hm dX12_driesAt_39 (by decide) rfl (by decide) ?_
      rw [r3]
      refine r_Vi (pc := 40) (μ' := mX12_lawOf) dX12_driesAt_40 nX12_74 iX12_lawOf vX12_lawOf kX12_lawOf rfl rfl (rr (by omega) rfl) rfl ⟨Nat.zero_le _, Nat.zero_le _⟩ (fun _ q_ => cvq q_ (ct)) ?_
      refine aw_ex fun s2 => aw_pr fun q2 => ?_
      refine r_ireturn (pc := 43) (ty := .int) dX12_driesAt_43 rfl rfl ⟨Nat.zero_le _, Nat.zero_le _⟩ (fun gE hg => ?_)
      exact ⟨rfl, s2, q2, hg⟩
    · skip
      exact absurd rfl c4
  · skip
    refine r_aload_n (pc := 0) dX12_driesAt_0 rfl ?_
    refine r_getf (pc := 1) (k := 9) dX12_driesAt_1 hX12 eX12 (by decide) fX12_70 (fun _ q => mo hm q) rfl ?_
    rw [tb]
    refine r_if_eq (pc := 4) 16 dX12_driesAt_4 (by decide) (fun c4 => ?_) (fun c4 => ?_)
    · skip
      exact absurd c4 (by decide)
    · skip
      refine r_aload_n (pc := 7) dX12_driesAt_7 rfl ?_
      refine r_getf (pc := 8) (k := 7) dX12_driesAt_8 hX12 eX12 (by decide) fX12_25 (fun _ q => mo hm q) rfl ?_
      refine r_iload_n (pc := 11) dX12_driesAt_11 rfl ?_
      refine r_ml (pc := 12) (i := 5) (j := c) hm dX12_driesAt_12 (by decide) (nI_T (by omega)) (show c < 36 by omega) ?_
      refine r_goto (pc := 13) 43 dX12_driesAt_13 (by decide) ?_
      rw [t2 c hc]
      refine r_ireturn (pc := 43) (ty := .int) dX12_driesAt_43 rfl rfl ⟨Nat.zero_le _, Nat.zero_le _⟩ (fun gE hg => ?_)
      exact ⟨rfl, s, sFr.rf s, hg⟩
set_option maxHeartbeats 4000000 in
theorem ct_M_shows (hm : m + 14 < h.1) (ok : KOk K) (q : SE K lD lL s A) {c d : Nat} (hc : c < kRo K * kSt K) (hd : d < 100) : CV 42 0 0 mX12_shows m [.int (nI c), .int (nI d)] (mh m h s A) (fun v g => v = some (.int (nI (ltL lL (c / kSt K) (c % kSt K) d))) ∧ ∃ s2 f6, (SE K lD lL s2 (upA A 6 f6) ∧ sFr s s2) ∧ MP m h s2 (upA A 6 f6) g) := by
  refine ⟨mV hm, ?_⟩
  refine ct_of (by decide) (fun _ _ => Nat.le_of_ble_eq_true rfl) ?_
  dsimp only [pad, ent]
  refine aw_P (P' := MP m h s A) (fun _ q => q) ?_
  have hst : 1 ≤ kSt K ∧ kSt K ≤ 6 := ok.2.1
  have hro : 1 ≤ kRo K ∧ kRo K ≤ 6 := ok.1
  have h36 : kRo K * kSt K ≤ 6 * 6 := Nat.mul_le_mul (by omega) (by omega)
  obtain ⟨rk, hD, ⟨tL, hL, hL2⟩, tb⟩ := id q
  have r1 := rk.2.1
  have hne : ¬ nI (kSt K) = 0 := nI_ne0 (by omega) (by omega)
  have ct := ct_M_lawOf (s := s) (A := A) (u := 1) hm (by decide) hL hL2 (a := nI (c / kSt K)) (b := nI (c % kSt K)) (c := nI d)
  rw [show lawI (nI 1) lL (nI (c / kSt K)) (nI (c % kSt K)) (nI d) = _ from lawN_lt lL _ _ d] at ct
  have hk : (100 : Int32) * nI c + nI d = nI (100 * c + d) := by rw [show (100 : Int32) * nI c = nI (100 * c) from pk_mul 100 c, nI_add]
  have fin : ∀ s2 g, sFr s s2 → MP m h s2 (upA A 6 (upd (A 6) (100 * c + d) (nI (ltL lL (c / kSt K) (c % kSt K) d)))) g → ∃ s2 f6, (SE K lD lL s2 (upA A 6 f6) ∧ sFr s s2) ∧ MP m h s2 (upA A 6 f6) g := by
    intro s2 g fr hg
    refine ⟨s2, _, ⟨⟨rk, hD, ⟨tL, hL, hL2⟩, ?_⟩, fr⟩, hg⟩
    have tb2 := tb.fr fr
    rcases tb2 with t | ⟨t, t2, t3⟩
    · exact Or.inl t
    · refine Or.inr ⟨t, t2, fun c2 d2 h1 h2 => ?_⟩
      rw [upA_s]
      by_cases e : 100 * c2 + d2 = 100 * c + d
      · obtain ⟨rfl, rfl⟩ : c2 = c ∧ d2 = d := by omega
        rw [upd_s]; exact Or.inr rfl
      · rw [upd_n e]; exact t3 c2 d2 h1 h2
  have tail : AW (fun _ => True) (rmd 42 0 0) mX12_shows 0 0 23 [some (.ref m), some (.int (nI c)), some (.int (nI d)), some (.int (nI (100 * c + d)))] [] (MP m h s A) (fun v g => v = some (.int (nI (ltL lL (c / kSt K) (c % kSt K) d))) ∧ ∃ s2 f6, (SE K lD lL s2 (upA A 6 f6) ∧ sFr s s2) ∧ MP m h s2 (upA A 6 f6) g) := by
    refine r_aload_n (pc := 23) dX12_shows_23 rfl ?_
    refine r_getf (pc := 24) (k := 8) dX12_shows_24 hX12 eX12 (by decide) fX12_28 (fun _ q => mo hm q) rfl ?_
    refine r_iload_n (pc := 27) dX12_shows_27 rfl ?_
    refine r_aload_n (pc := 28) dX12_shows_28 rfl ?_
    refine r_iconst (pc := 29) (v := 1) dX12_shows_29 (by decide) ?_
    refine r_iload_n (pc := 30) dX12_shows_30 rfl ?_
    refine r_aload_n (pc := 31) dX12_shows_31 rfl ?_
    refine r_getf (pc := 32) (k := 0) dX12_shows_32 hX12 eX12 (by decide) fX12_7 (fun _ q => mo hm q) rfl ?_
    refine r_iconst (pc := 35) (v := 1) dX12_shows_35 (by decide) ?_
    refine r_ml (pc := 36) (i := 0) (j := 1) hm dX12_shows_36 (by decide) rfl (by decide) ?_
    rw [r1]
    refine r_idiv (pc := 37) dX12_shows_37 hne ?_
    rw [div_nI (d := kSt K) (by omega) (by omega) (by omega)]
    refine r_iload_n (pc := 38) dX12_shows_38 rfl ?_
    refine r_aload_n (pc := 39) dX12_shows_39 rfl ?_
    refine r_getf (pc := 40) (k := 0) dX12_shows_40 hX12 eX12 (by decide) fX12_7 (fun _ q => mo hm q) rfl ?_
    refine r_iconst (pc := 43) (v := 1) dX12_shows_43 (by decide) ?_
    refine r_ml (pc := 44) (i := 0) (j := 1) hm dX12_shows_44 (by decide) rfl (by decide) ?_
    rw [r1]
    refine r_irem' (pc := 45) dX12_shows_45 hne ?_
    rw [rem_nI (d := kSt K) (by omega) (by omega) (by omega)]
    refine r_iload_n (pc := 46) dX12_shows_46 rfl ?_
    refine r_Vi (pc := 47) (μ' := mX12_lawOf) dX12_shows_47 nX12_74 iX12_lawOf vX12_lawOf kX12_lawOf rfl rfl (rr (by omega) rfl) rfl ⟨Nat.zero_le _, Nat.zero_le _⟩ (fun _ q_ => cvq q_ (ct)) ?_
    refine aw_ex fun s2 => aw_pr fun q2 => ?_
    refine r_ms (pc := 50) (i := 6) (j := (100 * c + d)) hm dX12_shows_50 (by decide) (nI_T (by omega)) (show (100 * c + d) < 3600 by omega) ?_
    refine r_aload_n (pc := 51) dX12_shows_51 rfl ?_
    refine r_getf (pc := 52) (k := 8) dX12_shows_52 hX12 eX12 (by decide) fX12_28 (fun _ q => mo hm q) rfl ?_
    refine r_iload_n (pc := 55) dX12_shows_55 rfl ?_
    refine r_ml (pc := 56) (i := 6) (j := (100 * c + d)) hm dX12_shows_56 (by decide) (nI_T (by omega)) (show (100 * c + d) < 3600 by omega) ?_
    rw [upA_s, upd_s]
    refine r_ireturn (pc := 57) (ty := .int) dX12_shows_57 rfl rfl ⟨Nat.zero_le _, Nat.zero_le _⟩ (fun gE hg => ?_)
    exact ⟨rfl, fin s2 gE q2 hg⟩
  rcases id tb with t | ⟨t, t2, t3⟩
  · skip
    refine r_bipush (pc := 0) (v := 100) dX12_shows_0 (by decide) ?_
    refine r_iload_n (pc := 2) dX12_shows_2 rfl ?_
    refine r_imul (pc := 3) dX12_shows_3 ?_
    refine r_iload_n (pc := 4) dX12_shows_4 rfl ?_
    refine r_iadd (pc := 5) dX12_shows_5 ?_
    rw [hk]
    refine r_istore_n (pc := 6) dX12_shows_6 rfl (Nat.le_of_ble_eq_true rfl) rfl ?_
    dsimp only [lset]
    refine r_aload_n (pc := 7) dX12_shows_7 rfl ?_
    refine r_getf (pc := 8) (k := 9) dX12_shows_8 hX12 eX12 (by decide) fX12_70 (fun _ q => mo hm q) rfl ?_
    rw [t]
    refine r_if_eq (pc := 11) 23 dX12_shows_11 (by decide) (fun c11 => ?_) (fun c11 => ?_)
    · skip
      exact tail
    · skip
      exact absurd rfl c11
  · skip
    refine r_bipush (pc := 0) (v := 100) dX12_shows_0 (by decide) ?_
    refine r_iload_n (pc := 2) dX12_shows_2 rfl ?_
    refine r_imul (pc := 3) dX12_shows_3 ?_
    refine r_iload_n (pc := 4) dX12_shows_4 rfl ?_
    refine r_iadd (pc := 5) dX12_shows_5 ?_
    rw [hk]
    refine r_istore_n (pc := 6) dX12_shows_6 rfl (Nat.le_of_ble_eq_true rfl) rfl ?_
    dsimp only [lset]
    refine r_aload_n (pc := 7) dX12_shows_7 rfl ?_
    refine r_getf (pc := 8) (k := 9) dX12_shows_8 hX12 eX12 (by decide) fX12_70 (fun _ q => mo hm q) rfl ?_
    rw [t]
    refine r_if_eq (pc := 11) 23 dX12_shows_11 (by decide) (fun c11 => ?_) (fun c11 => ?_)
    · skip
      exact absurd c11 (by decide)
    · skip
      refine r_aload_n (pc := 14) dX12_shows_14 rfl ?_
      refine r_getf (pc := 15) (k := 8) dX12_shows_15 hX12 eX12 (by decide) fX12_28 (fun _ q => mo hm q) rfl ?_
      refine r_iload_n (pc := 18) dX12_shows_18 rfl ?_
      refine r_ml (pc := 19) (i := 6) (j := (100 * c + d)) hm dX12_shows_19 (by decide) (nI_T (by omega)) (show (100 * c + d) < 3600 by omega) ?_
      refine r_if_ge (pc := 20) 51 dX12_shows_20 (by decide) (fun c20 => ?_) (fun c20 => ?_)
      · skip
        have hv : A 6 (100 * c + d) = nI (ltL lL (c / kSt K) (c % kSt K) d) := by
          rcases t3 c d hc hd with x | x
          · have h1 := fa_lt.mp x
            have h2 := fa_le.mp c20
            omega
          · exact x
        refine r_aload_n (pc := 51) dX12_shows_51 rfl ?_
        refine r_getf (pc := 52) (k := 8) dX12_shows_52 hX12 eX12 (by decide) fX12_28 (fun _ q => mo hm q) rfl ?_
        refine r_iload_n (pc := 55) dX12_shows_55 rfl ?_
        refine r_ml (pc := 56) (i := 6) (j := (100 * c + d)) hm dX12_shows_56 (by decide) (nI_T (by omega)) (show (100 * c + d) < 3600 by omega) ?_
        rw [hv]
        refine r_ireturn (pc := 57) (ty := .int) dX12_shows_57 rfl rfl ⟨Nat.zero_le _, Nat.zero_le _⟩ (fun gE hg => ?_)
        exact ⟨rfl, s, A 6, ⟨by rw [upA_id]; exact q, sFr.rf s⟩, by rw [upA_id]; exact hg⟩
      · skip
        exact tail
        skip
set_option maxHeartbeats 8000000 in
theorem ct_M_isSeam (hm : m + 14 < h.1) (ok : KOk K) (wb : WB K) (q : SE K lD lL s A) {c : Nat} (hc : c < kRo K * kSt K) (hs : c % kSt K + 1 < kSt K) : CV 43 0 0 mX12_isSeam m [.int (nI c)] (mh m h s A) (fun v g => v = some (.int (b2i (seamB K (drL lD (kHe K)) (c / kSt K) (c % kSt K) (c % kSt K) (c % kSt K + 1) 0))) ∧ ∃ s2, sFr s s2 ∧ MP m h s2 A g) := by
  refine ⟨mV hm, ?_⟩
  refine ct_of (by decide) (fun _ _ => Nat.le_of_ble_eq_true rfl) ?_
  dsimp only [pad, ent]
  refine aw_P (P' := MP m h s A) (fun _ q => q) ?_
  have hst : 1 ≤ kSt K ∧ kSt K ≤ 6 := ok.2.1
  have hro : 1 ≤ kRo K ∧ kRo K ≤ 6 := ok.1
  have h36 : kRo K * kSt K ≤ 6 * 6 := Nat.mul_le_mul (by omega) (by omega)
  obtain ⟨c1, c2, c3⟩ := cel_rs hc (by omega)
  obtain ⟨r, hr⟩ : ∃ r, r = c / kSt K := ⟨_, rfl⟩
  obtain ⟨t, ht⟩ : ∃ t, t = c % kSt K := ⟨_, rfl⟩
  have hc2 : c + 1 = r * kSt K + (t + 1) := by rw [hr, ht]; omega
  have hcc : c + 1 < kRo K * kSt K := by rw [hc2]; exact cell_lt (by rw [hr]; exact c1) (by rw [ht]; exact hs)
  have e1 : (c + 1) / kSt K = r := by rw [hc2]; exact cell_div (by omega)
  have e2 : (c + 1) % kSt K = t + 1 := by rw [hc2]; exact cell_mod (by omega)
  have a1 := q.1.cell hc (by omega)
  have a2 := q.1.cell hcc (by omega)
  rw [e1, e2] at a2
  rw [← hr, ← ht] at a1
  have d1 := ct_M_driesAt (h := h) hm ok q hc
  have d2 := ct_M_driesAt (h := h) hm ok q hcc
  rw [e1, e2] at d2
  rw [← hr, ← ht] at d1 ⊢
  rw [← hr] at c1
  rw [← ht] at c2 hs
  obtain ⟨a, ha⟩ : ∃ a, a = kW K r t := ⟨_, rfl⟩
  obtain ⟨b, hb⟩ : ∃ b, b = kW K r (t + 1) := ⟨_, rfl⟩
  have wa := wb r t
  have wb2 := wb r (t + 1)
  rw [← ha] at wa a1
  rw [← hb] at wb2 a2
  have va : kV K r t ≤ 99 := ok.2.2.2.2.2.2 r t
  have vb : kV K r (t + 1) ≤ 99 := ok.2.2.2.2.2.2 r (t + 1)
  have hsb : seamB K (drL lD (kHe K)) r t t (t + 1) 0 = (if a < 0 ∨ b < 0 then false else if kV K r t ≠ kV K r (t + 1) then true else if 0 ≤ b + (0 : Nat) - a then decide ((drL lD (kHe K) r t : Int) < b + (0 : Nat) - a) else decide ((drL lD (kHe K) r (t + 1) : Int) < -(b + (0 : Nat) - a))) := by
    unfold seamB wE vE
    rw [if_pos c2, if_pos hs, if_pos c2, if_pos hs, ← ha, ← hb]
  have hTa : (iI a).toInt = a := iI_T (by omega) (by omega)
  have hTb : (iI b).toInt = b := iI_T (by omega) (by omega)
  have g1 : drL lD (kHe K) r t ≤ 99 := (lawN_ok 0 lD r t (kHe K)).2
  have g2 : drL lD (kHe K) r (t + 1) ≤ 99 := (lawN_ok 0 lD r (t + 1) (kHe K)).2
  have hTg1 := nI_T (n := drL lD (kHe K) r t) (by omega)
  have hTg2 := nI_T (n := drL lD (kHe K) r (t + 1)) (by omega)
  have hba : (iI b - iI a).toInt = b - a := by
    rw [Int32.toInt_sub, hTa, hTb]
    exact Int.bmod_eq_of_le (by omega) (by omega)
  have hab : (iI a - iI b).toInt = a - b := by
    rw [Int32.toInt_sub, hTa, hTb]
    exact Int.bmod_eq_of_le (by omega) (by omega)
  rw [hsb]
  refine r_aload_n (pc := 0) dX12_isSeam_0 rfl ?_
  refine r_iload_n (pc := 1) dX12_isSeam_1 rfl ?_
  refine r_Vi (pc := 2) (μ' := mX12_whenOf) dX12_isSeam_2 nX12_81 iX12_whenOf vX12_whenOf kX12_whenOf rfl rfl (rr (by omega) rfl) rfl ⟨Nat.zero_le _, Nat.zero_le _⟩ (fun _ q_ => cvq q_ (ct_M_whenOf hm (show c < 36 by omega))) ?_
  rw [a1.1]
  refine r_istore_n (pc := 5) dX12_isSeam_5 rfl (Nat.le_of_ble_eq_true rfl) rfl ?_
  dsimp only [lset]
  refine r_aload_n (pc := 6) dX12_isSeam_6 rfl ?_
  refine r_iload_n (pc := 7) dX12_isSeam_7 rfl ?_
  refine r_iconst (pc := 8) (v := 1) dX12_isSeam_8 (by decide) ?_
  refine r_iadd (pc := 9) dX12_isSeam_9 ?_
  rw [nI_1]
  refine r_Vi (pc := 10) (μ' := mX12_whenOf) dX12_isSeam_10 nX12_81 iX12_whenOf vX12_whenOf kX12_whenOf rfl rfl (rr (by omega) rfl) rfl ⟨Nat.zero_le _, Nat.zero_le _⟩ (fun _ q_ => cvq q_ (ct_M_whenOf hm (show c + 1 < 36 by omega))) ?_
  rw [a2.1]
  refine r_istore_n (pc := 13) dX12_isSeam_13 rfl (Nat.le_of_ble_eq_true rfl) rfl ?_
  dsimp only [lset]
  refine r_iload_n (pc := 14) dX12_isSeam_14 rfl ?_
  refine r_if_lt (pc := 15) 22 dX12_isSeam_15 (by decide) (fun c15 => ?_) (fun c15 => ?_)
  · skip
    have k1 : a < 0 := by have := fa_lt.mp c15; rw [hTa, t0] at this; exact this
    refine r_iconst (pc := 22) (v := 0) dX12_isSeam_22 (by decide) ?_
    refine r_ireturn (pc := 23) (ty := .boolean) dX12_isSeam_23 rfl rfl ⟨Nat.zero_le _, Nat.zero_le _⟩ (fun gE hg => ?_)
    rw [if_pos (by omega)]
    exact ⟨rfl, s, sFr.rf s, hg⟩
  · skip
    have k1 : ¬ a < 0 := fun x => c15 (fa_lt.mpr (by rw [hTa, t0]; exact x))
    refine r_iload_n (pc := 18) dX12_isSeam_18 rfl ?_
    refine r_if_ge (pc := 19) 24 dX12_isSeam_19 (by decide) (fun c19 => ?_) (fun c19 => ?_)
    · skip
      have k2 : ¬ b < 0 := by have := fa_le.mp c19; rw [hTb, t0] at this; omega
      refine r_aload_n (pc := 24) dX12_isSeam_24 rfl ?_
      refine r_iload_n (pc := 25) dX12_isSeam_25 rfl ?_
      refine r_Vi (pc := 26) (μ' := mX12_whiteOf) dX12_isSeam_26 nX12_84 iX12_whiteOf vX12_whiteOf kX12_whiteOf rfl rfl (rr (by omega) rfl) rfl ⟨Nat.zero_le _, Nat.zero_le _⟩ (fun _ q_ => cvq q_ (ct_M_whiteOf hm (show c < 36 by omega))) ?_
      rw [a1.2]
      refine r_aload_n (pc := 29) dX12_isSeam_29 rfl ?_
      refine r_iload_n (pc := 30) dX12_isSeam_30 rfl ?_
      refine r_iconst (pc := 31) (v := 1) dX12_isSeam_31 (by decide) ?_
      refine r_iadd (pc := 32) dX12_isSeam_32 ?_
      rw [nI_1]
      refine r_Vi (pc := 33) (μ' := mX12_whiteOf) dX12_isSeam_33 nX12_84 iX12_whiteOf vX12_whiteOf kX12_whiteOf rfl rfl (rr (by omega) rfl) rfl ⟨Nat.zero_le _, Nat.zero_le _⟩ (fun _ q_ => cvq q_ (ct_M_whiteOf hm (show c + 1 < 36 by omega))) ?_
      rw [a2.2]
      refine r_icmp_ne (pc := 36) 76 dX12_isSeam_36 (by decide) (fun c36 => ?_) (fun c36 => ?_)
      · skip
        have k3 : kV K r t ≠ kV K r (t + 1) := fun x => c36 (by rw [x])
        rw [if_neg (by omega), if_pos k3]
        refine r_iconst (pc := 76) (v := 1) dX12_isSeam_76 (by decide) ?_
        refine r_goto (pc := 77) 81 dX12_isSeam_77 (by decide) ?_
        refine r_ireturn (pc := 81) (ty := .boolean) dX12_isSeam_81 rfl rfl ⟨Nat.zero_le _, Nat.zero_le _⟩ (fun gE hg => ?_)
        first
        | exact ⟨rfl, s2, q2, hg⟩
        | exact ⟨rfl, s, sFr.rf s, hg⟩
      · skip
        have k3 : ¬ kV K r t ≠ kV K r (t + 1) := fun x => x ((nI_eq (by omega) (by omega)).mp c36)
        rw [if_neg (by omega), if_neg k3]
        refine r_iload_n (pc := 39) dX12_isSeam_39 rfl ?_
        refine r_iload_n (pc := 40) dX12_isSeam_40 rfl ?_
        refine r_icmp_eq (pc := 41) 80 dX12_isSeam_41 (by decide) (fun c41 => ?_) (fun c41 => ?_)
        · skip
          have k4 : a = b := by have := fa_eq.mp c41; rw [hTa, hTb] at this; exact this
          rw [if_pos (by omega), decide_eq_false (by omega)]
          refine r_iconst (pc := 80) (v := 0) dX12_isSeam_80 (by decide) ?_
          refine r_ireturn (pc := 81) (ty := .boolean) dX12_isSeam_81 rfl rfl ⟨Nat.zero_le _, Nat.zero_le _⟩ (fun gE hg => ?_)
          first
          | exact ⟨rfl, s2, q2, hg⟩
          | exact ⟨rfl, s, sFr.rf s, hg⟩
        · skip
          have k4 : ¬ a = b := fun x => c41 (by rw [x])
          refine r_iload_n (pc := 44) dX12_isSeam_44 rfl ?_
          refine r_iload_n (pc := 45) dX12_isSeam_45 rfl ?_
          refine r_icmp_ge (pc := 46) 63 dX12_isSeam_46 (by decide) (fun c46 => ?_) (fun c46 => ?_)
          · skip
            have k5 : ¬ a < b := by have := fa_le.mp c46; rw [hTa, hTb] at this; omega
            rw [if_neg (by omega)]
            refine r_iload_n (pc := 63) dX12_isSeam_63 rfl ?_
            refine r_iload_n (pc := 64) dX12_isSeam_64 rfl ?_
            refine r_isub (pc := 65) dX12_isSeam_65 ?_
            refine r_aload_n (pc := 66) dX12_isSeam_66 rfl ?_
            refine r_iload_n (pc := 67) dX12_isSeam_67 rfl ?_
            refine r_iconst (pc := 68) (v := 1) dX12_isSeam_68 (by decide) ?_
            refine r_iadd (pc := 69) dX12_isSeam_69 ?_
            rw [nI_1]
            refine r_Vi (pc := 70) (μ' := mX12_driesAt) dX12_isSeam_70 nX12_78 iX12_driesAt vX12_driesAt kX12_driesAt rfl rfl (rr (by omega) rfl) rfl ⟨Nat.zero_le _, Nat.zero_le _⟩ (fun _ q_ => cvq q_ (d2)) ?_
            refine aw_ex fun s2 => aw_pr fun q2 => ?_
            refine r_icmp_le (pc := 73) 80 dX12_isSeam_73 (by decide) (fun c73 => ?_) (fun c73 => ?_)
            · skip
              have k6 := fa_le.mp c73
              rw [hab, hTg2] at k6
              rw [decide_eq_false (by omega)]
              refine r_iconst (pc := 80) (v := 0) dX12_isSeam_80 (by decide) ?_
              refine r_ireturn (pc := 81) (ty := .boolean) dX12_isSeam_81 rfl rfl ⟨Nat.zero_le _, Nat.zero_le _⟩ (fun gE hg => ?_)
              first
              | exact ⟨rfl, s2, q2, hg⟩
              | exact ⟨rfl, s, sFr.rf s, hg⟩
            · skip
              have k6 : ¬ (iI a - iI b).toInt ≤ (nI (drL lD (kHe K) r (t + 1))).toInt := fun x => c73 (fa_le.mpr x)
              rw [hab, hTg2] at k6
              rw [decide_eq_true (by omega)]
              refine r_iconst (pc := 76) (v := 1) dX12_isSeam_76 (by decide) ?_
              refine r_goto (pc := 77) 81 dX12_isSeam_77 (by decide) ?_
              refine r_ireturn (pc := 81) (ty := .boolean) dX12_isSeam_81 rfl rfl ⟨Nat.zero_le _, Nat.zero_le _⟩ (fun gE hg => ?_)
              first
              | exact ⟨rfl, s2, q2, hg⟩
              | exact ⟨rfl, s, sFr.rf s, hg⟩
          · skip
            have k5 : a < b := by have : ¬ (iI b).toInt ≤ (iI a).toInt := fun x => c46 (fa_le.mpr x); rw [hTa, hTb] at this; omega
            rw [if_pos (by omega)]
            refine r_iload_n (pc := 49) dX12_isSeam_49 rfl ?_
            refine r_iload_n (pc := 50) dX12_isSeam_50 rfl ?_
            refine r_isub (pc := 51) dX12_isSeam_51 ?_
            refine r_aload_n (pc := 52) dX12_isSeam_52 rfl ?_
            refine r_iload_n (pc := 53) dX12_isSeam_53 rfl ?_
            refine r_Vi (pc := 54) (μ' := mX12_driesAt) dX12_isSeam_54 nX12_78 iX12_driesAt vX12_driesAt kX12_driesAt rfl rfl (rr (by omega) rfl) rfl ⟨Nat.zero_le _, Nat.zero_le _⟩ (fun _ q_ => cvq q_ (d1)) ?_
            refine aw_ex fun s2 => aw_pr fun q2 => ?_
            refine r_icmp_le (pc := 57) 80 dX12_isSeam_57 (by decide) (fun c57 => ?_) (fun c57 => ?_)
            · skip
              have k6 := fa_le.mp c57
              rw [hba, hTg1] at k6
              rw [decide_eq_false (by omega)]
              refine r_iconst (pc := 80) (v := 0) dX12_isSeam_80 (by decide) ?_
              refine r_ireturn (pc := 81) (ty := .boolean) dX12_isSeam_81 rfl rfl ⟨Nat.zero_le _, Nat.zero_le _⟩ (fun gE hg => ?_)
              first
              | exact ⟨rfl, s2, q2, hg⟩
              | exact ⟨rfl, s, sFr.rf s, hg⟩
            · skip
              have k6 : ¬ (iI b - iI a).toInt ≤ (nI (drL lD (kHe K) r t)).toInt := fun x => c57 (fa_le.mpr x)
              rw [hba, hTg1] at k6
              rw [decide_eq_true (by omega)]
              refine r_goto (pc := 60) 76 dX12_isSeam_60 (by decide) ?_
              refine r_iconst (pc := 76) (v := 1) dX12_isSeam_76 (by decide) ?_
              refine r_goto (pc := 77) 81 dX12_isSeam_77 (by decide) ?_
              refine r_ireturn (pc := 81) (ty := .boolean) dX12_isSeam_81 rfl rfl ⟨Nat.zero_le _, Nat.zero_le _⟩ (fun gE hg => ?_)
              first
              | exact ⟨rfl, s2, q2, hg⟩
              | exact ⟨rfl, s, sFr.rf s, hg⟩
    · skip
      have k2 : b < 0 := by have : ¬ (0 : Int32).toInt ≤ (iI b).toInt := fun x => c19 (fa_le.mpr x); rw [hTb, t0] at this; omega
      refine r_iconst (pc := 22) (v := 0) dX12_isSeam_22 (by decide) ?_
      refine r_ireturn (pc := 23) (ty := .boolean) dX12_isSeam_23 rfl rfl ⟨Nat.zero_le _, Nat.zero_le _⟩ (fun gE hg => ?_)
      rw [if_pos (by omega)]
      exact ⟨rfl, s, sFr.rf s, hg⟩
end Sn
