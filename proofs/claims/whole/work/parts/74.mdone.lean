/-! THE REFERENCE, whole: an order on a sheet, done -/
def pcN (a : Nat) : Nat := a % 2 + a / 2 % 2 + a / 4 % 2 + a / 8 % 2 + a / 16 % 2 + a / 32 % 2
theorem pc_or : ∀ a, a < 64 → ∀ v, v < 6 → pcN (a ||| 2 ^ v) ≤ pcN a + 1 ∧ (a.testBit v = true → a ||| 2 ^ v = a) ∧ (a ||| 2 ^ v).testBit v = true ∧ ∀ s, s < 6 → s ≠ v → (a ||| 2 ^ v).testBit s = a.testBit s := by decide +kernel
theorem pc_lt : ∀ n, n < 7 → ∀ a, a < 2 ^ n → ∀ v, v < n → a ||| 2 ^ v < 2 ^ n := by decide +kernel
theorem pc_full : ∀ n, n < 7 → pcN (2 ^ n - 1) = n ∧ ∀ a, a < 2 ^ n → (∀ v, v < n → a.testBit v = true) → a = 2 ^ n - 1 := by decide +kernel
theorem or_nI : ∀ a, a < 64 → ∀ v, v < 6 → nI a ||| ((1 : Int32) <<< (nI v &&& 31)) = nI (a ||| 2 ^ v) := by decide +kernel
theorem shl_full : ∀ n, n < 7 → ((1 : Int32) <<< (nI n &&& 31)) - 1 = nI (2 ^ n - 1) := by decide +kernel
theorem p2_64 : ∀ n, n < 7 → 2 ^ n ≤ 64 := by decide
def mtN (n : Nat) (l : List Int32) : Nat → Nat
  | 0 => 0
  | k + 1 => if 0 ≤ (l.getD k 0).toInt ∧ (l.getD k 0).toInt < n then mtN n l k ||| 2 ^ (l.getD k 0).toInt.toNat else mtN n l k
def TKI (n : Nat) (l : List Int32) (k : Nat) (pl : List Int32) : Prop := pl.length = n ∧ (∀ s, s < n → (pl.getD s 0 = -1 ∧ (mtN n l k).testBit s = false) ∨ ∃ j, j < k ∧ pl.getD s 0 = nI j ∧ l.getD j 0 = nI s ∧ (mtN n l k).testBit s = true) ∧ ∀ j, j < k → ∃ v, v < n ∧ l.getD j 0 = nI v ∧ pl.getD v 0 = nI j
theorem tk_mt {n : Nat} {l : List Int32} (hn : n < 7) : ∀ k, k ≤ n → mtN n l k < 2 ^ n ∧ pcN (mtN n l k) ≤ k ∧ ((∃ pl, tkO l n k = some pl ∧ TKI n l k pl) ∨ (tkO l n k = none ∧ pcN (mtN n l k) < k))
  | 0 => fun _ => by
    refine ⟨Nat.pow_pos (by decide), by show pcN 0 ≤ 0; decide, Or.inl ⟨_, rfl, List.length_replicate, fun s hs => Or.inl ⟨?_, Nat.zero_testBit s⟩, fun j hj => absurd hj (Nat.not_lt_zero j)⟩⟩
    rw [getD_in (by rw [List.length_replicate]; exact hs), List.getElem_replicate]
  | k + 1 => fun hk => by
    obtain ⟨i1, i2, i3⟩ := tk_mt (l := l) hn k (by omega)
    obtain ⟨x, hx⟩ : ∃ x, x = l.getD k 0 := ⟨_, rfl⟩
    have hT : tkO l n (k + 1) = match tkO l n k with
      | none => none
      | some pl => if hasL pl x = true ∧ atL pl x = -1 then some (wrL pl x (nI k)) else none := by
      rw [tkO, atL_nI (by omega), ← hx]
      rfl
    have hM : mtN n l (k + 1) = if 0 ≤ x.toInt ∧ x.toInt < n then mtN n l k ||| 2 ^ x.toInt.toNat else mtN n l k := by rw [mtN, ← hx]
    have h64 := p2_64 n hn
    by_cases c : 0 ≤ x.toInt ∧ x.toInt < n
    · rw [if_pos c] at hM
      obtain ⟨v, hv, hvn⟩ : ∃ v, x = nI v ∧ v < n := ⟨x.toInt.toNat, (nI_tn (by omega) (by omega)).symm, by omega⟩
      rw [show x.toInt.toNat = v by rw [hv, nI_T (by omega)]; rfl] at hM
      obtain ⟨b1, b2, b3, b4⟩ := pc_or (mtN n l k) (by omega) v (by omega)
      have hl := pc_lt n hn _ i1 v hvn
      refine ⟨by rw [hM]; exact hl, by rw [hM]; omega, ?_⟩
      rcases i3 with ⟨pl, p1, p2, p3, p4⟩ | ⟨p1, p2⟩
      · rw [p1] at hT
        dsimp only at hT
        rcases p3 v hvn with ⟨q1, q2⟩ | ⟨j, q1, q2, q3, q4⟩
        · rw [if_pos ⟨by rw [hv]; exact decide_eq_true ⟨by rw [nI_T (by omega)]; omega, by rw [nI_T (by omega), p2]; omega⟩, by rw [hv, atL_nI (by omega)]; exact q1⟩, hv, wrL_nI (by omega)] at hT
          refine Or.inl ⟨_, hT, by rw [List.length_set]; exact p2, fun s hs => ?_, fun j hj => ?_⟩
          · rw [getD_set (by omega), hM]
            by_cases e : s = v
            · rw [if_pos e, e]
              exact Or.inr ⟨k, by omega, rfl, by rw [← hx]; exact hv, b3⟩
            · rw [if_neg e, b4 s (by omega) e]
              rcases p3 s hs with z | ⟨j, z1, z2⟩
              · exact Or.inl z
              · exact Or.inr ⟨j, by omega, z2⟩
          · by_cases e : j = k
            · exact ⟨v, hvn, by rw [e, ← hx]; exact hv, by rw [getD_set (by omega), if_pos rfl, e]⟩
            · obtain ⟨u, u1, u2, u3⟩ := p4 j (by omega)
              refine ⟨u, u1, u2, ?_⟩
              rw [getD_set (by omega), if_neg (fun e => by rw [e, q1] at u3; exact m1_ne (by omega) u3.symm)]
              exact u3
        · rw [if_neg (fun h => by rw [hv, atL_nI (by omega), q2] at h; exact m1_ne (by omega) h.2)] at hT
          exact Or.inr ⟨hT, by rw [hM, b2 q4]; omega⟩
      · rw [p1] at hT
        exact Or.inr ⟨hT, by rw [hM]; omega⟩
    · rw [if_neg c] at hM
      refine ⟨by rw [hM]; exact i1, by rw [hM]; omega, Or.inr ⟨?_, ?_⟩⟩
      · rcases i3 with ⟨pl, p1, p2, p3, p4⟩ | ⟨p1, p2⟩
        · rw [p1] at hT
          dsimp only at hT
          rw [if_neg (fun h => c (by have := of_decide_eq_true h.1; rw [p2] at this; exact this))] at hT
          exact hT
        · rw [p1] at hT
          exact hT
      · rw [hM]; omega
theorem tk_iff {n : Nat} {l : List Int32} (hn : n < 7) : mtN n l n = 2 ^ n - 1 ↔ (tkO l n n).isSome = true := by
  obtain ⟨i1, i2, i3⟩ := tk_mt (l := l) hn n (Nat.le_refl n)
  obtain ⟨f1, f2⟩ := pc_full n hn
  constructor
  · intro e
    rcases i3 with ⟨pl, p1, p2⟩ | ⟨p1, p2⟩
    · rw [p1]; rfl
    · rw [e, f1] at p2; omega
  · intro e
    rcases i3 with ⟨pl, p1, p2, p3, p4⟩ | ⟨p1, p2⟩
    · refine f2 _ i1 fun v hv => ?_
      rcases p3 v hv with ⟨z1, z2⟩ | ⟨j, z1, z2, z3, z4⟩
      · have := (tkO_full (by omega) p1 v hv).1
        rw [z1] at this
        exact absurd this (by decide)
      · exact z4
    · rw [p1] at e; exact absurd e (by simp)
/-- an order taken: who stands where, and where who stands -/
theorem tk_pl {n : Nat} {l pl : List Int32} (hn : n < 7) (h : tkO l n n = some pl) : (∀ j, j < n → l.getD j 0 = nI (l.getD j 0).toInt.toNat ∧ (l.getD j 0).toInt.toNat < n) ∧ (∀ i j, i < j → j < n → (l.getD i 0).toInt.toNat ≠ (l.getD j 0).toInt.toNat) ∧ ∀ s, s < n → plN pl s < n ∧ (l.getD (plN pl s) 0).toInt.toNat = s := by
  obtain ⟨i1, i2, i3⟩ := tk_mt (l := l) hn n (Nat.le_refl n)
  have mt := (tk_iff hn).mpr (by rw [h]; rfl)
  rcases i3 with ⟨pl2, p1, p2, p3, p4⟩ | ⟨p1, p2⟩
  · obtain rfl := Option.some.inj (p1.symm.trans h)
    have T : ∀ v, v < n → (nI v).toInt.toNat = v := fun v hv => by rw [nI_T (by omega)]; rfl
    refine ⟨fun j hj => ?_, fun i j hi hj e => ?_, fun s hs => ?_⟩
    · obtain ⟨v, v1, v2, v3⟩ := p4 j hj
      rw [v2, T v v1]
      exact ⟨rfl, v1⟩
    · obtain ⟨v, v1, v2, v3⟩ := p4 j hj
      obtain ⟨u, u1, u2, u3⟩ := p4 i (by omega)
      rw [v2, u2, T v v1, T u u1] at e
      rw [e, v3] at u3
      exact absurd ((nI_eq (by omega) (by omega)).mp u3) (by omega)
    · rcases p3 s hs with ⟨z1, z2⟩ | ⟨j, z1, z2, z3, z4⟩
      · have := (tkO_full (by omega) h s hs).1
        rw [z1] at this
        exact absurd this (by decide)
      · have e : plN pl2 s = j := by unfold plN; rw [z2]; exact T j z1
        rw [e, z3]
        exact ⟨z1, T s hs⟩
  · rw [p1] at h; exact absurd h (by simp)
theorem soN_sum {K : CK} {lD lL : List Int32} {p : Nat → Nat} : ∀ k, soN K lD lL p k = sumN (fun s => SB K lD lL s (p s) (p (s + 1)) 0) k
  | 0 => rfl
  | k + 1 => by rw [soN, soN_sum k, sumN]
theorem orV_so {K : CK} {hs : List (Nat × Nat)} {lD lL : List Int32} {i : Nat} {o p : Nat → Nat} (ho : ∀ i j, i < j → j < kSt K → o i ≠ o j) (hp : ∀ s, s < kSt K → p s < kSt K ∧ o (p s) = s) : orV K hs lD lL i o = soN (thR K hs i) lD lL p (kSt (thR K hs i) - 1) := by
  have h := seen_order (kd := hKd hs i) (m := hMn hs i) (K := noCan K) (o := o) (p := p) (dr := drL lD (kHe K)) (lt := ltL lL) ho hp
  rw [show kSt (noCan K) = kSt K from rfl] at h
  obtain ⟨r1, r2, r3⟩ := rollsN_form (kd := hKd hs i) (m := hMn hs i) (K := noCan K) (kSt K)
  rw [soN_sum, show kSt (thR K hs i) = kSt K from r2]
  unfold orV
  rw [h]
  refine sumN_ext _ fun s hs' => ?_
  unfold SB thR
  rw [show kHe (rollsN (hKd hs i) (hMn hs i) (noCan K) (kSt K)) = kHe K from r3, show kRo (rollsN (hKd hs i) (hMn hs i) (noCan K) (kSt K)) = kRo K from r1]
  rfl
section Mdone2
variable {m : Nat} {h : AH} {K K2 : CK} {hs hs2 : List (Nat × Nat)} {tD tL tD2 tL2 : Option (List Int32)} {tp wa tp2 wa2 hd er lD lL : List Int32} {z im z2 : Int32} {k : MK} {bt : Nat → Int32} {sh : Nat → List Int32} {s s2 : Nat → Int32} {A A2 : Nat → Nat → Int32} {Q : Option Value → AH → Prop} {f : Nat → Int32}
set_option maxHeartbeats 8000000 in
theorem cm_done (hm : m + 14 < h.1) {a b : Int32} (q : MG K hs tD tL tp wa z k bt sh hd er im s A) (ok : KOk K) (tb : TB K 9999 9999) (hok : HOk hs) (hD : TR 0 tD lD) (hL : TR 1 tL lL) (e1 : (hdB hs a && shB b) = false → ∀ s2 A2, MG K hs tD tL tp wa z k bt sh hd (errL er 1) im s2 A2 → Q (some (.int (-1000000000 - 1))) (mh m h s2 A2)) (e2 : hdB hs a = true → ∀ j, b = nI j → j < 4 → bt j = 0 → ∀ s2 A2, MG K hs tD tL tp wa z k bt sh hd (errL er 2) im s2 A2 → Q (some (.int (-1000000000 - 2))) (mh m h s2 A2))
    (e3 : hdB hs a = true → ∀ j, b = nI j → j < 4 → ¬ bt j = 0 → ¬ ((sh j).length = kSt K ∧ (tkO (sh j) (kSt K) (kSt K)).isSome = true) → ∀ s2 A2, MG K hs tD tL tp wa z k bt sh hd (errL er 3) im s2 A2 → Q (some (.int (-1000000000 - 3))) (mh m h s2 A2))
    (hP : ∀ i j pl, a = nI i → i < hs.length → b = nI j → j < 4 → ¬ bt j = 0 → (sh j).length = kSt K → tkO (sh j) (kSt K) (kSt K) = some pl → ∀ s2 A2, MG K hs tD tL tp wa z k bt sh hd er im s2 A2 → Q (some (.int (nI (soN (thR K hs i) lD lL (plN pl) (kSt (thR K hs i) - 1))))) (mh m h s2 A2)) : CV 50 0 0 mX12_done m [.int a, .int b] (mh m h s A) Q := by
  refine ⟨mV hm, ?_⟩
  refine ct_of (by decide) (fun _ _ => Nat.le_of_ble_eq_true rfl) ?_
  dsimp only [pad, ent]
  have hst : 1 ≤ kSt K ∧ kSt K ≤ 6 := ok.2.1
  have h64 := p2_64 (kSt K) (by omega)
  have L : ∀ i j, a = nI i → i < hs.length → b = nI j → j < 4 → hdB hs a = true → ¬ bt j = 0 → ∀ N, N = min (sh j).length 6 → ∀ k, k ≤ N → ∀ f : Nat → Int32, (∀ x, x < k → f x = (sh j).getD x 0) → mtN (kSt K) (sh j) k < 2 ^ kSt K → AW (fun _ => True) (rmd 50 0 0) mX12_done 0 0 43 [some (.ref m), some (.int (nI i)), some (.int (nI j)), some (.int (nI (mtN (kSt K) (sh j) k))), some (.int (nI k))] [] (MP m h s (upA A 11 f)) Q := by
    intro i j hi hi2 hj hj4 k1 hbt N hN
    obtain ⟨a1, a2, a3, a4⟩ := q.shs hj4
    have Tl := nI_T (n := (sh j).length) (by omega)
    have hN2 : N ≤ (sh j).length ∧ N ≤ 6 ∧ (N = (sh j).length ∨ N = 6) := by omega
    refine up_loop ?_ ?_
    · intro f hf hm2
      have TN := nI_T (n := N) (by omega)
      have q9 : MG K hs tD tL tp wa z k bt sh hd er im s (upA A 11 f) := q.back ok ⟨rfl, rfl, rfl, rfl⟩ (fun i hi => upA_n (by omega)) (fun _ _ => rfl)
      refine r_iload (pc := 43) dX12_done_43 rfl ?_
      refine r_aload_n (pc := 45) dX12_done_45 rfl ?_
      refine r_getf (pc := 46) (k := 20) dX12_done_46 hX12 eX12 (by decide) fX12_34 (fun _ q => mo hm q) rfl ?_
      refine r_iload_n (pc := 49) dX12_done_49 rfl ?_
      refine r_ml (pc := 50) (i := 8) (j := j) hm dX12_done_50 (by decide) (nI_T (by omega)) (show j < 4 by omega) ?_
      rw [show upA A 11 f 8 j = A 8 j from rfl, a2]
      refine r_icmp_ge (pc := 51) 116 dX12_done_51 (by decide) (fun c51 => ?_) (fun c51 => ?_)
      · skip
        refine r_aload_n (pc := 116) dX12_done_116 rfl ?_
        refine r_getf (pc := 117) (k := 20) dX12_done_117 hX12 eX12 (by decide) fX12_34 (fun _ q => mo hm q) rfl ?_
        refine r_iload_n (pc := 120) dX12_done_120 rfl ?_
        refine r_ml (pc := 121) (i := 8) (j := j) hm dX12_done_121 (by decide) (nI_T (by omega)) (show j < 4 by omega) ?_
        rw [show upA A 11 f 8 j = A 8 j from rfl, a2]
        refine r_aload_n (pc := 122) dX12_done_122 rfl ?_
        refine r_getf (pc := 123) (k := 0) dX12_done_123 hX12 eX12 (by decide) fX12_7 (fun _ q => mo hm q) rfl ?_
        refine r_iconst (pc := 126) (v := 1) dX12_done_126 (by decide) ?_
        refine r_ml (pc := 127) (i := 0) (j := 1) hm dX12_done_127 (by decide) rfl (by decide) ?_
        rw [show upA A 11 f 0 1 = nI (kSt K) from q.rk.2.1]
        refine r_icmp_ne (pc := 128) 145 dX12_done_128 (by decide) (fun c128 => ?_) (fun c128 => ?_)
        · skip
          have k4 : ¬ ((sh j).length = kSt K ∧ (tkO (sh j) (kSt K) (kSt K)).isSome = true) := fun x => c128 (by rw [x.1])
          have q := q9
          refine r_aload_n (pc := 145) dX12_done_145 rfl ?_
          refine r_ldc (pc := 146) (v := (-1000000003)) dX12_done_146 qX12_202 ?_
          refine r_Vi (pc := 148) (μ' := mX12_errs) dX12_done_148 nX12_62 iX12_errs vX12_errs kX12_errs rfl rfl (rr (by omega) rfl) rfl ⟨Nat.zero_le _, Nat.zero_le _⟩ (fun _ q_ => cvq q_ (ct_M_errs hm 3 (by decide) (by decide))) ?_
          rw [show (-1000000003 : Int32) = -1000000000 - 3 from rfl]
          refine r_ireturn (pc := 151) (ty := .int) dX12_done_151 rfl rfl ⟨Nat.zero_le _, Nat.zero_le _⟩ (fun gE hg => ?_)
          exact mR hg (e3 k1 j hj hj4 hbt k4 _ _ (q.err (by decide) rfl))
        · skip
          have k5 : (sh j).length = kSt K := (nI_eq (by omega) (by omega)).mp c128
          have k6 : N = kSt K := by omega
          rw [k6] at hm2 ⊢
          refine r_iload_n (pc := 131) dX12_done_131 rfl ?_
          refine r_iconst (pc := 132) (v := 1) dX12_done_132 (by decide) ?_
          refine r_aload_n (pc := 133) dX12_done_133 rfl ?_
          refine r_getf (pc := 134) (k := 0) dX12_done_134 hX12 eX12 (by decide) fX12_7 (fun _ q => mo hm q) rfl ?_
          refine r_iconst (pc := 137) (v := 1) dX12_done_137 (by decide) ?_
          refine r_ml (pc := 138) (i := 0) (j := 1) hm dX12_done_138 (by decide) rfl (by decide) ?_
          refine r_ishl (pc := 139) dX12_done_139 ?_
          refine r_iconst (pc := 140) (v := 1) dX12_done_140 (by decide) ?_
          refine r_isub (pc := 141) dX12_done_141 ?_
          rw [show upA A 11 f 0 1 = nI (kSt K) from q.rk.2.1, shl_full (kSt K) (by omega)]
          refine r_icmp_eq (pc := 142) 152 dX12_done_142 (by decide) (fun c142 => ?_) (fun c142 => ?_)
          · skip
            have k7 := (tk_iff (by omega)).mp ((nI_eq (by omega) (by omega)).mp c142)
            obtain ⟨pl, hpl⟩ := Option.isSome_iff_exists.mp k7
            obtain ⟨t1, t2, t3⟩ := tk_pl (by omega) hpl
            refine r_aload_n (pc := 152) dX12_done_152 rfl ?_
            refine r_iload_n (pc := 153) dX12_done_153 rfl ?_
            refine r_Vi (pc := 154) (μ' := mX12_seenBy) dX12_done_154 nX12_221 iX12_seenBy vX12_seenBy kX12_seenBy rfl rfl (rr (by omega) rfl) rfl ⟨Nat.zero_le _, Nat.zero_le _⟩ (fun _ q_ => cvq q_ (ct_M_seenBy hm ok tb hok q9.rr.2.1.1 (q9.se hD hL) hi2 (o := fun x => ((sh j).getD x 0).toInt.toNat) (fun x hx => ⟨by rw [upA_s, hf x (by omega)]; exact (t1 x hx).1, (t1 x hx).2⟩))) ?_
            refine aw_ex fun s2 => aw_ex fun A2 => aw_pr fun z => ?_
            refine r_ireturn (pc := 157) (ty := .int) dX12_done_157 rfl rfl ⟨Nat.zero_le _, Nat.zero_le _⟩ (fun gE hg => ?_)
            refine mR hg ?_
            rw [orV_so t2 t3]
            exact hP i j pl hi hi2 hj hj4 hbt k5 hpl _ _ (q9.back ok ⟨z.2.2.2 4 (by omega), z.2.2.2 5 (by omega), z.2.2.2 9 (by omega), z.2.2.2 26 (by omega)⟩ (fun i hi => z.2.2.1 i (by omega) (by omega) (by omega)) z.2.1)
          · skip
            have k4 : ¬ ((sh j).length = kSt K ∧ (tkO (sh j) (kSt K) (kSt K)).isSome = true) := fun x => c142 (by rw [(tk_iff (by omega)).mpr x.2])
            have q := q9
            refine r_aload_n (pc := 145) dX12_done_145 rfl ?_
            refine r_ldc (pc := 146) (v := (-1000000003)) dX12_done_146 qX12_202 ?_
            refine r_Vi (pc := 148) (μ' := mX12_errs) dX12_done_148 nX12_62 iX12_errs vX12_errs kX12_errs rfl rfl (rr (by omega) rfl) rfl ⟨Nat.zero_le _, Nat.zero_le _⟩ (fun _ q_ => cvq q_ (ct_M_errs hm 3 (by decide) (by decide))) ?_
            rw [show (-1000000003 : Int32) = -1000000000 - 3 from rfl]
            refine r_ireturn (pc := 151) (ty := .int) dX12_done_151 rfl rfl ⟨Nat.zero_le _, Nat.zero_le _⟩ (fun gE hg => ?_)
            exact mR hg (e3 k1 j hj hj4 hbt k4 _ _ (q.err (by decide) rfl))
      · skip
        refine r_iload (pc := 54) dX12_done_54 rfl ?_
        refine r_bipush (pc := 56) (v := 6) dX12_done_56 (by decide) ?_
        refine r_icmp_ge (pc := 58) 116 dX12_done_58 (by decide) (fun c58 => ?_) (fun c58 => ?_)
        · skip
          refine r_aload_n (pc := 116) dX12_done_116 rfl ?_
          refine r_getf (pc := 117) (k := 20) dX12_done_117 hX12 eX12 (by decide) fX12_34 (fun _ q => mo hm q) rfl ?_
          refine r_iload_n (pc := 120) dX12_done_120 rfl ?_
          refine r_ml (pc := 121) (i := 8) (j := j) hm dX12_done_121 (by decide) (nI_T (by omega)) (show j < 4 by omega) ?_
          rw [show upA A 11 f 8 j = A 8 j from rfl, a2]
          refine r_aload_n (pc := 122) dX12_done_122 rfl ?_
          refine r_getf (pc := 123) (k := 0) dX12_done_123 hX12 eX12 (by decide) fX12_7 (fun _ q => mo hm q) rfl ?_
          refine r_iconst (pc := 126) (v := 1) dX12_done_126 (by decide) ?_
          refine r_ml (pc := 127) (i := 0) (j := 1) hm dX12_done_127 (by decide) rfl (by decide) ?_
          rw [show upA A 11 f 0 1 = nI (kSt K) from q.rk.2.1]
          refine r_icmp_ne (pc := 128) 145 dX12_done_128 (by decide) (fun c128 => ?_) (fun c128 => ?_)
          · skip
            have k4 : ¬ ((sh j).length = kSt K ∧ (tkO (sh j) (kSt K) (kSt K)).isSome = true) := fun x => c128 (by rw [x.1])
            have q := q9
            refine r_aload_n (pc := 145) dX12_done_145 rfl ?_
            refine r_ldc (pc := 146) (v := (-1000000003)) dX12_done_146 qX12_202 ?_
            refine r_Vi (pc := 148) (μ' := mX12_errs) dX12_done_148 nX12_62 iX12_errs vX12_errs kX12_errs rfl rfl (rr (by omega) rfl) rfl ⟨Nat.zero_le _, Nat.zero_le _⟩ (fun _ q_ => cvq q_ (ct_M_errs hm 3 (by decide) (by decide))) ?_
            rw [show (-1000000003 : Int32) = -1000000000 - 3 from rfl]
            refine r_ireturn (pc := 151) (ty := .int) dX12_done_151 rfl rfl ⟨Nat.zero_le _, Nat.zero_le _⟩ (fun gE hg => ?_)
            exact mR hg (e3 k1 j hj hj4 hbt k4 _ _ (q.err (by decide) rfl))
          · skip
            have k5 : (sh j).length = kSt K := (nI_eq (by omega) (by omega)).mp c128
            have k6 : N = kSt K := by omega
            rw [k6] at hm2 ⊢
            refine r_iload_n (pc := 131) dX12_done_131 rfl ?_
            refine r_iconst (pc := 132) (v := 1) dX12_done_132 (by decide) ?_
            refine r_aload_n (pc := 133) dX12_done_133 rfl ?_
            refine r_getf (pc := 134) (k := 0) dX12_done_134 hX12 eX12 (by decide) fX12_7 (fun _ q => mo hm q) rfl ?_
            refine r_iconst (pc := 137) (v := 1) dX12_done_137 (by decide) ?_
            refine r_ml (pc := 138) (i := 0) (j := 1) hm dX12_done_138 (by decide) rfl (by decide) ?_
            refine r_ishl (pc := 139) dX12_done_139 ?_
            refine r_iconst (pc := 140) (v := 1) dX12_done_140 (by decide) ?_
            refine r_isub (pc := 141) dX12_done_141 ?_
            rw [show upA A 11 f 0 1 = nI (kSt K) from q.rk.2.1, shl_full (kSt K) (by omega)]
            refine r_icmp_eq (pc := 142) 152 dX12_done_142 (by decide) (fun c142 => ?_) (fun c142 => ?_)
            · skip
              have k7 := (tk_iff (by omega)).mp ((nI_eq (by omega) (by omega)).mp c142)
              obtain ⟨pl, hpl⟩ := Option.isSome_iff_exists.mp k7
              obtain ⟨t1, t2, t3⟩ := tk_pl (by omega) hpl
              refine r_aload_n (pc := 152) dX12_done_152 rfl ?_
              refine r_iload_n (pc := 153) dX12_done_153 rfl ?_
              refine r_Vi (pc := 154) (μ' := mX12_seenBy) dX12_done_154 nX12_221 iX12_seenBy vX12_seenBy kX12_seenBy rfl rfl (rr (by omega) rfl) rfl ⟨Nat.zero_le _, Nat.zero_le _⟩ (fun _ q_ => cvq q_ (ct_M_seenBy hm ok tb hok q9.rr.2.1.1 (q9.se hD hL) hi2 (o := fun x => ((sh j).getD x 0).toInt.toNat) (fun x hx => ⟨by rw [upA_s, hf x (by omega)]; exact (t1 x hx).1, (t1 x hx).2⟩))) ?_
              refine aw_ex fun s2 => aw_ex fun A2 => aw_pr fun z => ?_
              refine r_ireturn (pc := 157) (ty := .int) dX12_done_157 rfl rfl ⟨Nat.zero_le _, Nat.zero_le _⟩ (fun gE hg => ?_)
              refine mR hg ?_
              rw [orV_so t2 t3]
              exact hP i j pl hi hi2 hj hj4 hbt k5 hpl _ _ (q9.back ok ⟨z.2.2.2 4 (by omega), z.2.2.2 5 (by omega), z.2.2.2 9 (by omega), z.2.2.2 26 (by omega)⟩ (fun i hi => z.2.2.1 i (by omega) (by omega) (by omega)) z.2.1)
            · skip
              have k4 : ¬ ((sh j).length = kSt K ∧ (tkO (sh j) (kSt K) (kSt K)).isSome = true) := fun x => c142 (by rw [(tk_iff (by omega)).mpr x.2])
              have q := q9
              refine r_aload_n (pc := 145) dX12_done_145 rfl ?_
              refine r_ldc (pc := 146) (v := (-1000000003)) dX12_done_146 qX12_202 ?_
              refine r_Vi (pc := 148) (μ' := mX12_errs) dX12_done_148 nX12_62 iX12_errs vX12_errs kX12_errs rfl rfl (rr (by omega) rfl) rfl ⟨Nat.zero_le _, Nat.zero_le _⟩ (fun _ q_ => cvq q_ (ct_M_errs hm 3 (by decide) (by decide))) ?_
              rw [show (-1000000003 : Int32) = -1000000000 - 3 from rfl]
              refine r_ireturn (pc := 151) (ty := .int) dX12_done_151 rfl rfl ⟨Nat.zero_le _, Nat.zero_le _⟩ (fun gE hg => ?_)
              exact mR hg (e3 k1 j hj hj4 hbt k4 _ _ (q.err (by decide) rfl))
        · skip
          exact absurd (fa_le.mpr (by rw [TN, show (6 : Int32).toInt = 6 from rfl]; have h9 : ¬ (nI (sh j).length).toInt ≤ (nI N).toInt := fun x => c51 (fa_le.mpr x); rw [Tl, TN] at h9; omega)) c58
    · intro x hx ih f hf hm2
      have Tx := nI_T (n := x) (by omega)
      obtain ⟨u, hu⟩ : ∃ u, u = (sh j).getD x 0 := ⟨_, rfl⟩
      have hM : mtN (kSt K) (sh j) (x + 1) = if 0 ≤ u.toInt ∧ u.toInt < kSt K then mtN (kSt K) (sh j) x ||| 2 ^ u.toInt.toNat else mtN (kSt K) (sh j) x := by rw [mtN, ← hu]
      have hf2 : ∀ y, y < x + 1 → upd f x u y = (sh j).getD y 0 := by
        intro y hy
        by_cases e : y = x
        · rw [e, upd_s]; exact hu
        · rw [upd_n e]; exact hf y (by omega)
      have hs9 : wiB u 0 (A 0 1 - 1) = decide (0 ≤ u.toInt ∧ u.toInt < kSt K) := q.stb ok u
      refine r_iload (pc := 43) dX12_done_43 rfl ?_
      refine r_aload_n (pc := 45) dX12_done_45 rfl ?_
      refine r_getf (pc := 46) (k := 20) dX12_done_46 hX12 eX12 (by decide) fX12_34 (fun _ q => mo hm q) rfl ?_
      refine r_iload_n (pc := 49) dX12_done_49 rfl ?_
      refine r_ml (pc := 50) (i := 8) (j := j) hm dX12_done_50 (by decide) (nI_T (by omega)) (show j < 4 by omega) ?_
      rw [show upA A 11 f 8 j = A 8 j from rfl, a2]
      refine r_icmp_ge (pc := 51) 116 dX12_done_51 (by decide) (fun c51 => ?_) (fun c51 => ?_)
      · skip
        exact absurd (fa_le.mp c51) (by omega)
      · skip
        refine r_iload (pc := 54) dX12_done_54 rfl ?_
        refine r_bipush (pc := 56) (v := 6) dX12_done_56 (by decide) ?_
        refine r_icmp_ge (pc := 58) 116 dX12_done_58 (by decide) (fun c58 => ?_) (fun c58 => ?_)
        · skip
          exact absurd (fa_le.mp c58) (by rw [Tx, show (6 : Int32).toInt = 6 from rfl]; omega)
        · skip
          refine r_aload_n (pc := 61) dX12_done_61 rfl ?_
          refine r_getf (pc := 62) (k := 23) dX12_done_62 hX12 eX12 (by decide) fX12_43 (fun _ q => mo hm q) rfl ?_
          refine r_iload (pc := 65) dX12_done_65 rfl ?_
          refine r_aload_n (pc := 67) dX12_done_67 rfl ?_
          refine r_getf (pc := 68) (k := 21) dX12_done_68 hX12 eX12 (by decide) fX12_37 (fun _ q => mo hm q) rfl ?_
          refine r_bipush (pc := 71) (v := 40) dX12_done_71 (by decide) ?_
          refine r_iload_n (pc := 73) dX12_done_73 rfl ?_
          refine r_imul (pc := 74) dX12_done_74 ?_
          refine r_iload (pc := 75) dX12_done_75 rfl ?_
          refine r_iadd (pc := 77) dX12_done_77 ?_
          rw [ix40]
          refine r_ml (pc := 78) (i := 9) (j := (40 * j + x)) hm dX12_done_78 (by decide) (nI_T (by omega)) (show (40 * j + x) < 160 by omega) ?_
          rw [show upA A 11 f 9 (40 * j + x) = u from (a4 x (by omega)).trans hu.symm]
          refine r_ms (pc := 79) (i := 11) (j := x) hm dX12_done_79 (by decide) (nI_T (by omega)) (show x < 6 by omega) ?_
          rw [upA_2, upA_s]
          refine r_iload_n (pc := 80) dX12_done_80 rfl ?_
          refine r_aload_n (pc := 81) dX12_done_81 rfl ?_
          refine r_aload_n (pc := 82) dX12_done_82 rfl ?_
          refine r_getf (pc := 83) (k := 23) dX12_done_83 hX12 eX12 (by decide) fX12_43 (fun _ q => mo hm q) rfl ?_
          refine r_iload (pc := 86) dX12_done_86 rfl ?_
          refine r_ml (pc := 88) (i := 11) (j := x) hm dX12_done_88 (by decide) (nI_T (by omega)) (show x < 6 by omega) ?_
          rw [upA_s, upd_s]
          refine r_Vi (pc := 89) (μ' := mX12_isStrip) dX12_done_89 nX12_199 iX12_isStrip vX12_isStrip kX12_isStrip rfl rfl (rr (by omega) rfl) rfl ⟨Nat.zero_le _, Nat.zero_le _⟩ (fun _ q_ => cvq q_ (ct_M_isStrip hm)) ?_
          rw [show upA A 11 (upd f x u) 0 1 = A 0 1 from rfl, hs9]
          refine r_if_eq (pc := 92) 107 dX12_done_92 (by decide) (fun c92 => ?_) (fun c92 => ?_)
          · skip
            have c := of_decide_eq_false (b2i_0.mp c92)
            rw [if_neg c] at hM
            rw [← hM] at hm2 ⊢
            refine r_iconst (pc := 107) (v := 0) dX12_done_107 (by decide) ?_
            refine r_ior (pc := 108) dX12_done_108 ?_
            first | rw [hv, or_nI _ (by omega) v (by omega), ← hM] | rw [show nI (mtN (kSt K) (sh j) (x + 1)) ||| 0 = nI (mtN (kSt K) (sh j) (x + 1)) from Int32.or_zero]
            refine r_istore_n (pc := 109) dX12_done_109 rfl (Nat.le_of_ble_eq_true rfl) rfl ?_
            dsimp only [lset]
            refine r_iinc1 (pc := 110) dX12_done_110 rfl (Nat.le_of_ble_eq_true rfl) rfl ?_
            dsimp only [lset]
            refine r_goto (pc := 113) 43 dX12_done_113 (by decide) ?_
            rw [nI_1]
            first
            | exact ih _ hf2 hm2
            | exact ih _ (by rw [← hv]; exact hf2) (by rw [hM]; exact h3)
          · skip
            have c := of_decide_eq_true (b2i_n0.mp c92)
            obtain ⟨v, hv, hv2⟩ : ∃ v, u = nI v ∧ v < kSt K := ⟨u.toInt.toNat, (nI_tn (by omega) (by omega)).symm, by omega⟩
            rw [if_pos c, show u.toInt.toNat = v by rw [hv, nI_T (by omega)]; rfl] at hM
            have h3 := pc_lt (kSt K) (by omega) _ hm2 v hv2
            refine r_iconst (pc := 95) (v := 1) dX12_done_95 (by decide) ?_
            refine r_aload_n (pc := 96) dX12_done_96 rfl ?_
            refine r_getf (pc := 97) (k := 23) dX12_done_97 hX12 eX12 (by decide) fX12_43 (fun _ q => mo hm q) rfl ?_
            refine r_iload (pc := 100) dX12_done_100 rfl ?_
            refine r_ml (pc := 102) (i := 11) (j := x) hm dX12_done_102 (by decide) (nI_T (by omega)) (show x < 6 by omega) ?_
            rw [upA_s, upd_s]
            refine r_ishl (pc := 103) dX12_done_103 ?_
            refine r_goto (pc := 104) 108 dX12_done_104 (by decide) ?_
            refine r_ior (pc := 108) dX12_done_108 ?_
            first | rw [hv, or_nI _ (by omega) v (by omega), ← hM] | rw [show nI (mtN (kSt K) (sh j) (x + 1)) ||| 0 = nI (mtN (kSt K) (sh j) (x + 1)) from Int32.or_zero]
            refine r_istore_n (pc := 109) dX12_done_109 rfl (Nat.le_of_ble_eq_true rfl) rfl ?_
            dsimp only [lset]
            refine r_iinc1 (pc := 110) dX12_done_110 rfl (Nat.le_of_ble_eq_true rfl) rfl ?_
            dsimp only [lset]
            refine r_goto (pc := 113) 43 dX12_done_113 (by decide) ?_
            rw [nI_1]
            first
            | exact ih _ hf2 hm2
            | exact ih _ (by rw [← hv]; exact hf2) (by rw [hM]; exact h3)
  refine aw_P (P' := MP m h s A) (fun _ q => q) ?_
  refine r_aload_n (pc := 0) dX12_done_0 rfl ?_
  refine r_iload_n (pc := 1) dX12_done_1 rfl ?_
  refine r_Vi (pc := 2) (μ' := mX12_isHand) dX12_done_2 nX12_98 iX12_isHand vX12_isHand kX12_isHand rfl rfl (rr (by decide) rfl) rfl ⟨Nat.zero_le _, Nat.zero_le _⟩ (fun _ q_ => cvq q_ (ct_M_isHand hm)) ?_
  rw [q.hb]
  refine r_if_eq (pc := 5) 15 dX12_done_5 (by decide) (fun c5 => ?_) (fun c5 => ?_)
  · skip
    have k1 := b2i_0.mp c5
    refine r_aload_n (pc := 15) dX12_done_15 rfl ?_
    refine r_ldc (pc := 16) (v := (-1000000001)) dX12_done_16 qX12_61 ?_
    refine r_Vi (pc := 18) (μ' := mX12_errs) dX12_done_18 nX12_62 iX12_errs vX12_errs kX12_errs rfl rfl (rr (by decide) rfl) rfl ⟨Nat.zero_le _, Nat.zero_le _⟩ (fun _ q_ => cvq q_ (ct_M_errs hm 1 (by decide) (by decide))) ?_
    rw [show (-1000000001 : Int32) = -1000000000 - 1 from rfl]
    refine r_ireturn (pc := 21) (ty := .int) dX12_done_21 rfl rfl ⟨Nat.zero_le _, Nat.zero_le _⟩ (fun gE hg => ?_)
    exact mR hg (e1 (by first | (rw [k1]; rfl) | (rw [k1]; exact kb)) _ _ (q.err (by decide) rfl))
  · skip
    have k1 := b2i_n0.mp c5
    refine r_iload_n (pc := 8) dX12_done_8 rfl ?_
    refine r_Sp (pc := 9) (μ' := mX12_isSheet) dX12_done_9 nX12_217 sX12_isSheet kX12_isSheet rfl rfl (rr (by decide) rfl) rfl ⟨Nat.zero_le _, Nat.zero_le _⟩ (fun h => ct_M_isSheet h) ?_
    refine r_if_ne (pc := 12) 22 dX12_done_12 (by decide) (fun c12 => ?_) (fun c12 => ?_)
    · skip
      have kb := b2i_n0.mp c12
      obtain ⟨i, hi, hi2⟩ := hd_t k1 hok
      obtain ⟨j, hj, hj4⟩ := sh_t kb
      obtain ⟨a1, a2, a3, a4⟩ := q.shs hj4
      refine r_aload_n (pc := 22) dX12_done_22 rfl ?_
      refine r_getf (pc := 23) (k := 19) dX12_done_23 hX12 eX12 (by decide) fX12_31 (fun _ q => mo hm q) rfl ?_
      refine r_iload_n (pc := 26) dX12_done_26 rfl ?_
      rw [hj]
      refine r_ml (pc := 27) (i := 7) (j := j) hm dX12_done_27 (by decide) (nI_T (by omega)) (show j < 4 by omega) ?_
      rw [a1]
      refine r_if_ne (pc := 28) 38 dX12_done_28 (by decide) (fun c28 => ?_) (fun c28 => ?_)
      · skip
        refine r_iconst (pc := 38) (v := 0) dX12_done_38 (by decide) ?_
        refine r_istore_n (pc := 39) dX12_done_39 rfl (Nat.le_of_ble_eq_true rfl) rfl ?_
        dsimp only [lset]
        refine r_iconst (pc := 40) (v := 0) dX12_done_40 (by decide) ?_
        refine r_istore (pc := 41) dX12_done_41 (Nat.le_of_ble_eq_true rfl) rfl ?_
        dsimp only [lset]
        rw [hi]
        refine aw_P (P' := MP m h s (upA A 11 (A 11))) (fun _ q => by rw [upA_id]; exact q) ?_
        exact L i j hi hi2 hj hj4 k1 c28 _ rfl 0 (Nat.zero_le _) _ (fun x hx => absurd hx (Nat.not_lt_zero x)) (Nat.pow_pos (by decide))
      · skip
        refine r_aload_n (pc := 31) dX12_done_31 rfl ?_
        refine r_ldc (pc := 32) (v := (-1000000002)) dX12_done_32 qX12_220 ?_
        refine r_Vi (pc := 34) (μ' := mX12_errs) dX12_done_34 nX12_62 iX12_errs vX12_errs kX12_errs rfl rfl (rr (by decide) rfl) rfl ⟨Nat.zero_le _, Nat.zero_le _⟩ (fun _ q_ => cvq q_ (ct_M_errs hm 2 (by decide) (by decide))) ?_
        rw [show (-1000000002 : Int32) = -1000000000 - 2 from rfl]
        refine r_ireturn (pc := 37) (ty := .int) dX12_done_37 rfl rfl ⟨Nat.zero_le _, Nat.zero_le _⟩ (fun gE hg => ?_)
        exact mR hg (e2 k1 j hj hj4 c28 _ _ (q.err (by decide) rfl))
    · skip
      have kb := b2i_0.mp c12
      refine r_aload_n (pc := 15) dX12_done_15 rfl ?_
      refine r_ldc (pc := 16) (v := (-1000000001)) dX12_done_16 qX12_61 ?_
      refine r_Vi (pc := 18) (μ' := mX12_errs) dX12_done_18 nX12_62 iX12_errs vX12_errs kX12_errs rfl rfl (rr (by decide) rfl) rfl ⟨Nat.zero_le _, Nat.zero_le _⟩ (fun _ q_ => cvq q_ (ct_M_errs hm 1 (by decide) (by decide))) ?_
      rw [show (-1000000001 : Int32) = -1000000000 - 1 from rfl]
      refine r_ireturn (pc := 21) (ty := .int) dX12_done_21 rfl rfl ⟨Nat.zero_le _, Nat.zero_le _⟩ (fun gE hg => ?_)
      exact mR hg (e1 (by first | (rw [k1]; rfl) | (rw [k1]; exact kb)) _ _ (q.err (by decide) rfl))
end Mdone2
