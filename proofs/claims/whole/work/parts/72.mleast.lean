/-! THE REFERENCE, whole: the least that an order shows -/
def odF (o : List Nat) : Nat → Nat := fun j => o.getD j 0
def bsV (K : CK) (hs : List (Nat × Nat)) (lD lL : List Int32) (i : Nat) : Nat × List Int32 := (allX (kSt K)).foldl (pkO fun o => orV K hs lD lL i (odF o)) (1000000, [])
theorem orV_le {K : CK} {hs : List (Nat × Nat)} {lD lL : List Int32} {i : Nat} {o : Nat → Nat} (ok : KOk K) : orV K hs lD lL i o ≤ 4000 := by
  obtain ⟨h1, h2, h3, h4⟩ := rG_ok (kd := hKd hs i) (m := hMn hs i) (o := o) (δ := fun _ => 0) (noCan_ok ok) (kSt K)
  unfold orV
  obtain ⟨X, hX⟩ : ∃ X, X = rG (hKd hs i) (hMn hs i) (noCan K) o (fun _ => 0) (kSt K) := ⟨_, rfl⟩
  rw [← hX] at h1 h2 h3 h4 ⊢
  unfold seenN
  rw [seN_sum, show kSt X = kSt K from h3, show kRo X = kRo K from h2]
  have hst : kSt K ≤ 6 := ok.2.1.2
  have hro : kRo K ≤ 6 := ok.1.2
  have := sumN_le (f := fun s => sbN X (drL lD (kHe K)) (ltL lL) s s (s + 1) 0 (kRo K)) (b := 600) (fun s => by have := sbN_le (K := X) (dr := drL lD (kHe K)) (fun a b d => ltL_le lL a b d) s s (s + 1) 0 (kRo K); omega) (kSt K - 1)
  omega
theorem map_gN {o : List Nat} {j : Nat} (h : j < o.length) : (o.map nI).getD j 0 = nI (o.getD j 0) := by
  rw [List.getD_eq_getElem?_getD, List.getElem?_map, List.getD_eq_getElem?_getD, List.getElem?_eq_getElem h]
  rfl
theorem range_g {n j : Nat} (h : j < n) : (List.range n).getD j 0 = j := by
  rw [List.getD_eq_getElem?_getD, List.getElem?_range h]
  rfl
section Mleast2
variable {m : Nat} {h : AH} {K K2 : CK} {hs hs2 : List (Nat × Nat)} {tD tL tD2 tL2 : Option (List Int32)} {tp wa tp2 wa2 hd er lD lL : List Int32} {z im z2 : Int32} {k : MK} {bt : Nat → Int32} {sh : Nat → List Int32} {s s2 : Nat → Int32} {A A2 : Nat → Nat → Int32} {Q : Option Value → AH → Prop} {f : Nat → Int32}
/-- what the thought of orders leaves -/
def LJ (K : CK) (lD lL : List Int32) (s : Nat → Int32) (A : Nat → Nat → Int32) (s1 : Nat → Int32) (A1 : Nat → Nat → Int32) : Prop := SE K lD lL s1 A1 ∧ (∀ j, j < 267 → A1 0 j = A 0 j) ∧ (∀ x, (x = 1 ∨ x = 3 ∨ x = 4 ∨ x = 7 ∨ x = 8 ∨ x = 9 ∨ x = 10 ∨ x = 13) → A1 x = A x) ∧ ∀ k, (k < 9 ∨ 18 < k) → s1 k = s k
set_option maxHeartbeats 8000000 in
theorem ct_M_leastSeen (hm : m + 14 < h.1) (ok : KOk K) (tb : TB K 9999 9999) (hok : HOk hs) (rh : RMh hs (A 0)) (q : SE K lD lL s A) (h9 : s 9 = 0) {i : Nat} (hi : i < hs.length) : CV 47 0 0 mX12_leastSeen m [.int (nI i)] (mh m h s A) (fun v g => v = some (.int (nI (bsV K hs lD lL i).1)) ∧ ∃ s2 A2, (LJ K lD lL s A s2 A2 ∧ s2 9 = 0 ∧ ∀ j, j < kSt K → A2 12 j = (bsV K hs lD lL i).2.getD j 0) ∧ MP m h s2 A2 g) := by
  refine ⟨mV hm, ?_⟩
  refine ct_of (by decide) (fun _ _ => Nat.le_of_ble_eq_true rfl) ?_
  dsimp only [pad, ent]
  have hst : 1 ≤ kSt K ∧ kSt K ≤ 6 := ok.2.1
  have hTs := nI_T (n := kSt K) (by omega)
  obtain ⟨n, hn⟩ : ∃ n, n = kSt K := ⟨_, rfl⟩
  have ch := ch_all (n - 1) (by omega)
  rw [show n - 1 + 1 = n by omega] at ch
  have pr := List.all_eq_true.mp (pr_all n (by omega))
  have gjA := List.all_eq_true.mp ch.2.2
  obtain ⟨V, hV⟩ : ∃ V : List Nat → Nat, V = fun o => orV K hs lD lL i (odF o) := ⟨_, rfl⟩
  have hV2 : ∀ o, V o ≤ 4000 := fun o => by rw [hV]; exact orV_le ok
  obtain ⟨B, hB⟩ : ∃ B, B = bsV K hs lD lL i := ⟨_, rfl⟩
  have hB2 : (allX n).foldl (pkO V) (1000000, []) = B := by rw [hB, hV, hn]; rfl
  rw [← hB, ← hn]
  rw [← hn] at hst hTs
  have E : ∀ (b : Nat × List Int32) s1 A1, LJ K lD lL s A s1 A1 → (∀ j, j < n → A1 12 j = b.2.getD j 0) → b = B → AW (fun _ => True) (rmd 47 0 0) mX12_leastSeen 0 0 33 [some (.ref m), some (.int (nI i)), some (.int (nI b.1)), some (.int 0), none, none] [] (MP m h s1 A1) (fun v g => v = some (.int (nI B.1)) ∧ ∃ s2 A2, (LJ K lD lL s A s2 A2 ∧ s2 9 = 0 ∧ ∀ j, j < n → A2 12 j = B.2.getD j 0) ∧ MP m h s2 A2 g) := by
    intro b s1 A1 j1 j2 e
    subst e
    refine r_iload_n (pc := 33) dX12_leastSeen_33 rfl ?_
    refine r_if_eq (pc := 34) 111 dX12_leastSeen_34 (by decide) (fun c34 => ?_) (fun c34 => ?_)
    · skip
      refine r_aload_n (pc := 111) dX12_leastSeen_111 rfl ?_
      refine r_iconst (pc := 112) (v := 0) dX12_leastSeen_112 (by decide) ?_
      refine r_mp (pc := 113) (k := 9) hm dX12_leastSeen_113 fX12_70 (by decide) rfl rfl (fun _ _ => rfl) (fun _ _ => rfl) rfl ?_
      refine r_iload_n (pc := 116) dX12_leastSeen_116 rfl ?_
      refine r_ireturn (pc := 117) (ty := .int) dX12_leastSeen_117 rfl rfl ⟨Nat.zero_le _, Nat.zero_le _⟩ (fun gE hg => ?_)
      refine ⟨rfl, _, _, ⟨⟨j1.1.to ok (fun _ _ => rfl) (Or.inl upd_s), j1.2.1, j1.2.2.1, fun k hk => (upd_n (by omega)).trans (j1.2.2.2 k hk)⟩, upd_s, j2⟩, hg⟩
    · skip
      exact absurd rfl c34
  obtain ⟨G, hG⟩ : ∃ G : List Nat → List (List Nat) → Prop, G = fun o l => ∀ (b : Nat × List Int32) (lv : Int32) s1 A1, chB n (o :: l) = true → (∀ x ∈ o :: l, prB n x = true ∧ gjOk n x = true) → OA n o (A1 11) → LJ K lD lL s A s1 A1 → ((lv = -1 ∧ b.1 = 1000000) ∨ (lv = nI b.1 ∧ b.1 ≤ 4000 ∧ ∀ j, j < n → A1 12 j = b.2.getD j 0)) → (o :: l).foldl (pkO V) b = B → AW (fun _ => True) (rmd 47 0 0) mX12_leastSeen 0 0 33 [some (.ref m), some (.int (nI i)), some (.int lv), some (.int 1), none, none] [] (MP m h s1 A1) (fun v g => v = some (.int (nI B.1)) ∧ ∃ s2 A2, (LJ K lD lL s A s2 A2 ∧ s2 9 = 0 ∧ ∀ j, j < n → A2 12 j = B.2.getD j 0) ∧ MP m h s2 A2 g) := ⟨_, rfl⟩
  have St : ∀ o l, (∀ p l', l = p :: l' → G p l') → G o l := by
    intro o l ih
    rw [hG]
    intro b lv s1 A1 g1 g2 g3 g4 g5 g6
    obtain ⟨y1, y2, y3, y4, y5⟩ := prB_t (g2 o List.mem_cons_self).1
    have gjo := (g2 o List.mem_cons_self).2
    rw [List.foldl_cons] at g6
    -- how it goes on
    have M : ∀ (b2 : Nat × List Int32) s2 A2, l.foldl (pkO V) b2 = B → b2.1 ≤ 4000 → OA n o (A2 11) → LJ K lD lL s A s2 A2 → (∀ j, j < n → A2 12 j = b2.2.getD j 0) → AW (fun _ => True) (rmd 47 0 0) mX12_leastSeen 0 0 91 [some (.ref m), some (.int (nI i)), some (.int (nI b2.1)), none, none, none] [] (MP m h s2 A2) (fun v g => v = some (.int (nI B.1)) ∧ ∃ s2 A2, (LJ K lD lL s A s2 A2 ∧ s2 9 = 0 ∧ ∀ j, j < n → A2 12 j = B.2.getD j 0) ∧ MP m h s2 A2 g) := by
      intro b2 s2 A2 f1 f2 f3 f4 f5
      have Tb := nI_T (n := b2.1) (by omega)
      have h01 : A2 0 1 = nI n := by rw [f4.1.1.2.1, hn]
      refine r_iload_n (pc := 91) dX12_leastSeen_91 rfl ?_
      refine r_if_le (pc := 92) 106 dX12_leastSeen_92 (by decide) (fun c92 => ?_) (fun c92 => ?_)
      · skip
        have c := fa_le.mp c92
        rw [Tb, t0] at c
        have f6 : b2 = B := by rw [← f1]; exact (pk_stay l (fun x _ => by omega)).symm
        refine r_iconst (pc := 106) (v := 0) dX12_leastSeen_106 (by decide) ?_
        refine r_istore_n (pc := 107) dX12_leastSeen_107 rfl (Nat.le_of_ble_eq_true rfl) rfl ?_
        dsimp only [lset]
        refine r_goto (pc := 108) 33 dX12_leastSeen_108 (by decide) ?_
        first
        | exact E b2 _ _ f4 f5 f6
        | (subst f8; have := ih _ _ rfl; rw [hG] at this; exact this b2 _ _ _ (Bool.and_eq_true_iff.mp g1).2 (fun x hx => g2 x (List.mem_cons_of_mem _ hx)) (f7 _ ho2) ⟨f4.1.to ok (fun _ _ => rfl) f4.1.2.2.2, f4.2.1, fun x hx => (upA_n (by omega)).trans (f4.2.2.1 x hx), f4.2.2.2⟩ (Or.inr ⟨rfl, f2, f5⟩) f1)
      · skip
        refine r_aload_n (pc := 95) dX12_leastSeen_95 rfl ?_
        refine r_Vi (pc := 96) (μ' := mX12_goesOn) dX12_leastSeen_96 nX12_227 iX12_goesOn vX12_goesOn kX12_goesOn rfl rfl (rr (by decide) rfl) rfl ⟨Nat.zero_le _, Nat.zero_le _⟩ (fun _ q_ => cvq q_ (ct_M_goesOn hm h01 hst f3 y2 gjo)) ?_
        refine aw_ex fun a => aw_pr fun f7 => ?_
        refine r_if_eq (pc := 99) 106 dX12_leastSeen_99 (by decide) (fun c99 => ?_) (fun c99 => ?_)
        · skip
          have c := b2i_0.mp c99
          have f6 : b2 = B := by
            cases l with
            | nil => exact f1
            | cons p l =>
              have := of_decide_eq_true (Bool.and_eq_true_iff.mp g1).1
              rw [this] at c
              exact absurd c (by simp)
          refine aw_P (P' := MP m h s2 (upA A2 11 a)) (fun _ q => q) ?_
          have f4 : LJ K lD lL s A s2 (upA A2 11 a) := ⟨f4.1.to ok (fun _ _ => rfl) f4.1.2.2.2, f4.2.1, fun x hx => (upA_n (by omega)).trans (f4.2.2.1 x hx), f4.2.2.2⟩
          have f5 : ∀ j, j < n → upA A2 11 a 12 j = b2.2.getD j 0 := f5
          refine r_iconst (pc := 106) (v := 0) dX12_leastSeen_106 (by decide) ?_
          refine r_istore_n (pc := 107) dX12_leastSeen_107 rfl (Nat.le_of_ble_eq_true rfl) rfl ?_
          dsimp only [lset]
          refine r_goto (pc := 108) 33 dX12_leastSeen_108 (by decide) ?_
          first
          | exact E b2 _ _ f4 f5 f6
          | (subst f8; have := ih _ _ rfl; rw [hG] at this; exact this b2 _ _ _ (Bool.and_eq_true_iff.mp g1).2 (fun x hx => g2 x (List.mem_cons_of_mem _ hx)) (f7 _ ho2) ⟨f4.1.to ok (fun _ _ => rfl) f4.1.2.2.2, f4.2.1, fun x hx => (upA_n (by omega)).trans (f4.2.2.1 x hx), f4.2.2.2⟩ (Or.inr ⟨rfl, f2, f5⟩) f1)
        · skip
          have c := b2i_n0.mp c99
          obtain ⟨o2, ho2⟩ := Option.isSome_iff_exists.mp c
          obtain ⟨l', f8⟩ : ∃ l', l = o2 :: l' := by
            cases l with
            | nil =>
              have : nxN n o = none := of_decide_eq_true g1
              rw [this] at ho2
              exact absurd ho2 (by simp)
            | cons p l =>
              have := of_decide_eq_true (Bool.and_eq_true_iff.mp g1).1
              rw [this] at ho2
              exact ⟨l, by rw [Option.some.inj ho2]⟩
          refine r_iconst (pc := 102) (v := 1) dX12_leastSeen_102 (by decide) ?_
          refine r_goto (pc := 103) 107 dX12_leastSeen_103 (by decide) ?_
          refine r_istore_n (pc := 107) dX12_leastSeen_107 rfl (Nat.le_of_ble_eq_true rfl) rfl ?_
          dsimp only [lset]
          refine r_goto (pc := 108) 33 dX12_leastSeen_108 (by decide) ?_
          first
          | exact E b2 _ _ f4 f5 f6
          | (subst f8; have := ih _ _ rfl; rw [hG] at this; exact this b2 _ _ _ (Bool.and_eq_true_iff.mp g1).2 (fun x hx => g2 x (List.mem_cons_of_mem _ hx)) (f7 _ ho2) ⟨f4.1.to ok (fun _ _ => rfl) f4.1.2.2.2, f4.2.1, fun x hx => (upA_n (by omega)).trans (f4.2.2.1 x hx), f4.2.2.2⟩ (Or.inr ⟨rfl, f2, f5⟩) f1)
    -- this order is the best so far
    have N : ∀ s2 A2, l.foldl (pkO V) (V o, o.map nI) = B → OA n o (A2 11) → LJ K lD lL s A s2 A2 → ∀ lv, AW (fun _ => True) (rmd 47 0 0) mX12_leastSeen 0 0 54 [some (.ref m), some (.int (nI i)), some (.int lv), none, some (.int (nI (V o))), none] [] (MP m h s2 A2) (fun v g => v = some (.int (nI B.1)) ∧ ∃ s2 A2, (LJ K lD lL s A s2 A2 ∧ s2 9 = 0 ∧ ∀ j, j < n → A2 12 j = B.2.getD j 0) ∧ MP m h s2 A2 g) := by
      intro s2 A2 f1 f3 f4 lv
      have h01 : A2 0 1 = nI n := by rw [f4.1.1.2.1, hn]
      have C : ∀ k, k ≤ n → ∀ a, (∀ j, j < k → a j = nI (o.getD j 0)) → AW (fun _ => True) (rmd 47 0 0) mX12_leastSeen 0 0 60 [some (.ref m), some (.int (nI i)), some (.int (nI (V o))), none, none, some (.int (nI k))] [] (MP m h s2 (upA A2 12 a)) (fun v g => v = some (.int (nI B.1)) ∧ ∃ s2 A2, (LJ K lD lL s A s2 A2 ∧ s2 9 = 0 ∧ ∀ j, j < n → A2 12 j = B.2.getD j 0) ∧ MP m h s2 A2 g) := by
        refine up_loop ?_ ?_
        · intro a ha
          refine r_iload (pc := 60) dX12_leastSeen_60 rfl ?_
          refine r_aload_n (pc := 62) dX12_leastSeen_62 rfl ?_
          refine r_getf (pc := 63) (k := 0) dX12_leastSeen_63 hX12 eX12 (by decide) fX12_7 (fun _ q => mo hm q) rfl ?_
          refine r_iconst (pc := 66) (v := 1) dX12_leastSeen_66 (by decide) ?_
          refine r_ml (pc := 67) (i := 0) (j := 1) hm dX12_leastSeen_67 (by decide) rfl (by decide) ?_
          rw [show upA A2 12 a 0 1 = A2 0 1 from rfl, h01]
          refine r_icmp_ge (pc := 68) 91 dX12_leastSeen_68 (by decide) (fun c68 => ?_) (fun c68 => ?_)
          · skip
            refine aw_lk (ls' := [some (.ref m), some (.int (nI i)), some (.int (nI (V o))), none, none, none]) (show FG _ _ from by repeat (first | exact FG.nil | refine FG.sam ?_ | refine FG.non ?_)) ?_
            exact M (V o, o.map nI) s2 _ f1 (hV2 o) f3 ⟨f4.1.to ok (fun _ _ => rfl) f4.1.2.2.2, f4.2.1, fun x hx => (upA_n (by omega)).trans (f4.2.2.1 x hx), f4.2.2.2⟩ (fun j hj => by rw [upA_s, ha j hj, map_gN (by omega)])
          · skip
            exact absurd (fa_le.mpr (Int.le_refl _)) c68
        · intro j hj ih2 a ha
          have Tj := nI_T (n := j) (by omega)
          refine r_iload (pc := 60) dX12_leastSeen_60 rfl ?_
          refine r_aload_n (pc := 62) dX12_leastSeen_62 rfl ?_
          refine r_getf (pc := 63) (k := 0) dX12_leastSeen_63 hX12 eX12 (by decide) fX12_7 (fun _ q => mo hm q) rfl ?_
          refine r_iconst (pc := 66) (v := 1) dX12_leastSeen_66 (by decide) ?_
          refine r_ml (pc := 67) (i := 0) (j := 1) hm dX12_leastSeen_67 (by decide) rfl (by decide) ?_
          rw [show upA A2 12 a 0 1 = A2 0 1 from rfl, h01]
          refine r_icmp_ge (pc := 68) 91 dX12_leastSeen_68 (by decide) (fun c68 => ?_) (fun c68 => ?_)
          · skip
            exact absurd c68 (fun y => by have := fa_le.mp y; omega)
          · skip
            refine r_aload_n (pc := 71) dX12_leastSeen_71 rfl ?_
            refine r_getf (pc := 72) (k := 24) dX12_leastSeen_72 hX12 eX12 (by decide) fX12_46 (fun _ q => mo hm q) rfl ?_
            refine r_iload (pc := 75) dX12_leastSeen_75 rfl ?_
            refine r_aload_n (pc := 77) dX12_leastSeen_77 rfl ?_
            refine r_getf (pc := 78) (k := 23) dX12_leastSeen_78 hX12 eX12 (by decide) fX12_43 (fun _ q => mo hm q) rfl ?_
            refine r_iload (pc := 81) dX12_leastSeen_81 rfl ?_
            refine r_ml (pc := 83) (i := 11) (j := j) hm dX12_leastSeen_83 (by decide) (nI_T (by omega)) (show j < 6 by omega) ?_
            refine r_ms (pc := 84) (i := 12) (j := j) hm dX12_leastSeen_84 (by decide) (nI_T (by omega)) (show j < 6 by omega) ?_
            simp only [upA_2, upA_s]
            refine r_iinc1 (pc := 85) dX12_leastSeen_85 rfl (Nat.le_of_ble_eq_true rfl) rfl ?_
            dsimp only [lset]
            refine r_goto (pc := 88) 60 dX12_leastSeen_88 (by decide) ?_
            rw [nI_1]
            refine ih2 _ fun x hx => ?_
            by_cases e : x = j
            · rw [e, upd_s]; exact f3.2 j hj
            · rw [upd_n e]; exact ha x (by omega)
      refine r_iload (pc := 54) dX12_leastSeen_54 rfl ?_
      refine r_istore_n (pc := 56) dX12_leastSeen_56 rfl (Nat.le_of_ble_eq_true rfl) rfl ?_
      dsimp only [lset]
      refine r_iconst (pc := 57) (v := 0) dX12_leastSeen_57 (by decide) ?_
      refine r_istore (pc := 58) dX12_leastSeen_58 (Nat.le_of_ble_eq_true rfl) rfl ?_
      dsimp only [lset]
      refine aw_lk (ls' := [some (.ref m), some (.int (nI i)), some (.int (nI (V o))), none, none, some (.int 0)]) (show FG _ _ from by repeat (first | exact FG.nil | refine FG.sam ?_ | refine FG.non ?_)) ?_
      refine aw_P (P' := MP m h s2 (upA A2 12 (A2 12))) (fun g q => by rw [upA_id]; exact q) ?_
      exact C 0 (Nat.zero_le _) _ (fun j hj => absurd hj (Nat.not_lt_zero j))
    have ct := ct_M_seenBy (h := h) hm ok tb hok (i := i) (o := odF o) (s := s1) (A := A1) (hs := hs) (show RMh hs (A1 0) from ⟨(g4.2.1 8 (by omega)).trans rh.1, fun y hy => by have h6 := hok.1; rw [g4.2.1 _ (by omega), g4.2.1 _ (by omega)]; exact rh.2 y hy⟩) g4.1 hi (fun j hj => ⟨g3.2 j (by omega), by rw [← hn]; exact y2 j (by omega)⟩)
    rw [show orV K hs lD lL i (odF o) = V o by rw [hV]] at ct
    have Tv := nI_T (n := V o) (hV2 o)
    have JJ : ∀ s2 A2, (SE K lD lL s2 A2 ∧ (∀ j, j < 267 → A2 0 j = A1 0 j) ∧ (∀ x, x ≠ 0 → x ≠ 2 → x ≠ 6 → A2 x = A1 x) ∧ ∀ k, (k < 10 ∨ 18 < k) → s2 k = s1 k) → LJ K lD lL s A s2 A2 ∧ OA n o (A2 11) ∧ A2 12 = A1 12 := by
      intro s2 A2 z
      refine ⟨⟨z.1, fun j hj => (z.2.1 j hj).trans (g4.2.1 j hj), fun x hx => (z.2.2.1 x (by omega) (by omega) (by omega)).trans (g4.2.2.1 x hx), fun k hk => (z.2.2.2 k (by omega)).trans (g4.2.2.2 k hk)⟩, ?_, z.2.2.1 12 (by decide) (by decide) (by decide)⟩
      rw [z.2.2.1 11 (by decide) (by decide) (by decide)]
      exact g3
    rcases g5 with ⟨e1, e2⟩ | ⟨e1, e2, e3⟩
    · rw [e1]
      rw [show pkO V b o = (V o, o.map nI) from if_neg (by have := hV2 o; omega)] at g6
      refine r_iload_n (pc := 33) dX12_leastSeen_33 rfl ?_
      refine r_if_eq (pc := 34) 111 dX12_leastSeen_34 (by decide) (fun c34 => ?_) (fun c34 => ?_)
      · skip
        exact absurd c34 (by decide)
      · skip
        refine r_aload_n (pc := 37) dX12_leastSeen_37 rfl ?_
        refine r_iload_n (pc := 38) dX12_leastSeen_38 rfl ?_
        refine r_Vi (pc := 39) (μ' := mX12_seenBy) dX12_leastSeen_39 nX12_221 iX12_seenBy vX12_seenBy kX12_seenBy rfl rfl (rr (by decide) rfl) rfl ⟨Nat.zero_le _, Nat.zero_le _⟩ (fun _ q_ => cvq q_ (ct)) ?_
        refine aw_ex fun s2 => aw_ex fun A2 => aw_pr fun z => ?_
        obtain ⟨z1, z2, z3⟩ := JJ s2 A2 z
        refine r_istore (pc := 42) dX12_leastSeen_42 (Nat.le_of_ble_eq_true rfl) rfl ?_
        dsimp only [lset]
        refine r_iload_n (pc := 44) dX12_leastSeen_44 rfl ?_
        refine r_if_lt (pc := 45) 54 dX12_leastSeen_45 (by decide) (fun c45 => ?_) (fun c45 => ?_)
        · skip
          refine aw_lk (ls' := [some (.ref m), some (.int (nI i)), some (.int (-1)), none, some (.int (nI (V o))), none]) (show FG _ _ from by repeat (first | exact FG.nil | refine FG.sam ?_ | refine FG.non ?_)) ?_
          exact N s2 A2 g6 z2 z1 _
        · skip
          exact absurd m1_lt0 c45
    · rw [e1]
      have Tb := nI_T (n := b.1) (by omega)
      refine r_iload_n (pc := 33) dX12_leastSeen_33 rfl ?_
      refine r_if_eq (pc := 34) 111 dX12_leastSeen_34 (by decide) (fun c34 => ?_) (fun c34 => ?_)
      · skip
        exact absurd c34 (by decide)
      · skip
        refine r_aload_n (pc := 37) dX12_leastSeen_37 rfl ?_
        refine r_iload_n (pc := 38) dX12_leastSeen_38 rfl ?_
        refine r_Vi (pc := 39) (μ' := mX12_seenBy) dX12_leastSeen_39 nX12_221 iX12_seenBy vX12_seenBy kX12_seenBy rfl rfl (rr (by decide) rfl) rfl ⟨Nat.zero_le _, Nat.zero_le _⟩ (fun _ q_ => cvq q_ (ct)) ?_
        refine aw_ex fun s2 => aw_ex fun A2 => aw_pr fun z => ?_
        obtain ⟨z1, z2, z3⟩ := JJ s2 A2 z
        refine r_istore (pc := 42) dX12_leastSeen_42 (Nat.le_of_ble_eq_true rfl) rfl ?_
        dsimp only [lset]
        refine r_iload_n (pc := 44) dX12_leastSeen_44 rfl ?_
        refine r_if_lt (pc := 45) 54 dX12_leastSeen_45 (by decide) (fun c45 => ?_) (fun c45 => ?_)
        · skip
          exact absurd c45 (fun x => by have := fa_lt.mp x; rw [Tb, t0] at this; omega)
        · skip
          refine r_iload (pc := 48) dX12_leastSeen_48 rfl ?_
          refine r_iload_n (pc := 50) dX12_leastSeen_50 rfl ?_
          refine r_icmp_ge (pc := 51) 91 dX12_leastSeen_51 (by decide) (fun c51 => ?_) (fun c51 => ?_)
          · skip
            have c := fa_le.mp c51
            rw [show pkO V b o = b from if_pos (by omega)] at g6
            refine aw_lk (ls' := [some (.ref m), some (.int (nI i)), some (.int (nI b.1)), none, none, none]) (show FG _ _ from by repeat (first | exact FG.nil | refine FG.sam ?_ | refine FG.non ?_)) ?_
            exact M b s2 A2 g6 e2 z2 z1 (by rw [z3]; exact e3)
          · skip
            have c : ¬ b.1 ≤ V o := fun x => c51 (fa_le.mpr (by omega))
            rw [show pkO V b o = (V o, o.map nI) from if_neg c] at g6
            refine aw_lk (ls' := [some (.ref m), some (.int (nI i)), some (.int (nI b.1)), none, some (.int (nI (V o))), none]) (show FG _ _ from by repeat (first | exact FG.nil | refine FG.sam ?_ | refine FG.non ?_)) ?_
            exact N s2 A2 g6 z2 z1 _
  have L : ∀ l o, G o l := by
    intro l
    induction l with
    | nil => exact fun o => St o [] (fun p l' e => by cases e)
    | cons p l ih => exact fun o => St o _ (fun p' l' e => by cases e; exact ih _)
  have P : ∀ k, k ≤ n → ∀ a, (∀ j, j < k → a j = nI j) → AW (fun _ => True) (rmd 47 0 0) mX12_leastSeen 0 0 2 [some (.ref m), some (.int (nI i)), some (.int (nI k)), none, none, none] [] (MP m h s (upA A 11 a)) (fun v g => v = some (.int (nI B.1)) ∧ ∃ s2 A2, (LJ K lD lL s A s2 A2 ∧ s2 9 = 0 ∧ ∀ j, j < n → A2 12 j = B.2.getD j 0) ∧ MP m h s2 A2 g) := by
    have h01 : A 0 1 = nI n := by rw [q.1.2.1, hn]
    refine up_loop ?_ ?_
    · intro a ha
      have q2 : SE K lD lL s (upA A 11 a) := q.to ok (fun _ _ => rfl) (Or.inl h9)
      refine r_iload_n (pc := 2) dX12_leastSeen_2 rfl ?_
      refine r_aload_n (pc := 3) dX12_leastSeen_3 rfl ?_
      refine r_getf (pc := 4) (k := 0) dX12_leastSeen_4 hX12 eX12 (by decide) fX12_7 (fun _ q => mo hm q) rfl ?_
      refine r_iconst (pc := 7) (v := 1) dX12_leastSeen_7 (by decide) ?_
      refine r_ml (pc := 8) (i := 0) (j := 1) hm dX12_leastSeen_8 (by decide) rfl (by decide) ?_
      rw [show upA A 11 a 0 1 = A 0 1 from rfl, h01]
      refine r_icmp_ge (pc := 9) 25 dX12_leastSeen_9 (by decide) (fun c9 => ?_) (fun c9 => ?_)
      · skip
        refine r_iconst (pc := 25) (v := (-1)) dX12_leastSeen_25 (by decide) ?_
        refine r_istore_n (pc := 26) dX12_leastSeen_26 rfl (Nat.le_of_ble_eq_true rfl) rfl ?_
        dsimp only [lset]
        refine r_iconst (pc := 27) (v := 1) dX12_leastSeen_27 (by decide) ?_
        refine r_istore_n (pc := 28) dX12_leastSeen_28 rfl (Nat.le_of_ble_eq_true rfl) rfl ?_
        dsimp only [lset]
        refine r_aload_n (pc := 29) dX12_leastSeen_29 rfl ?_
        refine r_Vv (pc := 30) (μ' := mX12_tables) dX12_leastSeen_30 nX12_224 iX12_tables vX12_tables kX12_tables rfl rfl (rr (by decide) rfl) rfl ⟨Nat.zero_le _, Nat.zero_le _⟩ (fun _ q_ => cvq q_ (ct_M_tables hm ok q2 h9)) ?_
        refine aw_ex fun s2 => aw_ex fun A2 => aw_pr fun z => ?_
        obtain ⟨l, hl⟩ : ∃ l, allX n = List.range n :: l := by
          have h5 := ch.2.1
          cases hx : allX n with
          | nil => rw [hx] at h5; exact absurd h5 (by simp)
          | cons o l => rw [hx] at h5; exact ⟨l, by rw [Option.some.inj h5]⟩
        have := L l (List.range n)
        rw [hG] at this
        rw [← hl] at this
        exact this (1000000, []) _ _ _ ch.1 (fun x hx => ⟨pr x hx, gjA x hx⟩) ⟨List.length_range, fun j hj => by rw [z.2.2.2 11 (by decide) (by decide), upA_s, ha j hj, range_g hj]⟩ ⟨z.1, fun j hj => by rw [z.2.2.2 0 (by decide) (by decide)]; rfl, fun x hx => (z.2.2.2 x (by omega) (by omega)).trans (upA_n (by omega)), fun k hk => z.2.2.1 k (by omega)⟩ (Or.inl ⟨rfl, rfl⟩) hB2
      · skip
        exact absurd (fa_le.mpr (Int.le_refl _)) c9
    · intro j hj ih a ha
      have Tj := nI_T (n := j) (by omega)
      refine r_iload_n (pc := 2) dX12_leastSeen_2 rfl ?_
      refine r_aload_n (pc := 3) dX12_leastSeen_3 rfl ?_
      refine r_getf (pc := 4) (k := 0) dX12_leastSeen_4 hX12 eX12 (by decide) fX12_7 (fun _ q => mo hm q) rfl ?_
      refine r_iconst (pc := 7) (v := 1) dX12_leastSeen_7 (by decide) ?_
      refine r_ml (pc := 8) (i := 0) (j := 1) hm dX12_leastSeen_8 (by decide) rfl (by decide) ?_
      rw [show upA A 11 a 0 1 = A 0 1 from rfl, h01]
      refine r_icmp_ge (pc := 9) 25 dX12_leastSeen_9 (by decide) (fun c9 => ?_) (fun c9 => ?_)
      · skip
        exact absurd c9 (fun y => by have := fa_le.mp y; omega)
      · skip
        refine r_aload_n (pc := 12) dX12_leastSeen_12 rfl ?_
        refine r_getf (pc := 13) (k := 23) dX12_leastSeen_13 hX12 eX12 (by decide) fX12_43 (fun _ q => mo hm q) rfl ?_
        refine r_iload_n (pc := 16) dX12_leastSeen_16 rfl ?_
        refine r_iload_n (pc := 17) dX12_leastSeen_17 rfl ?_
        refine r_ms (pc := 18) (i := 11) (j := j) hm dX12_leastSeen_18 (by decide) (nI_T (by omega)) (show j < 6 by omega) ?_
        simp only [upA_2, upA_s]
        refine r_iinc1 (pc := 19) dX12_leastSeen_19 rfl (Nat.le_of_ble_eq_true rfl) rfl ?_
        dsimp only [lset]
        refine r_goto (pc := 22) 2 dX12_leastSeen_22 (by decide) ?_
        rw [nI_1]
        refine ih _ fun x hx => ?_
        by_cases e : x = j
        · rw [e, upd_s]
        · rw [upd_n e]; exact ha x (by omega)
  refine aw_P (P' := MP m h s (upA A 11 (A 11))) (fun g q => by rw [upA_id]; exact q) ?_
  refine r_iconst (pc := 0) (v := 0) dX12_leastSeen_0 (by decide) ?_
  refine r_istore_n (pc := 1) dX12_leastSeen_1 rfl (Nat.le_of_ble_eq_true rfl) rfl ?_
  dsimp only [lset]
  exact P 0 (Nat.zero_le _) _ (fun j hj => absurd hj (Nat.not_lt_zero j))
end Mleast2
