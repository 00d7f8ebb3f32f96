/-! THE REFERENCE, whole: order, clean -/
theorem exN_bs {K : CK} {hs : List (Nat × Nat)} {lD lL : List Int32} {i : Nat} (ok : KOk K) {o : List Nat} (ho : prB (kSt K) o = true) : orV K hs lD lL i (odF o) = ptN (kSt K) (SB0 (thR K hs i) lD lL) o := by
  obtain ⟨y1, y2, y3, y4, y5⟩ := prB_t ho
  have h := seen_order (kd := hKd hs i) (m := hMn hs i) (K := noCan K) (o := odF o) (p := fun s => o.idxOf s) (dr := drL lD (kHe K)) (lt := ltL lL) y3 y4
  rw [show kSt (noCan K) = kSt K from rfl] at h
  obtain ⟨r1, r2, r3⟩ := rollsN_form (kd := hKd hs i) (m := hMn hs i) (K := noCan K) (kSt K)
  unfold orV
  rw [h, ptN_full y5]
  refine sumN_ext _ fun s hs' => ?_
  unfold SB0 SB thR
  rw [show kHe (rollsN (hKd hs i) (hMn hs i) (noCan K) (kSt K)) = kHe K from r3, show kRo (rollsN (hKd hs i) (hMn hs i) (noCan K) (kSt K)) = kRo K from r1]
  rfl
theorem allX_cons {n : Nat} (h1 : 1 ≤ n) (h6 : n ≤ 6) : ∃ l, allX n = List.range n :: l := by
  have ch := ch_all (n - 1) (by omega)
  rw [show n - 1 + 1 = n by omega] at ch
  have h5 := ch.2.1
  cases hx : allX n with
  | nil => rw [hx] at h5; exact absurd h5 (by simp)
  | cons o l => rw [hx] at h5; exact ⟨l, by rw [Option.some.inj h5]⟩
theorem foldl_in {α β : Type} {f g : β → α → β} : ∀ (l : List α) (b : β), (∀ a ∈ l, ∀ b, f b a = g b a) → l.foldl f b = l.foldl g b := foldl_ext
theorem bs_fold {K : CK} {hs : List (Nat × Nat)} {lD lL : List Int32} {i : Nat} (ok : KOk K) (b : Nat × List Int32) : (allX (kSt K)).foldl (pkO fun o => orV K hs lD lL i (odF o)) b = (allX (kSt K)).foldl (pkO (ptN (kSt K) (SB0 (thR K hs i) lD lL))) b := by
  refine foldl_ext _ _ fun o ho b2 => ?_
  have := List.all_eq_true.mp (pr_all (kSt K) ok.2.1.2) o ho
  have e := exN_bs (hs := hs) (lD := lD) (lL := lL) (i := i) ok this
  simp only [pkO, e]
theorem bsV_eq {K : CK} {hs : List (Nat × Nat)} {lD lL : List Int32} {i : Nat} (ok : KOk K) (bs : List Int32) : exN (kSt (thR K hs i)) (SB0 (thR K hs i) lD lL) (kSt (thR K hs i)) [] 0 (1000000, bs) = bsV K hs lD lL i := by
  rw [show kSt (thR K hs i) = kSt K from (rollsN_form _).2.1, exN_all, ← bs_fold ok]
  unfold bsV
  obtain ⟨l, hl⟩ := allX_cons (n := kSt K) ok.2.1.1 ok.2.1.2
  rw [hl, List.foldl_cons, List.foldl_cons]
  congr 1
  have h1 := orV_le (K := K) (hs := hs) (lD := lD) (lL := lL) (i := i) (o := odF (List.range (kSt K))) ok
  unfold pkO
  rw [if_neg (by dsimp only; omega), if_neg (by dsimp only; omega)]
theorem pk_zero {V : List Nat → Nat} : ∀ (l : List (List Nat)) (b : Nat × List Int32), (l.foldl (pkO V) b).1 = 0 ↔ b.1 = 0 ∨ ∃ o ∈ l, V o = 0
  | [], b => ⟨Or.inl, fun h => h.elim id fun ⟨o, ho, _⟩ => absurd ho List.not_mem_nil⟩
  | o :: l, b => by
    rw [List.foldl_cons, pk_zero l]
    unfold pkO
    by_cases c : b.1 ≤ V o
    · rw [if_pos c]
      constructor
      · rintro (h | ⟨x, hx, hx2⟩)
        · exact Or.inl h
        · exact Or.inr ⟨x, List.mem_cons_of_mem _ hx, hx2⟩
      · rintro (h | ⟨x, hx, hx2⟩)
        · exact Or.inl h
        · rcases List.mem_cons.mp hx with e | e
          · rw [e] at hx2; exact Or.inl (by omega)
          · exact Or.inr ⟨x, e, hx2⟩
    · rw [if_neg c]
      constructor
      · rintro (h | ⟨x, hx, hx2⟩)
        · exact Or.inr ⟨o, List.mem_cons_self, h⟩
        · exact Or.inr ⟨x, List.mem_cons_of_mem _ hx, hx2⟩
      · rintro (h | ⟨x, hx, hx2⟩)
        · exact absurd h (by omega)
        · rcases List.mem_cons.mp hx with e | e
          · rw [e] at hx2; exact Or.inl hx2
          · exact Or.inr ⟨x, e, hx2⟩
theorem rolls_he {kd m x : Nat} {K : CK} : ∀ j, rollsN kd m (setHe K x) j = setHe (rollsN kd m K j) x
  | 0 => rfl
  | j + 1 => by
    show paintK kd m j false (rollsN kd m (setHe K x) j) = setHe (paintK kd m j false (rollsN kd m K j)) x
    rw [rolls_he j]
    obtain ⟨P, hP⟩ : ∃ P, P = rollsN kd m K j := ⟨_, rfl⟩
    rw [← hP]
    obtain ⟨ro, st, mi, he, le, wh, si, ca, w, v⟩ := P
    show paintN kd m j false (ro, st, mi, x, le, wh, si, ca, w, v) ro = setHe (paintN kd m j false (ro, st, mi, he, le, wh, si, ca, w, v) ro) x
    rw [paint_form, paint_form]
    rfl
theorem noCan_he {K : CK} {x : Nat} : noCan (setHe K x) = setHe (noCan K) x := by
  obtain ⟨ro, st, mi, he, le, wh, si, ca, w, v⟩ := K
  rfl
theorem setHe_f {K : CK} {x : Nat} : kRo (setHe K x) = kRo K ∧ kSt (setHe K x) = kSt K ∧ kHe (setHe K x) = x := by
  obtain ⟨ro, st, mi, he, le, wh, si, ca, w, v⟩ := K
  exact ⟨rfl, rfl, rfl⟩
theorem thR_he {K : CK} {hs : List (Nat × Nat)} {i x : Nat} : thR (setHe K x) hs i = setHe (thR K hs i) x := by
  unfold thR
  rw [noCan_he, rolls_he, setHe_f.2.1]
theorem clI_bs {K : CK} {hs : List (Nat × Nat)} {lD lL : List Int32} {i x : Nat} (ok : KOk K) (hx : x ≤ 9) : clI (thR K hs i) lD lL x = 0 ↔ (bsV (setHe K x) hs lD lL i).1 = 0 := by
  have ok2 := setHe_ok ok hx
  have e : kSt (thR K hs i) = kSt (setHe K x) := by rw [setHe_f.2.1]; exact (rollsN_form _).2.1
  unfold clI
  rw [← thR_he, e, exN_all, ← bs_fold ok2, pk_zero]
  unfold bsV
  rw [pk_zero]
  constructor
  · rintro (h | h)
    · exact absurd h (by decide)
    · exact Or.inr h
  · rintro (h | h)
    · exact absurd h (by decide)
    · exact Or.inr h
section Morder
variable {m : Nat} {h : AH} {K K2 : CK} {hs hs2 : List (Nat × Nat)} {tD tL tD2 tL2 : Option (List Int32)} {tp wa tp2 wa2 hd er lD lL : List Int32} {z im z2 : Int32} {k : MK} {bt : Nat → Int32} {sh : Nat → List Int32} {s s2 : Nat → Int32} {A A2 : Nat → Nat → Int32} {Q : Option Value → AH → Prop} {f : Nat → Int32}
theorem LJ.mg (j : LJ K lD lL s A s2 A2) (q : MG K hs tD tL tp wa z k bt sh hd er im s A) (ok : KOk K) (h9 : s2 9 = 0) : MG K hs tD tL tp wa z k bt sh hd er im s2 A2 :=
  q.back ok ⟨j.2.2.2 4 (by omega), j.2.2.2 5 (by omega), h9.trans q.2.2.1.2.2.symm, j.2.2.2 26 (by omega)⟩ (fun i hi => j.2.2.1 i (by omega)) j.2.1
set_option maxHeartbeats 4000000 in
theorem cm_order (hm : m + 14 < h.1) {a b : Int32} (q : MG K hs tD tL tp wa z k bt sh hd er im s A) (ok : KOk K) (tb : TB K 9999 9999) (hok : HOk hs) (hD : TR 0 tD lD) (hL : TR 1 tL lL) (e1 : (hdB hs a && wiB b (-1) (nI K.2.1 - 1)) = false → ∀ s2 A2, MG K hs tD tL tp wa z k bt sh hd (errL er 1) im s2 A2 → Q (some (.int (-1000000000 - 1))) (mh m h s2 A2)) (hP : ∀ i, a = nI i → i < hs.length → wiB b (-1) (nI K.2.1 - 1) = true → ∀ s2 A2, MG K hs tD tL tp wa z k bt sh hd er im s2 A2 → Q (some (.int (if b = -1 then nI (bsV K hs lD lL i).1 else atL (bsV K hs lD lL i).2 b))) (mh m h s2 A2)) : CV 50 0 0 mX12_order m [.int a, .int b] (mh m h s A) Q := by
  refine ⟨mV hm, ?_⟩
  refine ct_of (by decide) (fun _ _ => Nat.le_of_ble_eq_true rfl) ?_
  dsimp only [pad, ent]
  have hst : 1 ≤ kSt K ∧ kSt K ≤ 6 := ok.2.1
  refine aw_P (P' := MP m h s A) (fun _ q => q) ?_
  refine r_aload_n (pc := 0) dX12_order_0 rfl ?_
  refine r_iload_n (pc := 1) dX12_order_1 rfl ?_
  refine r_Vi (pc := 2) (μ' := mX12_isHand) dX12_order_2 nX12_98 iX12_isHand vX12_isHand kX12_isHand rfl rfl (rr (by omega) rfl) rfl ⟨Nat.zero_le _, Nat.zero_le _⟩ (fun _ q_ => cvq q_ (ct_M_isHand hm)) ?_
  rw [q.hb]
  refine r_if_eq (pc := 5) 24 dX12_order_5 (by decide) (fun c5 => ?_) (fun c5 => ?_)
  · skip
    have k1 := b2i_0.mp c5
    refine r_aload_n (pc := 24) dX12_order_24 rfl ?_
    refine r_ldc (pc := 25) (v := (-1000000001)) dX12_order_25 qX12_61 ?_
    refine r_Vi (pc := 27) (μ' := mX12_errs) dX12_order_27 nX12_62 iX12_errs vX12_errs kX12_errs rfl rfl (rr (by omega) rfl) rfl ⟨Nat.zero_le _, Nat.zero_le _⟩ (fun _ q_ => cvq q_ (ct_M_errs hm 1 (by decide) (by decide))) ?_
    rw [show (-1000000001 : Int32) = -1000000000 - 1 from rfl]
    refine r_ireturn (pc := 30) (ty := .int) dX12_order_30 rfl rfl ⟨Nat.zero_le _, Nat.zero_le _⟩ (fun gE hg => ?_)
    exact mR hg (e1 (by first | (rw [k1]; rfl) | (rw [k1]; exact k2)) _ _ (q.err (by decide) rfl))
  · skip
    have k1 := b2i_n0.mp c5
    refine r_iload_n (pc := 8) dX12_order_8 rfl ?_
    refine r_iconst (pc := 9) (v := (-1)) dX12_order_9 (by decide) ?_
    refine r_aload_n (pc := 10) dX12_order_10 rfl ?_
    refine r_getf (pc := 11) (k := 0) dX12_order_11 hX12 eX12 (by decide) fX12_7 (fun _ q => mo hm q) rfl ?_
    refine r_iconst (pc := 14) (v := 1) dX12_order_14 (by decide) ?_
    refine r_ml (pc := 15) (i := 0) (j := 1) hm dX12_order_15 (by decide) rfl (by decide) ?_
    refine r_iconst (pc := 16) (v := 1) dX12_order_16 (by decide) ?_
    rw [q.rk.2.1]
    refine r_isub (pc := 17) dX12_order_17 ?_
    refine r_Sp (pc := 18) (μ' := mX12_in) dX12_order_18 nX12_57 sX12_in kX12_in rfl rfl (rr (by omega) rfl) rfl ⟨Nat.zero_le _, Nat.zero_le _⟩ (fun h => ct_M_in h) ?_
    refine r_if_ne (pc := 21) 31 dX12_order_21 (by decide) (fun c21 => ?_) (fun c21 => ?_)
    · skip
      have k2 := b2i_n0.mp c21
      obtain ⟨i, hi, hi2⟩ := hd_t k1 hok
      have h7 := hP i hi hi2 k2
      have w := wi_t k2
      rw [show (-1 : Int32).toInt = -1 from rfl, show nI K.2.1 - 1 = nI (kSt K - 1) from nI_sub' (a := kSt K) (b := 1) (by omega), nI_T (n := kSt K - 1) (by omega)] at w
      refine r_aload_n (pc := 31) dX12_order_31 rfl ?_
      refine r_iload_n (pc := 32) dX12_order_32 rfl ?_
      rw [hi]
      refine r_Vi (pc := 33) (μ' := mX12_leastSeen) dX12_order_33 nX12_231 iX12_leastSeen vX12_leastSeen kX12_leastSeen rfl rfl (rr (by omega) rfl) rfl ⟨Nat.zero_le _, Nat.zero_le _⟩ (fun _ q_ => cvq q_ (ct_M_leastSeen hm ok tb hok q.rr.2.1.1 (q.se hD hL) q.2.2.1.2.2 hi2)) ?_
      refine aw_ex fun s2 => aw_ex fun A2 => aw_pr fun j => ?_
      refine r_istore_n (pc := 36) dX12_order_36 rfl (Nat.le_of_ble_eq_true rfl) rfl ?_
      dsimp only [lset]
      refine r_iload_n (pc := 37) dX12_order_37 rfl ?_
      refine r_if_ge (pc := 38) 45 dX12_order_38 (by decide) (fun c38 => ?_) (fun c38 => ?_)
      · skip
        have c := i32_le0.mp c38
        obtain ⟨x, hx, hx2⟩ : ∃ x, b = nI x ∧ x < kSt K := ⟨b.toInt.toNat, (nI_tn (by omega) (by omega)).symm, by omega⟩
        rw [if_neg (fun e => by rw [e] at c; exact absurd c (by decide)), hx, atL_nI (by omega)] at h7
        rw [hx]
        refine r_aload_n (pc := 45) dX12_order_45 rfl ?_
        refine r_getf (pc := 46) (k := 24) dX12_order_46 hX12 eX12 (by decide) fX12_46 (fun _ q => mo hm q) rfl ?_
        refine r_iload_n (pc := 49) dX12_order_49 rfl ?_
        refine r_ml (pc := 50) (i := 12) (j := x) hm dX12_order_50 (by decide) (nI_T (by omega)) (show x < 6 by omega) ?_
        first | rw [j.2.2 x hx2] | skip
        refine r_ireturn (pc := 51) (ty := .int) dX12_order_51 rfl rfl ⟨Nat.zero_le _, Nat.zero_le _⟩ (fun gE hg => ?_)
        exact mR hg (h7 _ _ (j.1.mg q ok j.2.1))
      · skip
        have e : b = -1 := by
          have c : ¬ 0 ≤ b.toInt := fun x => c38 (i32_le0.mpr x)
          exact Int32.toInt_inj.mp (by rw [show (-1 : Int32).toInt = -1 from rfl]; omega)
        rw [if_pos e] at h7
        refine r_iload_n (pc := 41) dX12_order_41 rfl ?_
        refine r_goto (pc := 42) 51 dX12_order_42 (by decide) ?_
        first | rw [j.2.2 x hx2] | skip
        refine r_ireturn (pc := 51) (ty := .int) dX12_order_51 rfl rfl ⟨Nat.zero_le _, Nat.zero_le _⟩ (fun gE hg => ?_)
        exact mR hg (h7 _ _ (j.1.mg q ok j.2.1))
    · skip
      have k2 := b2i_0.mp c21
      refine r_aload_n (pc := 24) dX12_order_24 rfl ?_
      refine r_ldc (pc := 25) (v := (-1000000001)) dX12_order_25 qX12_61 ?_
      refine r_Vi (pc := 27) (μ' := mX12_errs) dX12_order_27 nX12_62 iX12_errs vX12_errs kX12_errs rfl rfl (rr (by omega) rfl) rfl ⟨Nat.zero_le _, Nat.zero_le _⟩ (fun _ q_ => cvq q_ (ct_M_errs hm 1 (by decide) (by decide))) ?_
      rw [show (-1000000001 : Int32) = -1000000000 - 1 from rfl]
      refine r_ireturn (pc := 30) (ty := .int) dX12_order_30 rfl rfl ⟨Nat.zero_le _, Nat.zero_le _⟩ (fun gE hg => ?_)
      exact mR hg (e1 (by first | (rw [k1]; rfl) | (rw [k1]; exact k2)) _ _ (q.err (by decide) rfl))
theorem RMk_he {x : Nat} (q : RMk K f) : RMk (setHe K x) (upd f 3 (nI x)) := by
  obtain ⟨ro, st, mi, he, le, wh, si, ca, w, v⟩ := K
  obtain ⟨q1, q2, q3, q4, q5, q6, q7, q8⟩ := q
  refine ⟨(upd_n (by omega)).trans q1, (upd_n (by omega)).trans q2, (upd_n (by omega)).trans q3, upd_s, (upd_n (by omega)).trans q5, (upd_n (by omega)).trans q6, (upd_n (by omega)).trans q7, fun r s hr hs => ⟨(upd_n (by omega)).trans (q8 r s hr hs).1, (upd_n (by omega)).trans (q8 r s hr hs).2⟩⟩
theorem TB.he {x a b : Nat} (t : TB K a b) : TB (setHe K x) a b := by
  obtain ⟨ro, st, mi, he, le, wh, si, ca, w, v⟩ := K
  exact t
/-- the world, but for the heat and for what thought leaves -/
def HJ (s : Nat → Int32) (A : Nat → Nat → Int32) (s1 : Nat → Int32) (A1 : Nat → Nat → Int32) : Prop := (∀ j, j < 267 → j ≠ 3 → A1 0 j = A 0 j) ∧ (∀ x, (x = 1 ∨ x = 3 ∨ x = 4 ∨ x = 7 ∨ x = 8 ∨ x = 9 ∨ x = 10 ∨ x = 13) → A1 x = A x) ∧ (∀ k, (k < 9 ∨ 18 < k) → s1 k = s k) ∧ s1 9 = 0
theorem HJ.se {s1 : Nat → Int32} {A1 : Nat → Nat → Int32} {x : Nat} (j : HJ s A s1 A1) (q : MG K hs tD tL tp wa z k bt sh hd er im s A) (ok : KOk K) (hx : x ≤ 9) (hD : TR 0 tD lD) (hL : TR 1 tL lL) : SE (setHe K x) lD lL s1 (upA A1 0 (upd (A1 0) 3 (nI x))) := by
  have rr := q.rr
  refine ⟨(RMk_he q.rk).ext2 (setHe_ok ok hx) fun y hy => ?_, ⟨tD, ?_, hD⟩, ⟨tL, ?_, hL⟩, Or.inl j.2.2.2⟩
  · show upd (A1 0) 3 (nI x) y = upd (A 0) 3 (nI x) y
    by_cases e : y = 3
    · rw [e, upd_s, upd_s]
    · rw [upd_n e, upd_n e]; exact j.1 y (by omega) e
  · show TxM tD (upd (A1 0) 3 (nI x) 11) 167 (upd (A1 0) 3 (nI x))
    rw [upd_n (by decide), j.1 11 (by omega) (by omega)]
    exact rr.2.2.1.ext fun y hy => by rw [upd_n (by omega)]; exact j.1 _ (by omega) (by omega)
  · show TxM tL (upd (A1 0) 3 (nI x) 12) 217 (upd (A1 0) 3 (nI x))
    rw [upd_n (by decide), j.1 12 (by omega) (by omega)]
    exact rr.2.2.2.1.ext fun y hy => by rw [upd_n (by omega)]; exact j.1 _ (by omega) (by omega)
set_option maxHeartbeats 8000000 in
theorem cm_clean (hm : m + 14 < h.1) {a b : Int32} (q : MG K hs tD tL tp wa z k bt sh hd er im s A) (ok : KOk K) (tb : TB K 9999 9999) (hok : HOk hs) (hD : TR 0 tD lD) (hL : TR 1 tL lL) (e1 : (hdB hs a && wiB b 0 1) = false → ∀ s2 A2, MG K hs tD tL tp wa z k bt sh hd (errL er 1) im s2 A2 → Q (some (.int (-1000000000 - 1))) (mh m h s2 A2)) (e2 : ∀ i, a = nI i → i < hs.length → wiB b 0 1 = true → (∀ he, he < 10 → ¬ clI (thR K hs i) lD lL he = 0) → ∀ s2 A2, MG K hs tD tL tp wa z k bt sh hd (errL er 2) im s2 A2 → Q (some (.int (-1000000000 - 2))) (mh m h s2 A2)) (hP : ∀ i he, a = nI i → i < hs.length → wiB b 0 1 = true → he < 10 → clI (thR K hs i) lD lL he = 0 → (b = 0 → ∀ x, x < he → ¬ clI (thR K hs i) lD lL x = 0) → (b = 1 → ∀ x, he < x → x < 10 → ¬ clI (thR K hs i) lD lL x = 0) → ∀ s2 A2, MG K hs tD tL tp wa z k bt sh hd er im s2 A2 → Q (some (.int (nI he))) (mh m h s2 A2)) : CV 50 0 0 mX12_clean m [.int a, .int b] (mh m h s A) Q := by
  refine ⟨mV hm, ?_⟩
  refine ct_of (by decide) (fun _ _ => Nat.le_of_ble_eq_true rfl) ?_
  dsimp only [pad, ent]
  have hst : 1 ≤ kSt K ∧ kSt K ≤ 6 := ok.2.1
  have L : ∀ i, a = nI i → i < hs.length → wiB b 0 1 = true → ∀ j, j ≤ 10 → ∀ (fi la : Int32) s1 A1, HJ s A s1 A1 → ((fi = -1 ∧ la = -1 ∧ ∀ x, x < j → ¬ clI (thR K hs i) lD lL x = 0) ∨ ∃ x y, fi = nI x ∧ la = nI y ∧ x < j ∧ y < j ∧ clI (thR K hs i) lD lL x = 0 ∧ clI (thR K hs i) lD lL y = 0 ∧ (∀ u, u < x → ¬ clI (thR K hs i) lD lL u = 0) ∧ ∀ u, y < u → u < j → ¬ clI (thR K hs i) lD lL u = 0) → AW (fun _ => True) (rmd 50 0 0) mX12_clean 0 0 40 [some (.ref m), some (.int (nI i)), some (.int b), some (.int (nI (kHe K))), some (.int fi), some (.int la), some (.int (nI j))] [] (MP m h s1 A1) Q := by
    intro i hi hi2 hb
    refine up_loop ?_ ?_
    · intro fi la s1 A1 j1 j2
      have q9 : MG K hs tD tL tp wa z k bt sh hd er im s1 (upA A1 0 (upd (A1 0) 3 (nI (kHe K)))) := q.back ok ⟨j1.2.2.1 4 (by omega), j1.2.2.1 5 (by omega), j1.2.2.2.trans q.2.2.1.2.2.symm, j1.2.2.1 26 (by omega)⟩ (fun i hi => (upA_n (by omega)).trans (j1.2.1 i (by omega))) (fun y hy => by
        rw [upA_s]
        by_cases e : y = 3
        · rw [e, upd_s]; exact q.rk.2.2.2.1.symm
        · rw [upd_n e]; exact j1.1 y hy e)
      refine r_iload (pc := 40) dX12_clean_40 rfl ?_
      refine r_bipush (pc := 42) (v := 9) dX12_clean_42 (by decide) ?_
      refine r_icmp_gt (pc := 44) 87 dX12_clean_44 (by decide) (fun c44 => ?_) (fun c44 => ?_)
      · skip
        refine r_aload_n (pc := 87) dX12_clean_87 rfl ?_
        refine r_getf (pc := 88) (k := 0) dX12_clean_88 hX12 eX12 (by decide) fX12_7 (fun _ q => mo hm q) rfl ?_
        refine r_iconst (pc := 91) (v := 3) dX12_clean_91 (by decide) ?_
        refine r_iload_n (pc := 92) dX12_clean_92 rfl ?_
        refine r_ms (pc := 93) (i := 0) (j := 3) hm dX12_clean_93 (by decide) rfl (by decide) ?_
        refine r_iload (pc := 94) dX12_clean_94 rfl ?_
        refine r_if_ge (pc := 96) 106 dX12_clean_96 (by decide) (fun c96 => ?_) (fun c96 => ?_)
        · skip
          obtain ⟨x, y, z1, z2, z3, z4, z5, z6, z7, z8⟩ : ∃ x y, fi = nI x ∧ la = nI y ∧ x < 10 ∧ y < 10 ∧ clI (thR K hs i) lD lL x = 0 ∧ clI (thR K hs i) lD lL y = 0 ∧ (∀ u, u < x → ¬ clI (thR K hs i) lD lL u = 0) ∧ ∀ u, y < u → u < 10 → ¬ clI (thR K hs i) lD lL u = 0 := by
            rcases j2 with ⟨j2, -, -⟩ | j2
            · rw [j2] at c96; exact absurd c96 (by decide)
            · exact j2
          refine r_iload_n (pc := 106) dX12_clean_106 rfl ?_
          refine r_if_ne (pc := 107) 115 dX12_clean_107 (by decide) (fun c107 => ?_) (fun c107 => ?_)
          · skip
            have e : b = 1 := kd_2 hb c107
            refine r_iload (pc := 115) dX12_clean_115 rfl ?_
            refine r_ireturn (pc := 117) (ty := .int) dX12_clean_117 rfl rfl ⟨Nat.zero_le _, Nat.zero_le _⟩ (fun gE hg => ?_)
            first
            | (rw [z2]; exact mR hg (hP i y hi hi2 hb z4 z6 (fun x => absurd (x.symm.trans e) (by decide)) (fun _ => z8) _ _ q9))
            | (rw [z1]; exact mR hg (hP i x hi hi2 hb z3 z5 (fun _ => z7) (fun x => absurd (e.symm.trans x) (by decide)) _ _ q9))
          · skip
            have e : b = 0 := c107
            refine r_iload (pc := 110) dX12_clean_110 rfl ?_
            refine r_goto (pc := 112) 117 dX12_clean_112 (by decide) ?_
            refine r_ireturn (pc := 117) (ty := .int) dX12_clean_117 rfl rfl ⟨Nat.zero_le _, Nat.zero_le _⟩ (fun gE hg => ?_)
            first
            | (rw [z2]; exact mR hg (hP i y hi hi2 hb z4 z6 (fun x => absurd (x.symm.trans e) (by decide)) (fun _ => z8) _ _ q9))
            | (rw [z1]; exact mR hg (hP i x hi hi2 hb z3 z5 (fun _ => z7) (fun x => absurd (e.symm.trans x) (by decide)) _ _ q9))
        · skip
          have j3 : ∀ x, x < 10 → ¬ clI (thR K hs i) lD lL x = 0 := by
            rcases j2 with ⟨-, -, j2⟩ | ⟨x, y, z1, z2, z3, z4, z5⟩
            · exact j2
            · exact absurd (by rw [z1, i32_le0, nI_T (by omega)]; omega) c96
          have q := q9
          refine r_aload_n (pc := 99) dX12_clean_99 rfl ?_
          refine r_ldc (pc := 100) (v := (-1000000002)) dX12_clean_100 qX12_220 ?_
          refine r_Vi (pc := 102) (μ' := mX12_errs) dX12_clean_102 nX12_62 iX12_errs vX12_errs kX12_errs rfl rfl (rr (by omega) rfl) rfl ⟨Nat.zero_le _, Nat.zero_le _⟩ (fun _ q_ => cvq q_ (ct_M_errs hm 2 (by decide) (by decide))) ?_
          rw [show (-1000000002 : Int32) = -1000000000 - 2 from rfl]
          refine r_ireturn (pc := 105) (ty := .int) dX12_clean_105 rfl rfl ⟨Nat.zero_le _, Nat.zero_le _⟩ (fun gE hg => ?_)
          exact mR hg ((e2 i hi hi2 hb j3) _ _ (q.err (by decide) rfl))
      · skip
        exact absurd (by decide) c44
    · intro j hj ih fi la s1 A1 j1 j2
      have hTj := nI_T (n := j) (by omega)
      have hse := j1.se q ok (x := j) (by omega) hD hL
      have ct := ct_M_leastSeen (h := h) hm (setHe_ok ok (x := j) (by omega)) tb.he hok (show RMh hs (upA A1 0 (upd (A1 0) 3 (nI j)) 0) from ⟨show upd (A1 0) 3 (nI j) 8 = _ from (upd_n (by omega)).trans ((j1.1 8 (by omega) (by omega)).trans q.rr.2.1.1.1), fun y hy => by
        have h6 := hok.1
        rw [upA_s, upd_n (by omega), upd_n (by omega), j1.1 _ (by omega) (by omega), j1.1 _ (by omega) (by omega)]
        exact q.rr.2.1.1.2 y hy⟩) hse j1.2.2.2 hi2
      have cl := clI_bs (K := K) (hs := hs) (lD := lD) (lL := lL) (i := i) (x := j) ok (by omega)
      have bl : (bsV (setHe K j) hs lD lL i).1 ≤ 1000000 := by
        rw [← bsV_eq (setHe_ok ok (by omega)) []]
        exact exN_le _ _ _ _
      have NX : ∀ s2 A2, LJ (setHe K j) lD lL s1 (upA A1 0 (upd (A1 0) 3 (nI j))) s2 A2 → s2 9 = 0 → HJ s A s2 A2 := by
        intro s2 A2 x h9
        refine ⟨fun y hy hy2 => ?_, fun y hy => ?_, fun y hy => ?_, h9⟩
        · rw [x.2.1 y hy, upA_s, upd_n hy2]; exact j1.1 y hy hy2
        · rw [x.2.2.1 y hy, upA_n (by omega)]; exact j1.2.1 y hy
        · rw [x.2.2.2 y hy]; exact j1.2.2.1 y hy
      refine r_iload (pc := 40) dX12_clean_40 rfl ?_
      refine r_bipush (pc := 42) (v := 9) dX12_clean_42 (by decide) ?_
      refine r_icmp_gt (pc := 44) 87 dX12_clean_44 (by decide) (fun c44 => ?_) (fun c44 => ?_)
      · skip
        exact absurd c44 (fun y => by have := fa_lt.mp y; rw [hTj, show (9 : Int32).toInt = 9 from rfl] at this; omega)
      · skip
        refine r_aload_n (pc := 47) dX12_clean_47 rfl ?_
        refine r_getf (pc := 48) (k := 0) dX12_clean_48 hX12 eX12 (by decide) fX12_7 (fun _ q => mo hm q) rfl ?_
        refine r_iconst (pc := 51) (v := 3) dX12_clean_51 (by decide) ?_
        refine r_iload (pc := 52) dX12_clean_52 rfl ?_
        refine r_ms (pc := 54) (i := 0) (j := 3) hm dX12_clean_54 (by decide) rfl (by decide) ?_
        refine r_aload_n (pc := 55) dX12_clean_55 rfl ?_
        refine r_iload_n (pc := 56) dX12_clean_56 rfl ?_
        refine r_Vi (pc := 57) (μ' := mX12_leastSeen) dX12_clean_57 nX12_231 iX12_leastSeen vX12_leastSeen kX12_leastSeen rfl rfl (rr (by omega) rfl) rfl ⟨Nat.zero_le _, Nat.zero_le _⟩ (fun _ q_ => cvq q_ (ct)) ?_
        refine aw_ex fun s2 => aw_ex fun A2 => aw_pr fun x => ?_
        have j3 := NX s2 A2 x.1 x.2.1
        refine r_if_ne (pc := 60) 81 dX12_clean_60 (by decide) (fun c60 => ?_) (fun c60 => ?_)
        · skip
          have c : ¬ clI (thR K hs i) lD lL j = 0 := fun y => c60 (by rw [cl.mp y]; rfl)
          refine r_iinc1 (pc := 81) dX12_clean_81 rfl (Nat.le_of_ble_eq_true rfl) rfl ?_
          dsimp only [lset]
          refine r_goto (pc := 84) 40 dX12_clean_84 (by decide) ?_
          rw [nI_1]
          first
          | exact ih _ _ _ _ j3 j4
          | (refine ih _ _ _ _ j3 ?_
             rcases j2 with ⟨y1, y2, y3⟩ | ⟨x, y, z1, z2, z3, z4, z5, z6, z7, z8⟩
             · exact Or.inl ⟨y1, y2, fun u hu => by
                 by_cases e : u = j
                 · rw [e]; exact c
                 · exact y3 u (by omega)⟩
             · exact Or.inr ⟨x, y, z1, z2, by omega, by omega, z5, z6, z7, fun u h1 h2 => by
                 by_cases e : u = j
                 · rw [e]; exact c
                 · exact z8 u h1 (by omega)⟩)
        · skip
          have c : clI (thR K hs i) lD lL j = 0 := cl.mpr (by have := fa_eq.mp c60; rw [nI_toInt (by omega), t0] at this; omega)
          refine r_iload (pc := 63) dX12_clean_63 rfl ?_
          refine r_if_ge (pc := 65) 73 dX12_clean_65 (by decide) (fun c65 => ?_) (fun c65 => ?_)
          · skip
            have c2 : ∃ x y, fi = nI x ∧ la = nI y ∧ x < j ∧ y < j ∧ clI (thR K hs i) lD lL x = 0 ∧ clI (thR K hs i) lD lL y = 0 ∧ (∀ u, u < x → ¬ clI (thR K hs i) lD lL u = 0) ∧ ∀ u, y < u → u < j → ¬ clI (thR K hs i) lD lL u = 0 := by
              rcases j2 with ⟨j2, -, -⟩ | j2
              · rw [j2] at c65; exact absurd c65 (by decide)
              · exact j2
            obtain ⟨x, y, z1, z2, z3, z4, z5, z6, z7, z8⟩ := c2
            have j4 : ((fi = -1 ∧ nI j = -1 ∧ ∀ x, x < j + 1 → ¬ clI (thR K hs i) lD lL x = 0) ∨ ∃ x y, fi = nI x ∧ nI j = nI y ∧ x < j + 1 ∧ y < j + 1 ∧ clI (thR K hs i) lD lL x = 0 ∧ clI (thR K hs i) lD lL y = 0 ∧ (∀ u, u < x → ¬ clI (thR K hs i) lD lL u = 0) ∧ ∀ u, y < u → u < j + 1 → ¬ clI (thR K hs i) lD lL u = 0) := Or.inr ⟨x, j, z1, rfl, by omega, by omega, z5, c, z7, fun u h1 h2 => by omega⟩
            refine r_iload (pc := 73) dX12_clean_73 rfl ?_
            refine r_istore (pc := 75) dX12_clean_75 (Nat.le_of_ble_eq_true rfl) rfl ?_
            dsimp only [lset]
            refine r_iload (pc := 77) dX12_clean_77 rfl ?_
            refine r_istore (pc := 79) dX12_clean_79 (Nat.le_of_ble_eq_true rfl) rfl ?_
            dsimp only [lset]
            refine r_iinc1 (pc := 81) dX12_clean_81 rfl (Nat.le_of_ble_eq_true rfl) rfl ?_
            dsimp only [lset]
            refine r_goto (pc := 84) 40 dX12_clean_84 (by decide) ?_
            rw [nI_1]
            first
            | exact ih _ _ _ _ j3 j4
            | (refine ih _ _ _ _ j3 ?_
               rcases j2 with ⟨y1, y2, y3⟩ | ⟨x, y, z1, z2, z3, z4, z5, z6, z7, z8⟩
               · exact Or.inl ⟨y1, y2, fun u hu => by
                   by_cases e : u = j
                   · rw [e]; exact c
                   · exact y3 u (by omega)⟩
               · exact Or.inr ⟨x, y, z1, z2, by omega, by omega, z5, z6, z7, fun u h1 h2 => by
                   by_cases e : u = j
                   · rw [e]; exact c
                   · exact z8 u h1 (by omega)⟩)
          · skip
            have c2 : ∀ x, x < j → ¬ clI (thR K hs i) lD lL x = 0 := by
              rcases j2 with ⟨-, -, j2⟩ | ⟨x, y, z1, z2, z3, z4, z5⟩
              · exact j2
              · exact absurd (by rw [z1, i32_le0, nI_T (by omega)]; omega) c65
            have j4 : ((nI j = -1 ∧ nI j = -1 ∧ ∀ x, x < j + 1 → ¬ clI (thR K hs i) lD lL x = 0) ∨ ∃ x y, nI j = nI x ∧ nI j = nI y ∧ x < j + 1 ∧ y < j + 1 ∧ clI (thR K hs i) lD lL x = 0 ∧ clI (thR K hs i) lD lL y = 0 ∧ (∀ u, u < x → ¬ clI (thR K hs i) lD lL u = 0) ∧ ∀ u, y < u → u < j + 1 → ¬ clI (thR K hs i) lD lL u = 0) := Or.inr ⟨j, j, rfl, rfl, by omega, by omega, c, c, c2, fun u h1 h2 => by omega⟩
            refine r_iload (pc := 68) dX12_clean_68 rfl ?_
            refine r_goto (pc := 70) 75 dX12_clean_70 (by decide) ?_
            refine r_istore (pc := 75) dX12_clean_75 (Nat.le_of_ble_eq_true rfl) rfl ?_
            dsimp only [lset]
            refine r_iload (pc := 77) dX12_clean_77 rfl ?_
            refine r_istore (pc := 79) dX12_clean_79 (Nat.le_of_ble_eq_true rfl) rfl ?_
            dsimp only [lset]
            refine r_iinc1 (pc := 81) dX12_clean_81 rfl (Nat.le_of_ble_eq_true rfl) rfl ?_
            dsimp only [lset]
            refine r_goto (pc := 84) 40 dX12_clean_84 (by decide) ?_
            rw [nI_1]
            first
            | exact ih _ _ _ _ j3 j4
            | (refine ih _ _ _ _ j3 ?_
               rcases j2 with ⟨y1, y2, y3⟩ | ⟨x, y, z1, z2, z3, z4, z5, z6, z7, z8⟩
               · exact Or.inl ⟨y1, y2, fun u hu => by
                   by_cases e : u = j
                   · rw [e]; exact c
                   · exact y3 u (by omega)⟩
               · exact Or.inr ⟨x, y, z1, z2, by omega, by omega, z5, z6, z7, fun u h1 h2 => by
                   by_cases e : u = j
                   · rw [e]; exact c
                   · exact z8 u h1 (by omega)⟩)
  refine aw_P (P' := MP m h s A) (fun _ q => q) ?_
  refine r_aload_n (pc := 0) dX12_clean_0 rfl ?_
  refine r_iload_n (pc := 1) dX12_clean_1 rfl ?_
  refine r_Vi (pc := 2) (μ' := mX12_isHand) dX12_clean_2 nX12_98 iX12_isHand vX12_isHand kX12_isHand rfl rfl (rr (by decide) rfl) rfl ⟨Nat.zero_le _, Nat.zero_le _⟩ (fun _ q_ => cvq q_ (ct_M_isHand hm)) ?_
  rw [q.hb]
  refine r_if_eq (pc := 5) 17 dX12_clean_5 (by decide) (fun c5 => ?_) (fun c5 => ?_)
  · skip
    have k1 := b2i_0.mp c5
    refine r_aload_n (pc := 17) dX12_clean_17 rfl ?_
    refine r_ldc (pc := 18) (v := (-1000000001)) dX12_clean_18 qX12_61 ?_
    refine r_Vi (pc := 20) (μ' := mX12_errs) dX12_clean_20 nX12_62 iX12_errs vX12_errs kX12_errs rfl rfl (rr (by decide) rfl) rfl ⟨Nat.zero_le _, Nat.zero_le _⟩ (fun _ q_ => cvq q_ (ct_M_errs hm 1 (by decide) (by decide))) ?_
    rw [show (-1000000001 : Int32) = -1000000000 - 1 from rfl]
    refine r_ireturn (pc := 23) (ty := .int) dX12_clean_23 rfl rfl ⟨Nat.zero_le _, Nat.zero_le _⟩ (fun gE hg => ?_)
    exact mR hg (e1 (by first | (rw [k1]; rfl) | (rw [k1]; exact k2)) _ _ (q.err (by decide) rfl))
  · skip
    have k1 := b2i_n0.mp c5
    refine r_iload_n (pc := 8) dX12_clean_8 rfl ?_
    refine r_iconst (pc := 9) (v := 0) dX12_clean_9 (by decide) ?_
    refine r_iconst (pc := 10) (v := 1) dX12_clean_10 (by decide) ?_
    refine r_Sp (pc := 11) (μ' := mX12_in) dX12_clean_11 nX12_57 sX12_in kX12_in rfl rfl (rr (by decide) rfl) rfl ⟨Nat.zero_le _, Nat.zero_le _⟩ (fun h => ct_M_in h) ?_
    refine r_if_ne (pc := 14) 24 dX12_clean_14 (by decide) (fun c14 => ?_) (fun c14 => ?_)
    · skip
      have k2 := b2i_n0.mp c14
      obtain ⟨i, hi, hi2⟩ := hd_t k1 hok
      refine r_aload_n (pc := 24) dX12_clean_24 rfl ?_
      refine r_getf (pc := 25) (k := 0) dX12_clean_25 hX12 eX12 (by decide) fX12_7 (fun _ q => mo hm q) rfl ?_
      refine r_iconst (pc := 28) (v := 3) dX12_clean_28 (by decide) ?_
      refine r_ml (pc := 29) (i := 0) (j := 3) hm dX12_clean_29 (by decide) rfl (by decide) ?_
      rw [q.rk.2.2.2.1]
      refine r_istore_n (pc := 30) dX12_clean_30 rfl (Nat.le_of_ble_eq_true rfl) rfl ?_
      dsimp only [lset]
      refine r_iconst (pc := 31) (v := (-1)) dX12_clean_31 (by decide) ?_
      refine r_istore (pc := 32) dX12_clean_32 (Nat.le_of_ble_eq_true rfl) rfl ?_
      dsimp only [lset]
      refine r_iconst (pc := 34) (v := (-1)) dX12_clean_34 (by decide) ?_
      refine r_istore (pc := 35) dX12_clean_35 (Nat.le_of_ble_eq_true rfl) rfl ?_
      dsimp only [lset]
      refine r_iconst (pc := 37) (v := 0) dX12_clean_37 (by decide) ?_
      refine r_istore (pc := 38) dX12_clean_38 (Nat.le_of_ble_eq_true rfl) rfl ?_
      dsimp only [lset]
      rw [hi]
      exact L i hi hi2 k2 0 (Nat.zero_le _) _ _ s A ⟨fun _ _ _ => rfl, fun _ _ => rfl, fun _ _ => rfl, q.2.2.1.2.2⟩ (Or.inl ⟨rfl, rfl, fun x hx => absurd hx (Nat.not_lt_zero x)⟩)
    · skip
      have k2 := b2i_0.mp c14
      refine r_aload_n (pc := 17) dX12_clean_17 rfl ?_
      refine r_ldc (pc := 18) (v := (-1000000001)) dX12_clean_18 qX12_61 ?_
      refine r_Vi (pc := 20) (μ' := mX12_errs) dX12_clean_20 nX12_62 iX12_errs vX12_errs kX12_errs rfl rfl (rr (by decide) rfl) rfl ⟨Nat.zero_le _, Nat.zero_le _⟩ (fun _ q_ => cvq q_ (ct_M_errs hm 1 (by decide) (by decide))) ?_
      rw [show (-1000000001 : Int32) = -1000000000 - 1 from rfl]
      refine r_ireturn (pc := 23) (ty := .int) dX12_clean_23 rfl rfl ⟨Nat.zero_le _, Nat.zero_le _⟩ (fun gE hg => ?_)
      exact mR hg (e1 (by first | (rw [k1]; rfl) | (rw [k1]; exact k2)) _ _ (q.err (by decide) rfl))
end Morder
