/-! THE REFERENCE, whole: what is done, days, SEAMS, what is counted, images -/
theorem upd_2 {f : Nat → Int32} {k : Nat} {x y : Int32} : upd (upd f k x) k y = upd f k y := by
  funext j
  unfold upd
  split <;> rfl
theorem upd_id {f : Nat → Int32} {k : Nat} {x : Int32} (h : f k = x) : upd f k x = f := by
  funext j
  unfold upd
  split
  · rename_i e; rw [e, h]
  · rfl
section Mdone
variable {m : Nat} {h : AH} {K K2 : CK} {hs hs2 : List (Nat × Nat)} {tD tL tD2 tL2 : Option (List Int32)} {tp wa tp2 wa2 hd er lD lL : List Int32} {z im z2 : Int32} {k : MK} {bt : Nat → Int32} {sh : Nat → List Int32} {s s2 : Nat → Int32} {A A2 : Nat → Nat → Int32} {Q : Option Value → AH → Prop} {f : Nat → Int32}
theorem ct_M_drawn0 (hm : m + 14 < h.1) {n : Nat} (h0 : 0 < n) (hn : n ≤ 4000) : CV 1 0 0 mX12_drawn m [.int (nI n)] (mh m h s (upA A 0 f)) (fun v g => v = some (.int (nI (drawN (f 7) n))) ∧ MP m h s (upA A 0 (upd f 7 (drawI (f 7)))) g) := by
  have := ct_M_drawn (s := s) (A := upA A 0 f) hm h0 hn
  rw [upA_2, upA_s] at this
  exact this
theorem s18_any (s : Nat → Int32) (K : CK) : s 18 = (s 18 - nI K.2.2.2.2.2.2.2.1) + nI K.2.2.2.2.2.2.2.1 := (Int32.sub_add_cancel _ _).symm
set_option maxHeartbeats 4000000 in
theorem ct_M_rollsBy (hm : m + 14 < h.1) {i sx : Nat} {up : Bool} {c0 : Int32} (hi : i < hs.length) (hok : HOk hs) (rh : RMh hs f) (hs' : sx < kSt K) (ok : KOk K) (rk : RMk K f) (hc0 : s 18 = c0 + nI K.2.2.2.2.2.2.2.1) : CV 3 0 0 mX12_rollsBy m [.int (nI i), .int (nI sx), .int (b2i up)] (mh m h s (upA A 0 f)) (fun v g => v = none ∧ ∃ s2 f2, (RMk (paintK (hKd hs i) (hMn hs i) sx up K) f2 ∧ (∀ j, RJ j → f2 j = f j) ∧ (s2 18 = c0 + nI (paintK (hKd hs i) (hMn hs i) sx up K).2.2.2.2.2.2.2.1 ∧ sEq 18 s s2)) ∧ MP m h s2 (upA A 0 f2) g) := by
  refine ⟨mV hm, ?_⟩
  refine ct_of (by decide) (fun _ _ => Nat.le_of_ble_eq_true rfl) ?_
  dsimp only [pad, ent]
  refine aw_P (P' := MP m h s (upA A 0 f)) (fun _ q => q) ?_
  have h6 := hok.1
  obtain ⟨r1, r2⟩ := rh.2 i hi
  have hh := hok.at hi
  have ct := ct_M_rolls (h := h) (A := upA A 0 f) (up := up) hm hh.1 hh.2 hs' ok (show RMk K ((upA A 0 f) 0) from rk) hc0
  simp only [upA_2] at ct
  refine r_aload_n (pc := 0) dX12_rollsBy_0 rfl ?_
  refine r_aload_n (pc := 1) dX12_rollsBy_1 rfl ?_
  refine r_iload_n (pc := 2) dX12_rollsBy_2 rfl ?_
  refine r_Vi (pc := 3) (μ' := mX12_kindOf) dX12_rollsBy_3 nX12_101 iX12_kindOf vX12_kindOf kX12_kindOf rfl rfl (rr (by decide) rfl) rfl ⟨Nat.zero_le _, Nat.zero_le _⟩ (fun _ q_ => cvq q_ (ct_M_kindOf hm (show i < 6 by omega))) ?_
  rw [show upA A 0 f 0 (13 + 2 * i) = nI (hKd hs i) from r1]
  refine r_aload_n (pc := 6) dX12_rollsBy_6 rfl ?_
  refine r_iload_n (pc := 7) dX12_rollsBy_7 rfl ?_
  refine r_Vi (pc := 8) (μ' := mX12_mOf) dX12_rollsBy_8 nX12_104 iX12_mOf vX12_mOf kX12_mOf rfl rfl (rr (by decide) rfl) rfl ⟨Nat.zero_le _, Nat.zero_le _⟩ (fun _ q_ => cvq q_ (ct_M_mOf hm (show i < 6 by omega))) ?_
  rw [show upA A 0 f 0 (14 + 2 * i) = nI (hMn hs i) from r2]
  refine r_iload_n (pc := 11) dX12_rollsBy_11 rfl ?_
  refine r_iload_n (pc := 12) dX12_rollsBy_12 rfl ?_
  refine r_Vv (pc := 13) (μ' := mX12_rolls) dX12_rollsBy_13 nX12_195 iX12_rolls vX12_rolls kX12_rolls rfl rfl (rr (by decide) rfl) rfl ⟨Nat.zero_le _, Nat.zero_le _⟩ (fun _ q_ => cvq q_ (ct)) ?_
  refine r_return (pc := 16) dX12_rollsBy_16 rfl ⟨Nat.zero_le _, Nat.zero_le _⟩ (fun gE hg => ?_)
  exact ⟨rfl, hg⟩
set_option maxHeartbeats 4000000 in
theorem cm_roll (hm : m + 14 < h.1) {a b c : Int32} (q : MG K hs tD tL tp wa z k bt sh hd er im s A) (ok : KOk K) (hmi : kMi K ≤ 9999) (hok : HOk hs) (e1 : (hdB hs a && decide (0 ≤ b.toInt ∧ b.toInt < kSt K) && wiB c 0 1) = false → ∀ s2 A2, MG K hs tD tL tp wa z k bt sh hd (errL er 1) im s2 A2 → Q (some (.int (-1000000000 - 1))) (mh m h s2 A2)) (e3 : (hdB hs a && decide (0 ≤ b.toInt ∧ b.toInt < kSt K) && wiB c 0 1) = true → ¬ kMi K ≤ 9900 → ∀ s2 A2, MG K hs tD tL tp wa z k bt sh hd (errL er 3) im s2 A2 → Q (some (.int (-1000000000 - 3))) (mh m h s2 A2)) (hP : ∀ i sx, a = nI i → i < hs.length → b = nI sx → sx < kSt K → wiB c 0 1 = true → kMi K ≤ 9900 → ∀ s2 A2, MG (paintK (hKd hs i) (hMn hs i) sx (decide (c = 1)) K) hs tD tL tp wa z k bt sh hd er im s2 A2 → Q (some (.int (nI (kMi (paintK (hKd hs i) (hMn hs i) sx (decide (c = 1)) K))))) (mh m h s2 A2)) : CV 6 0 0 mX12_roll m [.int a, .int b, .int c] (mh m h s A) Q := by
  refine ⟨mV hm, ?_⟩
  refine ct_of (by decide) (fun _ _ => Nat.le_of_ble_eq_true rfl) ?_
  dsimp only [pad, ent]
  have hst : 1 ≤ kSt K ∧ kSt K ≤ 6 := ok.2.1
  have hTm : (nI (kMi K)).toInt = (kMi K : Int) := nI_toInt (n := kMi K) (by omega)
  refine aw_P (P' := MP m h s A) (fun _ q => q) ?_
  refine r_aload_n (pc := 0) dX12_roll_0 rfl ?_
  refine r_iload_n (pc := 1) dX12_roll_1 rfl ?_
  refine r_Vi (pc := 2) (μ' := mX12_isHand) dX12_roll_2 nX12_98 iX12_isHand vX12_isHand kX12_isHand rfl rfl (rr (by decide) rfl) rfl ⟨Nat.zero_le _, Nat.zero_le _⟩ (fun _ q_ => cvq q_ (ct_M_isHand hm)) ?_
  rw [q.hb]
  refine r_if_eq (pc := 5) 25 dX12_roll_5 (by decide) (fun c5 => ?_) (fun c5 => ?_)
  · skip
    have k1 := b2i_0.mp c5
    refine r_aload_n (pc := 25) dX12_roll_25 rfl ?_
    refine r_ldc (pc := 26) (v := (-1000000001)) dX12_roll_26 qX12_61 ?_
    refine r_Vi (pc := 28) (μ' := mX12_errs) dX12_roll_28 nX12_62 iX12_errs vX12_errs kX12_errs rfl rfl (rr (by decide) rfl) rfl ⟨Nat.zero_le _, Nat.zero_le _⟩ (fun _ q_ => cvq q_ (ct_M_errs hm 1 (by decide) (by decide))) ?_
    rw [show (-1000000001 : Int32) = -1000000000 - 1 from rfl]
    refine r_ireturn (pc := 31) (ty := .int) dX12_roll_31 rfl rfl ⟨Nat.zero_le _, Nat.zero_le _⟩ (fun gE hg => ?_)
    exact mR hg (e1 (by first | (rw [k1]; rfl) | (rw [k1, k2]; rfl) | (rw [k1, k2, k3]; rfl)) _ _ (q.err (by decide) rfl))
  · skip
    have k1 := b2i_n0.mp c5
    refine r_aload_n (pc := 8) dX12_roll_8 rfl ?_
    refine r_iload_n (pc := 9) dX12_roll_9 rfl ?_
    refine r_Vi (pc := 10) (μ' := mX12_isStrip) dX12_roll_10 nX12_199 iX12_isStrip vX12_isStrip kX12_isStrip rfl rfl (rr (by decide) rfl) rfl ⟨Nat.zero_le _, Nat.zero_le _⟩ (fun _ q_ => cvq q_ (ct_M_isStrip hm)) ?_
    rw [q.stb ok]
    refine r_if_eq (pc := 13) 25 dX12_roll_13 (by decide) (fun c13 => ?_) (fun c13 => ?_)
    · skip
      have k2 := b2i_0.mp c13
      refine r_aload_n (pc := 25) dX12_roll_25 rfl ?_
      refine r_ldc (pc := 26) (v := (-1000000001)) dX12_roll_26 qX12_61 ?_
      refine r_Vi (pc := 28) (μ' := mX12_errs) dX12_roll_28 nX12_62 iX12_errs vX12_errs kX12_errs rfl rfl (rr (by decide) rfl) rfl ⟨Nat.zero_le _, Nat.zero_le _⟩ (fun _ q_ => cvq q_ (ct_M_errs hm 1 (by decide) (by decide))) ?_
      rw [show (-1000000001 : Int32) = -1000000000 - 1 from rfl]
      refine r_ireturn (pc := 31) (ty := .int) dX12_roll_31 rfl rfl ⟨Nat.zero_le _, Nat.zero_le _⟩ (fun gE hg => ?_)
      exact mR hg (e1 (by first | (rw [k1]; rfl) | (rw [k1, k2]; rfl) | (rw [k1, k2, k3]; rfl)) _ _ (q.err (by decide) rfl))
    · skip
      have k2 := b2i_n0.mp c13
      refine r_iload_n (pc := 16) dX12_roll_16 rfl ?_
      refine r_iconst (pc := 17) (v := 0) dX12_roll_17 (by decide) ?_
      refine r_iconst (pc := 18) (v := 1) dX12_roll_18 (by decide) ?_
      refine r_Sp (pc := 19) (μ' := mX12_in) dX12_roll_19 nX12_57 sX12_in kX12_in rfl rfl (rr (by decide) rfl) rfl ⟨Nat.zero_le _, Nat.zero_le _⟩ (fun h => ct_M_in h) ?_
      refine r_if_ne (pc := 22) 32 dX12_roll_22 (by decide) (fun c22 => ?_) (fun c22 => ?_)
      · skip
        have k3 := b2i_n0.mp c22
        have k5 := of_decide_eq_true k2
        obtain ⟨i, hi, hi2⟩ := hd_t k1 hok
        obtain ⟨sx, hs1, hs2⟩ : ∃ sx, b = nI sx ∧ sx < kSt K := ⟨b.toInt.toNat, (nI_tn (by omega) (by omega)).symm, by omega⟩
        refine r_aload_n (pc := 32) dX12_roll_32 rfl ?_
        refine r_getf (pc := 33) (k := 0) dX12_roll_33 hX12 eX12 (by decide) fX12_7 (fun _ q => mo hm q) rfl ?_
        refine r_iconst (pc := 36) (v := 2) dX12_roll_36 (by decide) ?_
        refine r_ml (pc := 37) (i := 0) (j := 2) hm dX12_roll_37 (by decide) rfl (by decide) ?_
        rw [q.rk.2.2.1]
        refine r_sipush (pc := 38) (v := 9900) dX12_roll_38 (by decide) ?_
        refine r_icmp_le (pc := 41) 51 dX12_roll_41 (by decide) (fun c41 => ?_) (fun c41 => ?_)
        · skip
          have k4 : kMi K ≤ 9900 := by have := fa_le.mp c41; rw [hTm, show (9900 : Int32).toInt = 9900 from rfl] at this; omega
          have h7 := hP i sx hi hi2 hs1 hs2 k3 k4
          have hup : c = b2i (decide (c = 1)) := by
            rcases wi01.mp k3 with e | e
            · rw [e]; rfl
            · rw [e]; rfl
          refine r_aload_n (pc := 51) dX12_roll_51 rfl ?_
          refine r_iload_n (pc := 52) dX12_roll_52 rfl ?_
          refine r_iload_n (pc := 53) dX12_roll_53 rfl ?_
          refine r_iload_n (pc := 54) dX12_roll_54 rfl ?_
          rw [hi, hs1, show Value.int c = .int (b2i (decide (c = 1))) from congrArg _ hup]
          refine aw_P (P' := MP m h s (upA A 0 (A 0))) (fun _ q => by rw [upA_id]; exact q) ?_
          refine r_Vv (pc := 55) (μ' := mX12_rollsBy) dX12_roll_55 nX12_203 iX12_rollsBy vX12_rollsBy kX12_rollsBy rfl rfl (rr (by decide) rfl) rfl ⟨Nat.zero_le _, Nat.zero_le _⟩ (fun _ q_ => cvq q_ (ct_M_rollsBy hm hi2 hok q.rr.2.1.1 hs2 ok q.rk (s18_any s K))) ?_
          refine aw_ex fun s3 => aw_ex fun f3 => aw_pr fun q3 => ?_
          refine r_aload_n (pc := 58) dX12_roll_58 rfl ?_
          refine r_getf (pc := 59) (k := 0) dX12_roll_59 hX12 eX12 (by decide) fX12_7 (fun _ q => mo hm q) rfl ?_
          refine r_iconst (pc := 62) (v := 2) dX12_roll_62 (by decide) ?_
          refine r_ml (pc := 63) (i := 0) (j := 2) hm dX12_roll_63 (by decide) rfl (by decide) ?_
          rw [show upA A 0 f3 0 2 = _ from q3.1.2.2.1]
          refine r_ireturn (pc := 64) (ty := .int) dX12_roll_64 rfl rfl ⟨Nat.zero_le _, Nat.zero_le _⟩ (fun gE hg => ?_)
          exact mR hg (h7 _ _ (q.to ⟨q3.2.2.2 4 (by omega), q3.2.2.2 5 (by omega), q3.2.2.2 9 (by omega), q3.2.2.2 26 (by omega)⟩ (fun i hi => upA_n (by omega)) q3.1 (q.rr.ext q3.2.1)))
        · skip
          have k4 : ¬ kMi K ≤ 9900 := fun x => c41 (fa_le.mpr (by rw [hTm, show (9900 : Int32).toInt = 9900 from rfl]; omega))
          refine r_aload_n (pc := 44) dX12_roll_44 rfl ?_
          refine r_ldc (pc := 45) (v := (-1000000003)) dX12_roll_45 qX12_202 ?_
          refine r_Vi (pc := 47) (μ' := mX12_errs) dX12_roll_47 nX12_62 iX12_errs vX12_errs kX12_errs rfl rfl (rr (by decide) rfl) rfl ⟨Nat.zero_le _, Nat.zero_le _⟩ (fun _ q_ => cvq q_ (ct_M_errs hm 3 (by decide) (by decide))) ?_
          rw [show (-1000000003 : Int32) = -1000000000 - 3 from rfl]
          refine r_ireturn (pc := 50) (ty := .int) dX12_roll_50 rfl rfl ⟨Nat.zero_le _, Nat.zero_le _⟩ (fun gE hg => ?_)
          exact mR hg (e3 (by rw [k1, k2, k3]; rfl) k4 _ _ (q.err (by decide) rfl))
      · skip
        have k3 := b2i_0.mp c22
        refine r_aload_n (pc := 25) dX12_roll_25 rfl ?_
        refine r_ldc (pc := 26) (v := (-1000000001)) dX12_roll_26 qX12_61 ?_
        refine r_Vi (pc := 28) (μ' := mX12_errs) dX12_roll_28 nX12_62 iX12_errs vX12_errs kX12_errs rfl rfl (rr (by decide) rfl) rfl ⟨Nat.zero_le _, Nat.zero_le _⟩ (fun _ q_ => cvq q_ (ct_M_errs hm 1 (by decide) (by decide))) ?_
        rw [show (-1000000001 : Int32) = -1000000000 - 1 from rfl]
        refine r_ireturn (pc := 31) (ty := .int) dX12_roll_31 rfl rfl ⟨Nat.zero_le _, Nat.zero_le _⟩ (fun gE hg => ?_)
        exact mR hg (e1 (by first | (rw [k1]; rfl) | (rw [k1, k2]; rfl) | (rw [k1, k2, k3]; rfl)) _ _ (q.err (by decide) rfl))
theorem RMk_mi {f : Nat → Int32} {x : Nat} (q : RMk K f) : RMk (setMi K x) (upd f 2 (nI x)) := by
  obtain ⟨ro, st, mi, he, le, wh, si, ca, w, v⟩ := K
  obtain ⟨q0, q1, q2, q3, q4, q5, q6, q7⟩ := q
  exact ⟨(upd_n (by omega)).trans q0, (upd_n (by omega)).trans q1, upd_s, (upd_n (by omega)).trans q3, (upd_n (by omega)).trans q4, (upd_n (by omega)).trans q5, (upd_n (by omega)).trans q6, fun r s hr hs => ⟨(upd_n (by omega)).trans (q7 r s hr hs).1, (upd_n (by omega)).trans (q7 r s hr hs).2⟩⟩
set_option maxHeartbeats 4000000 in
theorem cm_minutes (hm : m + 14 < h.1) {a : Int32} (q : MG K hs tD tL tp wa z k bt sh hd er im s A) (hmi : kMi K ≤ 9999) (e1 : wiB a 1 500 = false → ∀ s2 A2, MG K hs tD tL tp wa z k bt sh hd (errL er 1) im s2 A2 → Q (some (.int (-1000000000 - 1))) (mh m h s2 A2)) (e3 : ∀ n, a = nI n → 1 ≤ n → n ≤ 500 → ¬ kMi K + n ≤ 9999 → ∀ s2 A2, MG K hs tD tL tp wa z k bt sh hd (errL er 3) im s2 A2 → Q (some (.int (-1000000000 - 3))) (mh m h s2 A2)) (hP : ∀ n, a = nI n → 1 ≤ n → n ≤ 500 → kMi K + n ≤ 9999 → ∀ s2 A2, MG (setMi K (kMi K + n)) hs tD tL tp wa z k bt sh hd er im s2 A2 → Q (some (.int (nI (kMi K + n)))) (mh m h s2 A2)) : CV 4 0 0 mX12_minutes m [.int a] (mh m h s A) Q := by
  refine ⟨mV hm, ?_⟩
  refine ct_of (by decide) (fun _ _ => Nat.le_of_ble_eq_true rfl) ?_
  dsimp only [pad, ent]
  refine aw_P (P' := MP m h s A) (fun _ q => q) ?_
  have r2 := q.rk.2.2.1
  refine r_iload_n (pc := 0) dX12_minutes_0 rfl ?_
  refine r_iconst (pc := 1) (v := 1) dX12_minutes_1 (by decide) ?_
  refine r_sipush (pc := 2) (v := 500) dX12_minutes_2 (by decide) ?_
  refine r_Sp (pc := 5) (μ' := mX12_in) dX12_minutes_5 nX12_57 sX12_in kX12_in rfl rfl (rr (by decide) rfl) rfl ⟨Nat.zero_le _, Nat.zero_le _⟩ (fun h => ct_M_in h) ?_
  refine r_if_ne (pc := 8) 18 dX12_minutes_8 (by decide) (fun c8 => ?_) (fun c8 => ?_)
  · skip
    have k1 := b2i_n0.mp c8
    have w1 := wi_t k1
    rw [t1, show (500 : Int32).toInt = 500 from rfl] at w1
    obtain ⟨n, hn, h1, h2⟩ : ∃ n, a = nI n ∧ 1 ≤ n ∧ n ≤ 500 := ⟨a.toInt.toNat, (nI_tn (by omega) (by omega)).symm, by omega, by omega⟩
    have hT := nI_toInt (n := kMi K + n) (by omega)
    refine r_aload_n (pc := 18) dX12_minutes_18 rfl ?_
    refine r_getf (pc := 19) (k := 0) dX12_minutes_19 hX12 eX12 (by decide) fX12_7 (fun _ q => mo hm q) rfl ?_
    refine r_iconst (pc := 22) (v := 2) dX12_minutes_22 (by decide) ?_
    refine r_ml (pc := 23) (i := 0) (j := 2) hm dX12_minutes_23 (by decide) rfl (by decide) ?_
    rw [r2, hn]
    refine r_iload_n (pc := 24) dX12_minutes_24 rfl ?_
    refine r_iadd (pc := 25) dX12_minutes_25 ?_
    rw [nI_add]
    refine r_sipush (pc := 26) (v := 9999) dX12_minutes_26 (by decide) ?_
    refine r_icmp_le (pc := 29) 39 dX12_minutes_29 (by decide) (fun c29 => ?_) (fun c29 => ?_)
    · skip
      have k3 : kMi K + n ≤ 9999 := by have := fa_le.mp c29; rw [hT, show (9999 : Int32).toInt = 9999 from rfl] at this; omega
      refine aw_P (P' := MP m h s (upA A 0 (A 0))) (fun _ q => by rw [upA_id]; exact q) ?_
      refine r_aload_n (pc := 39) dX12_minutes_39 rfl ?_
      refine r_getf (pc := 40) (k := 0) dX12_minutes_40 hX12 eX12 (by decide) fX12_7 (fun _ q => mo hm q) rfl ?_
      refine r_iconst (pc := 43) (v := 2) dX12_minutes_43 (by decide) ?_
      refine r_dup2 (pc := 44) dX12_minutes_44 rfl rfl ?_
      refine r_rl (pc := 45) (j := 2) hm dX12_minutes_45 rfl (by decide) ?_
      rw [r2]
      refine r_iload_n (pc := 46) dX12_minutes_46 rfl ?_
      refine r_iadd (pc := 47) dX12_minutes_47 ?_
      rw [nI_add]
      refine r_rs (pc := 48) (j := 2) hm dX12_minutes_48 rfl (by decide) ?_
      refine r_aload_n (pc := 49) dX12_minutes_49 rfl ?_
      refine r_getf (pc := 50) (k := 0) dX12_minutes_50 hX12 eX12 (by decide) fX12_7 (fun _ q => mo hm q) rfl ?_
      refine r_iconst (pc := 53) (v := 2) dX12_minutes_53 (by decide) ?_
      refine r_rl (pc := 54) (j := 2) hm dX12_minutes_54 rfl (by decide) ?_
      rw [upd_s]
      refine r_ireturn (pc := 55) (ty := .int) dX12_minutes_55 rfl rfl ⟨Nat.zero_le _, Nat.zero_le _⟩ (fun gE hg => ?_)
      exact mR hg (hP n hn h1 h2 k3 _ _ (q.row (RMk_mi q.rk) (q.rr.ext fun j hj => upd_n (by unfold RJ at hj; omega))))
    · skip
      have k3 : ¬ kMi K + n ≤ 9999 := fun x => c29 (fa_le.mpr (by rw [hT, show (9999 : Int32).toInt = 9999 from rfl]; omega))
      refine r_aload_n (pc := 32) dX12_minutes_32 rfl ?_
      refine r_ldc (pc := 33) (v := (-1000000003)) dX12_minutes_33 qX12_202 ?_
      refine r_Vi (pc := 35) (μ' := mX12_errs) dX12_minutes_35 nX12_62 iX12_errs vX12_errs kX12_errs rfl rfl (rr (by decide) rfl) rfl ⟨Nat.zero_le _, Nat.zero_le _⟩ (fun _ q_ => cvq q_ (ct_M_errs hm 3 (by decide) (by decide))) ?_
      rw [show (-1000000003 : Int32) = -1000000000 - 3 from rfl]
      refine r_ireturn (pc := 38) (ty := .int) dX12_minutes_38 rfl rfl ⟨Nat.zero_le _, Nat.zero_le _⟩ (fun gE hg => ?_)
      exact mR hg (e3 n hn h1 h2 k3 _ _ (q.err (by decide) rfl))
  · skip
    have k1 := b2i_0.mp c8
    refine r_aload_n (pc := 11) dX12_minutes_11 rfl ?_
    refine r_ldc (pc := 12) (v := (-1000000001)) dX12_minutes_12 qX12_61 ?_
    refine r_Vi (pc := 14) (μ' := mX12_errs) dX12_minutes_14 nX12_62 iX12_errs vX12_errs kX12_errs rfl rfl (rr (by decide) rfl) rfl ⟨Nat.zero_le _, Nat.zero_le _⟩ (fun _ q_ => cvq q_ (ct_M_errs hm 1 (by decide) (by decide))) ?_
    rw [show (-1000000001 : Int32) = -1000000000 - 1 from rfl]
    refine r_ireturn (pc := 17) (ty := .int) dX12_minutes_17 rfl rfl ⟨Nat.zero_le _, Nat.zero_le _⟩ (fun gE hg => ?_)
    exact mR hg (e1 k1 _ _ (q.err (by decide) rfl))
theorem RMr_z {f : Nat → Int32} (q : RMr hs tD tL tp wa z f) : RMr hs tD tL tp wa z2 (upd f 7 z2) := by
  obtain ⟨q1, ⟨q2, q3⟩, q4, q5, ⟨q6, q7⟩, q8, q9⟩ := q
  refine ⟨upd_s, ⟨⟨(upd_n (by omega)).trans q2.1, fun i hi => ⟨(upd_n (by omega)).trans (q2.2 i hi).1, (upd_n (by omega)).trans (q2.2 i hi).2⟩⟩, q3⟩, ?_, ?_, ⟨⟨(upd_n (by omega)).trans q6.1, fun j hj => (upd_n (by omega)).trans (q6.2 j hj)⟩, q7⟩, ⟨(upd_n (by omega)).trans q8.1, fun j hj => (upd_n (by omega)).trans (q8.2 j hj)⟩, q9⟩
  · rw [upd_n (by omega)]; exact q4.ext fun j hj => upd_n (by omega)
  · rw [upd_n (by omega)]; exact q5.ext fun j hj => upd_n (by omega)
theorem RMk_z {f : Nat → Int32} (ok : KOk K) (q : RMk K f) : RMk K (upd f 7 z2) := q.ext2 ok fun j hj => upd_n (by omega)
theorem cap9_is {a : Nat} (h : a ≤ 1000000) : heI (nI a) 0 9999 = nI (cap9 a) := by
  have hT := nI_toInt (n := a) (by omega)
  unfold heI cap9
  rw [if_neg (nI_pos (by omega))]
  by_cases c : a < 9999
  · rw [if_pos c, if_neg (fun x => by have := fa_lt.mp x; rw [hT, show (9999 : Int32).toInt = 9999 from rfl] at this; omega)]
  · rw [if_neg c]
    by_cases e : a = 9999
    · rw [e]; rfl
    · rw [if_pos (fa_lt.mpr (by rw [hT, show (9999 : Int32).toInt = 9999 from rfl]; omega))]; rfl
theorem draw2 (z : Int32) : nI (drawN z 2) = b2i (decide (drawN z 2 = 1)) := by
  have := (draw_ok (z := z) (n := 2) (by decide) (by decide)).2
  have e : drawN z 2 = (drawV z (nI 2)).toInt.toNat := rfl
  rw [← e] at this
  have h2 : drawN z 2 = 0 ∨ drawN z 2 = 1 := by omega
  rcases h2 with c | c
  · rw [c]; rfl
  · rw [c]; rfl
set_option maxHeartbeats 8000000 in
theorem cm_days (hm : m + 14 < h.1) {a : Int32} (q : MG K hs tD tL tp wa z k bt sh hd er im s A) (ok : KOk K) (tb : TB K 9999 9999) (hok : HOk hs) (hD : TR 0 tD lD) (hL : TR 1 tL lL) (e1 : wiB a 1 30 = false → ∀ s2 A2, MG K hs tD tL tp wa z k bt sh hd (errL er 1) im s2 A2 → Q (some (.int (-1000000000 - 1))) (mh m h s2 A2)) (e3 : wiB a 1 30 = true → hs.length = 0 → ∀ s2 A2, MG K hs tD tL tp wa z k bt sh hd (errL er 3) im s2 A2 → Q (some (.int (-1000000000 - 3))) (mh m h s2 A2)) (hP : ∀ n, a = nI n → 1 ≤ n → n ≤ 30 → 0 < hs.length → ∀ s2 A2, MG (dyS hs K z n).1 hs tD tL tp wa (dyS hs K z n).2 k bt sh hd er im s2 A2 → Q (some (.int (nI (seenN (dyS hs K z n).1 (drL lD (kHe (dyS hs K z n).1)) (ltL lL))))) (mh m h s2 A2)) : CV 50 0 0 mX12_days m [.int a] (mh m h s A) Q := by
  refine ⟨mV hm, ?_⟩
  refine ct_of (by decide) (fun _ _ => Nat.le_of_ble_eq_true rfl) ?_
  dsimp only [pad, ent]
  have hlen := hok.1
  have L : ∀ n, a = nI n → 1 ≤ n → n ≤ 30 → 0 < hs.length → ∀ j, j ≤ n → ∀ (s1 f : Nat → Int32), RMk (dyS hs K z j).1 f → RMr hs tD tL tp wa (dyS hs K z j).2 f → sEq 18 s s1 → AW (fun _ => True) (rmd 50 0 0) mX12_days 0 0 36 [some (.ref m), some (.int (nI n)), some (.int (nI j)), none, none, none] [] (MP m h s1 (upA A 0 f)) Q := by
    intro n hn h1 h2 h0
    have hTn := nI_T (n := n) (by omega)
    refine up_loop ?_ ?_
    · intro s1 f q1 q2 q3
      obtain ⟨ok2, tb2⟩ := dyS_ok (z := z) ok tb hok h0 n
      have hse : SE (dyS hs K z n).1 lD lL s1 (upA A 0 f) := ⟨q1, ⟨tD, q2.2.2.1, hD⟩, ⟨tL, q2.2.2.2.1, hL⟩, Or.inl ((q3 9 (by omega)).trans q.2.2.1.2.2)⟩
      refine r_iload_n (pc := 36) dX12_days_36 rfl ?_
      refine r_iload_n (pc := 37) dX12_days_37 rfl ?_
      refine r_icmp_ge (pc := 38) 125 dX12_days_38 (by decide) (fun c38 => ?_) (fun c38 => ?_)
      · skip
        refine r_aload_n (pc := 125) dX12_days_125 rfl ?_
        refine r_Vi (pc := 126) (μ' := mX12_seen) dX12_days_126 nX12_211 iX12_seen vX12_seen kX12_seen rfl rfl (rr (by omega) rfl) rfl ⟨Nat.zero_le _, Nat.zero_le _⟩ (fun _ q_ => cvq q_ (ct_M_seen hm ok2 (tb2.wb (by omega)) hse)) ?_
        refine aw_ex fun s4 => aw_ex fun f6 => aw_pr fun q4 => ?_
        refine r_ireturn (pc := 129) (ty := .int) dX12_days_129 rfl rfl ⟨Nat.zero_le _, Nat.zero_le _⟩ (fun gE hg => ?_)
        exact mR hg (hP n hn h1 h2 h0 _ _ (q.to ⟨(q4.2 4 (by omega)).trans (q3 4 (by omega)), (q4.2 5 (by omega)).trans (q3 5 (by omega)), (q4.2 9 (by omega)).trans (q3 9 (by omega)), (q4.2 26 (by omega)).trans (q3 26 (by omega))⟩ (fun i hi => (upA_n (by omega)).trans (upA_n (by omega))) q1 q2))
      · skip
        exact absurd (fa_le.mpr (Int.le_refl _)) c38
    · intro j hj ih s1 f q1 q2 q3
      obtain ⟨ok2, tb2⟩ := dyS_ok (z := z) ok tb hok h0 j
      have hTj := nI_T (n := j) (by omega)
      have ih2 : ∀ (s1 f : Nat → Int32), RMk (dayK hs (dyS hs K z j).1 (dyS hs K z j).2) f → RMr hs tD tL tp wa (dayZ (dyS hs K z j).2) f → sEq 18 s s1 → AW (fun _ => True) (rmd 50 0 0) mX12_days 0 0 36 [some (.ref m), some (.int (nI n)), some (.int (nI (j + 1))), none, none, none] [] (MP m h s1 (upA A 0 f)) Q := ih
      obtain ⟨Kj, hKj⟩ : ∃ Kj, Kj = (dyS hs K z j).1 := ⟨_, rfl⟩
      obtain ⟨zj, hzj⟩ : ∃ zj, zj = (dyS hs K z j).2 := ⟨_, rfl⟩
      rw [← hKj] at q1 ok2 tb2 ih2
      rw [← hzj] at q2 ih2
      have hst : 1 ≤ kSt Kj ∧ kSt Kj ≤ 6 := ok2.2.1
      have hmi : kMi Kj ≤ 9999 := tb2.1
      have f7 : f 7 = zj := q2.1
      have f8 : f 8 = nI hs.length := q2.2.1.1.1
      have d1 := (draw_ok (z := zj) (n := hs.length) h0 (by omega)).2
      have d2 := (draw_ok (z := drawI zj) (n := kSt Kj) (by omega) (by omega)).2
      have d4 := (draw_ok (z := drawI (drawI (drawI zj))) (n := 8) (by omega) (by omega)).2
      obtain ⟨x, hx⟩ : ∃ x, x = cap9 (kMi Kj + drawN (drawI (drawI (drawI zj))) 8) := ⟨_, rfl⟩
      have hx9 : x ≤ 9999 := by rw [hx]; exact cap9_le _
      have hTx := nI_toInt (n := x) (by omega)
      have hz4 : dayZ zj = drawI (drawI (drawI (drawI zj))) := rfl
      have r4 : RMr hs tD tL tp wa (dayZ zj) (upd (upd f 7 (dayZ zj)) 2 (nI x)) := (RMr_z q2).ext fun j hj => upd_n (by unfold RJ at hj; omega)
      have k4 : RMk (setMi Kj x) (upd (upd f 7 (dayZ zj)) 2 (nI x)) := RMk_mi (RMk_z ok2 q1)
      have hst2 : kSt (setMi Kj x) = kSt Kj := rfl
      have eK : dayK hs Kj zj = if x ≤ 9900 then paintK (hKd hs (drawN zj hs.length)) (hMn hs (drawN zj hs.length)) (drawN (drawI zj) (kSt Kj)) (decide (drawN (drawI (drawI zj)) 2 = 1)) (setMi Kj x) else setMi Kj x := by rw [hx]; rfl
      refine r_iload_n (pc := 36) dX12_days_36 rfl ?_
      refine r_iload_n (pc := 37) dX12_days_37 rfl ?_
      refine r_icmp_ge (pc := 38) 125 dX12_days_38 (by decide) (fun c38 => ?_) (fun c38 => ?_)
      · skip
        exact absurd c38 (fun x => by have := fa_le.mp x; omega)
      · skip
        refine r_aload_n (pc := 41) dX12_days_41 rfl ?_
        refine r_aload_n (pc := 42) dX12_days_42 rfl ?_
        refine r_getf (pc := 43) (k := 0) dX12_days_43 hX12 eX12 (by decide) fX12_7 (fun _ q => mo hm q) rfl ?_
        refine r_bipush (pc := 46) (v := 8) dX12_days_46 (by decide) ?_
        refine r_rl (pc := 48) (j := 8) hm dX12_days_48 rfl (by decide) ?_
        rw [f8]
        refine r_Vi (pc := 49) (μ' := mX12_drawn) dX12_days_49 nX12_208 iX12_drawn vX12_drawn kX12_drawn rfl rfl (rr (by omega) rfl) rfl ⟨Nat.zero_le _, Nat.zero_le _⟩ (fun _ q_ => cvq q_ (ct_M_drawn0 hm h0 (by omega))) ?_
        rw [f7]
        refine r_istore_n (pc := 52) dX12_days_52 rfl (Nat.le_of_ble_eq_true rfl) rfl ?_
        dsimp only [lset]
        refine r_aload_n (pc := 53) dX12_days_53 rfl ?_
        refine r_aload_n (pc := 54) dX12_days_54 rfl ?_
        refine r_getf (pc := 55) (k := 0) dX12_days_55 hX12 eX12 (by decide) fX12_7 (fun _ q => mo hm q) rfl ?_
        refine r_iconst (pc := 58) (v := 1) dX12_days_58 (by decide) ?_
        refine r_rl (pc := 59) (j := 1) hm dX12_days_59 rfl (by decide) ?_
        rw [upd_n (by omega), q1.2.1]
        refine r_Vi (pc := 60) (μ' := mX12_drawn) dX12_days_60 nX12_208 iX12_drawn vX12_drawn kX12_drawn rfl rfl (rr (by omega) rfl) rfl ⟨Nat.zero_le _, Nat.zero_le _⟩ (fun _ q_ => cvq q_ (ct_M_drawn0 hm (show 0 < kSt Kj by omega) (by omega))) ?_
        rw [upd_s, upd_2]
        refine r_istore (pc := 63) dX12_days_63 (Nat.le_of_ble_eq_true rfl) rfl ?_
        dsimp only [lset]
        refine r_aload_n (pc := 65) dX12_days_65 rfl ?_
        refine r_iconst (pc := 66) (v := 2) dX12_days_66 (by decide) ?_
        rw [show (2 : Int32) = nI 2 from rfl]
        refine r_Vi (pc := 67) (μ' := mX12_drawn) dX12_days_67 nX12_208 iX12_drawn vX12_drawn kX12_drawn rfl rfl (rr (by omega) rfl) rfl ⟨Nat.zero_le _, Nat.zero_le _⟩ (fun _ q_ => cvq q_ (ct_M_drawn0 hm (by omega) (by omega))) ?_
        rw [upd_s, upd_2, draw2]
        refine r_istore (pc := 70) dX12_days_70 (Nat.le_of_ble_eq_true rfl) rfl ?_
        dsimp only [lset]
        refine r_aload_n (pc := 72) dX12_days_72 rfl ?_
        refine r_getf (pc := 73) (k := 0) dX12_days_73 hX12 eX12 (by decide) fX12_7 (fun _ q => mo hm q) rfl ?_
        refine r_iconst (pc := 76) (v := 2) dX12_days_76 (by decide) ?_
        refine r_aload_n (pc := 77) dX12_days_77 rfl ?_
        refine r_getf (pc := 78) (k := 0) dX12_days_78 hX12 eX12 (by decide) fX12_7 (fun _ q => mo hm q) rfl ?_
        refine r_iconst (pc := 81) (v := 2) dX12_days_81 (by decide) ?_
        refine r_rl (pc := 82) (j := 2) hm dX12_days_82 rfl (by decide) ?_
        rw [upd_n (by omega), q1.2.2.1]
        refine r_aload_n (pc := 83) dX12_days_83 rfl ?_
        refine r_bipush (pc := 84) (v := 8) dX12_days_84 (by decide) ?_
        rw [show (8 : Int32) = nI 8 from rfl]
        refine r_Vi (pc := 86) (μ' := mX12_drawn) dX12_days_86 nX12_208 iX12_drawn vX12_drawn kX12_drawn rfl rfl (rr (by omega) rfl) rfl ⟨Nat.zero_le _, Nat.zero_le _⟩ (fun _ q_ => cvq q_ (ct_M_drawn0 hm (by omega) (by omega))) ?_
        rw [upd_s, upd_2, ← hz4]
        refine r_iadd (pc := 89) dX12_days_89 ?_
        rw [nI_add]
        refine r_iconst (pc := 90) (v := 0) dX12_days_90 (by decide) ?_
        refine r_sipush (pc := 91) (v := 9999) dX12_days_91 (by decide) ?_
        refine r_Sp (pc := 94) (μ' := mX12_held) dX12_days_94 nX12_180 sX12_held kX12_held rfl rfl (rr (by omega) rfl) rfl ⟨Nat.zero_le _, Nat.zero_le _⟩ (fun h => ct_M_held h) ?_
        rw [cap9_is (by have : drawN (drawI (drawI (drawI zj))) 8 < 8 := d4; omega), ← hx]
        refine r_rs (pc := 97) (j := 2) hm dX12_days_97 rfl (by decide) ?_
        refine r_aload_n (pc := 98) dX12_days_98 rfl ?_
        refine r_getf (pc := 99) (k := 0) dX12_days_99 hX12 eX12 (by decide) fX12_7 (fun _ q => mo hm q) rfl ?_
        refine r_iconst (pc := 102) (v := 2) dX12_days_102 (by decide) ?_
        refine r_rl (pc := 103) (j := 2) hm dX12_days_103 rfl (by decide) ?_
        rw [upd_s]
        refine r_sipush (pc := 104) (v := 9900) dX12_days_104 (by decide) ?_
        refine r_icmp_gt (pc := 107) 119 dX12_days_107 (by decide) (fun c107 => ?_) (fun c107 => ?_)
        · skip
          have kx : ¬ x ≤ 9900 := by have := fa_lt.mp c107; rw [hTx, show (9900 : Int32).toInt = 9900 from rfl] at this; omega
          rw [if_neg kx] at eK
          try refine aw_ex fun s5 => aw_ex fun f5 => aw_pr fun q5 => ?_
          refine r_iinc1 (pc := 119) dX12_days_119 rfl (Nat.le_of_ble_eq_true rfl) rfl ?_
          dsimp only [lset]
          refine r_goto (pc := 122) 36 dX12_days_122 (by decide) ?_
          rw [nI_1]
          refine aw_dr 3 rfl (aw_dr 4 rfl (aw_dr 5 rfl ?_))
          first
          | exact ih2 s5 f5 (by rw [eK]; exact q5.1) (r4.ext q5.2.1) (fun j hj => (q5.2.2.2 j hj).trans (q3 j hj))
          | exact ih2 s1 _ (by rw [eK]; exact k4) r4 q3
        · skip
          have kx : x ≤ 9900 := by have : ¬ (9900 : Int32).toInt < (nI x).toInt := fun y => c107 (fa_lt.mpr y); rw [hTx, show (9900 : Int32).toInt = 9900 from rfl] at this; omega
          rw [if_pos kx] at eK
          refine r_aload_n (pc := 110) dX12_days_110 rfl ?_
          refine r_iload_n (pc := 111) dX12_days_111 rfl ?_
          refine r_iload (pc := 112) dX12_days_112 rfl ?_
          refine r_iload (pc := 114) dX12_days_114 rfl ?_
          refine r_Vv (pc := 116) (μ' := mX12_rollsBy) dX12_days_116 nX12_203 iX12_rollsBy vX12_rollsBy kX12_rollsBy rfl rfl (rr (by omega) rfl) rfl ⟨Nat.zero_le _, Nat.zero_le _⟩ (fun _ q_ => cvq q_ (ct_M_rollsBy (K := setMi Kj x) hm d1 hok r4.2.1.1 d2 (setMi_ok ok2) k4 (s18_any s1 (setMi Kj x)))) ?_
          try refine aw_ex fun s5 => aw_ex fun f5 => aw_pr fun q5 => ?_
          refine r_iinc1 (pc := 119) dX12_days_119 rfl (Nat.le_of_ble_eq_true rfl) rfl ?_
          dsimp only [lset]
          refine r_goto (pc := 122) 36 dX12_days_122 (by decide) ?_
          rw [nI_1]
          refine aw_dr 3 rfl (aw_dr 4 rfl (aw_dr 5 rfl ?_))
          first
          | exact ih2 s5 f5 (by rw [eK]; exact q5.1) (r4.ext q5.2.1) (fun j hj => (q5.2.2.2 j hj).trans (q3 j hj))
          | exact ih2 s1 _ (by rw [eK]; exact k4) r4 q3
  refine aw_P (P' := MP m h s (upA A 0 (A 0))) (fun _ q => by rw [upA_id]; exact q) ?_
  refine r_iload_n (pc := 0) dX12_days_0 rfl ?_
  refine r_iconst (pc := 1) (v := 1) dX12_days_1 (by decide) ?_
  refine r_bipush (pc := 2) (v := 30) dX12_days_2 (by decide) ?_
  refine r_Sp (pc := 4) (μ' := mX12_in) dX12_days_4 nX12_57 sX12_in kX12_in rfl rfl (rr (by omega) rfl) rfl ⟨Nat.zero_le _, Nat.zero_le _⟩ (fun h => ct_M_in h) ?_
  refine r_if_ne (pc := 7) 17 dX12_days_7 (by decide) (fun c7 => ?_) (fun c7 => ?_)
  · skip
    have k1 := b2i_n0.mp c7
    have w1 := wi_t k1
    rw [t1, show (30 : Int32).toInt = 30 from rfl] at w1
    obtain ⟨n, hn, h1, h2⟩ : ∃ n, a = nI n ∧ 1 ≤ n ∧ n ≤ 30 := ⟨a.toInt.toNat, (nI_tn (by omega) (by omega)).symm, by omega, by omega⟩
    refine r_aload_n (pc := 17) dX12_days_17 rfl ?_
    refine r_getf (pc := 18) (k := 0) dX12_days_18 hX12 eX12 (by decide) fX12_7 (fun _ q => mo hm q) rfl ?_
    refine r_bipush (pc := 21) (v := 8) dX12_days_21 (by decide) ?_
    refine r_rl (pc := 23) (j := 8) hm dX12_days_23 rfl (by decide) ?_
    rw [q.rr.2.1.1.1]
    refine r_if_ne (pc := 24) 34 dX12_days_24 (by decide) (fun c24 => ?_) (fun c24 => ?_)
    · skip
      have h0 : 0 < hs.length := by
        have : ¬ hs.length = 0 := fun x => c24 (by rw [x]; rfl)
        omega
      refine r_iconst (pc := 34) (v := 0) dX12_days_34 (by decide) ?_
      refine r_istore_n (pc := 35) dX12_days_35 rfl (Nat.le_of_ble_eq_true rfl) rfl ?_
      dsimp only [lset]
      rw [hn]
      exact L n hn h1 h2 h0 0 (Nat.zero_le _) s (A 0) q.rk q.rr (fun _ _ => rfl)
    · skip
      have h0 : hs.length = 0 := by have := fa_eq.mp c24; rw [nI_T (by omega), t0] at this; omega
      rw [upA_id]
      refine r_aload_n (pc := 27) dX12_days_27 rfl ?_
      refine r_ldc (pc := 28) (v := (-1000000003)) dX12_days_28 qX12_202 ?_
      refine r_Vi (pc := 30) (μ' := mX12_errs) dX12_days_30 nX12_62 iX12_errs vX12_errs kX12_errs rfl rfl (rr (by omega) rfl) rfl ⟨Nat.zero_le _, Nat.zero_le _⟩ (fun _ q_ => cvq q_ (ct_M_errs hm 3 (by decide) (by decide))) ?_
      rw [show (-1000000003 : Int32) = -1000000000 - 3 from rfl]
      refine r_ireturn (pc := 33) (ty := .int) dX12_days_33 rfl rfl ⟨Nat.zero_le _, Nat.zero_le _⟩ (fun gE hg => ?_)
      exact mR hg (e3 k1 h0 _ _ (q.err (by decide) rfl))
  · skip
    have k1 := b2i_0.mp c7
    rw [upA_id]
    refine r_aload_n (pc := 10) dX12_days_10 rfl ?_
    refine r_ldc (pc := 11) (v := (-1000000001)) dX12_days_11 qX12_61 ?_
    refine r_Vi (pc := 13) (μ' := mX12_errs) dX12_days_13 nX12_62 iX12_errs vX12_errs kX12_errs rfl rfl (rr (by omega) rfl) rfl ⟨Nat.zero_le _, Nat.zero_le _⟩ (fun _ q_ => cvq q_ (ct_M_errs hm 1 (by decide) (by decide))) ?_
    rw [show (-1000000001 : Int32) = -1000000000 - 1 from rfl]
    refine r_ireturn (pc := 16) (ty := .int) dX12_days_16 rfl rfl ⟨Nat.zero_le _, Nat.zero_le _⟩ (fun gE hg => ?_)
    exact mR hg (e1 k1 _ _ (q.err (by decide) rfl))
end Mdone
