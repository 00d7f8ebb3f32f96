/-! THE REFERENCE: the row of numbers that an image keeps; a STRIP is ROLLED -/
def RMk (K : CK) (f : Nat → Int32) : Prop := f 0 = nI (kRo K) ∧ f 1 = nI (kSt K) ∧ f 2 = nI (kMi K) ∧ f 3 = nI (kHe K) ∧ f 4 = nI K.2.2.2.2.1 ∧ f 5 = nI K.2.2.2.2.2.1 ∧ f 6 = nI K.2.2.2.2.2.2.1 ∧ ∀ r s, r < kRo K → s < kSt K → f (25 + 2 * (r * kSt K + s)) = iI (kW K r s) ∧ f (26 + 2 * (r * kSt K + s)) = nI (kV K r s)
def TxM (t : Option (List Int32)) (sz : Int32) (a : Nat) (f : Nat → Int32) : Prop := match t with
  | none => sz = -1
  | some l => sz = nI l.length ∧ l.length ≤ 50 ∧ ∀ j, j < l.length → f (a + j) = l.getD j 0
def RMl (l : List Int32) (a b : Nat) (f : Nat → Int32) : Prop := f a = nI l.length ∧ ∀ j, j < l.length → f (b + j) = l.getD j 0
def RMh (hs : List (Nat × Nat)) (f : Nat → Int32) : Prop := f 8 = nI hs.length ∧ ∀ i, i < hs.length → f (13 + 2 * i) = nI (hKd hs i) ∧ f (14 + 2 * i) = nI (hMn hs i)
/-- all that the row tells beside the ceiling -/
def RMr (hs : List (Nat × Nat)) (tD tL : Option (List Int32)) (tp wa : List Int32) (z : Int32) (f : Nat → Int32) : Prop := f 7 = z ∧ (RMh hs f ∧ hs.length ≤ 6) ∧ TxM tD (f 11) 167 f ∧ TxM tL (f 12) 217 f ∧ (RMl tp 9 97 f ∧ tp.length ≤ 50) ∧ (RMl wa 10 147 f ∧ wa.length ≤ 20)
/-- where the row tells something else than the ceiling -/
def RJ (j : Nat) : Prop := (7 ≤ j ∧ j < 25) ∨ (97 ≤ j ∧ j < 267)
theorem TxM.ext {t : Option (List Int32)} {sz : Int32} {a : Nat} {f f2 : Nat → Int32} (q : TxM t sz a f) (h : ∀ j, j < 50 → f2 (a + j) = f (a + j)) : TxM t sz a f2 := by
  cases t with
  | none => exact q
  | some l => exact ⟨q.1, q.2.1, fun j hj => by rw [h j (by have := q.2.1; omega)]; exact q.2.2 j hj⟩
theorem RMr.ext {hs : List (Nat × Nat)} {tD tL : Option (List Int32)} {tp wa : List Int32} {z : Int32} {f f2 : Nat → Int32} (q : RMr hs tD tL tp wa z f) (h : ∀ j, RJ j → f2 j = f j) : RMr hs tD tL tp wa z f2 := by
  obtain ⟨q1, ⟨q2, q3⟩, q4, q5, ⟨q6, q7⟩, q8, q9⟩ := q
  refine ⟨by rw [h 7 (by unfold RJ; omega)]; exact q1, ⟨⟨by rw [h 8 (by unfold RJ; omega)]; exact q2.1, fun i hi => ?_⟩, q3⟩, ?_, ?_, ⟨⟨by rw [h 9 (by unfold RJ; omega)]; exact q6.1, fun j hj => ?_⟩, q7⟩, ⟨by rw [h 10 (by unfold RJ; omega)]; exact q8.1, fun j hj => ?_⟩, q9⟩
  · rw [h _ (by unfold RJ; omega), h _ (by unfold RJ; omega)]; exact q2.2 i hi
  · rw [h 11 (by unfold RJ; omega)]; exact q4.ext fun j hj => h _ (by unfold RJ; omega)
  · rw [h 12 (by unfold RJ; omega)]; exact q5.ext fun j hj => h _ (by unfold RJ; omega)
  · rw [h _ (by unfold RJ; omega)]; exact q6.2 j hj
  · rw [h _ (by unfold RJ; omega)]; exact q8.2 j hj
theorem RMk.ext {K : CK} {f f2 : Nat → Int32} (ok : KOk K) (q : RMk K f) (h : ∀ j, j < 97 → f2 j = f j) : RMk K f2 := by
  obtain ⟨q0, q1, q2, q3, q4, q5, q6, q7⟩ := q
  refine ⟨(h 0 (by omega)).trans q0, (h 1 (by omega)).trans q1, (h 2 (by omega)).trans q2, (h 3 (by omega)).trans q3, (h 4 (by omega)).trans q4, (h 5 (by omega)).trans q5, (h 6 (by omega)).trans q6, fun r s hr hs => ?_⟩
  have h1 : kRo K ≤ 6 := ok.1.2
  have h2 : kSt K ≤ 6 := ok.2.1.2
  have := cell_lt hr hs
  have : kRo K * kSt K ≤ 6 * 6 := Nat.mul_le_mul h1 h2
  rw [h _ (by omega), h _ (by omega)]
  exact q7 r s hr hs
theorem RMk_cell {kd m s k : Nat} {up : Bool} {K : CK} {f f2 : Nat → Int32} (hk : k < kRo K) (hs : s < kSt K) (q : RMk K f) (h2 : f2 2 = nI (kMi K + mfN kd m k)) (h4 : f2 4 = nI (canN (usesN kd m) K.2.2.2.2.2.2.1 K.2.2.2.2.1 K.2.2.2.2.2.1 K.2.2.2.2.2.2.2.1).1) (h5 : f2 5 = nI (canN (usesN kd m) K.2.2.2.2.2.2.1 K.2.2.2.2.1 K.2.2.2.2.2.1 K.2.2.2.2.2.2.2.1).2.1)
    (hc : f2 (25 + 2 * (rowN up (kRo K) k * kSt K + s)) = f2 2) (hv : f2 (26 + 2 * (rowN up (kRo K) k * kSt K + s)) = f2 5) (ho : ∀ j, j ≠ 2 → j ≠ 4 → j ≠ 5 → j ≠ 25 + 2 * (rowN up (kRo K) k * kSt K + s) → j ≠ 26 + 2 * (rowN up (kRo K) k * kSt K + s) → f2 j = f j) : RMk (cellK kd m s up k K) f2 := by
  obtain ⟨ro, st, mi, he, le, wh, si, ca, w, v⟩ := K
  obtain ⟨q0, q1, q2, q3, q4, q5, q6, q7⟩ := q
  refine ⟨(ho 0 (by omega) (by omega) (by omega) (by omega) (by omega)).trans q0, (ho 1 (by omega) (by omega) (by omega) (by omega) (by omega)).trans q1, h2, (ho 3 (by omega) (by omega) (by omega) (by omega) (by omega)).trans q3, h4, h5, (ho 6 (by omega) (by omega) (by omega) (by omega) (by omega)).trans q6, fun r c hr hc2 => ?_⟩
  have hs : s < st := hs
  have hr : r < ro := hr
  have hc2 : c < st := hc2
  show f2 (25 + 2 * (r * st + c)) = iI (up2 w (rowN up ro k) s ((mi + mfN kd m k : Nat) : Int) r c) ∧ f2 (26 + 2 * (r * st + c)) = nI (up2 v (rowN up ro k) s (canN (usesN kd m) si le wh ca).2.1 r c)
  have hc : f2 (25 + 2 * (rowN up ro k * st + s)) = f2 2 := hc
  have hv : f2 (26 + 2 * (rowN up ro k * st + s)) = f2 5 := hv
  unfold up2
  by_cases e : r = rowN up ro k ∧ c = s
  · rw [if_pos e, if_pos e, e.1, e.2, hc, hv, h2, h5, iI_nI]
    exact ⟨rfl, rfl⟩
  · rw [if_neg e, if_neg e]
    have ne : r * st + c ≠ rowN up ro k * st + s := fun x => e ⟨by have := congrArg (· / st) x; simp only [cell_div hc2, cell_div hs] at this; exact this, by have := congrArg (· % st) x; simp only [cell_mod hc2, cell_mod hs] at this; exact this⟩
    rw [ho _ (by omega) (by omega) (by omega) (by show _ ≠ 25 + 2 * (rowN up ro k * st + s); omega) (by show _ ≠ 26 + 2 * (rowN up ro k * st + s); omega), ho _ (by omega) (by omega) (by omega) (by show _ ≠ 25 + 2 * (rowN up ro k * st + s); omega) (by show _ ≠ 26 + 2 * (rowN up ro k * st + s); omega)]
    exact q7 r c hr hc2
theorem loa_n : ∀ kd, kd < 7 → ∀ m, m < 10 → ¬ loadI (nI kd) (nI m) ≤ 0 ∧ ¬ loadI (nI kd) (nI m) = 0 := by decide +kernel
theorem wh_is : ∀ w, w < 100 → (nI w + 1) % 100 = nI (nwN w) := by decide +kernel
theorem heI_sub {a u : Nat} (ha : a ≤ 99) (hu : u ≤ 3) : heI (nI a - nI u) 0 99 = nI (a - u) := by
  have e : (nI a - nI u).toInt = (a : Int) - u := by
    rw [Int32.toInt_sub, nI_T (by omega), nI_T (by omega)]
    exact Int.bmod_eq_of_le (by omega) (by omega)
  unfold heI
  by_cases c : a < u
  · rw [if_pos (fa_lt.mpr (by rw [e, t0]; omega)), show a - u = 0 by omega]; rfl
  · rw [if_neg (fun x => by have := fa_lt.mp x; rw [e, t0] at this; omega), if_neg (fun x => by have := fa_lt.mp x; rw [e, show (99 : Int32).toInt = 99 from rfl] at this; omega), nI_sub' (by omega)]
section Ro
variable {m : Nat} {h : AH} {s : Nat → Int32} {A : Nat → Nat → Int32}
def sEq (k : Nat) (s s2 : Nat → Int32) : Prop := ∀ j, j ≠ k → s2 j = s j
set_option maxHeartbeats 16000000 in
theorem ct_M_rolls (hm : m + 14 < h.1) {kd mm sx : Nat} {up : Bool} {K : CK} {c0 : Int32} (hkd : kd < 7) (hmm : mm < 10) (hs : sx < kSt K) (ok : KOk K) (rk : RMk K (A 0)) (hc0 : s 18 = c0 + nI K.2.2.2.2.2.2.2.1) : CV 2 0 0 mX12_rolls m [.int (nI kd), .int (nI mm), .int (nI sx), .int (b2i up)] (mh m h s A) (fun v g => v = none ∧ ∃ s2 f2, (RMk (paintK kd mm sx up K) f2 ∧ (∀ j, RJ j → f2 j = A 0 j) ∧ (s2 18 = c0 + nI (paintK kd mm sx up K).2.2.2.2.2.2.2.1 ∧ sEq 18 s s2)) ∧ MP m h s2 (upA A 0 f2) g) := by
  refine ⟨mV hm, ?_⟩
  refine ct_of (by decide) (fun _ _ => Nat.le_of_ble_eq_true rfl) ?_
  dsimp only [pad, ent]
  have hro : 1 ≤ kRo K ∧ kRo K ≤ 6 := ok.1
  have hst : 1 ≤ kSt K ∧ kSt K ≤ 6 := ok.2.1
  have hTr := nI_T (n := kRo K) (by omega)
  obtain ⟨hl1, hl2⟩ := loa_n kd hkd mm hmm
  obtain ⟨hu1, hu2, hu3⟩ := uses_ok kd hkd mm hmm
  obtain ⟨u, hu⟩ : ∃ u, u = usesN kd mm := ⟨_, rfl⟩
  rw [← hu] at hu1 hu2 hu3
  have hTu := nI_T (n := u) (by omega)
  have L : ∀ k, k ≤ kRo K → ∀ (s1 : Nat → Int32) (f : Nat → Int32) (x : Option Value), RMk (paintN kd mm sx up K k) f → (∀ j, RJ j → f j = A 0 j) → s1 18 = c0 + nI (paintN kd mm sx up K k).2.2.2.2.2.2.2.1 → sEq 18 s s1 → AW (fun _ => True) (rmd 2 0 0) mX12_rolls 0 0 17 [some (.ref m), some (.int (nI kd)), some (.int (nI mm)), some (.int (nI sx)), some (.int (b2i up)), some (.int (loadI (nI kd) (nI mm))), some (.int (nI u)), some (.int (nI k)), none] [] (MP m h s1 (upA A 0 f)) (fun v g => v = none ∧ ∃ s2 f2, (RMk (paintK kd mm sx up K) f2 ∧ (∀ j, RJ j → f2 j = A 0 j) ∧ (s2 18 = c0 + nI (paintK kd mm sx up K).2.2.2.2.2.2.2.1 ∧ sEq 18 s s2)) ∧ MP m h s2 (upA A 0 f2) g) := by
    refine up_loop ?_ ?_
    · intro s1 f x q1 q2 q3 q4
      have hr : kRo (paintN kd mm sx up K (kRo K)) = kRo K := (paintN_ok ok (kRo K)).2.1
      have hf0 : f 0 = nI (kRo K) := by rw [q1.1, hr]
      refine r_iload (pc := 17) dX12_rolls_17 rfl ?_
      refine r_aload_n (pc := 19) dX12_rolls_19 rfl ?_
      refine r_getf (pc := 20) (k := 0) dX12_rolls_20 hX12 eX12 (by decide) fX12_7 (fun _ q => mo hm q) rfl ?_
      refine r_iconst (pc := 23) (v := 0) dX12_rolls_23 (by decide) ?_
      refine r_rl (pc := 24) (j := 0) hm dX12_rolls_24 rfl (by decide) ?_
      rw [hf0]
      refine r_icmp_ge (pc := 25) 215 dX12_rolls_25 (by decide) (fun c25 => ?_) (fun c25 => ?_)
      · skip
        refine r_return (pc := 215) dX12_rolls_215 rfl ⟨Nat.zero_le _, Nat.zero_le _⟩ (fun gE hg => ?_)
        exact ⟨rfl, s1, f, ⟨q1, q2, q3, q4⟩, hg⟩
      · skip
        exact absurd (fa_le.mpr (Int.le_refl _)) c25
    · intro k hk ih s1 f x q1 q2 q3 q4
      have hTk := nI_T (n := k) (by omega)
      obtain ⟨okk, hr, hst2, -, -⟩ := paintN_ok (kd := kd) (m := mm) (s := sx) (up := up) ok k
      have ih2 : ∀ (s1 : Nat → Int32) (f : Nat → Int32), RMk (cellK kd mm sx up k (paintN kd mm sx up K k)) f → (∀ j, RJ j → f j = A 0 j) → s1 18 = c0 + nI (cellK kd mm sx up k (paintN kd mm sx up K k)).2.2.2.2.2.2.2.1 → sEq 18 s s1 → AW _ _ _ _ _ _ _ _ _ _ := fun s1 f a b c d => ih s1 f none a b c d
      obtain ⟨P, hP⟩ : ∃ P, P = paintN kd mm sx up K k := ⟨_, rfl⟩
      rw [← hP] at q1 q3 okk hr hst2 ih2
      obtain ⟨ro, st, mi, he, le, wh, si, ca, w, v⟩ := P
      have hr : ro = kRo K := hr
      have hst2 : st = kSt K := hst2
      obtain ⟨-, -, -, hle, hwh, ⟨hsi1, hsi2⟩, -⟩ := okk
      have hle : le ≤ 99 := hle
      have hwh : wh ≤ 99 := hwh
      have hsi1 : 1 ≤ si := hsi1
      have hsi2 : si ≤ 99 := hsi2
      obtain ⟨p0, p1, p2, p3, p4, p5, p6, p7⟩ := id q1
      have p0 : f 0 = nI ro := p0
      have p1 : f 1 = nI st := p1
      have p2 : f 2 = nI mi := p2
      have p4 : f 4 = nI le := p4
      have p5 : f 5 = nI wh := p5
      have p6 : f 6 = nI si := p6
      have q3 : s1 18 = c0 + nI ca := q3
      obtain ⟨hmf, hmf2⟩ := mf_ok kd hkd mm hmm k (by omega)
      have hrow : rowN up ro k < ro := by unfold rowN; split <;> omega
      have hcl : rowN up ro k * st + sx < ro * st := cell_lt hrow (by omega)
      have h36 : ro * st ≤ 6 * 6 := Nat.mul_le_mul (by omega) (by omega)
      obtain ⟨c, hc⟩ : ∃ c, c = rowN up ro k * st + sx := ⟨_, rfl⟩
      -- from the CELL's own can on
      have T : ∀ (s2 : Nat → Int32) (f1 : Nat → Int32) (X : Int32) (a w2 : Nat), f1 0 = nI ro → f1 1 = nI st → f1 2 = X → f1 4 = nI a → f1 5 = nI w2 → (∀ j, j ≠ 2 → j ≠ 4 → j ≠ 5 → f1 j = f j) → a ≤ 99 → X + paceI (nI kd) (nI mm) (nI k) = nI (mi + mfN kd mm k) → canN u si le wh ca = (a - u, w2, (canN u si le wh ca).2.2) → s2 18 = c0 + nI (canN u si le wh ca).2.2 → sEq 18 s s2 → AW (fun _ => True) (rmd 2 0 0) mX12_rolls 0 0 102 [some (.ref m), some (.int (nI kd)), some (.int (nI mm)), some (.int (nI sx)), some (.int (b2i up)), some (.int (loadI (nI kd) (nI mm))), some (.int (nI u)), some (.int (nI k)), none] [] (MP m h s2 (upA A 0 f1)) (fun v g => v = none ∧ ∃ s2 f2, (RMk (paintK kd mm sx up K) f2 ∧ (∀ j, RJ j → f2 j = A 0 j) ∧ (s2 18 = c0 + nI (paintK kd mm sx up K).2.2.2.2.2.2.2.1 ∧ sEq 18 s s2)) ∧ MP m h s2 (upA A 0 f2) g) := by
        intro s2 f1 X a w2 e0 e1 e2 e4 e5 eo ha hX hcan hs2 hs3
        have hi1 : (25 : Int32) + 2 * nI c = nI (25 + 2 * c) := ix2 25 2 c
        have hcan1 : (canN u si le wh ca).1 = a - u := by rw [hcan]
        have hcan2 : (canN u si le wh ca).2.1 = w2 := by rw [hcan]
        have done : RMk (cellK kd mm sx up k (ro, st, mi, he, le, wh, si, ca, w, v)) (upd (upd (upd (upd f1 4 (nI (a - u))) 2 (nI (mi + mfN kd mm k))) (25 + 2 * c) (nI (mi + mfN kd mm k))) (26 + 2 * c) (nI w2)) := by
          refine RMk_cell (show k < ro by omega) (show sx < st by omega) q1 ?_ ?_ ?_ ?_ ?_ ?_
          · rw [upd_n (by omega), upd_n (by omega), upd_s]
          · rw [upd_n (by omega), upd_n (by omega), upd_n (by omega), upd_s]
            show _ = nI (canN (usesN kd mm) si le wh ca).1
            rw [← hu, hcan1]
          · rw [upd_n (by omega), upd_n (by omega), upd_n (by omega), upd_n (by omega), e5]
            show _ = nI (canN (usesN kd mm) si le wh ca).2.1
            rw [← hu, hcan2]
          · show upd _ _ _ (25 + 2 * (rowN up ro k * st + sx)) = _
            rw [← hc, upd_n (by omega), upd_s, upd_n (by omega), upd_n (by omega), upd_s]
          · show upd _ _ _ (26 + 2 * (rowN up ro k * st + sx)) = _
            rw [← hc, upd_s, upd_n (by omega), upd_n (by omega), upd_n (by omega), upd_n (by omega), e5]
          · intro j j1 j2 j3 j4 j5
            have j4 : j ≠ 25 + 2 * (rowN up ro k * st + sx) := j4
            have j5 : j ≠ 26 + 2 * (rowN up ro k * st + sx) := j5
            rw [upd_n (by omega), upd_n (by omega), upd_n (by omega), upd_n (by omega)]
            exact eo j j1 j2 j3
        have doneJ : ∀ j, RJ j → upd (upd (upd (upd f1 4 (nI (a - u))) 2 (nI (mi + mfN kd mm k))) (25 + 2 * c) (nI (mi + mfN kd mm k))) (26 + 2 * c) (nI w2) j = A 0 j := by
          intro j hj
          have hj2 := hj
          unfold RJ at hj2
          rw [upd_n (by omega), upd_n (by omega), upd_n (by omega), upd_n (by omega), eo j (by omega) (by omega) (by omega)]
          exact q2 j hj
        have tail : AW (fun _ => True) (rmd 2 0 0) mX12_rolls 0 0 169 [some (.ref m), some (.int (nI kd)), some (.int (nI mm)), some (.int (nI sx)), some (.int (b2i up)), some (.int (loadI (nI kd) (nI mm))), some (.int (nI u)), some (.int (nI k)), none] [.int (nI c)] (MP m h s2 (upA A 0 (upd (upd f1 4 (nI (a - u))) 2 (nI (mi + mfN kd mm k))))) (fun v g => v = none ∧ ∃ s2 f2, (RMk (paintK kd mm sx up K) f2 ∧ (∀ j, RJ j → f2 j = A 0 j) ∧ (s2 18 = c0 + nI (paintK kd mm sx up K).2.2.2.2.2.2.2.1 ∧ sEq 18 s s2)) ∧ MP m h s2 (upA A 0 f2) g) := by
          refine r_istore (pc := 169) dX12_rolls_169 (Nat.le_of_ble_eq_true rfl) rfl ?_
          dsimp only [lset]
          refine r_aload_n (pc := 171) dX12_rolls_171 rfl ?_
          refine r_getf (pc := 172) (k := 0) dX12_rolls_172 hX12 eX12 (by decide) fX12_7 (fun _ q => mo hm q) rfl ?_
          refine r_bipush (pc := 175) (v := 25) dX12_rolls_175 (by decide) ?_
          refine r_iconst (pc := 177) (v := 2) dX12_rolls_177 (by decide) ?_
          refine r_iload (pc := 178) dX12_rolls_178 rfl ?_
          refine r_imul (pc := 180) dX12_rolls_180 ?_
          refine r_iadd (pc := 181) dX12_rolls_181 ?_
          refine r_aload_n (pc := 182) dX12_rolls_182 rfl ?_
          refine r_getf (pc := 183) (k := 0) dX12_rolls_183 hX12 eX12 (by decide) fX12_7 (fun _ q => mo hm q) rfl ?_
          refine r_iconst (pc := 186) (v := 2) dX12_rolls_186 (by decide) ?_
          refine r_rl (pc := 187) (j := 2) hm dX12_rolls_187 rfl (by decide) ?_
          rw [hi1, upd_s]
          refine r_rs (pc := 188) (j := (25 + 2 * c)) hm dX12_rolls_188 (nI_T (by omega)) (show (25 + 2 * c) < 267 by omega) ?_
          refine r_aload_n (pc := 189) dX12_rolls_189 rfl ?_
          refine r_getf (pc := 190) (k := 0) dX12_rolls_190 hX12 eX12 (by decide) fX12_7 (fun _ q => mo hm q) rfl ?_
          refine r_bipush (pc := 193) (v := 25) dX12_rolls_193 (by decide) ?_
          refine r_iconst (pc := 195) (v := 2) dX12_rolls_195 (by decide) ?_
          refine r_iload (pc := 196) dX12_rolls_196 rfl ?_
          refine r_imul (pc := 198) dX12_rolls_198 ?_
          refine r_iadd (pc := 199) dX12_rolls_199 ?_
          refine r_iconst (pc := 200) (v := 1) dX12_rolls_200 (by decide) ?_
          refine r_iadd (pc := 201) dX12_rolls_201 ?_
          refine r_aload_n (pc := 202) dX12_rolls_202 rfl ?_
          refine r_getf (pc := 203) (k := 0) dX12_rolls_203 hX12 eX12 (by decide) fX12_7 (fun _ q => mo hm q) rfl ?_
          refine r_iconst (pc := 206) (v := 5) dX12_rolls_206 (by decide) ?_
          rw [hi1, nI_1, show 25 + 2 * c + 1 = 26 + 2 * c by omega]
          refine r_rl (pc := 207) (j := 5) hm dX12_rolls_207 rfl (by decide) ?_
          rw [upd_n (show 5 ≠ 25 + 2 * c by omega), upd_n (by decide), upd_n (by decide), e5]
          refine r_rs (pc := 208) (j := (26 + 2 * c)) hm dX12_rolls_208 (nI_T (by omega)) (show (26 + 2 * c) < 267 by omega) ?_
          refine r_iinc1 (pc := 209) dX12_rolls_209 rfl (Nat.le_of_ble_eq_true rfl) rfl ?_
          dsimp only [lset]
          refine r_goto (pc := 212) 17 dX12_rolls_212 (by decide) ?_
          rw [nI_1]
          refine aw_dr 8 rfl ?_
          exact ih2 s2 _ done doneJ (by rw [hs2]; show _ = c0 + nI (canN (usesN kd mm) si le wh ca).2.2; rw [← hu]) hs3
        refine r_aload_n (pc := 102) dX12_rolls_102 rfl ?_
        refine r_getf (pc := 103) (k := 0) dX12_rolls_103 hX12 eX12 (by decide) fX12_7 (fun _ q => mo hm q) rfl ?_
        refine r_iconst (pc := 106) (v := 4) dX12_rolls_106 (by decide) ?_
        refine r_aload_n (pc := 107) dX12_rolls_107 rfl ?_
        refine r_getf (pc := 108) (k := 0) dX12_rolls_108 hX12 eX12 (by decide) fX12_7 (fun _ q => mo hm q) rfl ?_
        refine r_iconst (pc := 111) (v := 4) dX12_rolls_111 (by decide) ?_
        refine r_rl (pc := 112) (j := 4) hm dX12_rolls_112 rfl (by decide) ?_
        refine r_iload (pc := 113) dX12_rolls_113 rfl ?_
        rw [e4]
        refine r_isub (pc := 115) dX12_rolls_115 ?_
        refine r_iconst (pc := 116) (v := 0) dX12_rolls_116 (by decide) ?_
        refine r_bipush (pc := 117) (v := 99) dX12_rolls_117 (by decide) ?_
        refine r_Sp (pc := 119) (μ' := mX12_held) dX12_rolls_119 nX12_180 sX12_held kX12_held rfl rfl (rr (by decide) rfl) rfl ⟨Nat.zero_le _, Nat.zero_le _⟩ (fun h => ct_M_held h) ?_
        rw [heI_sub ha hu2]
        refine r_rs (pc := 122) (j := 4) hm dX12_rolls_122 rfl (by decide) ?_
        refine r_aload_n (pc := 123) dX12_rolls_123 rfl ?_
        refine r_getf (pc := 124) (k := 0) dX12_rolls_124 hX12 eX12 (by decide) fX12_7 (fun _ q => mo hm q) rfl ?_
        refine r_iconst (pc := 127) (v := 2) dX12_rolls_127 (by decide) ?_
        refine r_dup2 (pc := 128) dX12_rolls_128 rfl rfl ?_
        refine r_rl (pc := 129) (j := 2) hm dX12_rolls_129 rfl (by decide) ?_
        rw [upd_n (by decide), e2]
        refine r_iload_n (pc := 130) dX12_rolls_130 rfl ?_
        refine r_iload_n (pc := 131) dX12_rolls_131 rfl ?_
        refine r_iload (pc := 132) dX12_rolls_132 rfl ?_
        refine r_Sp (pc := 134) (μ' := mX12_paceOf) dX12_rolls_134 nX12_107 sX12_paceOf kX12_paceOf rfl rfl (rr (by decide) rfl) rfl ⟨Nat.zero_le _, Nat.zero_le _⟩ (fun h => ct_M_paceOf (show k < 6 by omega) h) ?_
        refine r_iadd (pc := 137) dX12_rolls_137 ?_
        rw [hX]
        refine r_rs (pc := 138) (j := 2) hm dX12_rolls_138 rfl (by decide) ?_
        refine r_iload (pc := 139) dX12_rolls_139 rfl ?_
        refine r_if_ne (pc := 141) 149 dX12_rolls_141 (by decide) (fun c141 => ?_) (fun c141 => ?_)
        · skip
          have hup : up = true := b2i_n0.mp c141
          refine r_aload_n (pc := 149) dX12_rolls_149 rfl ?_
          refine r_getf (pc := 150) (k := 0) dX12_rolls_150 hX12 eX12 (by decide) fX12_7 (fun _ q => mo hm q) rfl ?_
          refine r_iconst (pc := 153) (v := 0) dX12_rolls_153 (by decide) ?_
          refine r_rl (pc := 154) (j := 0) hm dX12_rolls_154 rfl (by decide) ?_
          rw [upd_n (by decide), upd_n (by decide), e0]
          refine r_iconst (pc := 155) (v := 1) dX12_rolls_155 (by decide) ?_
          refine r_isub (pc := 156) dX12_rolls_156 ?_
          refine r_iload (pc := 157) dX12_rolls_157 rfl ?_
          refine r_isub (pc := 159) dX12_rolls_159 ?_
          refine r_aload_n (pc := 160) dX12_rolls_160 rfl ?_
          refine r_getf (pc := 161) (k := 0) dX12_rolls_161 hX12 eX12 (by decide) fX12_7 (fun _ q => mo hm q) rfl ?_
          refine r_iconst (pc := 164) (v := 1) dX12_rolls_164 (by decide) ?_
          refine r_rl (pc := 165) (j := 1) hm dX12_rolls_165 rfl (by decide) ?_
          rw [upd_n (by decide), upd_n (by decide), e1]
          refine r_imul (pc := 166) dX12_rolls_166 ?_
          refine r_iload_n (pc := 167) dX12_rolls_167 rfl ?_
          refine r_iadd (pc := 168) dX12_rolls_168 ?_
          first
          | (rw [show nI k * nI st + nI sx = nI c by rw [hc, hup, pk_mul, nI_add]; rfl]; exact tail)
          | (rw [show (nI ro - 1 - nI k) * nI st + nI sx = nI c by rw [hc, hup, show (1 : Int32) = nI 1 from rfl, nI_sub' (by omega), nI_sub' (by omega), pk_mul, nI_add]; rfl]; exact tail)
        · skip
          have hup : up = false := b2i_0.mp c141
          refine r_iload (pc := 144) dX12_rolls_144 rfl ?_
          refine r_goto (pc := 146) 160 dX12_rolls_146 (by decide) ?_
          refine r_aload_n (pc := 160) dX12_rolls_160 rfl ?_
          refine r_getf (pc := 161) (k := 0) dX12_rolls_161 hX12 eX12 (by decide) fX12_7 (fun _ q => mo hm q) rfl ?_
          refine r_iconst (pc := 164) (v := 1) dX12_rolls_164 (by decide) ?_
          refine r_rl (pc := 165) (j := 1) hm dX12_rolls_165 rfl (by decide) ?_
          rw [upd_n (by decide), upd_n (by decide), e1]
          refine r_imul (pc := 166) dX12_rolls_166 ?_
          refine r_iload_n (pc := 167) dX12_rolls_167 rfl ?_
          refine r_iadd (pc := 168) dX12_rolls_168 ?_
          first
          | (rw [show nI k * nI st + nI sx = nI c by rw [hc, hup, pk_mul, nI_add]; rfl]; exact tail)
          | (rw [show (nI ro - 1 - nI k) * nI st + nI sx = nI c by rw [hc, hup, show (1 : Int32) = nI 1 from rfl, nI_sub' (by omega), nI_sub' (by omega), pk_mul, nI_add]; rfl]; exact tail)
      have H : ∀ (f1 : Nat → Int32) (X : Int32), f1 2 = X → (∀ j, j ≠ 2 → f1 j = f j) → X + paceI (nI kd) (nI mm) (nI k) = nI (mi + mfN kd mm k) → AW (fun _ => True) (rmd 2 0 0) mX12_rolls 0 0 51 [some (.ref m), some (.int (nI kd)), some (.int (nI mm)), some (.int (nI sx)), some (.int (b2i up)), some (.int (loadI (nI kd) (nI mm))), some (.int (nI u)), some (.int (nI k)), none] [] (MP m h s1 (upA A 0 f1)) (fun v g => v = none ∧ ∃ s2 f2, (RMk (paintK kd mm sx up K) f2 ∧ (∀ j, RJ j → f2 j = A 0 j) ∧ (s2 18 = c0 + nI (paintK kd mm sx up K).2.2.2.2.2.2.2.1 ∧ sEq 18 s s2)) ∧ MP m h s2 (upA A 0 f2) g) := by
        intro f1 X e2 eo hX
        have hTl := nI_T (n := le) (by omega)
        refine r_aload_n (pc := 51) dX12_rolls_51 rfl ?_
        refine r_getf (pc := 52) (k := 0) dX12_rolls_52 hX12 eX12 (by decide) fX12_7 (fun _ q => mo hm q) rfl ?_
        refine r_iconst (pc := 55) (v := 4) dX12_rolls_55 (by decide) ?_
        refine r_rl (pc := 56) (j := 4) hm dX12_rolls_56 rfl (by decide) ?_
        refine r_iload (pc := 57) dX12_rolls_57 rfl ?_
        rw [eo 4 (by decide), p4]
        refine r_icmp_ge (pc := 59) 102 dX12_rolls_59 (by decide) (fun c59 => ?_) (fun c59 => ?_)
        · skip
          have kl : ¬ le < u := fun x => by have := fa_le.mp c59; omega
          first
          | exact T s1 f1 X le wh (by rw [eo 0 (by decide), p0]) (by rw [eo 1 (by decide), p1]) e2 (by rw [eo 4 (by decide), p4]) (by rw [eo 5 (by decide), p5]) (fun j a b c => eo j a) hle hX (by unfold canN; rw [if_neg kl]) (by rw [show (canN u si le wh ca).2.2 = ca by unfold canN; rw [if_neg kl]]; exact q3) q4
          | exact T _ _ X si (nwN wh) (by rw [upd_n (by decide), upd_n (by decide), eo 0 (by decide), p0]) (by rw [upd_n (by decide), upd_n (by decide), eo 1 (by decide), p1]) (by rw [upd_n (by decide), upd_n (by decide), e2]) (by rw [upd_n (by decide), upd_s]) upd_s (fun j a b c => by rw [upd_n c, upd_n b, eo j a]) hsi2 hX (by unfold canN; rw [if_pos kl]) (by rw [upd_s, show (canN u si le wh ca).2.2 = ca + 1 by unfold canN; rw [if_pos kl], Int32.add_assoc, nI_1]) (fun j hj => by rw [upd_n hj]; exact q4 j hj)
        · skip
          have kl : le < u := Decidable.byContradiction fun x => c59 (fa_le.mpr (by omega))
          refine r_aload_n (pc := 62) dX12_rolls_62 rfl ?_
          refine r_getf (pc := 63) (k := 0) dX12_rolls_63 hX12 eX12 (by decide) fX12_7 (fun _ q => mo hm q) rfl ?_
          refine r_iconst (pc := 66) (v := 4) dX12_rolls_66 (by decide) ?_
          refine r_aload_n (pc := 67) dX12_rolls_67 rfl ?_
          refine r_getf (pc := 68) (k := 0) dX12_rolls_68 hX12 eX12 (by decide) fX12_7 (fun _ q => mo hm q) rfl ?_
          refine r_bipush (pc := 71) (v := 6) dX12_rolls_71 (by decide) ?_
          refine r_rl (pc := 73) (j := 6) hm dX12_rolls_73 rfl (by decide) ?_
          rw [eo 6 (by decide), p6]
          refine r_rs (pc := 74) (j := 4) hm dX12_rolls_74 rfl (by decide) ?_
          refine r_aload_n (pc := 75) dX12_rolls_75 rfl ?_
          refine r_getf (pc := 76) (k := 0) dX12_rolls_76 hX12 eX12 (by decide) fX12_7 (fun _ q => mo hm q) rfl ?_
          refine r_iconst (pc := 79) (v := 5) dX12_rolls_79 (by decide) ?_
          refine r_aload_n (pc := 80) dX12_rolls_80 rfl ?_
          refine r_getf (pc := 81) (k := 0) dX12_rolls_81 hX12 eX12 (by decide) fX12_7 (fun _ q => mo hm q) rfl ?_
          refine r_iconst (pc := 84) (v := 5) dX12_rolls_84 (by decide) ?_
          refine r_rl (pc := 85) (j := 5) hm dX12_rolls_85 rfl (by decide) ?_
          rw [upd_n (by decide), eo 5 (by decide), p5]
          refine r_iconst (pc := 86) (v := 1) dX12_rolls_86 (by decide) ?_
          refine r_iadd (pc := 87) dX12_rolls_87 ?_
          refine r_bipush (pc := 88) (v := 100) dX12_rolls_88 (by decide) ?_
          refine r_irem' (pc := 90) dX12_rolls_90 (by decide) ?_
          rw [wh_is wh (by omega)]
          refine r_rs (pc := 91) (j := 5) hm dX12_rolls_91 rfl (by decide) ?_
          refine r_aload_n (pc := 92) dX12_rolls_92 rfl ?_
          refine r_dup (pc := 93) dX12_rolls_93 rfl ?_
          refine r_getf (pc := 94) (k := 18) dX12_rolls_94 hX12 eX12 (by decide) fX12_192 (fun _ q => mo hm q) rfl ?_
          refine r_iconst (pc := 97) (v := 1) dX12_rolls_97 (by decide) ?_
          refine r_iadd (pc := 98) dX12_rolls_98 ?_
          rw [q3]
          refine r_mp (pc := 99) (k := 18) hm dX12_rolls_99 fX12_192 (by decide) rfl rfl (fun _ _ => rfl) (fun _ _ => rfl) rfl ?_
          first
          | exact T s1 f1 X le wh (by rw [eo 0 (by decide), p0]) (by rw [eo 1 (by decide), p1]) e2 (by rw [eo 4 (by decide), p4]) (by rw [eo 5 (by decide), p5]) (fun j a b c => eo j a) hle hX (by unfold canN; rw [if_neg kl]) (by rw [show (canN u si le wh ca).2.2 = ca by unfold canN; rw [if_neg kl]]; exact q3) q4
          | exact T _ _ X si (nwN wh) (by rw [upd_n (by decide), upd_n (by decide), eo 0 (by decide), p0]) (by rw [upd_n (by decide), upd_n (by decide), eo 1 (by decide), p1]) (by rw [upd_n (by decide), upd_n (by decide), e2]) (by rw [upd_n (by decide), upd_s]) upd_s (fun j a b c => by rw [upd_n c, upd_n b, eo j a]) hsi2 hX (by unfold canN; rw [if_pos kl]) (by rw [upd_s, show (canN u si le wh ca).2.2 = ca + 1 by unfold canN; rw [if_pos kl], Int32.add_assoc, nI_1]) (fun j hj => by rw [upd_n hj]; exact q4 j hj)
      have hmf3 : paceI (nI kd) (nI mm) (nI k) + newI (nI kd) (nI mm) (nI k) = nI (mfN kd mm k) := hmf
      refine r_iload (pc := 17) dX12_rolls_17 rfl ?_
      refine r_aload_n (pc := 19) dX12_rolls_19 rfl ?_
      refine r_getf (pc := 20) (k := 0) dX12_rolls_20 hX12 eX12 (by decide) fX12_7 (fun _ q => mo hm q) rfl ?_
      refine r_iconst (pc := 23) (v := 0) dX12_rolls_23 (by decide) ?_
      refine r_rl (pc := 24) (j := 0) hm dX12_rolls_24 rfl (by decide) ?_
      rw [p0]
      refine r_icmp_ge (pc := 25) 215 dX12_rolls_25 (by decide) (fun c25 => ?_) (fun c25 => ?_)
      · skip
        exact absurd c25 (fun x => by have := fa_le.mp x; rw [hr, hTk, hTr] at this; omega)
      · skip
        refine r_iload (pc := 28) dX12_rolls_28 rfl ?_
        refine r_if_le (pc := 30) 51 dX12_rolls_30 (by decide) (fun c30 => ?_) (fun c30 => ?_)
        · skip
          have hk0 : k = 0 := by have := fa_le.mp c30; rw [hTk, t0] at this; omega
          have hn : newI (nI kd) (nI mm) (nI k) = 0 := if_neg (fun x => x.1 (by rw [hk0]; rfl))
          first
          | exact H f (nI mi) p2 (fun _ _ => rfl) (by rw [hn, Int32.add_zero] at hmf3; rw [hmf3, nI_add])
          | exact H _ (nI mi + 1) upd_s (fun j hj => upd_n hj) (by rw [hn, Int32.add_comm] at hmf3; rw [Int32.add_assoc, hmf3, nI_add])
        · skip
          have hk0 : ¬ nI k = 0 := fun x => c30 (by rw [x]; exact fa_le.mpr (Int.le_refl _))
          refine r_iload (pc := 33) dX12_rolls_33 rfl ?_
          refine r_iload (pc := 35) dX12_rolls_35 rfl ?_
          refine r_irem' (pc := 37) dX12_rolls_37 hl2 ?_
          refine r_if_ne (pc := 38) 51 dX12_rolls_38 (by decide) (fun c38 => ?_) (fun c38 => ?_)
          · skip
            have hn : newI (nI kd) (nI mm) (nI k) = 0 := if_neg (fun x => c38 x.2.2)
            first
            | exact H f (nI mi) p2 (fun _ _ => rfl) (by rw [hn, Int32.add_zero] at hmf3; rw [hmf3, nI_add])
            | exact H _ (nI mi + 1) upd_s (fun j hj => upd_n hj) (by rw [hn, Int32.add_comm] at hmf3; rw [Int32.add_assoc, hmf3, nI_add])
          · skip
            have hn : newI (nI kd) (nI mm) (nI k) = 1 := if_pos ⟨hk0, hl1, c38⟩
            refine r_aload_n (pc := 41) dX12_rolls_41 rfl ?_
            refine r_getf (pc := 42) (k := 0) dX12_rolls_42 hX12 eX12 (by decide) fX12_7 (fun _ q => mo hm q) rfl ?_
            refine r_iconst (pc := 45) (v := 2) dX12_rolls_45 (by decide) ?_
            refine r_dup2 (pc := 46) dX12_rolls_46 rfl rfl ?_
            refine r_rl (pc := 47) (j := 2) hm dX12_rolls_47 rfl (by decide) ?_
            rw [p2]
            refine r_iconst (pc := 48) (v := 1) dX12_rolls_48 (by decide) ?_
            refine r_iadd (pc := 49) dX12_rolls_49 ?_
            refine r_rs (pc := 50) (j := 2) hm dX12_rolls_50 rfl (by decide) ?_
            first
            | exact H f (nI mi) p2 (fun _ _ => rfl) (by rw [hn, Int32.add_zero] at hmf3; rw [hmf3, nI_add])
            | exact H _ (nI mi + 1) upd_s (fun j hj => upd_n hj) (by rw [hn, Int32.add_comm] at hmf3; rw [Int32.add_assoc, hmf3, nI_add])
  refine aw_P (P' := MP m h s (upA A 0 (A 0))) (fun g q => by rw [upA_id]; exact q) ?_
  refine r_iload_n (pc := 0) dX12_rolls_0 rfl ?_
  refine r_iload_n (pc := 1) dX12_rolls_1 rfl ?_
  refine r_Sp (pc := 2) (μ' := mX12_loadOf) dX12_rolls_2 nX12_111 sX12_loadOf kX12_loadOf rfl rfl (rr (by decide) rfl) rfl ⟨Nat.zero_le _, Nat.zero_le _⟩ (fun h => ct_M_loadOf hmm h) ?_
  refine r_istore (pc := 5) dX12_rolls_5 (Nat.le_of_ble_eq_true rfl) rfl ?_
  dsimp only [lset]
  refine r_iload_n (pc := 7) dX12_rolls_7 rfl ?_
  refine r_iload_n (pc := 8) dX12_rolls_8 rfl ?_
  refine r_Sp (pc := 9) (μ' := mX12_usesOf) dX12_rolls_9 nX12_115 sX12_usesOf kX12_usesOf rfl rfl (rr (by decide) rfl) rfl ⟨Nat.zero_le _, Nat.zero_le _⟩ (fun h => ct_M_usesOf h) ?_
  rw [hu1]
  refine r_istore (pc := 12) dX12_rolls_12 (Nat.le_of_ble_eq_true rfl) rfl ?_
  dsimp only [lset]
  refine r_iconst (pc := 14) (v := 0) dX12_rolls_14 (by decide) ?_
  refine r_istore (pc := 15) dX12_rolls_15 (Nat.le_of_ble_eq_true rfl) rfl ?_
  dsimp only [lset]
  exact L 0 (Nat.zero_le _) s (A 0) none rk (fun _ _ => rfl) hc0 (fun _ _ => rfl)
end Ro
