/-! EACH OPERATION: the class and the reference answer alike, and stay alike -/
theorem wi16 {a : Int32} (h : wiB a 1 6 = true) : 1 ≤ a.toInt.toNat ∧ a.toInt.toNat ≤ 6 := by
  have := wi_t h
  rw [show (1 : Int32).toInt = 1 from rfl, show (6 : Int32).toInt = 6 from rfl] at this
  omega
theorem rn_n {l : List Int32} {i n : Int32} {i2 n2 : Nat} (h1 : i = nI i2) (h2 : n = nI n2) (h3 : i2 + n2 ≤ l.length) (h4 : l.length ≤ 40) : rnB l i n = true := by
  unfold rnB
  rw [h1, h2, nI_T (by omega), nI_T (by omega)]
  exact decide_eq_true ⟨by omega, by omega, by omega⟩
theorem cl_same {f : Nat → Nat} {b : Int32} {x y : Nat} (hb : wiB b 0 1 = true) (x1 : x < 10) (x2 : f x = 0) (x3 : b = 0 → ∀ u, u < x → ¬ f u = 0) (x4 : b = 1 → ∀ u, x < u → u < 10 → ¬ f u = 0) (y1 : y < 10) (y2 : f y = 0) (y3 : b = 0 → ∀ u, u < y → ¬ f u = 0) (y4 : b = 1 → ∀ u, y < u → u < 10 → ¬ f u = 0) : y = x := by
  rcases wi01.mp hb with e | e
  · rcases Nat.lt_trichotomy x y with c | c | c
    · exact absurd x2 (y3 e x c)
    · exact c.symm
    · exact absurd y2 (x3 e y c)
  · rcases Nat.lt_trichotomy x y with c | c | c
    · exact absurd y2 (x4 e y c y1)
    · exact c.symm
    · exact absurd x2 (y4 e x c x1)
section Ops
variable {o cnt : Nat} {g : AH}

set_option maxHeartbeats 4000000 in
theorem op_ceiling {a : Int32} {b : Int32} (w : WI o cnt g) : CV 4 0 0 mX11_ceiling o [.int a, .int b] g (PO 4 mX12_ceiling [.int a, .int b] o cnt) := by
  obtain ⟨K, hs, lD, lL, tp, wa, z, kC, tD, tL, kM, bt, sh, hd, er, im, h, s, A, wc, q, hm, M, hg⟩ := w
  obtain ⟨ok, tb, hok, hD, hL, kp, him⟩ := id wc
  have hst : 1 ≤ kSt K ∧ kSt K ≤ 6 := ok.2.1
  have hro : 1 ≤ kRo K ∧ kRo K ≤ 6 := ok.1
  have h36 : kRo K * kSt K ≤ 6 * 6 := Nat.mul_le_mul hro.2 hst.2
  have hl6 := hok.1
  refine ct_G_ceiling (Q := PO 4 mX12_ceiling [.int a, .int b] o cnt) q  ?_ ?_
  · intro h1 g' G O
    obtain ⟨hg2, hm2⟩ := mh_off hg hm (Nat.le_refl _) O
    refine ⟨_, rfl, cvq hg2 (cm_ceiling hm2 M  ?_ ?_)⟩
    · intro k1 s2 A2 M2
      exact ⟨rfl, WI.mk wc.up G hm2 M2⟩
    · intro k1 s2 A2 M2
      exact ft h1 k1
  · intro h1 g' G O
    obtain ⟨hg2, hm2⟩ := mh_off hg hm (Nat.le_refl _) O
    refine ⟨_, rfl, cvq hg2 (cm_ceiling hm2 M  ?_ ?_)⟩
    · intro k1 s2 A2 M2
      exact ft k1 h1
    · intro k1 s2 A2 M2
      exact ⟨rfl, WI.mk (wc.k1 (bare_wc ok tb (wi16 (Bool.and_eq_true_iff.mp h1).1) (wi16 (Bool.and_eq_true_iff.mp h1).2)).1 (bare_wc ok tb (wi16 (Bool.and_eq_true_iff.mp h1).1) (wi16 (Bool.and_eq_true_iff.mp h1).2)).2) G hm2 M2⟩
set_option maxHeartbeats 4000000 in
theorem op_set {a : Int32} {b : Int32} (w : WI o cnt g) : CV 4 0 0 mX11_set o [.int a, .int b] g (PO 4 mX12_set [.int a, .int b] o cnt) := by
  obtain ⟨K, hs, lD, lL, tp, wa, z, kC, tD, tL, kM, bt, sh, hd, er, im, h, s, A, wc, q, hm, M, hg⟩ := w
  obtain ⟨ok, tb, hok, hD, hL, kp, him⟩ := id wc
  have hst : 1 ≤ kSt K ∧ kSt K ≤ 6 := ok.2.1
  have hro : 1 ≤ kRo K ∧ kRo K ≤ 6 := ok.1
  have h36 : kRo K * kSt K ≤ 6 * 6 := Nat.mul_le_mul hro.2 hst.2
  have hl6 := hok.1
  refine ct_G_set (Q := PO 4 mX12_set [.int a, .int b] o cnt) q  ?_ ?_
  · intro h1 g' G O
    obtain ⟨hg2, hm2⟩ := mh_off hg hm (Nat.le_refl _) O
    refine ⟨_, rfl, cvq hg2 (cm_set hm2 M  ?_ ?_)⟩
    · intro k1 s2 A2 M2
      exact ⟨rfl, WI.mk wc.up G hm2 M2⟩
    · intro k1 s2 A2 M2
      exact ft h1 k1
  · intro h1 g' G O
    obtain ⟨hg2, hm2⟩ := mh_off hg hm (Nat.le_refl _) O
    refine ⟨_, rfl, cvq hg2 (cm_set hm2 M  ?_ ?_)⟩
    · intro k1 s2 A2 M2
      exact ft k1 h1
    · intro k1 s2 A2 M2
      exact ⟨rfl, WI.mk (wc.k1 (set_wc ok tb h1).1 (set_wc ok tb h1).2) G hm2 M2⟩
set_option maxHeartbeats 4000000 in
theorem op_ofCell {a : Int32} {b : Int32} (w : WI o cnt g) : CV 10 0 0 mX11_ofCell o [.int a, .int b] g (PO 50 mX12_ofCell [.int a, .int b] o cnt) := by
  obtain ⟨K, hs, lD, lL, tp, wa, z, kC, tD, tL, kM, bt, sh, hd, er, im, h, s, A, wc, q, hm, M, hg⟩ := w
  obtain ⟨ok, tb, hok, hD, hL, kp, him⟩ := id wc
  have hst : 1 ≤ kSt K ∧ kSt K ≤ 6 := ok.2.1
  have hro : 1 ≤ kRo K ∧ kRo K ≤ 6 := ok.1
  have h36 : kRo K * kSt K ≤ 6 * 6 := Nat.mul_le_mul hro.2 hst.2
  have hl6 := hok.1
  refine ct_G_ofCell (Q := PO 50 mX12_ofCell [.int a, .int b] o cnt) q ok (tb.wb (by decide)) ?_ ?_
  · intro h1 g' G O
    obtain ⟨hg2, hm2⟩ := mh_off hg hm (Nat.le_refl _) O
    refine ⟨_, rfl, cvq hg2 (cm_ofCell hm2 M ok (tb.wb (by decide)) hD hL ?_ ?_)⟩
    · intro k1 s2 A2 M2
      exact ⟨rfl, WI.mk wc.up G hm2 M2⟩
    · intro c9 k1 k2 k3 s2 A2 M2
      exact ft h1 (by rw [cel_n ok k1 k2, k3]; rfl)
  · intro c h1 h2 h3 g' G O
    obtain ⟨hg2, hm2⟩ := mh_off hg hm (Nat.le_refl _) O
    refine ⟨_, rfl, cvq hg2 (cm_ofCell hm2 M ok (tb.wb (by decide)) hD hL ?_ ?_)⟩
    · intro k1 s2 A2 M2
      exact ft k1 (by rw [cel_n ok h1 h2, h3]; rfl)
    · intro c9 k1 k2 k3 s2 A2 M2
      obtain rfl : c = c9 := nIj k1 h1 (by omega) (by omega)
      exact ⟨rfl, WI.mk wc.up G hm2 M2⟩
set_option maxHeartbeats 4000000 in
theorem op_hand {a : Int32} (w : WI o cnt g) : CV 4 0 0 mX11_hand o [.int a] g (PO 4 mX12_hand [.int a] o cnt) := by
  obtain ⟨K, hs, lD, lL, tp, wa, z, kC, tD, tL, kM, bt, sh, hd, er, im, h, s, A, wc, q, hm, M, hg⟩ := w
  obtain ⟨ok, tb, hok, hD, hL, kp, him⟩ := id wc
  have hst : 1 ≤ kSt K ∧ kSt K ≤ 6 := ok.2.1
  have hro : 1 ≤ kRo K ∧ kRo K ≤ 6 := ok.1
  have h36 : kRo K * kSt K ≤ 6 * 6 := Nat.mul_le_mul hro.2 hst.2
  have hl6 := hok.1
  refine ct_G_hand (Q := PO 4 mX12_hand [.int a] o cnt) q hok ?_ ?_ ?_
  · intro h1 g' G O
    obtain ⟨hg2, hm2⟩ := mh_off hg hm (Nat.le_refl _) O
    refine ⟨_, rfl, cvq hg2 (cm_hand hm2 M ok ?_ ?_ ?_)⟩
    · intro k1 s2 A2 M2
      exact ⟨rfl, WI.mk wc.up G hm2 M2⟩
    · intro k1 k2 s2 A2 M2
      exact ft h1 k1
    · intro n9 k1 k2 k3 s2 A2 M2
      exact ft h1 (km_n k1 k2)
  · intro h1 h2 g' G O
    obtain ⟨hg2, hm2⟩ := mh_off hg hm (Nat.le_refl _) O
    refine ⟨_, rfl, cvq hg2 (cm_hand hm2 M ok ?_ ?_ ?_)⟩
    · intro k1 s2 A2 M2
      exact ft k1 h1
    · intro k1 k2 s2 A2 M2
      exact ⟨rfl, WI.mk wc.up G hm2 M2⟩
    · intro n9 k1 k2 k3 s2 A2 M2
      first | contradiction | omega | (exfalso; omega) | (exfalso; simp_all; done)
  · intro n h1 h2 h3 g' G O
    obtain ⟨hg2, hm2⟩ := mh_off hg hm (Nat.le_refl _) O
    refine ⟨_, rfl, cvq hg2 (cm_hand hm2 M ok ?_ ?_ ?_)⟩
    · intro k1 s2 A2 M2
      exact ft k1 (km_n h1 h2)
    · intro k1 k2 s2 A2 M2
      first | contradiction | omega | (exfalso; omega) | (exfalso; simp_all; done)
    · intro n9 k1 k2 k3 s2 A2 M2
      obtain rfl : n = n9 := nIj k1 h1 (by omega) (by omega)
      exact ⟨rfl, WI.mk (wc.h1 (hand_wc hok h3 h2)) G hm2 M2⟩
set_option maxHeartbeats 4000000 in
theorem op_ofHand {a : Int32} {b : Int32} (w : WI o cnt g) : CV 4 0 0 mX11_ofHand o [.int a, .int b] g (PO 4 mX12_ofHand [.int a, .int b] o cnt) := by
  obtain ⟨K, hs, lD, lL, tp, wa, z, kC, tD, tL, kM, bt, sh, hd, er, im, h, s, A, wc, q, hm, M, hg⟩ := w
  obtain ⟨ok, tb, hok, hD, hL, kp, him⟩ := id wc
  have hst : 1 ≤ kSt K ∧ kSt K ≤ 6 := ok.2.1
  have hro : 1 ≤ kRo K ∧ kRo K ≤ 6 := ok.1
  have h36 : kRo K * kSt K ≤ 6 * 6 := Nat.mul_le_mul hro.2 hst.2
  have hl6 := hok.1
  refine ct_G_ofHand (Q := PO 4 mX12_ofHand [.int a, .int b] o cnt) q hok ?_ ?_
  · intro h1 g' G O
    obtain ⟨hg2, hm2⟩ := mh_off hg hm (Nat.le_refl _) O
    refine ⟨_, rfl, cvq hg2 (cm_ofHand hm2 M hok ?_ ?_)⟩
    · intro k1 s2 A2 M2
      exact ⟨rfl, WI.mk wc.up G hm2 M2⟩
    · intro i9 k1 k2 k3 s2 A2 M2
      exact ft h1 (by rw [hd_n k1 k2 hok, k3]; rfl)
  · intro i h1 h2 h3 g' G O
    obtain ⟨hg2, hm2⟩ := mh_off hg hm (Nat.le_refl _) O
    refine ⟨_, rfl, cvq hg2 (cm_ofHand hm2 M hok ?_ ?_)⟩
    · intro k1 s2 A2 M2
      exact ft k1 (by rw [hd_n h1 h2 hok, h3]; rfl)
    · intro i9 k1 k2 k3 s2 A2 M2
      obtain rfl : i = i9 := nIj k1 h1 (by omega) (by omega)
      exact ⟨rfl, WI.mk wc.up G hm2 M2⟩
set_option maxHeartbeats 4000000 in
theorem op_become {a : Int32} {b : Int32} (w : WI o cnt g) : CV 4 0 0 mX11_become o [.int a, .int b] g (PO 4 mX12_become [.int a, .int b] o cnt) := by
  obtain ⟨K, hs, lD, lL, tp, wa, z, kC, tD, tL, kM, bt, sh, hd, er, im, h, s, A, wc, q, hm, M, hg⟩ := w
  obtain ⟨ok, tb, hok, hD, hL, kp, him⟩ := id wc
  have hst : 1 ≤ kSt K ∧ kSt K ≤ 6 := ok.2.1
  have hro : 1 ≤ kRo K ∧ kRo K ≤ 6 := ok.1
  have h36 : kRo K * kSt K ≤ 6 * 6 := Nat.mul_le_mul hro.2 hst.2
  have hl6 := hok.1
  refine ct_G_become (Q := PO 4 mX12_become [.int a, .int b] o cnt) q hok ?_ ?_
  · intro h1 g' G O
    obtain ⟨hg2, hm2⟩ := mh_off hg hm (Nat.le_refl _) O
    refine ⟨_, rfl, cvq hg2 (cm_become hm2 M ok hok ?_ ?_)⟩
    · intro k1 s2 A2 M2
      exact ⟨rfl, WI.mk wc.up G hm2 M2⟩
    · intro i9 n9 k1 k2 k3 k4 s2 A2 M2
      exact ft h1 (by rw [hd_n k1 k2 hok, km_n k3 k4]; rfl)
  · intro i n h1 h2 h3 h4 g' G O
    obtain ⟨hg2, hm2⟩ := mh_off hg hm (Nat.le_refl _) O
    refine ⟨_, rfl, cvq hg2 (cm_become hm2 M ok hok ?_ ?_)⟩
    · intro k1 s2 A2 M2
      exact ft k1 (by rw [hd_n h1 h2 hok, km_n h3 h4]; rfl)
    · intro i9 n9 k1 k2 k3 k4 s2 A2 M2
      obtain rfl : i = i9 := nIj k1 h1 (by omega) (by omega)
      obtain rfl : n = n9 := nIj k3 h3 (by omega) (by omega)
      exact ⟨rfl, WI.mk (wc.h1 (become_wc hok h4)) G hm2 M2⟩
set_option maxHeartbeats 4000000 in
theorem op_as {a : Int32} {b : Int32} (w : WI o cnt g) : CV 4 0 0 mX11_as o [.int a, .int b] g (PO 4 mX12_as [.int a, .int b] o cnt) := by
  obtain ⟨K, hs, lD, lL, tp, wa, z, kC, tD, tL, kM, bt, sh, hd, er, im, h, s, A, wc, q, hm, M, hg⟩ := w
  obtain ⟨ok, tb, hok, hD, hL, kp, him⟩ := id wc
  have hst : 1 ≤ kSt K ∧ kSt K ≤ 6 := ok.2.1
  have hro : 1 ≤ kRo K ∧ kRo K ≤ 6 := ok.1
  have h36 : kRo K * kSt K ≤ 6 * 6 := Nat.mul_le_mul hro.2 hst.2
  have hl6 := hok.1
  refine ct_G_as (Q := PO 4 mX12_as [.int a, .int b] o cnt) q hok ?_ ?_ ?_
  · intro h1 g' G O
    obtain ⟨hg2, hm2⟩ := mh_off hg hm (Nat.le_refl _) O
    refine ⟨_, rfl, cvq hg2 (cm_as hm2 M hok ?_ ?_ ?_)⟩
    · intro k1 s2 A2 M2
      exact ⟨rfl, WI.mk wc.up G hm2 M2⟩
    · intro i9 k1 k2 k3 k4 s2 A2 M2
      exact ft h1 (by rw [hd_n k1 k2 hok, decide_eq_true k3]; rfl)
    · intro i9 k1 k2 k3 k4 s2 A2 M2
      exact ft h1 (by rw [hd_n k1 k2 hok, decide_eq_true k3]; rfl)
  · intro i h1 h2 h3 h4 g' G O
    obtain ⟨hg2, hm2⟩ := mh_off hg hm (Nat.le_refl _) O
    refine ⟨_, rfl, cvq hg2 (cm_as hm2 M hok ?_ ?_ ?_)⟩
    · intro k1 s2 A2 M2
      exact ft k1 (by rw [hd_n h1 h2 hok, decide_eq_true h3]; rfl)
    · intro i9 k1 k2 k3 k4 s2 A2 M2
      obtain rfl : i = i9 := nIj k1 h1 (by omega) (by omega)
      exact ⟨rfl, WI.mk wc.up G hm2 M2⟩
    · intro i9 k1 k2 k3 k4 s2 A2 M2
      obtain rfl : i = i9 := nIj k1 h1 (by omega) (by omega)
      first | contradiction | omega | (exfalso; omega) | (exfalso; simp_all; done)
  · intro i h1 h2 h3 h4 g' G O
    obtain ⟨hg2, hm2⟩ := mh_off hg hm (Nat.le_refl _) O
    refine ⟨_, rfl, cvq hg2 (cm_as hm2 M hok ?_ ?_ ?_)⟩
    · intro k1 s2 A2 M2
      exact ft k1 (by rw [hd_n h1 h2 hok, decide_eq_true h3]; rfl)
    · intro i9 k1 k2 k3 k4 s2 A2 M2
      obtain rfl : i = i9 := nIj k1 h1 (by omega) (by omega)
      first | contradiction | omega | (exfalso; omega) | (exfalso; simp_all; done)
    · intro i9 k1 k2 k3 k4 s2 A2 M2
      obtain rfl : i = i9 := nIj k1 h1 (by omega) (by omega)
      exact ⟨rfl, WI.mk wc.up G hm2 M2⟩
set_option maxHeartbeats 4000000 in
theorem op_feed {x8 : Int64} {b : Int32} (w : WI o cnt g) : CV 6 0 0 mX11_feed o [.long x8, .int b] g (PO 6 mX12_feed [.long x8, .int b] o cnt) := by
  obtain ⟨K, hs, lD, lL, tp, wa, z, kC, tD, tL, kM, bt, sh, hd, er, im, h, s, A, wc, q, hm, M, hg⟩ := w
  obtain ⟨ok, tb, hok, hD, hL, kp, him⟩ := id wc
  have hst : 1 ≤ kSt K ∧ kSt K ≤ 6 := ok.2.1
  have hro : 1 ≤ kRo K ∧ kRo K ≤ 6 := ok.1
  have h36 : kRo K * kSt K ≤ 6 * 6 := Nat.mul_le_mul hro.2 hst.2
  have hl6 := hok.1
  refine ct_G_feed (Q := PO 6 mX12_feed [.long x8, .int b] o cnt) q  ?_ ?_ ?_
  · intro h1 g' G O
    obtain ⟨hg2, hm2⟩ := mh_off hg hm (Nat.le_refl _) O
    refine ⟨_, rfl, cvq hg2 (cm_feed hm2 M ok ?_ ?_ ?_)⟩
    · intro k1 s2 A2 M2
      exact ⟨rfl, WI.mk wc.up G hm2 M2⟩
    · intro n9 k1 k2 k3 k4 s2 A2 M2
      exact ft h1 (wi_n k1 (by omega) (by show (1 : Int) ≤ _; omega) (by show _ ≤ (8 : Int); omega))
    · intro n9 k1 k2 k3 k4 s2 A2 M2
      exact ft h1 (wi_n k1 (by omega) (by show (1 : Int) ≤ _; omega) (by show _ ≤ (8 : Int); omega))
  · intro n h1 h2 h3 h4 g' G O
    obtain ⟨hg2, hm2⟩ := mh_off hg hm (Nat.le_refl _) O
    refine ⟨_, rfl, cvq hg2 (cm_feed hm2 M ok ?_ ?_ ?_)⟩
    · intro k1 s2 A2 M2
      exact ft k1 (wi_n h1 (by omega) (by show (1 : Int) ≤ _; omega) (by show _ ≤ (8 : Int); omega))
    · intro n9 k1 k2 k3 k4 s2 A2 M2
      obtain rfl : n = n9 := nIj k1 h1 (by omega) (by omega)
      exact ⟨rfl, WI.mk wc.up G hm2 M2⟩
    · intro n9 k1 k2 k3 k4 s2 A2 M2
      obtain rfl : n = n9 := nIj k1 h1 (by omega) (by omega)
      first | contradiction | omega | (exfalso; omega) | (exfalso; simp_all; done)
  · intro n h1 h2 h3 h4 g' G O
    obtain ⟨hg2, hm2⟩ := mh_off hg hm (Nat.le_refl _) O
    refine ⟨_, rfl, cvq hg2 (cm_feed hm2 M ok ?_ ?_ ?_)⟩
    · intro k1 s2 A2 M2
      exact ft k1 (wi_n h1 (by omega) (by show (1 : Int) ≤ _; omega) (by show _ ≤ (8 : Int); omega))
    · intro n9 k1 k2 k3 k4 s2 A2 M2
      obtain rfl : n = n9 := nIj k1 h1 (by omega) (by omega)
      first | contradiction | omega | (exfalso; omega) | (exfalso; simp_all; done)
    · intro n9 k1 k2 k3 k4 s2 A2 M2
      obtain rfl : n = n9 := nIj k1 h1 (by omega) (by omega)
      exact ⟨rfl, WI.mk wc.up G hm2 M2⟩
set_option maxHeartbeats 4000000 in
theorem op_law {a : Int32} {b : Int32} {c : Int32} {d : Int32} (w : WI o cnt g) : CV 6 0 0 mX11_law o [.int a, .int b, .int c, .int d] g (PO 50 mX12_law [.int a, .int b, .int c, .int d] o cnt) := by
  obtain ⟨K, hs, lD, lL, tp, wa, z, kC, tD, tL, kM, bt, sh, hd, er, im, h, s, A, wc, q, hm, M, hg⟩ := w
  obtain ⟨ok, tb, hok, hD, hL, kp, him⟩ := id wc
  have hst : 1 ≤ kSt K ∧ kSt K ≤ 6 := ok.2.1
  have hro : 1 ≤ kRo K ∧ kRo K ≤ 6 := ok.1
  have h36 : kRo K * kSt K ≤ 6 * 6 := Nat.mul_le_mul hro.2 hst.2
  have hl6 := hok.1
  refine ct_G_law (Q := PO 50 mX12_law [.int a, .int b, .int c, .int d] o cnt) q  ?_ ?_
  · intro h1 g' G O
    obtain ⟨hg2, hm2⟩ := mh_off hg hm (Nat.le_refl _) O
    refine ⟨_, rfl, cvq hg2 (cm_law hm2 M hD hL ?_ ?_)⟩
    · intro k1 s2 A2 M2
      exact ⟨rfl, WI.mk wc.up G hm2 M2⟩
    · intro k1 s2 A2 M2
      exact ft h1 k1
  · intro h1 g' G O
    obtain ⟨hg2, hm2⟩ := mh_off hg hm (Nat.le_refl _) O
    refine ⟨_, rfl, cvq hg2 (cm_law hm2 M hD hL ?_ ?_)⟩
    · intro k1 s2 A2 M2
      exact ft k1 h1
    · intro k1 s2 A2 M2
      exact ⟨rfl, WI.mk wc.up G hm2 M2⟩
set_option maxHeartbeats 4000000 in
theorem op_roll {a : Int32} {b : Int32} {c : Int32} (w : WI o cnt g) : CV 6 0 0 mX11_roll o [.int a, .int b, .int c] g (PO 6 mX12_roll [.int a, .int b, .int c] o cnt) := by
  obtain ⟨K, hs, lD, lL, tp, wa, z, kC, tD, tL, kM, bt, sh, hd, er, im, h, s, A, wc, q, hm, M, hg⟩ := w
  obtain ⟨ok, tb, hok, hD, hL, kp, him⟩ := id wc
  have hst : 1 ≤ kSt K ∧ kSt K ≤ 6 := ok.2.1
  have hro : 1 ≤ kRo K ∧ kRo K ≤ 6 := ok.1
  have h36 : kRo K * kSt K ≤ 6 * 6 := Nat.mul_le_mul hro.2 hst.2
  have hl6 := hok.1
  refine ct_G_roll (Q := PO 6 mX12_roll [.int a, .int b, .int c] o cnt) q ok tb.1 hok ?_ ?_ ?_
  · intro h1 g' G O
    obtain ⟨hg2, hm2⟩ := mh_off hg hm (Nat.le_refl _) O
    refine ⟨_, rfl, cvq hg2 (cm_roll hm2 M ok tb.1 hok ?_ ?_ ?_)⟩
    · intro k1 s2 A2 M2
      exact ⟨rfl, WI.mk wc.up G hm2 M2⟩
    · intro k1 k2 s2 A2 M2
      exact ft h1 k1
    · intro i9 sx9 k1 k2 k3 k4 k5 k6 s2 A2 M2
      exact ft h1 (by rw [hd_n k1 k2 hok, st_n k3 k4 hst.2, k5]; rfl)
  · intro h1 h2 g' G O
    obtain ⟨hg2, hm2⟩ := mh_off hg hm (Nat.le_refl _) O
    refine ⟨_, rfl, cvq hg2 (cm_roll hm2 M ok tb.1 hok ?_ ?_ ?_)⟩
    · intro k1 s2 A2 M2
      exact ft k1 h1
    · intro k1 k2 s2 A2 M2
      exact ⟨rfl, WI.mk wc.up G hm2 M2⟩
    · intro i9 sx9 k1 k2 k3 k4 k5 k6 s2 A2 M2
      first | contradiction | omega | (exfalso; omega) | (exfalso; simp_all; done)
  · intro i sx h1 h2 h3 h4 h5 h6 g' G O
    obtain ⟨hg2, hm2⟩ := mh_off hg hm (Nat.le_refl _) O
    refine ⟨_, rfl, cvq hg2 (cm_roll hm2 M ok tb.1 hok ?_ ?_ ?_)⟩
    · intro k1 s2 A2 M2
      exact ft k1 (by rw [hd_n h1 h2 hok, st_n h3 h4 hst.2, h5]; rfl)
    · intro k1 k2 s2 A2 M2
      first | contradiction | omega | (exfalso; omega) | (exfalso; simp_all; done)
    · intro i9 sx9 k1 k2 k3 k4 k5 k6 s2 A2 M2
      obtain rfl : i = i9 := nIj k1 h1 (by omega) (by omega)
      obtain rfl : sx = sx9 := nIj k3 h3 (by omega) (by omega)
      exact ⟨rfl, WI.mk (wc.k1 (roll_wc ok tb hok h2 h6).1 (roll_wc ok tb hok h2 h6).2) G hm2 M2⟩
set_option maxHeartbeats 4000000 in
theorem op_minutes {a : Int32} (w : WI o cnt g) : CV 4 0 0 mX11_minutes o [.int a] g (PO 4 mX12_minutes [.int a] o cnt) := by
  obtain ⟨K, hs, lD, lL, tp, wa, z, kC, tD, tL, kM, bt, sh, hd, er, im, h, s, A, wc, q, hm, M, hg⟩ := w
  obtain ⟨ok, tb, hok, hD, hL, kp, him⟩ := id wc
  have hst : 1 ≤ kSt K ∧ kSt K ≤ 6 := ok.2.1
  have hro : 1 ≤ kRo K ∧ kRo K ≤ 6 := ok.1
  have h36 : kRo K * kSt K ≤ 6 * 6 := Nat.mul_le_mul hro.2 hst.2
  have hl6 := hok.1
  refine ct_G_minutes (Q := PO 4 mX12_minutes [.int a] o cnt) q tb.1 ?_ ?_ ?_
  · intro h1 g' G O
    obtain ⟨hg2, hm2⟩ := mh_off hg hm (Nat.le_refl _) O
    refine ⟨_, rfl, cvq hg2 (cm_minutes hm2 M tb.1 ?_ ?_ ?_)⟩
    · intro k1 s2 A2 M2
      exact ⟨rfl, WI.mk wc.up G hm2 M2⟩
    · intro n9 k1 k2 k3 k4 s2 A2 M2
      exact ft h1 (wi_n k1 (by omega) (by show (1 : Int) ≤ _; omega) (by show _ ≤ (500 : Int); omega))
    · intro n9 k1 k2 k3 k4 s2 A2 M2
      exact ft h1 (wi_n k1 (by omega) (by show (1 : Int) ≤ _; omega) (by show _ ≤ (500 : Int); omega))
  · intro n h1 h2 h3 h4 g' G O
    obtain ⟨hg2, hm2⟩ := mh_off hg hm (Nat.le_refl _) O
    refine ⟨_, rfl, cvq hg2 (cm_minutes hm2 M tb.1 ?_ ?_ ?_)⟩
    · intro k1 s2 A2 M2
      exact ft k1 (wi_n h1 (by omega) (by show (1 : Int) ≤ _; omega) (by show _ ≤ (500 : Int); omega))
    · intro n9 k1 k2 k3 k4 s2 A2 M2
      obtain rfl : n = n9 := nIj k1 h1 (by omega) (by omega)
      exact ⟨rfl, WI.mk wc.up G hm2 M2⟩
    · intro n9 k1 k2 k3 k4 s2 A2 M2
      obtain rfl : n = n9 := nIj k1 h1 (by omega) (by omega)
      first | contradiction | omega | (exfalso; omega) | (exfalso; simp_all; done)
  · intro n h1 h2 h3 h4 g' G O
    obtain ⟨hg2, hm2⟩ := mh_off hg hm (Nat.le_refl _) O
    refine ⟨_, rfl, cvq hg2 (cm_minutes hm2 M tb.1 ?_ ?_ ?_)⟩
    · intro k1 s2 A2 M2
      exact ft k1 (wi_n h1 (by omega) (by show (1 : Int) ≤ _; omega) (by show _ ≤ (500 : Int); omega))
    · intro n9 k1 k2 k3 k4 s2 A2 M2
      obtain rfl : n = n9 := nIj k1 h1 (by omega) (by omega)
      first | contradiction | omega | (exfalso; omega) | (exfalso; simp_all; done)
    · intro n9 k1 k2 k3 k4 s2 A2 M2
      obtain rfl : n = n9 := nIj k1 h1 (by omega) (by omega)
      exact ⟨rfl, WI.mk (wc.k1 (setMi_ok ok) ((TB.setMi tb).mono h4 (Nat.le_refl _))) G hm2 M2⟩
set_option maxHeartbeats 4000000 in
theorem op_days {a : Int32} (w : WI o cnt g) : CV 10 0 0 mX11_days o [.int a] g (PO 50 mX12_days [.int a] o cnt) := by
  obtain ⟨K, hs, lD, lL, tp, wa, z, kC, tD, tL, kM, bt, sh, hd, er, im, h, s, A, wc, q, hm, M, hg⟩ := w
  obtain ⟨ok, tb, hok, hD, hL, kp, him⟩ := id wc
  have hst : 1 ≤ kSt K ∧ kSt K ≤ 6 := ok.2.1
  have hro : 1 ≤ kRo K ∧ kRo K ≤ 6 := ok.1
  have h36 : kRo K * kSt K ≤ 6 * 6 := Nat.mul_le_mul hro.2 hst.2
  have hl6 := hok.1
  refine ct_G_days (Q := PO 50 mX12_days [.int a] o cnt) q ok tb hok ?_ ?_ ?_
  · intro h1 g' G O
    obtain ⟨hg2, hm2⟩ := mh_off hg hm (Nat.le_refl _) O
    refine ⟨_, rfl, cvq hg2 (cm_days hm2 M ok tb hok hD hL ?_ ?_ ?_)⟩
    · intro k1 s2 A2 M2
      exact ⟨rfl, WI.mk wc.up G hm2 M2⟩
    · intro k1 k2 s2 A2 M2
      exact ft h1 k1
    · intro n9 k1 k2 k3 k4 s2 A2 M2
      exact ft h1 (wi_n k1 (by omega) (by show (1 : Int) ≤ _; omega) (by show _ ≤ (30 : Int); omega))
  · intro h1 h2 g' G O
    obtain ⟨hg2, hm2⟩ := mh_off hg hm (Nat.le_refl _) O
    refine ⟨_, rfl, cvq hg2 (cm_days hm2 M ok tb hok hD hL ?_ ?_ ?_)⟩
    · intro k1 s2 A2 M2
      exact ft k1 h1
    · intro k1 k2 s2 A2 M2
      exact ⟨rfl, WI.mk wc.up G hm2 M2⟩
    · intro n9 k1 k2 k3 k4 s2 A2 M2
      first | contradiction | omega | (exfalso; omega) | (exfalso; simp_all; done)
  · intro n h1 h2 h3 h4 g' G O
    obtain ⟨hg2, hm2⟩ := mh_off hg hm (Nat.le_refl _) O
    refine ⟨_, rfl, cvq hg2 (cm_days hm2 M ok tb hok hD hL ?_ ?_ ?_)⟩
    · intro k1 s2 A2 M2
      exact ft k1 (wi_n h1 (by omega) (by show (1 : Int) ≤ _; omega) (by show _ ≤ (30 : Int); omega))
    · intro k1 k2 s2 A2 M2
      first | contradiction | omega | (exfalso; omega) | (exfalso; simp_all; done)
    · intro n9 k1 k2 k3 k4 s2 A2 M2
      obtain rfl : n = n9 := nIj k1 h1 (by omega) (by omega)
      exact ⟨rfl, WI.mk (wc.k1 (dyS_ok ok tb hok h4 n).1 (dyS_ok ok tb hok h4 n).2) G hm2 M2⟩
set_option maxHeartbeats 4000000 in
theorem op_seams {a : Int32} (w : WI o cnt g) : CV 10 0 0 mX11_seams o [.int a] g (PO 50 mX12_seams [.int a] o cnt) := by
  obtain ⟨K, hs, lD, lL, tp, wa, z, kC, tD, tL, kM, bt, sh, hd, er, im, h, s, A, wc, q, hm, M, hg⟩ := w
  obtain ⟨ok, tb, hok, hD, hL, kp, him⟩ := id wc
  have hst : 1 ≤ kSt K ∧ kSt K ≤ 6 := ok.2.1
  have hro : 1 ≤ kRo K ∧ kRo K ≤ 6 := ok.1
  have h36 : kRo K * kSt K ≤ 6 * 6 := Nat.mul_le_mul hro.2 hst.2
  have hl6 := hok.1
  refine ct_G_seams (Q := PO 50 mX12_seams [.int a] o cnt) q ok (tb.wb (by decide)) ?_ ?_
  · intro h1 g' G O
    obtain ⟨hg2, hm2⟩ := mh_off hg hm (Nat.le_refl _) O
    refine ⟨_, rfl, cvq hg2 (cm_seams hm2 M ok (tb.wb (by decide)) hD hL ?_ ?_)⟩
    · intro k1 s2 A2 M2
      exact ⟨rfl, WI.mk wc.up G hm2 M2⟩
    · intro k1 s2 A2 M2
      exact ft h1 k1
  · intro h1 g' G O
    obtain ⟨hg2, hm2⟩ := mh_off hg hm (Nat.le_refl _) O
    refine ⟨_, rfl, cvq hg2 (cm_seams hm2 M ok (tb.wb (by decide)) hD hL ?_ ?_)⟩
    · intro k1 s2 A2 M2
      exact ft k1 h1
    · intro k1 s2 A2 M2
      exact ⟨rfl, WI.mk wc.up G hm2 M2⟩
set_option maxHeartbeats 4000000 in
theorem op_done {a : Int32} {b : Int32} (w : WI o cnt g) : CV 10 0 0 mX11_done o [.int a, .int b] g (PO 50 mX12_done [.int a, .int b] o cnt) := by
  obtain ⟨K, hs, lD, lL, tp, wa, z, kC, tD, tL, kM, bt, sh, hd, er, im, h, s, A, wc, q, hm, M, hg⟩ := w
  obtain ⟨ok, tb, hok, hD, hL, kp, him⟩ := id wc
  have hst : 1 ≤ kSt K ∧ kSt K ≤ 6 := ok.2.1
  have hro : 1 ≤ kRo K ∧ kRo K ≤ 6 := ok.1
  have h36 : kRo K * kSt K ≤ 6 * 6 := Nat.mul_le_mul hro.2 hst.2
  have hl6 := hok.1
  refine ct_G_done (Q := PO 50 mX12_done [.int a, .int b] o cnt) q ok tb hok ?_ ?_ ?_ ?_
  · intro h1 g' G O
    obtain ⟨hg2, hm2⟩ := mh_off hg hm (Nat.le_refl _) O
    refine ⟨_, rfl, cvq hg2 (cm_done hm2 M ok tb hok hD hL ?_ ?_ ?_ ?_)⟩
    · intro k1 s2 A2 M2
      exact ⟨rfl, WI.mk wc.up G hm2 M2⟩
    · intro k1 j9 k2 k3 k4 s2 A2 M2
      exact ft h1 (by rw [k1, sh_n k2 k3]; rfl)
    · intro k1 j9 k2 k3 k4 k5 s2 A2 M2
      exact ft h1 (by rw [k1, sh_n k2 k3]; rfl)
    · intro i9 j9 pl9 k1 k2 k3 k4 k5 k6 k7 s2 A2 M2
      exact ft h1 (by rw [hd_n k1 k2 hok, sh_n k3 k4]; rfl)
  · intro h1 j h2 h3 h4 g' G O
    obtain ⟨hg2, hm2⟩ := mh_off hg hm (Nat.le_refl _) O
    refine ⟨_, rfl, cvq hg2 (cm_done hm2 M ok tb hok hD hL ?_ ?_ ?_ ?_)⟩
    · intro k1 s2 A2 M2
      exact ft k1 (by rw [h1, sh_n h2 h3]; rfl)
    · intro k1 j9 k2 k3 k4 s2 A2 M2
      obtain rfl : j = j9 := nIj k2 h2 (by omega) (by omega)
      exact ⟨rfl, WI.mk wc.up G hm2 M2⟩
    · intro k1 j9 k2 k3 k4 k5 s2 A2 M2
      obtain rfl : j = j9 := nIj k2 h2 (by omega) (by omega)
      first | contradiction | omega | (exfalso; omega) | (exfalso; simp_all; done)
    · intro i9 j9 pl9 k1 k2 k3 k4 k5 k6 k7 s2 A2 M2
      obtain rfl : j = j9 := nIj k3 h2 (by omega) (by omega)
      first | contradiction | omega | (exfalso; omega) | (exfalso; simp_all; done)
  · intro h1 j h2 h3 h4 h5 g' G O
    obtain ⟨hg2, hm2⟩ := mh_off hg hm (Nat.le_refl _) O
    refine ⟨_, rfl, cvq hg2 (cm_done hm2 M ok tb hok hD hL ?_ ?_ ?_ ?_)⟩
    · intro k1 s2 A2 M2
      exact ft k1 (by rw [h1, sh_n h2 h3]; rfl)
    · intro k1 j9 k2 k3 k4 s2 A2 M2
      obtain rfl : j = j9 := nIj k2 h2 (by omega) (by omega)
      first | contradiction | omega | (exfalso; omega) | (exfalso; simp_all; done)
    · intro k1 j9 k2 k3 k4 k5 s2 A2 M2
      obtain rfl : j = j9 := nIj k2 h2 (by omega) (by omega)
      exact ⟨rfl, WI.mk wc.up G hm2 M2⟩
    · intro i9 j9 pl9 k1 k2 k3 k4 k5 k6 k7 s2 A2 M2
      obtain rfl : j = j9 := nIj k3 h2 (by omega) (by omega)
      exact absurd ⟨k6, by rw [k7]; rfl⟩ h5
  · intro i j pl h1 h2 h3 h4 h5 h6 h7 g' G O
    obtain ⟨hg2, hm2⟩ := mh_off hg hm (Nat.le_refl _) O
    refine ⟨_, rfl, cvq hg2 (cm_done hm2 M ok tb hok hD hL ?_ ?_ ?_ ?_)⟩
    · intro k1 s2 A2 M2
      exact ft k1 (by rw [hd_n h1 h2 hok, sh_n h3 h4]; rfl)
    · intro k1 j9 k2 k3 k4 s2 A2 M2
      obtain rfl : j = j9 := nIj k2 h3 (by omega) (by omega)
      first | contradiction | omega | (exfalso; omega) | (exfalso; simp_all; done)
    · intro k1 j9 k2 k3 k4 k5 s2 A2 M2
      obtain rfl : j = j9 := nIj k2 h3 (by omega) (by omega)
      exact absurd ⟨h6, by rw [h7]; rfl⟩ k5
    · intro i9 j9 pl9 k1 k2 k3 k4 k5 k6 k7 s2 A2 M2
      obtain rfl : i = i9 := nIj k1 h1 (by omega) (by omega)
      obtain rfl : j = j9 := nIj k3 h3 (by omega) (by omega)
      obtain rfl : pl = pl9 := Option.some.inj (h7.symm.trans k7)
      exact ⟨rfl, WI.mk wc.up G hm2 M2⟩
set_option maxHeartbeats 4000000 in
theorem op_order {a : Int32} {b : Int32} (w : WI o cnt g) : CV 14 0 0 mX11_order o [.int a, .int b] g (PO 50 mX12_order [.int a, .int b] o cnt) := by
  obtain ⟨K, hs, lD, lL, tp, wa, z, kC, tD, tL, kM, bt, sh, hd, er, im, h, s, A, wc, q, hm, M, hg⟩ := w
  obtain ⟨ok, tb, hok, hD, hL, kp, him⟩ := id wc
  have hst : 1 ≤ kSt K ∧ kSt K ≤ 6 := ok.2.1
  have hro : 1 ≤ kRo K ∧ kRo K ≤ 6 := ok.1
  have h36 : kRo K * kSt K ≤ 6 * 6 := Nat.mul_le_mul hro.2 hst.2
  have hl6 := hok.1
  refine ct_G_order (Q := PO 50 mX12_order [.int a, .int b] o cnt) q ok tb hok ?_ ?_
  · intro h1 g' G O
    obtain ⟨hg2, hm2⟩ := mh_off hg hm (Nat.le_refl _) O
    refine ⟨_, rfl, cvq hg2 (cm_order hm2 M ok tb hok hD hL ?_ ?_)⟩
    · intro k1 s2 A2 M2
      exact ⟨rfl, WI.mk wc.up G hm2 M2⟩
    · intro i9 k1 k2 k3 s2 A2 M2
      exact ft h1 (by rw [hd_n k1 k2 hok, k3]; rfl)
  · intro i h1 h2 h3 g' bs G O
    rw [bsV_eq ok bs]
    obtain ⟨hg2, hm2⟩ := mh_off hg hm (Nat.le_refl _) O
    refine ⟨_, rfl, cvq hg2 (cm_order hm2 M ok tb hok hD hL ?_ ?_)⟩
    · intro k1 s2 A2 M2
      exact ft k1 (by rw [hd_n h1 h2 hok, h3]; rfl)
    · intro i9 k1 k2 k3 s2 A2 M2
      obtain rfl : i = i9 := nIj k1 h1 (by omega) (by omega)
      exact ⟨rfl, WI.mk wc.up G hm2 M2⟩
set_option maxHeartbeats 4000000 in
theorem op_clean {a : Int32} {b : Int32} (w : WI o cnt g) : CV 20 0 0 mX11_clean o [.int a, .int b] g (PO 50 mX12_clean [.int a, .int b] o cnt) := by
  obtain ⟨K, hs, lD, lL, tp, wa, z, kC, tD, tL, kM, bt, sh, hd, er, im, h, s, A, wc, q, hm, M, hg⟩ := w
  obtain ⟨ok, tb, hok, hD, hL, kp, him⟩ := id wc
  have hst : 1 ≤ kSt K ∧ kSt K ≤ 6 := ok.2.1
  have hro : 1 ≤ kRo K ∧ kRo K ≤ 6 := ok.1
  have h36 : kRo K * kSt K ≤ 6 * 6 := Nat.mul_le_mul hro.2 hst.2
  have hl6 := hok.1
  refine ct_G_clean (Q := PO 50 mX12_clean [.int a, .int b] o cnt) q ok tb hok ?_ ?_ ?_
  · intro h1 g' G O
    obtain ⟨hg2, hm2⟩ := mh_off hg hm (Nat.le_refl _) O
    refine ⟨_, rfl, cvq hg2 (cm_clean hm2 M ok tb hok hD hL ?_ ?_ ?_)⟩
    · intro k1 s2 A2 M2
      exact ⟨rfl, WI.mk wc.up G hm2 M2⟩
    · intro i9 k1 k2 k3 k4 s2 A2 M2
      exact ft h1 (by rw [hd_n k1 k2 hok, k3]; rfl)
    · intro i9 he9 k1 k2 k3 k4 k5 k6 k7 s2 A2 M2
      exact ft h1 (by rw [hd_n k1 k2 hok, k3]; rfl)
  · intro i h1 h2 h3 h4 g' G O
    obtain ⟨hg2, hm2⟩ := mh_off hg hm (Nat.le_refl _) O
    refine ⟨_, rfl, cvq hg2 (cm_clean hm2 M ok tb hok hD hL ?_ ?_ ?_)⟩
    · intro k1 s2 A2 M2
      exact ft k1 (by rw [hd_n h1 h2 hok, h3]; rfl)
    · intro i9 k1 k2 k3 k4 s2 A2 M2
      obtain rfl : i = i9 := nIj k1 h1 (by omega) (by omega)
      exact ⟨rfl, WI.mk wc.up G hm2 M2⟩
    · intro i9 he9 k1 k2 k3 k4 k5 k6 k7 s2 A2 M2
      obtain rfl : i = i9 := nIj k1 h1 (by omega) (by omega)
      exact absurd k5 (h4 _ k4)
  · intro i he h1 h2 h3 h4 h5 h6 h7 g' G O
    obtain ⟨hg2, hm2⟩ := mh_off hg hm (Nat.le_refl _) O
    refine ⟨_, rfl, cvq hg2 (cm_clean hm2 M ok tb hok hD hL ?_ ?_ ?_)⟩
    · intro k1 s2 A2 M2
      exact ft k1 (by rw [hd_n h1 h2 hok, h3]; rfl)
    · intro i9 k1 k2 k3 k4 s2 A2 M2
      obtain rfl : i = i9 := nIj k1 h1 (by omega) (by omega)
      exact absurd h5 (k4 _ h4)
    · intro i9 he9 k1 k2 k3 k4 k5 k6 k7 s2 A2 M2
      obtain rfl : i = i9 := nIj k1 h1 (by omega) (by omega)
      obtain rfl : he = he9 := cl_same h3 k4 k5 k6 k7 h4 h5 h6 h7
      exact ⟨rfl, WI.mk wc.up G hm2 M2⟩
set_option maxHeartbeats 4000000 in
theorem op_called {a : Int32} {b : Int32} {c : Int32} (w : WI o cnt g) : CV 10 0 0 mX11_called o [.int a, .int b, .int c] g (PO 50 mX12_called [.int a, .int b, .int c] o cnt) := by
  obtain ⟨K, hs, lD, lL, tp, wa, z, kC, tD, tL, kM, bt, sh, hd, er, im, h, s, A, wc, q, hm, M, hg⟩ := w
  obtain ⟨ok, tb, hok, hD, hL, kp, him⟩ := id wc
  have hst : 1 ≤ kSt K ∧ kSt K ≤ 6 := ok.2.1
  have hro : 1 ≤ kRo K ∧ kRo K ≤ 6 := ok.1
  have h36 : kRo K * kSt K ≤ 6 * 6 := Nat.mul_le_mul hro.2 hst.2
  have hl6 := hok.1
  refine ct_G_called (Q := PO 50 mX12_called [.int a, .int b, .int c] o cnt) q ok tb hok ?_ ?_
  · intro h1 g' G O
    obtain ⟨hg2, hm2⟩ := mh_off hg hm (Nat.le_refl _) O
    refine ⟨_, rfl, cvq hg2 (cm_called hm2 M ok tb hok hD hL ?_ ?_)⟩
    · intro k1 s2 A2 M2
      exact ⟨rfl, WI.mk wc.up G hm2 M2⟩
    · intro i9 n9 k1 k2 k3 k4 k5 s2 A2 M2
      exact ft h1 (by rw [hd_n k1 k2 hok, k3, (wi_n k4 (by omega) (by show (0 : Int) ≤ _; omega) (by show _ ≤ (500 : Int); omega))]; rfl)
  · intro i n h1 h2 h3 h4 h5 g' G O
    obtain ⟨hg2, hm2⟩ := mh_off hg hm (Nat.le_refl _) O
    refine ⟨_, rfl, cvq hg2 (cm_called hm2 M ok tb hok hD hL ?_ ?_)⟩
    · intro k1 s2 A2 M2
      exact ft k1 (by rw [hd_n h1 h2 hok, h3, (wi_n h4 (by omega) (by show (0 : Int) ≤ _; omega) (by show _ ≤ (500 : Int); omega))]; rfl)
    · intro i9 n9 k1 k2 k3 k4 k5 s2 A2 M2
      obtain rfl : i = i9 := nIj k1 h1 (by omega) (by omega)
      obtain rfl : n = n9 := nIj k4 h4 (by omega) (by omega)
      exact ⟨rfl, WI.mk wc.up G hm2 M2⟩
set_option maxHeartbeats 4000000 in
theorem op_worst {a : Int32} {b : Int32} {c : Int32} (w : WI o cnt g) : CV 10 0 0 mX11_worst o [.int a, .int b, .int c] g (PO 50 mX12_worst [.int a, .int b, .int c] o cnt) := by
  obtain ⟨K, hs, lD, lL, tp, wa, z, kC, tD, tL, kM, bt, sh, hd, er, im, h, s, A, wc, q, hm, M, hg⟩ := w
  obtain ⟨ok, tb, hok, hD, hL, kp, him⟩ := id wc
  have hst : 1 ≤ kSt K ∧ kSt K ≤ 6 := ok.2.1
  have hro : 1 ≤ kRo K ∧ kRo K ≤ 6 := ok.1
  have h36 : kRo K * kSt K ≤ 6 * 6 := Nat.mul_le_mul hro.2 hst.2
  have hl6 := hok.1
  refine ct_G_worst (Q := PO 50 mX12_worst [.int a, .int b, .int c] o cnt) q ok tb hok ?_ ?_ ?_
  · intro h1 g' G O
    obtain ⟨hg2, hm2⟩ := mh_off hg hm (Nat.le_refl _) O
    refine ⟨_, rfl, cvq hg2 (cm_worst hm2 M ok tb hok hD hL ?_ ?_ ?_)⟩
    · intro k1 s2 A2 M2
      exact ⟨rfl, WI.mk wc.up G hm2 M2⟩
    · intro k1 k2 s2 A2 M2
      exact ft h1 k1
    · intro i9 n9 k1 k2 k3 k4 k5 k6 s2 A2 M2
      exact ft h1 (by rw [hd_n k1 k2 hok, (wi_n k3 (by omega) (by show (0 : Int) ≤ _; omega) (by show _ ≤ (500 : Int); omega)), k5]; rfl)
  · intro h1 h2 g' G O
    obtain ⟨hg2, hm2⟩ := mh_off hg hm (Nat.le_refl _) O
    refine ⟨_, rfl, cvq hg2 (cm_worst hm2 M ok tb hok hD hL ?_ ?_ ?_)⟩
    · intro k1 s2 A2 M2
      exact ft k1 h1
    · intro k1 k2 s2 A2 M2
      exact ⟨rfl, WI.mk wc.up G hm2 M2⟩
    · intro i9 n9 k1 k2 k3 k4 k5 k6 s2 A2 M2
      first | contradiction | omega | (exfalso; omega) | (exfalso; simp_all; done)
  · intro i n h1 h2 h3 h4 h5 h6 g' G O
    obtain ⟨hg2, hm2⟩ := mh_off hg hm (Nat.le_refl _) O
    refine ⟨_, rfl, cvq hg2 (cm_worst hm2 M ok tb hok hD hL ?_ ?_ ?_)⟩
    · intro k1 s2 A2 M2
      exact ft k1 (by rw [hd_n h1 h2 hok, (wi_n h3 (by omega) (by show (0 : Int) ≤ _; omega) (by show _ ≤ (500 : Int); omega)), h5]; rfl)
    · intro k1 k2 s2 A2 M2
      first | contradiction | omega | (exfalso; omega) | (exfalso; simp_all; done)
    · intro i9 n9 k1 k2 k3 k4 k5 k6 s2 A2 M2
      obtain rfl : i = i9 := nIj k1 h1 (by omega) (by omega)
      obtain rfl : n = n9 := nIj k3 h3 (by omega) (by omega)
      exact ⟨rfl, WI.mk wc.up G hm2 M2⟩
set_option maxHeartbeats 4000000 in
theorem op_howLong {a : Int32} {b : Int32} (w : WI o cnt g) : CV 10 0 0 mX11_howLong o [.int a, .int b] g (PO 50 mX12_howLong [.int a, .int b] o cnt) := by
  obtain ⟨K, hs, lD, lL, tp, wa, z, kC, tD, tL, kM, bt, sh, hd, er, im, h, s, A, wc, q, hm, M, hg⟩ := w
  obtain ⟨ok, tb, hok, hD, hL, kp, him⟩ := id wc
  have hst : 1 ≤ kSt K ∧ kSt K ≤ 6 := ok.2.1
  have hro : 1 ≤ kRo K ∧ kRo K ≤ 6 := ok.1
  have h36 : kRo K * kSt K ≤ 6 * 6 := Nat.mul_le_mul hro.2 hst.2
  have hl6 := hok.1
  refine ct_G_howLong (Q := PO 50 mX12_howLong [.int a, .int b] o cnt) q ok tb hok ?_ ?_
  · intro h1 g' G O
    obtain ⟨hg2, hm2⟩ := mh_off hg hm (Nat.le_refl _) O
    refine ⟨_, rfl, cvq hg2 (cm_howLong hm2 M ok tb hok hD hL ?_ ?_)⟩
    · intro k1 s2 A2 M2
      exact ⟨rfl, WI.mk wc.up G hm2 M2⟩
    · intro i9 sx9 k1 k2 k3 k4 k5 s2 A2 M2
      exact ft h1 (by rw [hd_n k1 k2 hok, la_n ok k3 k4 k5]; rfl)
  · intro i sx h1 h2 h3 h4 h5 g' G O
    obtain ⟨hg2, hm2⟩ := mh_off hg hm (Nat.le_refl _) O
    refine ⟨_, rfl, cvq hg2 (cm_howLong hm2 M ok tb hok hD hL ?_ ?_)⟩
    · intro k1 s2 A2 M2
      exact ft k1 (by rw [hd_n h1 h2 hok, la_n ok h3 h4 h5]; rfl)
    · intro i9 sx9 k1 k2 k3 k4 k5 s2 A2 M2
      obtain rfl : i = i9 := nIj k1 h1 (by omega) (by omega)
      obtain rfl : sx = sx9 := nIj k3 h3 (by omega) (by omega)
      exact ⟨rfl, WI.mk wc.up G hm2 M2⟩
set_option maxHeartbeats 4000000 in
theorem op_cans {a : Int32} (w : WI o cnt g) : CV 10 0 0 mX11_cans o [.int a] g (PO 10 mX12_cans [.int a] o cnt) := by
  obtain ⟨K, hs, lD, lL, tp, wa, z, kC, tD, tL, kM, bt, sh, hd, er, im, h, s, A, wc, q, hm, M, hg⟩ := w
  obtain ⟨ok, tb, hok, hD, hL, kp, him⟩ := id wc
  have hst : 1 ≤ kSt K ∧ kSt K ≤ 6 := ok.2.1
  have hro : 1 ≤ kRo K ∧ kRo K ≤ 6 := ok.1
  have h36 : kRo K * kSt K ≤ 6 * 6 := Nat.mul_le_mul hro.2 hst.2
  have hl6 := hok.1
  refine ct_G_cans (Q := PO 10 mX12_cans [.int a] o cnt) q ok tb hok ?_ ?_
  · intro h1 g' G O
    obtain ⟨hg2, hm2⟩ := mh_off hg hm (Nat.le_refl _) O
    refine ⟨_, rfl, cvq hg2 (cm_cans hm2 M ok hok ?_ ?_)⟩
    · intro k1 s2 A2 M2
      exact ⟨rfl, WI.mk wc.up G hm2 M2⟩
    · intro i9 k1 k2 s2 A2 M2
      exact ft h1 (hd_n k1 k2 hok)
  · intro i h1 h2 g' G O
    obtain ⟨hg2, hm2⟩ := mh_off hg hm (Nat.le_refl _) O
    refine ⟨_, rfl, cvq hg2 (cm_cans hm2 M ok hok ?_ ?_)⟩
    · intro k1 s2 A2 M2
      exact ft k1 (hd_n h1 h2 hok)
    · intro i9 k1 k2 s2 A2 M2
      obtain rfl : i = i9 := nIj k1 h1 (by omega) (by omega)
      exact ⟨rfl, WI.mk wc.up G hm2 M2⟩
set_option maxHeartbeats 4000000 in
theorem op_whose {a : Int32} {b : Int32} {c : Int32} (w : WI o cnt g) : CV 8 0 0 mX11_whose o [.int a, .int b, .int c] g (PO 12 mX12_whose [.int a, .int b, .int c] o cnt) := by
  obtain ⟨K, hs, lD, lL, tp, wa, z, kC, tD, tL, kM, bt, sh, hd, er, im, h, s, A, wc, q, hm, M, hg⟩ := w
  obtain ⟨ok, tb, hok, hD, hL, kp, him⟩ := id wc
  have hst : 1 ≤ kSt K ∧ kSt K ≤ 6 := ok.2.1
  have hro : 1 ≤ kRo K ∧ kRo K ≤ 6 := ok.1
  have h36 : kRo K * kSt K ≤ 6 * 6 := Nat.mul_le_mul hro.2 hst.2
  have hl6 := hok.1
  refine ct_G_whose (Q := PO 12 mX12_whose [.int a, .int b, .int c] o cnt) q ok hok ?_ ?_ ?_
  · intro h1 g' G O
    obtain ⟨hg2, hm2⟩ := mh_off hg hm (Nat.le_refl _) O
    refine ⟨_, rfl, cvq hg2 (cm_whose hm2 M ok hok ?_ ?_ ?_)⟩
    · intro k1 s2 A2 M2
      exact ⟨rfl, WI.mk wc.up G hm2 M2⟩
    · intro i9 sx9 j9 k1 k2 k3 k4 k5 k6 k7 s2 A2 M2
      exact ft h1 (by rw [hd_n k1 k2 hok, st_n k3 k4 hst.2, sh_n k5 k6]; rfl)
    · intro i9 sx9 j9 k1 k2 k3 k4 k5 k6 k7 k8 k9 s2 A2 M2
      exact ft h1 (by rw [hd_n k1 k2 hok, st_n k3 k4 hst.2, sh_n k5 k6]; rfl)
  · intro i sx j h1 h2 h3 h4 h5 h6 h7 g' G O
    obtain ⟨hg2, hm2⟩ := mh_off hg hm (Nat.le_refl _) O
    refine ⟨_, rfl, cvq hg2 (cm_whose hm2 M ok hok ?_ ?_ ?_)⟩
    · intro k1 s2 A2 M2
      exact ft k1 (by rw [hd_n h1 h2 hok, st_n h3 h4 hst.2, sh_n h5 h6]; rfl)
    · intro i9 sx9 j9 k1 k2 k3 k4 k5 k6 k7 s2 A2 M2
      obtain rfl : i = i9 := nIj k1 h1 (by omega) (by omega)
      obtain rfl : sx = sx9 := nIj k3 h3 (by omega) (by omega)
      obtain rfl : j = j9 := nIj k5 h5 (by omega) (by omega)
      exact ⟨rfl, WI.mk wc.up G hm2 M2⟩
    · intro i9 sx9 j9 k1 k2 k3 k4 k5 k6 k7 k8 k9 s2 A2 M2
      obtain rfl : i = i9 := nIj k1 h1 (by omega) (by omega)
      obtain rfl : sx = sx9 := nIj k3 h3 (by omega) (by omega)
      obtain rfl : j = j9 := nIj k5 h5 (by omega) (by omega)
      exact h7.elim (fun x => absurd x k7) (fun x => x.elim (fun x => absurd k8 x) (fun x => absurd x k9))
  · intro i sx j h1 h2 h3 h4 h5 h6 h7 h8 h9 g' G O
    obtain ⟨hg2, hm2⟩ := mh_off hg hm (Nat.le_refl _) O
    refine ⟨_, rfl, cvq hg2 (cm_whose hm2 M ok hok ?_ ?_ ?_)⟩
    · intro k1 s2 A2 M2
      exact ft k1 (by rw [hd_n h1 h2 hok, st_n h3 h4 hst.2, sh_n h5 h6]; rfl)
    · intro i9 sx9 j9 k1 k2 k3 k4 k5 k6 k7 s2 A2 M2
      obtain rfl : i = i9 := nIj k1 h1 (by omega) (by omega)
      obtain rfl : sx = sx9 := nIj k3 h3 (by omega) (by omega)
      obtain rfl : j = j9 := nIj k5 h5 (by omega) (by omega)
      exact k7.elim (fun x => absurd x h7) (fun x => x.elim (fun x => absurd h8 x) (fun x => absurd x h9))
    · intro i9 sx9 j9 k1 k2 k3 k4 k5 k6 k7 k8 k9 s2 A2 M2
      obtain rfl : i = i9 := nIj k1 h1 (by omega) (by omega)
      obtain rfl : sx = sx9 := nIj k3 h3 (by omega) (by omega)
      obtain rfl : j = j9 := nIj k5 h5 (by omega) (by omega)
      exact ⟨rfl, WI.mk wc.up G hm2 M2⟩
set_option maxHeartbeats 4000000 in
theorem op_odds {a : Int32} {b : Int32} {c : Int32} {d : Int32} (w : WI o cnt g) : CV 10 0 0 mX11_odds o [.int a, .int b, .int c, .int d] g (PO 50 mX12_odds [.int a, .int b, .int c, .int d] o cnt) := by
  obtain ⟨K, hs, lD, lL, tp, wa, z, kC, tD, tL, kM, bt, sh, hd, er, im, h, s, A, wc, q, hm, M, hg⟩ := w
  obtain ⟨ok, tb, hok, hD, hL, kp, him⟩ := id wc
  have hst : 1 ≤ kSt K ∧ kSt K ≤ 6 := ok.2.1
  have hro : 1 ≤ kRo K ∧ kRo K ≤ 6 := ok.1
  have h36 : kRo K * kSt K ≤ 6 * 6 := Nat.mul_le_mul hro.2 hst.2
  have hl6 := hok.1
  refine ct_G_odds (Q := PO 50 mX12_odds [.int a, .int b, .int c, .int d] o cnt) q ok tb hok ?_ ?_
  · intro h1 g' G O
    obtain ⟨hg2, hm2⟩ := mh_off hg hm (Nat.le_refl _) O
    refine ⟨_, rfl, cvq hg2 (cm_odds hm2 M ok tb hok hD hL ?_ ?_)⟩
    · intro k1 s2 A2 M2
      exact ⟨rfl, WI.mk wc.up G hm2 M2⟩
    · intro i9 n9 k1 k2 k3 k4 k5 k6 s2 A2 M2
      exact ft h1 (by rw [hd_n k1 k2 hok, (wi_n k3 (by omega) (by show (0 : Int) ≤ _; omega) (by show _ ≤ (500 : Int); omega)), k5, k6]; rfl)
  · intro i n h1 h2 h3 h4 h5 h6 g' G O
    obtain ⟨hg2, hm2⟩ := mh_off hg hm (Nat.le_refl _) O
    refine ⟨_, rfl, cvq hg2 (cm_odds hm2 M ok tb hok hD hL ?_ ?_)⟩
    · intro k1 s2 A2 M2
      exact ft k1 (by rw [hd_n h1 h2 hok, (wi_n h3 (by omega) (by show (0 : Int) ≤ _; omega) (by show _ ≤ (500 : Int); omega)), h5, h6]; rfl)
    · intro i9 n9 k1 k2 k3 k4 k5 k6 s2 A2 M2
      obtain rfl : i = i9 := nIj k1 h1 (by omega) (by omega)
      obtain rfl : n = n9 := nIj k3 h3 (by omega) (by omega)
      exact ⟨rfl, WI.mk wc.up G hm2 M2⟩
set_option maxHeartbeats 4000000 in
theorem op_seed {a : Int32} (w : WI o cnt g) : CV 4 0 0 mX11_seed o [.int a] g (PO 4 mX12_seed [.int a] o cnt) := by
  obtain ⟨K, hs, lD, lL, tp, wa, z, kC, tD, tL, kM, bt, sh, hd, er, im, h, s, A, wc, q, hm, M, hg⟩ := w
  obtain ⟨ok, tb, hok, hD, hL, kp, him⟩ := id wc
  have hst : 1 ≤ kSt K ∧ kSt K ≤ 6 := ok.2.1
  have hro : 1 ≤ kRo K ∧ kRo K ≤ 6 := ok.1
  have h36 : kRo K * kSt K ≤ 6 * 6 := Nat.mul_le_mul hro.2 hst.2
  have hl6 := hok.1
  refine ct_G_seed (Q := PO 4 mX12_seed [.int a] o cnt) q  ?_
  · intro g' G O
    obtain ⟨hg2, hm2⟩ := mh_off hg hm (Nat.le_refl _) O
    refine ⟨_, rfl, cvq hg2 (cm_seed hm2 M ok ?_)⟩
    · intro s2 A2 M2
      exact ⟨rfl, WI.mk wc.up G hm2 M2⟩
set_option maxHeartbeats 4000000 in
theorem op_voice {a : Int32} {b : Int32} {c : Int32} (w : WI o cnt g) : CV 132 0 0 mX11_voice o [.int a, .int b, .int c] g (PO 50 mX12_voice [.int a, .int b, .int c] o cnt) := by
  obtain ⟨K, hs, lD, lL, tp, wa, z, kC, tD, tL, kM, bt, sh, hd, er, im, h, s, A, wc, q, hm, M, hg⟩ := w
  obtain ⟨ok, tb, hok, hD, hL, kp, him⟩ := id wc
  have hst : 1 ≤ kSt K ∧ kSt K ≤ 6 := ok.2.1
  have hro : 1 ≤ kRo K ∧ kRo K ≤ 6 := ok.1
  have h36 : kRo K * kSt K ≤ 6 * 6 := Nat.mul_le_mul hro.2 hst.2
  have hl6 := hok.1
  refine ct_G_voice (Q := PO 50 mX12_voice [.int a, .int b, .int c] o cnt) q hok ?_ ?_
  · intro h1 g' G O
    obtain ⟨hg2, hm2⟩ := mh_off hg hm (Nat.le_refl _) O
    refine ⟨_, rfl, cvq hg2 (cm_voice hm2 M hok ?_ ?_)⟩
    · intro k1 s2 A2 M2
      exact ⟨rfl, WI.mk wc.up G hm2 M2⟩
    · intro i9 k1 k2 k3 s2 A2 M2
      exact ft h1 (by rw [hd_n k1 k2 hok, k3]; rfl)
  · intro i h1 h2 h3 g' G O
    obtain ⟨hg2, hm2⟩ := mh_off hg hm (Nat.le_refl _) O
    refine ⟨_, rfl, cvq hg2 (cm_voice hm2 M hok ?_ ?_)⟩
    · intro k1 s2 A2 M2
      exact ft k1 (by rw [hd_n h1 h2 hok, h3]; rfl)
    · intro i9 k1 k2 k3 s2 A2 M2
      obtain rfl : i = i9 := nIj k1 h1 (by omega) (by omega)
      exact ⟨rfl, WI.mk wc.up G hm2 M2⟩
set_option maxHeartbeats 4000000 in
theorem op_trace {a : Int32} (w : WI o cnt g) : CV 4 0 0 mX11_trace o [.int a] g (PO 4 mX12_trace [.int a] o cnt) := by
  obtain ⟨K, hs, lD, lL, tp, wa, z, kC, tD, tL, kM, bt, sh, hd, er, im, h, s, A, wc, q, hm, M, hg⟩ := w
  obtain ⟨ok, tb, hok, hD, hL, kp, him⟩ := id wc
  have hst : 1 ≤ kSt K ∧ kSt K ≤ 6 := ok.2.1
  have hro : 1 ≤ kRo K ∧ kRo K ≤ 6 := ok.1
  have h36 : kRo K * kSt K ≤ 6 * 6 := Nat.mul_le_mul hro.2 hst.2
  have hl6 := hok.1
  refine ct_G_trace (Q := PO 4 mX12_trace [.int a] o cnt) q  ?_ ?_
  · intro h1 g' G O
    obtain ⟨hg2, hm2⟩ := mh_off hg hm (Nat.le_refl _) O
    refine ⟨_, rfl, cvq hg2 (cm_trace hm2 M  ?_ ?_)⟩
    · intro k1 s2 A2 M2
      exact ⟨rfl, WI.mk wc.up G hm2 M2⟩
    · intro k1 s2 A2 M2
      exact ft h1 k1
  · intro h1 g' G O
    obtain ⟨hg2, hm2⟩ := mh_off hg hm (Nat.le_refl _) O
    refine ⟨_, rfl, cvq hg2 (cm_trace hm2 M  ?_ ?_)⟩
    · intro k1 s2 A2 M2
      exact ft k1 h1
    · intro k1 s2 A2 M2
      exact ⟨rfl, WI.mk wc.up G hm2 M2⟩
set_option maxHeartbeats 4000000 in
theorem op_sheet {a : Int32} {b : Int32} {c : Int32} (w : WI o cnt g) : CV 6 0 0 mX11_sheet o [.int a, .int b, .int c] g (PO 6 mX12_sheet [.int a, .int b, .int c] o cnt) := by
  obtain ⟨K, hs, lD, lL, tp, wa, z, kC, tD, tL, kM, bt, sh, hd, er, im, h, s, A, wc, q, hm, M, hg⟩ := w
  obtain ⟨ok, tb, hok, hD, hL, kp, him⟩ := id wc
  have hst : 1 ≤ kSt K ∧ kSt K ≤ 6 := ok.2.1
  have hro : 1 ≤ kRo K ∧ kRo K ≤ 6 := ok.1
  have h36 : kRo K * kSt K ≤ 6 * 6 := Nat.mul_le_mul hro.2 hst.2
  have hl6 := hok.1
  refine ct_G_sheet (Q := PO 6 mX12_sheet [.int a, .int b, .int c] o cnt) q  ?_ ?_ ?_ ?_ ?_
  · intro h1 g' G O
    obtain ⟨hg2, hm2⟩ := mh_off hg hm (Nat.le_refl _) O
    refine ⟨_, rfl, cvq hg2 (cm_sheet hm2 M  ?_ ?_ ?_ ?_ ?_)⟩
    · intro k1 s2 A2 M2
      exact ⟨rfl, WI.mk wc.up G hm2 M2⟩
    · intro j9 k1 k2 k3 s2 A2 M2
      exact ft h1 (by rw [sh_n k1 k2, k3]; rfl)
    · intro j9 k1 k2 k3 k4 k5 s2 A2 M2
      exact ft h1 (by rw [sh_n k1 k2, k3]; rfl)
    · intro j9 k1 k2 k3 k4 k5 s2 A2 M2
      exact ft h1 (by rw [sh_n k1 k2, k3]; rfl)
    · intro j9 n9 k1 k2 k3 k4 k5 k6 s2 A2 M2
      exact ft h1 (by rw [sh_n k1 k2, k3]; rfl)
  · intro j h1 h2 h3 g' G O
    obtain ⟨hg2, hm2⟩ := mh_off hg hm (Nat.le_refl _) O
    refine ⟨_, rfl, cvq hg2 (cm_sheet hm2 M  ?_ ?_ ?_ ?_ ?_)⟩
    · intro k1 s2 A2 M2
      exact ft k1 (by rw [sh_n h1 h2, h3]; rfl)
    · intro j9 k1 k2 k3 s2 A2 M2
      obtain rfl : j = j9 := nIj k1 h1 (by omega) (by omega)
      exact ⟨rfl, WI.mk wc.up G hm2 M2⟩
    · intro j9 k1 k2 k3 k4 k5 s2 A2 M2
      obtain rfl : j = j9 := nIj k1 h1 (by omega) (by omega)
      first | contradiction | omega | (exfalso; omega) | (exfalso; simp_all; done)
    · intro j9 k1 k2 k3 k4 k5 s2 A2 M2
      obtain rfl : j = j9 := nIj k1 h1 (by omega) (by omega)
      first | contradiction | omega | (exfalso; omega) | (exfalso; simp_all; done)
    · intro j9 n9 k1 k2 k3 k4 k5 k6 s2 A2 M2
      have x1 : c.toInt = (n9 : Int) := by rw [k5]; exact nI_T (by omega)
      obtain rfl : j = j9 := nIj k1 h1 (by omega) (by omega)
      first | contradiction | omega | (exfalso; omega) | (exfalso; simp_all; done)
  · intro j h1 h2 h3 h4 h5 g' G O
    obtain ⟨hg2, hm2⟩ := mh_off hg hm (Nat.le_refl _) O
    refine ⟨_, rfl, cvq hg2 (cm_sheet hm2 M  ?_ ?_ ?_ ?_ ?_)⟩
    · intro k1 s2 A2 M2
      exact ft k1 (by rw [sh_n h1 h2, h3]; rfl)
    · intro j9 k1 k2 k3 s2 A2 M2
      obtain rfl : j = j9 := nIj k1 h1 (by omega) (by omega)
      first | contradiction | omega | (exfalso; omega) | (exfalso; simp_all; done)
    · intro j9 k1 k2 k3 k4 k5 s2 A2 M2
      obtain rfl : j = j9 := nIj k1 h1 (by omega) (by omega)
      exact ⟨rfl, WI.mk wc.up G hm2 M2⟩
    · intro j9 k1 k2 k3 k4 k5 s2 A2 M2
      obtain rfl : j = j9 := nIj k1 h1 (by omega) (by omega)
      first | contradiction | omega | (exfalso; omega) | (exfalso; simp_all; done)
    · intro j9 n9 k1 k2 k3 k4 k5 k6 s2 A2 M2
      have x1 : c.toInt = (n9 : Int) := by rw [k5]; exact nI_T (by omega)
      obtain rfl : j = j9 := nIj k1 h1 (by omega) (by omega)
      first | contradiction | omega | (exfalso; omega) | (exfalso; simp_all; done)
  · intro j h1 h2 h3 h4 h5 g' G O
    obtain ⟨hg2, hm2⟩ := mh_off hg hm (Nat.le_refl _) O
    refine ⟨_, rfl, cvq hg2 (cm_sheet hm2 M  ?_ ?_ ?_ ?_ ?_)⟩
    · intro k1 s2 A2 M2
      exact ft k1 (by rw [sh_n h1 h2, h3]; rfl)
    · intro j9 k1 k2 k3 s2 A2 M2
      obtain rfl : j = j9 := nIj k1 h1 (by omega) (by omega)
      first | contradiction | omega | (exfalso; omega) | (exfalso; simp_all; done)
    · intro j9 k1 k2 k3 k4 k5 s2 A2 M2
      obtain rfl : j = j9 := nIj k1 h1 (by omega) (by omega)
      first | contradiction | omega | (exfalso; omega) | (exfalso; simp_all; done)
    · intro j9 k1 k2 k3 k4 k5 s2 A2 M2
      obtain rfl : j = j9 := nIj k1 h1 (by omega) (by omega)
      exact ⟨rfl, WI.mk wc.up G hm2 M2⟩
    · intro j9 n9 k1 k2 k3 k4 k5 k6 s2 A2 M2
      have x1 : c.toInt = (n9 : Int) := by rw [k5]; exact nI_T (by omega)
      obtain rfl : j = j9 := nIj k1 h1 (by omega) (by omega)
      first | contradiction | omega | (exfalso; omega) | (exfalso; simp_all; done)
  · intro j n h1 h2 h3 h4 h5 h6 g' G O
    have x1 : c.toInt = (n : Int) := by rw [h5]; exact nI_T (by omega)
    obtain ⟨hg2, hm2⟩ := mh_off hg hm (Nat.le_refl _) O
    refine ⟨_, rfl, cvq hg2 (cm_sheet hm2 M  ?_ ?_ ?_ ?_ ?_)⟩
    · intro k1 s2 A2 M2
      exact ft k1 (by rw [sh_n h1 h2, h3]; rfl)
    · intro j9 k1 k2 k3 s2 A2 M2
      obtain rfl : j = j9 := nIj k1 h1 (by omega) (by omega)
      first | contradiction | omega | (exfalso; omega) | (exfalso; simp_all; done)
    · intro j9 k1 k2 k3 k4 k5 s2 A2 M2
      obtain rfl : j = j9 := nIj k1 h1 (by omega) (by omega)
      first | contradiction | omega | (exfalso; omega) | (exfalso; simp_all; done)
    · intro j9 k1 k2 k3 k4 k5 s2 A2 M2
      obtain rfl : j = j9 := nIj k1 h1 (by omega) (by omega)
      first | contradiction | omega | (exfalso; omega) | (exfalso; simp_all; done)
    · intro j9 n9 k1 k2 k3 k4 k5 k6 s2 A2 M2
      obtain rfl : j = j9 := nIj k1 h1 (by omega) (by omega)
      obtain rfl : n = n9 := nIj k5 h5 (by omega) (by omega)
      exact ⟨rfl, WI.mk wc.up G hm2 M2⟩
set_option maxHeartbeats 4000000 in
theorem op_put {a : Int32} {b : Int32} {c : Int32} (w : WI o cnt g) : CV 6 0 0 mX11_put o [.int a, .int b, .int c] g (PO 6 mX12_put [.int a, .int b, .int c] o cnt) := by
  obtain ⟨K, hs, lD, lL, tp, wa, z, kC, tD, tL, kM, bt, sh, hd, er, im, h, s, A, wc, q, hm, M, hg⟩ := w
  obtain ⟨ok, tb, hok, hD, hL, kp, him⟩ := id wc
  have hst : 1 ≤ kSt K ∧ kSt K ≤ 6 := ok.2.1
  have hro : 1 ≤ kRo K ∧ kRo K ≤ 6 := ok.1
  have h36 : kRo K * kSt K ≤ 6 * 6 := Nat.mul_le_mul hro.2 hst.2
  have hl6 := hok.1
  refine ct_G_put (Q := PO 6 mX12_put [.int a, .int b, .int c] o cnt) q  ?_ ?_ ?_ ?_
  · intro h1 g' G O
    obtain ⟨hg2, hm2⟩ := mh_off hg hm (Nat.le_refl _) O
    refine ⟨_, rfl, cvq hg2 (cm_put hm2 M  ?_ ?_ ?_ ?_)⟩
    · intro k1 s2 A2 M2
      exact ⟨rfl, WI.mk wc.up G hm2 M2⟩
    · intro j9 k1 k2 k3 s2 A2 M2
      exact ft h1 (sh_n k1 k2)
    · intro j9 k1 k2 k3 k4 s2 A2 M2
      exact ft h1 (sh_n k1 k2)
    · intro j9 k1 k2 k3 k4 s2 A2 M2
      exact ft h1 (sh_n k1 k2)
  · intro j h1 h2 h3 g' G O
    obtain ⟨hg2, hm2⟩ := mh_off hg hm (Nat.le_refl _) O
    refine ⟨_, rfl, cvq hg2 (cm_put hm2 M  ?_ ?_ ?_ ?_)⟩
    · intro k1 s2 A2 M2
      exact ft k1 (sh_n h1 h2)
    · intro j9 k1 k2 k3 s2 A2 M2
      obtain rfl : j = j9 := nIj k1 h1 (by omega) (by omega)
      exact ⟨rfl, WI.mk wc.up G hm2 M2⟩
    · intro j9 k1 k2 k3 k4 s2 A2 M2
      obtain rfl : j = j9 := nIj k1 h1 (by omega) (by omega)
      first | contradiction | omega | (exfalso; omega) | (exfalso; simp_all; done)
    · intro j9 k1 k2 k3 k4 s2 A2 M2
      obtain rfl : j = j9 := nIj k1 h1 (by omega) (by omega)
      first | contradiction | omega | (exfalso; omega) | (exfalso; simp_all; done)
  · intro j h1 h2 h3 h4 g' G O
    obtain ⟨hg2, hm2⟩ := mh_off hg hm (Nat.le_refl _) O
    refine ⟨_, rfl, cvq hg2 (cm_put hm2 M  ?_ ?_ ?_ ?_)⟩
    · intro k1 s2 A2 M2
      exact ft k1 (sh_n h1 h2)
    · intro j9 k1 k2 k3 s2 A2 M2
      obtain rfl : j = j9 := nIj k1 h1 (by omega) (by omega)
      first | contradiction | omega | (exfalso; omega) | (exfalso; simp_all; done)
    · intro j9 k1 k2 k3 k4 s2 A2 M2
      obtain rfl : j = j9 := nIj k1 h1 (by omega) (by omega)
      exact ⟨rfl, WI.mk wc.up G hm2 M2⟩
    · intro j9 k1 k2 k3 k4 s2 A2 M2
      obtain rfl : j = j9 := nIj k1 h1 (by omega) (by omega)
      exact ft h4 k4
  · intro j h1 h2 h3 h4 g' G O
    obtain ⟨hg2, hm2⟩ := mh_off hg hm (Nat.le_refl _) O
    refine ⟨_, rfl, cvq hg2 (cm_put hm2 M  ?_ ?_ ?_ ?_)⟩
    · intro k1 s2 A2 M2
      exact ft k1 (sh_n h1 h2)
    · intro j9 k1 k2 k3 s2 A2 M2
      obtain rfl : j = j9 := nIj k1 h1 (by omega) (by omega)
      first | contradiction | omega | (exfalso; omega) | (exfalso; simp_all; done)
    · intro j9 k1 k2 k3 k4 s2 A2 M2
      obtain rfl : j = j9 := nIj k1 h1 (by omega) (by omega)
      exact ft k4 h4
    · intro j9 k1 k2 k3 k4 s2 A2 M2
      obtain rfl : j = j9 := nIj k1 h1 (by omega) (by omega)
      exact ⟨rfl, WI.mk wc.up G hm2 M2⟩
set_option maxHeartbeats 4000000 in
theorem op_move {a : Int32} {i : Int32} {b : Int32} {j : Int32} {n : Int32} (w : WI o cnt g) : CV 6 0 0 mX11_move o [.int a, .int i, .int b, .int j, .int n] g (PO 6 mX12_move [.int a, .int i, .int b, .int j, .int n] o cnt) := by
  obtain ⟨K, hs, lD, lL, tp, wa, z, kC, tD, tL, kM, bt, sh, hd, er, im, h, s, A, wc, q, hm, M, hg⟩ := w
  obtain ⟨ok, tb, hok, hD, hL, kp, him⟩ := id wc
  have hst : 1 ≤ kSt K ∧ kSt K ≤ 6 := ok.2.1
  have hro : 1 ≤ kRo K ∧ kRo K ≤ 6 := ok.1
  have h36 : kRo K * kSt K ≤ 6 * 6 := Nat.mul_le_mul hro.2 hst.2
  have hl6 := hok.1
  refine ct_G_move (Q := PO 6 mX12_move [.int a, .int i, .int b, .int j, .int n] o cnt) q  ?_ ?_ ?_ ?_ ?_
  · intro h1 g' G O
    obtain ⟨hg2, hm2⟩ := mh_off hg hm (Nat.le_refl _) O
    refine ⟨_, rfl, cvq hg2 (cm_move hm2 M  ?_ ?_ ?_ ?_ ?_)⟩
    · intro k1 s2 A2 M2
      exact ⟨rfl, WI.mk wc.up G hm2 M2⟩
    · intro u9 t9 k1 k2 k3 k4 k5 s2 A2 M2
      exact ft h1 (by rw [sh_n k1 k2, sh_n k3 k4]; rfl)
    · intro u9 t9 k1 k2 k3 k4 k5 k6 k7 s2 A2 M2
      exact ft h1 (by rw [sh_n k1 k2, sh_n k3 k4]; rfl)
    · intro u9 t9 k1 k2 k3 k4 k5 k6 k7 k8 s2 A2 M2
      exact ft h1 (by rw [sh_n k1 k2, sh_n k3 k4]; rfl)
    · intro u9 t9 i29 j29 n29 k1 k2 k3 k4 k5 k6 k7 k8 k9 k10 k11 k12 s2 A2 M2
      exact ft h1 (by rw [sh_n k1 k2, sh_n k3 k4]; rfl)
  · intro u t h1 h2 h3 h4 h5 g' G O
    obtain ⟨hg2, hm2⟩ := mh_off hg hm (Nat.le_refl _) O
    refine ⟨_, rfl, cvq hg2 (cm_move hm2 M  ?_ ?_ ?_ ?_ ?_)⟩
    · intro k1 s2 A2 M2
      exact ft k1 (by rw [sh_n h1 h2, sh_n h3 h4]; rfl)
    · intro u9 t9 k1 k2 k3 k4 k5 s2 A2 M2
      obtain rfl : u = u9 := nIj k1 h1 (by omega) (by omega)
      obtain rfl : t = t9 := nIj k3 h3 (by omega) (by omega)
      exact ⟨rfl, WI.mk wc.up G hm2 M2⟩
    · intro u9 t9 k1 k2 k3 k4 k5 k6 k7 s2 A2 M2
      obtain rfl : u = u9 := nIj k1 h1 (by omega) (by omega)
      obtain rfl : t = t9 := nIj k3 h3 (by omega) (by omega)
      exact h5.elim (fun x => absurd x k5) (fun x => absurd x k6)
    · intro u9 t9 k1 k2 k3 k4 k5 k6 k7 k8 s2 A2 M2
      obtain rfl : u = u9 := nIj k1 h1 (by omega) (by omega)
      obtain rfl : t = t9 := nIj k3 h3 (by omega) (by omega)
      exact h5.elim (fun x => absurd x k5) (fun x => absurd x k6)
    · intro u9 t9 i29 j29 n29 k1 k2 k3 k4 k5 k6 k7 k8 k9 k10 k11 k12 s2 A2 M2
      have x1 := (M.shs h2).2.2.1
      have x2 := (M.shs h4).2.2.1
      obtain rfl : u = u9 := nIj k1 h1 (by omega) (by omega)
      obtain rfl : t = t9 := nIj k3 h3 (by omega) (by omega)
      exact h5.elim (fun x => absurd x k5) (fun x => absurd x k6)
  · intro u t h1 h2 h3 h4 h5 h6 h7 g' G O
    obtain ⟨hg2, hm2⟩ := mh_off hg hm (Nat.le_refl _) O
    refine ⟨_, rfl, cvq hg2 (cm_move hm2 M  ?_ ?_ ?_ ?_ ?_)⟩
    · intro k1 s2 A2 M2
      exact ft k1 (by rw [sh_n h1 h2, sh_n h3 h4]; rfl)
    · intro u9 t9 k1 k2 k3 k4 k5 s2 A2 M2
      obtain rfl : u = u9 := nIj k1 h1 (by omega) (by omega)
      obtain rfl : t = t9 := nIj k3 h3 (by omega) (by omega)
      exact k5.elim (fun x => absurd x h5) (fun x => absurd x h6)
    · intro u9 t9 k1 k2 k3 k4 k5 k6 k7 s2 A2 M2
      obtain rfl : u = u9 := nIj k1 h1 (by omega) (by omega)
      obtain rfl : t = t9 := nIj k3 h3 (by omega) (by omega)
      exact ⟨rfl, WI.mk wc.up G hm2 M2⟩
    · intro u9 t9 k1 k2 k3 k4 k5 k6 k7 k8 s2 A2 M2
      obtain rfl : u = u9 := nIj k1 h1 (by omega) (by omega)
      obtain rfl : t = t9 := nIj k3 h3 (by omega) (by omega)
      first | contradiction | omega | (exfalso; omega) | (exfalso; simp_all; done)
    · intro u9 t9 i29 j29 n29 k1 k2 k3 k4 k5 k6 k7 k8 k9 k10 k11 k12 s2 A2 M2
      have x1 := (M.shs h2).2.2.1
      have x2 := (M.shs h4).2.2.1
      obtain rfl : u = u9 := nIj k1 h1 (by omega) (by omega)
      obtain rfl : t = t9 := nIj k3 h3 (by omega) (by omega)
      first | contradiction | omega | (exfalso; omega) | (exfalso; simp_all; done)
  · intro u t h1 h2 h3 h4 h5 h6 h7 h8 g' G O
    obtain ⟨hg2, hm2⟩ := mh_off hg hm (Nat.le_refl _) O
    refine ⟨_, rfl, cvq hg2 (cm_move hm2 M  ?_ ?_ ?_ ?_ ?_)⟩
    · intro k1 s2 A2 M2
      exact ft k1 (by rw [sh_n h1 h2, sh_n h3 h4]; rfl)
    · intro u9 t9 k1 k2 k3 k4 k5 s2 A2 M2
      obtain rfl : u = u9 := nIj k1 h1 (by omega) (by omega)
      obtain rfl : t = t9 := nIj k3 h3 (by omega) (by omega)
      exact k5.elim (fun x => absurd x h5) (fun x => absurd x h6)
    · intro u9 t9 k1 k2 k3 k4 k5 k6 k7 s2 A2 M2
      obtain rfl : u = u9 := nIj k1 h1 (by omega) (by omega)
      obtain rfl : t = t9 := nIj k3 h3 (by omega) (by omega)
      first | contradiction | omega | (exfalso; omega) | (exfalso; simp_all; done)
    · intro u9 t9 k1 k2 k3 k4 k5 k6 k7 k8 s2 A2 M2
      obtain rfl : u = u9 := nIj k1 h1 (by omega) (by omega)
      obtain rfl : t = t9 := nIj k3 h3 (by omega) (by omega)
      exact ⟨rfl, WI.mk wc.up G hm2 M2⟩
    · intro u9 t9 i29 j29 n29 k1 k2 k3 k4 k5 k6 k7 k8 k9 k10 k11 k12 s2 A2 M2
      have x1 := (M.shs h2).2.2.1
      have x2 := (M.shs h4).2.2.1
      obtain rfl : u = u9 := nIj k1 h1 (by omega) (by omega)
      obtain rfl : t = t9 := nIj k3 h3 (by omega) (by omega)
      exact ft h8 (by rw [rn_n k8 k10 k11 x1, rn_n k9 k10 k12 x2]; rfl)
  · intro u t i2 j2 n2 h1 h2 h3 h4 h5 h6 h7 h8 h9 h10 h11 h12 g' G O
    have x1 := (M.shs h2).2.2.1
    have x2 := (M.shs h4).2.2.1
    obtain ⟨hg2, hm2⟩ := mh_off hg hm (Nat.le_refl _) O
    refine ⟨_, rfl, cvq hg2 (cm_move hm2 M  ?_ ?_ ?_ ?_ ?_)⟩
    · intro k1 s2 A2 M2
      exact ft k1 (by rw [sh_n h1 h2, sh_n h3 h4]; rfl)
    · intro u9 t9 k1 k2 k3 k4 k5 s2 A2 M2
      obtain rfl : u = u9 := nIj k1 h1 (by omega) (by omega)
      obtain rfl : t = t9 := nIj k3 h3 (by omega) (by omega)
      exact k5.elim (fun x => absurd x h5) (fun x => absurd x h6)
    · intro u9 t9 k1 k2 k3 k4 k5 k6 k7 s2 A2 M2
      obtain rfl : u = u9 := nIj k1 h1 (by omega) (by omega)
      obtain rfl : t = t9 := nIj k3 h3 (by omega) (by omega)
      first | contradiction | omega | (exfalso; omega) | (exfalso; simp_all; done)
    · intro u9 t9 k1 k2 k3 k4 k5 k6 k7 k8 s2 A2 M2
      obtain rfl : u = u9 := nIj k1 h1 (by omega) (by omega)
      obtain rfl : t = t9 := nIj k3 h3 (by omega) (by omega)
      exact ft k8 (by rw [rn_n h8 h10 h11 x1, rn_n h9 h10 h12 x2]; rfl)
    · intro u9 t9 i29 j29 n29 k1 k2 k3 k4 k5 k6 k7 k8 k9 k10 k11 k12 s2 A2 M2
      obtain rfl : u = u9 := nIj k1 h1 (by omega) (by omega)
      obtain rfl : t = t9 := nIj k3 h3 (by omega) (by omega)
      obtain rfl : i2 = i29 := nIj k8 h8 (by omega) (by omega)
      obtain rfl : j2 = j29 := nIj k9 h9 (by omega) (by omega)
      obtain rfl : n2 = n29 := nIj k10 h10 (by omega) (by omega)
      exact ⟨rfl, WI.mk wc.up G hm2 M2⟩
set_option maxHeartbeats 4000000 in
theorem op_whites {a : Int32} (w : WI o cnt g) : CV 6 0 0 mX11_whites o [.int a] g (PO 6 mX12_whites [.int a] o cnt) := by
  obtain ⟨K, hs, lD, lL, tp, wa, z, kC, tD, tL, kM, bt, sh, hd, er, im, h, s, A, wc, q, hm, M, hg⟩ := w
  obtain ⟨ok, tb, hok, hD, hL, kp, him⟩ := id wc
  have hst : 1 ≤ kSt K ∧ kSt K ≤ 6 := ok.2.1
  have hro : 1 ≤ kRo K ∧ kRo K ≤ 6 := ok.1
  have h36 : kRo K * kSt K ≤ 6 * 6 := Nat.mul_le_mul hro.2 hst.2
  have hl6 := hok.1
  refine ct_G_whites (Q := PO 6 mX12_whites [.int a] o cnt) q ok ?_ ?_ ?_
  · intro h1 g' G O
    obtain ⟨hg2, hm2⟩ := mh_off hg hm (Nat.le_refl _) O
    refine ⟨_, rfl, cvq hg2 (cm_whites hm2 M ok ?_ ?_ ?_)⟩
    · intro k1 s2 A2 M2
      exact ⟨rfl, WI.mk wc.up G hm2 M2⟩
    · intro j9 k1 k2 k3 s2 A2 M2
      exact ft h1 (sh_n k1 k2)
    · intro j9 k1 k2 k3 s2 A2 M2
      exact ft h1 (sh_n k1 k2)
  · intro j h1 h2 h3 g' G O
    obtain ⟨hg2, hm2⟩ := mh_off hg hm (Nat.le_refl _) O
    refine ⟨_, rfl, cvq hg2 (cm_whites hm2 M ok ?_ ?_ ?_)⟩
    · intro k1 s2 A2 M2
      exact ft k1 (sh_n h1 h2)
    · intro j9 k1 k2 k3 s2 A2 M2
      obtain rfl : j = j9 := nIj k1 h1 (by omega) (by omega)
      exact ⟨rfl, WI.mk wc.up G hm2 M2⟩
    · intro j9 k1 k2 k3 s2 A2 M2
      obtain rfl : j = j9 := nIj k1 h1 (by omega) (by omega)
      first | contradiction | omega | (exfalso; omega) | (exfalso; simp_all; done)
  · intro j h1 h2 h3 g' G O
    obtain ⟨hg2, hm2⟩ := mh_off hg hm (Nat.le_refl _) O
    refine ⟨_, rfl, cvq hg2 (cm_whites hm2 M ok ?_ ?_ ?_)⟩
    · intro k1 s2 A2 M2
      exact ft k1 (sh_n h1 h2)
    · intro j9 k1 k2 k3 s2 A2 M2
      obtain rfl : j = j9 := nIj k1 h1 (by omega) (by omega)
      first | contradiction | omega | (exfalso; omega) | (exfalso; simp_all; done)
    · intro j9 k1 k2 k3 s2 A2 M2
      obtain rfl : j = j9 := nIj k1 h1 (by omega) (by omega)
      exact ⟨rfl, WI.mk (wc.k1 (wh_wc ok tb).1 (wh_wc ok tb).2) G hm2 M2⟩
set_option maxHeartbeats 4000000 in
theorem op_judge {a : Int32} (w : WI o cnt g) : CV 6 0 0 mX11_judge o [.int a] g (PO 6 mX12_judge [.int a] o cnt) := by
  obtain ⟨K, hs, lD, lL, tp, wa, z, kC, tD, tL, kM, bt, sh, hd, er, im, h, s, A, wc, q, hm, M, hg⟩ := w
  obtain ⟨ok, tb, hok, hD, hL, kp, him⟩ := id wc
  have hst : 1 ≤ kSt K ∧ kSt K ≤ 6 := ok.2.1
  have hro : 1 ≤ kRo K ∧ kRo K ≤ 6 := ok.1
  have h36 : kRo K * kSt K ≤ 6 * 6 := Nat.mul_le_mul hro.2 hst.2
  have hl6 := hok.1
  refine ct_G_judge (Q := PO 6 mX12_judge [.int a] o cnt) q  ?_ ?_ ?_
  · intro h1 g' G O
    obtain ⟨hg2, hm2⟩ := mh_off hg hm (Nat.le_refl _) O
    refine ⟨_, rfl, cvq hg2 (cm_judge hm2 M ok ?_ ?_ ?_)⟩
    · intro k1 s2 A2 M2
      exact ⟨rfl, WI.mk wc.up G hm2 M2⟩
    · intro j9 k1 k2 k3 s2 A2 M2
      exact ft h1 (sh_n k1 k2)
    · intro j9 k1 k2 k3 s2 A2 M2
      exact ft h1 (sh_n k1 k2)
  · intro j h1 h2 h3 g' G O
    obtain ⟨hg2, hm2⟩ := mh_off hg hm (Nat.le_refl _) O
    refine ⟨_, rfl, cvq hg2 (cm_judge hm2 M ok ?_ ?_ ?_)⟩
    · intro k1 s2 A2 M2
      exact ft k1 (sh_n h1 h2)
    · intro j9 k1 k2 k3 s2 A2 M2
      obtain rfl : j = j9 := nIj k1 h1 (by omega) (by omega)
      exact ⟨rfl, WI.mk wc.up G hm2 M2⟩
    · intro j9 k1 k2 k3 s2 A2 M2
      obtain rfl : j = j9 := nIj k1 h1 (by omega) (by omega)
      first | contradiction | omega | (exfalso; omega) | (exfalso; simp_all; done)
  · intro j h1 h2 h3 g' G O
    obtain ⟨hg2, hm2⟩ := mh_off hg hm (Nat.le_refl _) O
    refine ⟨_, rfl, cvq hg2 (cm_judge hm2 M ok ?_ ?_ ?_)⟩
    · intro k1 s2 A2 M2
      exact ft k1 (sh_n h1 h2)
    · intro j9 k1 k2 k3 s2 A2 M2
      obtain rfl : j = j9 := nIj k1 h1 (by omega) (by omega)
      first | contradiction | omega | (exfalso; omega) | (exfalso; simp_all; done)
    · intro j9 k1 k2 k3 s2 A2 M2
      obtain rfl : j = j9 := nIj k1 h1 (by omega) (by omega)
      exact ⟨rfl, WI.mk wc.up G hm2 M2⟩
set_option maxHeartbeats 4000000 in
theorem op_tell {a : Int32} (w : WI o cnt g) : CV 4 0 0 mX11_tell o [.int a] g (PO 4 mX12_tell [.int a] o cnt) := by
  obtain ⟨K, hs, lD, lL, tp, wa, z, kC, tD, tL, kM, bt, sh, hd, er, im, h, s, A, wc, q, hm, M, hg⟩ := w
  obtain ⟨ok, tb, hok, hD, hL, kp, him⟩ := id wc
  have hst : 1 ≤ kSt K ∧ kSt K ≤ 6 := ok.2.1
  have hro : 1 ≤ kRo K ∧ kRo K ≤ 6 := ok.1
  have h36 : kRo K * kSt K ≤ 6 * 6 := Nat.mul_le_mul hro.2 hst.2
  have hl6 := hok.1
  refine ct_G_tell (Q := PO 4 mX12_tell [.int a] o cnt) q  ?_ ?_
  · intro h1 g' G O
    obtain ⟨hg2, hm2⟩ := mh_off hg hm (Nat.le_refl _) O
    refine ⟨_, rfl, cvq hg2 (cm_tell hm2 M ok ?_ ?_)⟩
    · intro k1 s2 A2 M2
      exact ⟨rfl, WI.mk wc.up G hm2 M2⟩
    · intro k1 s2 A2 M2
      first | contradiction | omega | (exfalso; omega) | (exfalso; simp_all; done)
  · intro h1 g' G O
    obtain ⟨hg2, hm2⟩ := mh_off hg hm (Nat.le_refl _) O
    refine ⟨_, rfl, cvq hg2 (cm_tell hm2 M ok ?_ ?_)⟩
    · intro k1 s2 A2 M2
      first | contradiction | omega | (exfalso; omega) | (exfalso; simp_all; done)
    · intro k1 s2 A2 M2
      exact ⟨rfl, WI.mk wc.up G hm2 M2⟩
set_option maxHeartbeats 4000000 in
theorem op_check (w : WI o cnt g) : CV 12 0 0 mX11_check o [] g (PO 50 mX12_check [] o cnt) := by
  obtain ⟨K, hs, lD, lL, tp, wa, z, kC, tD, tL, kM, bt, sh, hd, er, im, h, s, A, wc, q, hm, M, hg⟩ := w
  obtain ⟨ok, tb, hok, hD, hL, kp, him⟩ := id wc
  have hst : 1 ≤ kSt K ∧ kSt K ≤ 6 := ok.2.1
  have hro : 1 ≤ kRo K ∧ kRo K ≤ 6 := ok.1
  have h36 : kRo K * kSt K ≤ 6 * 6 := Nat.mul_le_mul hro.2 hst.2
  have hl6 := hok.1
  refine ct_G_check (Q := PO 50 mX12_check [] o cnt) q ok tb hok ?_
  · intro g' G O
    obtain ⟨hg2, hm2⟩ := mh_off hg hm (Nat.le_refl _) O
    refine ⟨_, rfl, cvq hg2 (cm_check hm2 M ok tb hok hD hL ?_)⟩
    · intro s2 A2 M2
      exact ⟨rfl, WI.mk wc.up G hm2 M2⟩
set_option maxHeartbeats 4000000 in
theorem op_count {a : Int32} (w : WI o cnt g) : CV 4 0 0 mX11_count o [.int a] g (PO 4 mX12_count [.int a] o cnt) := by
  obtain ⟨K, hs, lD, lL, tp, wa, z, kC, tD, tL, kM, bt, sh, hd, er, im, h, s, A, wc, q, hm, M, hg⟩ := w
  obtain ⟨ok, tb, hok, hD, hL, kp, him⟩ := id wc
  have hst : 1 ≤ kSt K ∧ kSt K ≤ 6 := ok.2.1
  have hro : 1 ≤ kRo K ∧ kRo K ≤ 6 := ok.1
  have h36 : kRo K * kSt K ≤ 6 * 6 := Nat.mul_le_mul hro.2 hst.2
  have hl6 := hok.1
  refine ct_G_count (Q := PO 4 mX12_count [.int a] o cnt) q  ?_ ?_
  · intro h1 g' G O
    obtain ⟨hg2, hm2⟩ := mh_off hg hm (Nat.le_refl _) O
    refine ⟨_, rfl, cvq hg2 (cm_count hm2 M ok (tb.wb (by decide)) ?_ ?_)⟩
    · intro k1 s2 A2 M2
      exact ⟨rfl, WI.mk wc.up G hm2 M2⟩
    · intro k1 s2 A2 M2
      exact ft h1 k1
  · intro h1 g' G O
    obtain ⟨hg2, hm2⟩ := mh_off hg hm (Nat.le_refl _) O
    refine ⟨_, rfl, cvq hg2 (cm_count hm2 M ok (tb.wb (by decide)) ?_ ?_)⟩
    · intro k1 s2 A2 M2
      exact ft k1 h1
    · intro k1 s2 A2 M2
      exact ⟨rfl, WI.mk wc.up G hm2 M2⟩
set_option maxHeartbeats 4000000 in
theorem op_told {a : Int32} (w : WI o cnt g) : CV 4 0 0 mX11_told o [.int a] g (PO 4 mX12_told [.int a] o cnt) := by
  obtain ⟨K, hs, lD, lL, tp, wa, z, kC, tD, tL, kM, bt, sh, hd, er, im, h, s, A, wc, q, hm, M, hg⟩ := w
  obtain ⟨ok, tb, hok, hD, hL, kp, him⟩ := id wc
  have hst : 1 ≤ kSt K ∧ kSt K ≤ 6 := ok.2.1
  have hro : 1 ≤ kRo K ∧ kRo K ≤ 6 := ok.1
  have h36 : kRo K * kSt K ≤ 6 * 6 := Nat.mul_le_mul hro.2 hst.2
  have hl6 := hok.1
  refine ct_G_told (Q := PO 4 mX12_told [.int a] o cnt) q  ?_ ?_
  · intro h1 g' G O
    obtain ⟨hg2, hm2⟩ := mh_off hg hm (Nat.le_refl _) O
    refine ⟨_, rfl, cvq hg2 (cm_told hm2 M  ?_ ?_)⟩
    · intro k1 s2 A2 M2
      exact ⟨rfl, WI.mk wc.up G hm2 M2⟩
    · intro k1 s2 A2 M2
      exact ft h1 k1
  · intro h1 g' G O
    obtain ⟨hg2, hm2⟩ := mh_off hg hm (Nat.le_refl _) O
    refine ⟨_, rfl, cvq hg2 (cm_told hm2 M  ?_ ?_)⟩
    · intro k1 s2 A2 M2
      exact ft k1 h1
    · intro k1 s2 A2 M2
      exact ⟨rfl, WI.mk wc.up G hm2 M2⟩
end Ops
