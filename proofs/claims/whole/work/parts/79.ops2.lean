/-! text, image, restore: alike -/
section Ops2
variable {o cnt : Nat} {g : AH}
set_option maxHeartbeats 4000000 in
theorem op_text {a : Int32} (w : WI o cnt g) : CV 50 0 0 mX11_text o [.int a] g (PO 50 mX12_text [.int a] o cnt) := by
  obtain ⟨K, hs, lD, lL, tp, wa, z, kC, tD, tL, kM, bt, sh, hd, er, im, h, s, A, wc, q, hm, M, hg⟩ := w
  obtain ⟨ok, tb, hok, hD, hL, kp, him⟩ := id wc
  have htp : tp.length ≤ 50 := M.rr.2.2.2.2.1.2
  refine ct_G_text (Q := PO 50 mX12_text [.int a] o cnt) q (fun use hu hr => ?_) (fun use hu => ?_) ?_ ?_ ?_ ?_
  · rcases hu with rfl | rfl
    · exact TxOk_rd (u := 0) (by decide) htp hr
    · exact TxOk_rd (u := 1) (by decide) htp hr
  · rcases hu with rfl | rfl
    · have := rd_len 0 tp
      exact Nat.le_trans this (by omega)
    · have := rd_len 1 tp
      exact Nat.le_trans this (by omega)
  · intro h1 g' G O
    obtain ⟨hg2, hm2⟩ := mh_off hg hm (Nat.le_refl _) O
    refine ⟨_, rfl, cvq hg2 (cm_text hm2 M ok ?_ ?_ ?_)⟩
    · intro k1 s2 A2 M2
      exact ⟨rfl, WI.mk wc.up G hm2 M2⟩
    · intro u k1 k2 k3
      exact ft h1 (wi_n k1 (by omega) (by show (0 : Int) ≤ _; omega) (by show _ ≤ (1 : Int); omega))
    · intro u k1 k2 k3
      exact ft h1 (wi_n k1 (by omega) (by show (0 : Int) ≤ _; omega) (by show _ ≤ (1 : Int); omega))
  · intro h1 h2 g' G O
    obtain ⟨hg2, hm2⟩ := mh_off hg hm (Nat.le_refl _) O
    refine ⟨_, rfl, cvq hg2 (cm_text hm2 M ok ?_ ?_ ?_)⟩
    · intro k1 s2 A2 M2
      exact ft k1 (by rw [h1]; decide)
    · intro u k1 k2 k3 s2 A2 M2
      obtain rfl : u = 0 := nIj (show a = nI 0 from h1) k1 (by decide) (by omega)
      rw [if_pos rfl, if_pos rfl] at M2
      exact ⟨rfl, WI.mk ⟨ok, tb, hok, Or.inr ⟨tp, rfl, htp, h2, rfl⟩, hL, kp, by omega⟩ G hm2 M2⟩
    · intro u k1 k2 k3 s2 A2 M2
      obtain rfl : u = 0 := nIj (show a = nI 0 from h1) k1 (by decide) (by omega)
      exact ft k3 h2
  · intro h1 h2 g' G O
    obtain ⟨hg2, hm2⟩ := mh_off hg hm (Nat.le_refl _) O
    refine ⟨_, rfl, cvq hg2 (cm_text hm2 M ok ?_ ?_ ?_)⟩
    · intro k1 s2 A2 M2
      exact ft k1 (by rw [h1]; decide)
    · intro u k1 k2 k3 s2 A2 M2
      obtain rfl : u = 1 := nIj (show a = nI 1 from h1) k1 (by decide) (by omega)
      rw [if_neg (by decide), if_neg (by decide)] at M2
      exact ⟨rfl, WI.mk ⟨ok, tb, hok, hD, Or.inr ⟨tp, rfl, htp, h2, rfl⟩, kp, by omega⟩ G hm2 M2⟩
    · intro u k1 k2 k3 s2 A2 M2
      obtain rfl : u = 1 := nIj (show a = nI 1 from h1) k1 (by decide) (by omega)
      exact ft k3 h2
  · intro u h1 h2 h3 g' G O
    obtain ⟨hg2, hm2⟩ := mh_off hg hm (Nat.le_refl _) O
    refine ⟨_, rfl, cvq hg2 (cm_text hm2 M ok ?_ ?_ ?_)⟩
    · intro k1 s2 A2 M2
      exact ft k1 h2
    · intro x k1 k2 k3 s2 A2 M2
      exact ft h3 (by rw [h1.symm.trans k1]; exact k3)
    · intro x k1 k2 k3 s2 A2 M2
      exact ⟨by rw [h1.symm.trans k1], WI.mk wc.up G hm2 M2⟩
set_option maxHeartbeats 4000000 in
theorem op_image (hc : cnt ≤ 600) (w : WI o cnt g) : CV 6 0 0 mX11_image o [] g (PO 6 mX12_image [] o cnt) := by
  obtain ⟨K, hs, lD, lL, tp, wa, z, kC, tD, tL, kM, bt, sh, hd, er, im, h, s, A, wc, q, hm, M, hg⟩ := w
  obtain ⟨ok, tb, hok, hD, hL, kp, him⟩ := id wc
  refine ct_G_image (Q := PO 6 mX12_image [] o cnt) q ?_
  intro g' G O
  obtain ⟨hg2, hm2⟩ := mh_off hg hm (Nat.le_refl _) O
  refine ⟨_, rfl, cvq hg2 (cm_image hm2 M ok (fun e => ?_) ?_)⟩
  · rw [nI_1] at e
    exact absurd ((nI_eq (a := im + 1) (b := 0) (by omega) (by omega)).mp e) (by omega)
  · intro s2 A2 M2
    exact ⟨rfl, WI.mk (im := im + 1) ⟨ok, tb, hok, hD, hL, ⟨⟨noCan_ok ok, TB.noCan tb, hok⟩, ⟨rfl, rfl⟩, ⟨hD, hL⟩, rfl⟩, by omega⟩ (by rw [← nI_1]; exact G) hm2 (by rw [← nI_1]; exact M2)⟩
set_option maxHeartbeats 4000000 in
theorem op_restore (w : WI o cnt g) : CV 6 0 0 mX11_restore o [] g (PO 6 mX12_restore [] o cnt) := by
  obtain ⟨K, hs, lD, lL, tp, wa, z, kC, tD, tL, kM, bt, sh, hd, er, im, h, s, A, wc, q, hm, M, hg⟩ := w
  obtain ⟨ok, tb, hok, hD, hL, kp, him⟩ := id wc
  obtain ⟨kp1, ⟨e1, e2⟩, kp3, e4⟩ := id kp
  refine ct_G_restore (Q := PO 6 mX12_restore [] o cnt) q (TR.tx (u := 0) (by decide) kp3.1) (TR.tx (u := 1) (by decide) kp3.2) ?_ ?_
  · intro h1 g' G O
    obtain ⟨hg2, hm2⟩ := mh_off hg hm (Nat.le_refl _) O
    refine ⟨_, rfl, cvq hg2 (cm_restore hm2 M (by rw [e1]; exact kp1.1) ?_ ?_)⟩
    · intro k1 s2 A2 M2
      exact ⟨rfl, WI.mk wc.up G hm2 M2⟩
    · intro k1 s2 A2 M2
      exact absurd h1 k1
  · intro h1 g' G O
    obtain ⟨hg2, hm2⟩ := mh_off hg hm (Nat.le_refl _) O
    refine ⟨_, rfl, cvq hg2 (cm_restore hm2 M (by rw [e1]; exact kp1.1) ?_ ?_)⟩
    · intro k1 s2 A2 M2
      exact absurd k1 h1
    · intro k1 s2 A2 M2
      rw [e1, e2, e4] at M2
      exact ⟨by rw [e1], WI.mk ⟨noCan_ok kp1.1, TB.noCan kp1.2.1, kp1.2.2, kp3.1, kp3.2, kp, by omega⟩ G hm2 M2⟩
end Ops2
