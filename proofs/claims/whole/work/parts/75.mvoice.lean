/-! THE REFERENCE, whole: voices -/
def abN : Nat → Nat
  | 4 => 1
  | 5 => 2
  | 6 => 3
  | _ => 0
theorem ab_is : ∀ k, k < 7 → k ≠ 0 → aboveI (nI k) = nI (abN k) ∧ abN k < 7 := by decide +kernel
def lvN (k : Nat) : Nat := if k = 0 then 0 else if k < 4 then 1 else 2
theorem lv_ab : ∀ k, k < 7 → k ≠ 0 → lvN (abN k) + 1 ≤ lvN k := by decide
theorem k_of {k c : Nat} (hk : k < 7) (hc : c < 7) (e : nI k = nI c) : k = c := (nI_eq (by omega) (by omega)).mp e
def ldV (num : Int32) (k : Nat) (x : Int32) (hd : List Int32) : Int32 × List Int32 := if k = 3 ∨ k = 6 then ((x + num) * 3, addL 40 (addL 40 hd 40) 10) else (x + num, addL 40 hd 10)
def drV (num mm : Int32) (k : Nat) (x : Int32) (hd : List Int32) : Int32 × List Int32 := if k = 1 then (-(x - mm), addL 40 (addL 40 hd 20) 12) else if k = 4 then (-(x - mm) ^^^ num, addL 40 (addL 40 (addL 40 hd 50) 20) 12) else (x - mm, addL 40 hd 12)
def rl0 (num : Int32) (kd : Nat) (x : Int32) (hd : List Int32) : Int32 × List Int32 := ((ldV num kd x (addL 40 hd 11)).1 * 2, (ldV num kd x (addL 40 hd 11)).2)
def rl2 (num mm : Int32) (kd : Nat) (x : Int32) (hd : List Int32) : Int32 × List Int32 := ((rl0 num kd x (addL 40 hd 30)).1 - (drV num mm kd 1 (rl0 num kd x (addL 40 hd 30)).2).1, (drV num mm kd 1 (rl0 num kd x (addL 40 hd 30)).2).2)
def rlV (num mm : Int32) (kd k : Nat) (x : Int32) (hd : List Int32) : Int32 × List Int32 := if k = 2 then rl2 num mm kd x hd else if k = 5 then rl2 num mm kd (x + 1) (addL 40 hd 60) else rl0 num kd x hd
def tl0 (num mm : Int32) (kd : Nat) (x : Int32) (hd : List Int32) : Int32 × List Int32 := ((rlV num mm kd kd x (addL 40 hd 13)).1 ^^^ (drV num mm kd x (rlV num mm kd kd x (addL 40 hd 13)).2).1, (drV num mm kd x (rlV num mm kd kd x (addL 40 hd 13)).2).2)
def tlV (num mm : Int32) (kd k : Nat) (x : Int32) (hd : List Int32) : Int32 × List Int32 := if k = 4 then ((rlV num mm kd kd x (addL 40 hd 51)).1 - (tl0 num mm kd x (rlV num mm kd kd x (addL 40 hd 51)).2).1, (tl0 num mm kd x (rlV num mm kd kd x (addL 40 hd 51)).2).2) else if k = 6 then ((tl0 num mm kd x (addL 40 hd 70)).1 - (ldV num kd 2 (tl0 num mm kd x (addL 40 hd 70)).2).1, (ldV num kd 2 (tl0 num mm kd x (addL 40 hd 70)).2).2) else tl0 num mm kd x hd
section Vq
variable {num mm K0 : Int32} {kd k n : Nat} {x : Int32} {hd : List Int32}
theorem voi_s {s act own body ab : Int32} (h1 : ownerI 7 s act = own) (h2 : bodyI own act = body) (h3 : aboveI own = ab) : voiV num K0 mm (n + 1) s act x hd = sayG (voiV num K0 mm n) num K0 mm body ab x (addL 40 hd body) := by
  subst h3; subst h2; subst h1; rfl
theorem own0 : ∀ k, k < 7 → ownerI 7 (nI k) 0 = (if k = 3 ∨ k = 6 then 3 else 0) := by decide +kernel
theorem own1 : ∀ k, k < 7 → ownerI 7 (nI k) 1 = (if k = 2 then 2 else if k = 5 then 5 else 0) := by decide +kernel
theorem own2 : ∀ k, k < 7 → ownerI 7 (nI k) 2 = (if k = 1 then 1 else if k = 4 then 4 else 0) := by decide +kernel
theorem own3 : ∀ k, k < 7 → ownerI 7 (nI k) 3 = (if k = 4 then 4 else if k = 6 then 6 else 0) := by decide +kernel
theorem vo_l0 (hk : k < 7) (c : ¬ (k = 3 ∨ k = 6)) : voiV num K0 mm (n + 1) (nI k) 0 x hd = (x + num, addL 40 hd 10) :=
  (voi_s (own := 0) (body := 10) (ab := -1) ((own0 k hk).trans (if_neg c)) (by decide) (by decide)).trans sayG_10
theorem vo_l (hk : k < 7) : voiV num K0 mm (n + 2) (nI k) 0 x hd = ldV num k x hd := by
  unfold ldV
  by_cases c : k = 3 ∨ k = 6
  · rw [if_pos c, voi_s (own := 3) (body := 40) (ab := nI 0) ((own0 k hk).trans (if_pos c)) (by decide) (by decide), sayG_40, vo_l0 (by decide) (by decide)]
  · rw [if_neg c]; exact vo_l0 hk c
theorem vo_d0 (hk : k < 7) (c : k ≠ 1) (c2 : k ≠ 4) : voiV num K0 mm (n + 1) (nI k) 2 x hd = (x - mm, addL 40 hd 12) :=
  (voi_s (own := 0) (body := 12) (ab := -1) ((own2 k hk).trans (by rw [if_neg c, if_neg c2])) (by decide) (by decide)).trans sayG_12
theorem vo_d1 : voiV num K0 mm (n + 2) (nI 1) 2 x hd = (-(x - mm), addL 40 (addL 40 hd 20) 12) := by
  rw [voi_s (own := 1) (body := 20) (ab := nI 0) (by decide) (by decide) (by decide), sayG_20, vo_d0 (by decide) (by decide) (by decide)]
theorem vo_d (hk : k < 7) : voiV num K0 mm (n + 3) (nI k) 2 x hd = drV num mm k x hd := by
  unfold drV
  by_cases c : k = 1
  · rw [if_pos c, c]; exact vo_d1
  · rw [if_neg c]
    by_cases c2 : k = 4
    · rw [if_pos c2, voi_s (own := 4) (body := 50) (ab := nI 1) ((own2 k hk).trans (by rw [if_neg c, if_pos c2])) (by decide) (by decide), sayG_50, vo_d1]
    · rw [if_neg c2]; exact vo_d0 hk c c2
theorem vo_r0 (hkd : kd < 7) (hk : k < 7) (c : k ≠ 2) (c2 : k ≠ 5) : voiV num (nI kd) mm (n + 3) (nI k) 1 x hd = rl0 num kd x hd := by
  rw [voi_s (own := 0) (body := 11) (ab := -1) ((own1 k hk).trans (by rw [if_neg c, if_neg c2])) (by decide) (by decide), sayG_11, vo_l hkd]
  rfl
theorem vo_r2 (hkd : kd < 7) : voiV num (nI kd) mm (n + 4) (nI 2) 1 x hd = rl2 num mm kd x hd := by
  rw [voi_s (own := 2) (body := 30) (ab := nI 0) (by decide) (by decide) (by decide), sayG_30, vo_r0 hkd (by decide) (by decide) (by decide), vo_d hkd]
  rfl
theorem vo_r (hkd : kd < 7) (hk : k < 7) : voiV num (nI kd) mm (n + 5) (nI k) 1 x hd = rlV num mm kd k x hd := by
  unfold rlV
  by_cases c : k = 2
  · rw [if_pos c, c]; exact vo_r2 hkd
  · rw [if_neg c]
    by_cases c2 : k = 5
    · rw [if_pos c2, voi_s (own := 5) (body := 60) (ab := nI 2) ((own1 k hk).trans (by rw [if_neg c, if_pos c2])) (by decide) (by decide), sayG_60, vo_r2 hkd]
    · rw [if_neg c2]; exact vo_r0 hkd hk c c2
theorem vo_t0 (hkd : kd < 7) (hk : k < 7) (c : k ≠ 4) (c2 : k ≠ 6) : voiV num (nI kd) mm (n + 6) (nI k) 3 x hd = tl0 num mm kd x hd := by
  rw [voi_s (own := 0) (body := 13) (ab := -1) ((own3 k hk).trans (by rw [if_neg c, if_neg c2])) (by decide) (by decide), sayG_13, vo_r hkd hkd, vo_d hkd]
  rfl
theorem vo_t (hkd : kd < 7) (hk : k < 7) : voiV num (nI kd) mm (n + 7) (nI k) 3 x hd = tlV num mm kd k x hd := by
  unfold tlV
  by_cases c : k = 4
  · rw [if_pos c, voi_s (own := 4) (body := 51) (ab := nI 1) ((own3 k hk).trans (by rw [if_pos c])) (by decide) (by decide), sayG_51, vo_r hkd hkd, vo_t0 hkd (by decide) (by decide) (by decide)]
  · rw [if_neg c]
    by_cases c2 : k = 6
    · rw [if_pos c2, voi_s (own := 6) (body := 70) (ab := nI 3) ((own3 k hk).trans (by rw [if_neg c, if_pos c2])) (by decide) (by decide), sayG_70, vo_t0 hkd (by decide) (by decide) (by decide), vo_l hkd]
    · rw [if_neg c2]; exact vo_t0 hkd hk c c2
theorem ld_ab : ∀ k, k < 7 → k ≠ 0 → k ≠ 3 → ldV num k x hd = ldV num (abN k) x hd := by
  intro k h1 h2 h3
  have : k = 1 ∨ k = 2 ∨ k = 4 ∨ k = 5 ∨ k = 6 := by omega
  rcases this with rfl | rfl | rfl | rfl | rfl <;> rfl
theorem dr_ab : ∀ k, k < 7 → k ≠ 0 → k ≠ 1 → k ≠ 4 → drV num mm k x hd = drV num mm (abN k) x hd := by
  intro k h1 h2 h3 h4
  have : k = 2 ∨ k = 3 ∨ k = 5 ∨ k = 6 := by omega
  rcases this with rfl | rfl | rfl | rfl <;> rfl
theorem rl_ab : ∀ k, k < 7 → k ≠ 0 → k ≠ 2 → k ≠ 5 → rlV num mm kd k x hd = rlV num mm kd (abN k) x hd := by
  intro k h1 h2 h3 h4
  have : k = 1 ∨ k = 3 ∨ k = 4 ∨ k = 6 := by omega
  rcases this with rfl | rfl | rfl | rfl <;> rfl
theorem tl_ab : ∀ k, k < 7 → k ≠ 0 → k ≠ 4 → k ≠ 6 → tlV num mm kd k x hd = tlV num mm kd (abN k) x hd := by
  intro k h1 h2 h3 h4
  have : k = 1 ∨ k = 2 ∨ k = 3 ∨ k = 5 := by omega
  rcases this with rfl | rfl | rfl | rfl <;> rfl
end Vq
section Mvoice
variable {m : Nat} {h : AH} {K K2 : CK} {hs hs2 : List (Nat × Nat)} {tD tL tD2 tL2 : Option (List Int32)} {tp wa tp2 wa2 hd er lD lL : List Int32} {z im z2 : Int32} {k : MK} {bt : Nat → Int32} {sh : Nat → List Int32} {s s2 : Nat → Int32} {A A2 : Nat → Nat → Int32} {Q : Option Value → AH → Prop} {f : Nat → Int32} {kd : Nat}
/-- what has been heard so far -/
def VT (hd : List Int32) (s : Nat → Int32) (A : Nat → Nat → Int32) (s1 : Nat → Int32) (A1 : Nat → Nat → Int32) : Prop := (s1 26 = nI hd.length ∧ hd.length ≤ 40 ∧ ∀ i, i < hd.length → A1 13 i = hd.getD i 0) ∧ (∀ k, k ≠ 26 → s1 k = s k) ∧ ∀ i, i ≠ 13 → A1 i = A i
theorem VT.ran {s1 : Nat → Int32} {A1 : Nat → Nat → Int32} (v : VT hd s A s1 A1) (b : Int32) : VT (addL 40 hd b) s A (if hd.length < 40 then upd s1 26 (nI (hd.length + 1)) else s1) (if hd.length < 40 then upA A1 13 (upd (A1 13) hd.length b) else A1) := by
  obtain ⟨⟨v1, v2, v3⟩, v4, v5⟩ := v
  unfold addL
  by_cases c : hd.length < 40
  · rw [if_pos c, if_pos c, if_pos c]
    refine ⟨⟨by rw [upd_s, List.length_append]; rfl, by rw [List.length_append]; exact c, fun i hi => ?_⟩, fun k hk => (upd_n hk).trans (v4 k hk), fun i hi => (upA_n hi).trans (v5 i hi)⟩
    rw [List.length_append] at hi
    rw [upA_s, getD_app hi]
    by_cases e : i = hd.length
    · rw [if_pos e, e, upd_s]
    · rw [if_neg e, upd_n e]
      exact v3 i (by have : i < hd.length + 1 := hi; omega)
  · rw [if_neg c, if_neg c, if_neg c]
    exact ⟨⟨v1, v2, v3⟩, v4, v5⟩
set_option maxHeartbeats 4000000 in
theorem ct_M_loadsIn (hm : m + 14 < h.1) : ∀ j k, k < 7 → lvN k ≤ j → ∀ x hd s1 A1, VT hd s A s1 A1 → CV (3 + j) 0 0 mX12_loadsIn m [.int (nI k), .int x] (mh m h s1 A1) (fun v g => v = some (.int (ldV (s 28) k x hd).1) ∧ ∃ s2 A2, VT (ldV (s 28) k x hd).2 s A s2 A2 ∧ MP m h s2 A2 g) := by
  have St : ∀ j, (∀ j', j = j' + 1 → ∀ k, k < 7 → lvN k ≤ j' → ∀ x hd s1 A1, VT hd s A s1 A1 → CV (3 + j') 0 0 mX12_loadsIn m [.int (nI k), .int x] (mh m h s1 A1) (fun v g => v = some (.int (ldV (s 28) k x hd).1) ∧ ∃ s2 A2, VT (ldV (s 28) k x hd).2 s A s2 A2 ∧ MP m h s2 A2 g)) → ∀ k, k < 7 → lvN k ≤ j → ∀ x hd s1 A1, VT hd s A s1 A1 → CV (3 + j) 0 0 mX12_loadsIn m [.int (nI k), .int x] (mh m h s1 A1) (fun v g => v = some (.int (ldV (s 28) k x hd).1) ∧ ∃ s2 A2, VT (ldV (s 28) k x hd).2 s A s2 A2 ∧ MP m h s2 A2 g) := by
    intro j ih k hk hlv x hd s1 A1 v
    refine ⟨mV hm, ?_⟩
    refine ct_of (by decide) (fun _ _ => Nat.le_of_ble_eq_true rfl) ?_
    dsimp only [pad, ent]
    refine aw_P (P' := MP m h s1 A1) (fun _ q => q) ?_
    refine r_iload_n (pc := 0) dX12_loadsIn_0 rfl ?_
    refine r_if_ne (pc := 1) 17 dX12_loadsIn_1 (by decide) (fun c1 => ?_) (fun c1 => ?_)
    · skip
      have k0 : k ≠ 0 := fun e => c1 (by rw [e]; rfl)
      have hl := lv_ab k hk k0
      obtain ⟨j', rfl⟩ : ∃ j', j = j' + 1 := ⟨j - 1, by omega⟩
      have ih := ih j' rfl
      refine r_iload_n (pc := 17) dX12_loadsIn_17 rfl ?_
      refine r_iconst (pc := 18) (v := 3) dX12_loadsIn_18 (by decide) ?_
      refine r_icmp_ne (pc := 19) 37 dX12_loadsIn_19 (by decide) (fun c19 => ?_) (fun c19 => ?_)
      · skip
        have k3 : k ≠ 3 := fun e => c19 (by rw [e]; rfl)
        obtain ⟨a1, a2⟩ := ab_is k hk k0
        rw [ld_ab k hk k0 k3]
        refine r_aload_n (pc := 37) dX12_loadsIn_37 rfl ?_
        refine r_iload_n (pc := 38) dX12_loadsIn_38 rfl ?_
        refine r_Sp (pc := 39) (μ' := mX12_above) dX12_loadsIn_39 nX12_118 sX12_above kX12_above rfl rfl (rr (by omega) rfl) rfl ⟨Nat.zero_le _, Nat.zero_le _⟩ (fun h => ct_M_above hk h) ?_
        rw [a1]
        refine r_iload_n (pc := 42) dX12_loadsIn_42 rfl ?_
        refine r_Vi (pc := 43) (μ' := mX12_loadsIn) dX12_loadsIn_43 nX12_254 iX12_loadsIn vX12_loadsIn kX12_loadsIn rfl rfl (rr (by omega) rfl) rfl ⟨Nat.zero_le _, Nat.zero_le _⟩ (fun _ q_ => cvq q_ (ih _ a2 (by omega) x _ _ _ v)) ?_
        refine r_ireturn (pc := 46) (ty := .int) dX12_loadsIn_46 rfl rfl ⟨Nat.zero_le _, Nat.zero_le _⟩ (fun gE hg => ?_)
        exact ⟨rfl, hg⟩
      · skip
        obtain rfl : k = 3 := k_of hk (by decide) c19
        refine r_aload_n (pc := 22) dX12_loadsIn_22 rfl ?_
        refine r_bipush (pc := 23) (v := 40) dX12_loadsIn_23 (by decide) ?_
        refine r_Vv (pc := 25) (μ' := mX12_ran) dX12_loadsIn_25 nX12_247 iX12_ran vX12_ran kX12_ran rfl rfl (rr (by omega) rfl) rfl ⟨Nat.zero_le _, Nat.zero_le _⟩ (fun _ q_ => cvq q_ (ct_M_ran hm v.1.1 v.1.2.1)) ?_
        refine aw_P (P' := fun g => ∃ s2 A2, VT (addL 40 _ _) s A s2 A2 ∧ MP m h s2 A2 g) (fun g q => ⟨_, _, v.ran _, q⟩) ?_
        refine aw_ex fun s2 => aw_ex fun A2 => aw_pr fun v2 => ?_
        refine r_aload_n (pc := 28) dX12_loadsIn_28 rfl ?_
        refine r_iconst (pc := 29) (v := 0) dX12_loadsIn_29 (by decide) ?_
        refine r_iload_n (pc := 30) dX12_loadsIn_30 rfl ?_
        rw [show (0 : Int32) = nI 0 from rfl]
        refine r_Vi (pc := 31) (μ' := mX12_loadsIn) dX12_loadsIn_31 nX12_254 iX12_loadsIn vX12_loadsIn kX12_loadsIn rfl rfl (rr (by omega) rfl) rfl ⟨Nat.zero_le _, Nat.zero_le _⟩ (fun _ q_ => cvq q_ (ih 0 (by decide) (Nat.zero_le _) x _ _ _ v2)) ?_
        refine aw_ex fun s3 => aw_ex fun A3 => aw_pr fun v3 => ?_
        refine r_iconst (pc := 34) (v := 3) dX12_loadsIn_34 (by decide) ?_
        refine r_imul (pc := 35) dX12_loadsIn_35 ?_
        refine r_ireturn (pc := 36) (ty := .int) dX12_loadsIn_36 rfl rfl ⟨Nat.zero_le _, Nat.zero_le _⟩ (fun gE hg => ?_)
        exact ⟨rfl, _, _, v3, hg⟩
    · skip
      obtain rfl : k = 0 := k_of hk (by decide) c1
      refine r_aload_n (pc := 4) dX12_loadsIn_4 rfl ?_
      refine r_bipush (pc := 5) (v := 10) dX12_loadsIn_5 (by decide) ?_
      refine r_Vv (pc := 7) (μ' := mX12_ran) dX12_loadsIn_7 nX12_247 iX12_ran vX12_ran kX12_ran rfl rfl (rr (by omega) rfl) rfl ⟨Nat.zero_le _, Nat.zero_le _⟩ (fun _ q_ => cvq q_ (ct_M_ran hm v.1.1 v.1.2.1)) ?_
      refine aw_P (P' := fun g => ∃ s2 A2, VT (addL 40 _ _) s A s2 A2 ∧ MP m h s2 A2 g) (fun g q => ⟨_, _, v.ran _, q⟩) ?_
      refine aw_ex fun s2 => aw_ex fun A2 => aw_pr fun v2 => ?_
      refine r_iload_n (pc := 10) dX12_loadsIn_10 rfl ?_
      refine r_aload_n (pc := 11) dX12_loadsIn_11 rfl ?_
      refine r_getf (pc := 12) (k := 28) dX12_loadsIn_12 hX12 eX12 (by decide) fX12_251 (fun _ q => mo hm q) rfl ?_
      rw [v2.2.1 28 (by decide)]
      refine r_iadd (pc := 15) dX12_loadsIn_15 ?_
      refine r_ireturn (pc := 16) (ty := .int) dX12_loadsIn_16 rfl rfl ⟨Nat.zero_le _, Nat.zero_le _⟩ (fun gE hg => ?_)
      exact ⟨rfl, _, _, v2, hg⟩
  intro j
  induction j with
  | zero => exact St 0 (fun j' e => absurd e (by omega))
  | succ j ih => exact St _ (fun j' e => by cases e; exact ih)
set_option maxHeartbeats 4000000 in
theorem ct_M_driesIn (hm : m + 14 < h.1) : ∀ j, ∀ k, k < 7 → lvN k ≤ j → ∀ x hd s1 A1, VT hd s A s1 A1 → CV (3 + j) 0 0 mX12_driesIn m [.int (nI k), .int x] (mh m h s1 A1) (fun v g => v = some (.int (drV (s 28) (s 29) k x hd).1) ∧ ∃ s2 A2, VT (drV (s 28) (s 29) k x hd).2 s A s2 A2 ∧ MP m h s2 A2 g) := by
  have St : ∀ j, (∀ j', j = j' + 1 → ∀ k, k < 7 → lvN k ≤ j' → ∀ x hd s1 A1, VT hd s A s1 A1 → CV (3 + j') 0 0 mX12_driesIn m [.int (nI k), .int x] (mh m h s1 A1) (fun v g => v = some (.int (drV (s 28) (s 29) k x hd).1) ∧ ∃ s2 A2, VT (drV (s 28) (s 29) k x hd).2 s A s2 A2 ∧ MP m h s2 A2 g)) → ∀ k, k < 7 → lvN k ≤ j → ∀ x hd s1 A1, VT hd s A s1 A1 → CV (3 + j) 0 0 mX12_driesIn m [.int (nI k), .int x] (mh m h s1 A1) (fun v g => v = some (.int (drV (s 28) (s 29) k x hd).1) ∧ ∃ s2 A2, VT (drV (s 28) (s 29) k x hd).2 s A s2 A2 ∧ MP m h s2 A2 g) := by
    intro j ih k hk hlv x hd s1 A1 v
    refine ⟨mV hm, ?_⟩
    refine ct_of (by decide) (fun _ _ => Nat.le_of_ble_eq_true rfl) ?_
    dsimp only [pad, ent]
    refine aw_P (P' := MP m h s1 A1) (fun _ q => q) ?_
    refine r_iload_n (pc := 0) dX12_driesIn_0 rfl ?_
    refine r_if_ne (pc := 1) 17 dX12_driesIn_1 (by decide) (fun c1 => ?_) (fun c1 => ?_)
    · skip
      have k0 : k ≠ 0 := fun e => c1 (by rw [e]; rfl)
      have hl := lv_ab k hk k0
      obtain ⟨j', rfl⟩ : ∃ j', j = j' + 1 := ⟨j - 1, by omega⟩
      have ih := ih j' rfl
      refine r_iload_n (pc := 17) dX12_driesIn_17 rfl ?_
      refine r_iconst (pc := 18) (v := 1) dX12_driesIn_18 (by decide) ?_
      refine r_icmp_ne (pc := 19) 36 dX12_driesIn_19 (by decide) (fun c19 => ?_) (fun c19 => ?_)
      · skip
        have k1 : k ≠ 1 := fun e => c19 (by rw [e]; rfl)
        refine r_iload_n (pc := 36) dX12_driesIn_36 rfl ?_
        refine r_iconst (pc := 37) (v := 4) dX12_driesIn_37 (by decide) ?_
        refine r_icmp_ne (pc := 38) 59 dX12_driesIn_38 (by decide) (fun c38 => ?_) (fun c38 => ?_)
        · skip
          have k4 : k ≠ 4 := fun e => c38 (by rw [e]; rfl)
          obtain ⟨a1, a2⟩ := ab_is k hk k0
          rw [dr_ab k hk k0 k1 k4]
          refine r_aload_n (pc := 59) dX12_driesIn_59 rfl ?_
          refine r_iload_n (pc := 60) dX12_driesIn_60 rfl ?_
          refine r_Sp (pc := 61) (μ' := mX12_above) dX12_driesIn_61 nX12_118 sX12_above kX12_above rfl rfl (rr (by omega) rfl) rfl ⟨Nat.zero_le _, Nat.zero_le _⟩ (fun h => ct_M_above hk h) ?_
          rw [a1]
          refine r_iload_n (pc := 64) dX12_driesIn_64 rfl ?_
          refine r_Vi (pc := 65) (μ' := mX12_driesIn) dX12_driesIn_65 nX12_260 iX12_driesIn vX12_driesIn kX12_driesIn rfl rfl (rr (by omega) rfl) rfl ⟨Nat.zero_le _, Nat.zero_le _⟩ (fun _ q_ => cvq q_ (ih _ a2 (by omega) x _ _ _ v)) ?_
          refine r_ireturn (pc := 68) (ty := .int) dX12_driesIn_68 rfl rfl ⟨Nat.zero_le _, Nat.zero_le _⟩ (fun gE hg => ?_)
          exact ⟨rfl, hg⟩
        · skip
          obtain rfl : k = 4 := k_of hk (by decide) c38
          refine r_aload_n (pc := 41) dX12_driesIn_41 rfl ?_
          refine r_bipush (pc := 42) (v := 50) dX12_driesIn_42 (by decide) ?_
          refine r_Vv (pc := 44) (μ' := mX12_ran) dX12_driesIn_44 nX12_247 iX12_ran vX12_ran kX12_ran rfl rfl (rr (by omega) rfl) rfl ⟨Nat.zero_le _, Nat.zero_le _⟩ (fun _ q_ => cvq q_ (ct_M_ran hm v.1.1 v.1.2.1)) ?_
          refine aw_P (P' := fun g => ∃ s2 A2, VT (addL 40 _ _) s A s2 A2 ∧ MP m h s2 A2 g) (fun g q => ⟨_, _, v.ran _, q⟩) ?_
          refine aw_ex fun s2 => aw_ex fun A2 => aw_pr fun v2 => ?_
          refine r_aload_n (pc := 47) dX12_driesIn_47 rfl ?_
          refine r_iconst (pc := 48) (v := 1) dX12_driesIn_48 (by decide) ?_
          refine r_iload_n (pc := 49) dX12_driesIn_49 rfl ?_
          rw [show (1 : Int32) = nI 1 from rfl]
          refine r_Vi (pc := 50) (μ' := mX12_driesIn) dX12_driesIn_50 nX12_260 iX12_driesIn vX12_driesIn kX12_driesIn rfl rfl (rr (by omega) rfl) rfl ⟨Nat.zero_le _, Nat.zero_le _⟩ (fun _ q_ => cvq q_ (ih 1 (by decide) (by have : lvN 4 = 2 := rfl; have : lvN 1 = 1 := rfl; omega) x _ _ _ v2)) ?_
          refine aw_ex fun s3 => aw_ex fun A3 => aw_pr fun v3 => ?_
          refine r_aload_n (pc := 53) dX12_driesIn_53 rfl ?_
          refine r_getf (pc := 54) (k := 28) dX12_driesIn_54 hX12 eX12 (by decide) fX12_251 (fun _ q => mo hm q) rfl ?_
          rw [v3.2.1 28 (by decide)]
          refine r_ixor (pc := 57) dX12_driesIn_57 ?_
          refine r_ireturn (pc := 58) (ty := .int) dX12_driesIn_58 rfl rfl ⟨Nat.zero_le _, Nat.zero_le _⟩ (fun gE hg => ?_)
          exact ⟨rfl, _, _, v3, hg⟩
      · skip
        obtain rfl : k = 1 := k_of hk (by decide) c19
        refine r_aload_n (pc := 22) dX12_driesIn_22 rfl ?_
        refine r_bipush (pc := 23) (v := 20) dX12_driesIn_23 (by decide) ?_
        refine r_Vv (pc := 25) (μ' := mX12_ran) dX12_driesIn_25 nX12_247 iX12_ran vX12_ran kX12_ran rfl rfl (rr (by omega) rfl) rfl ⟨Nat.zero_le _, Nat.zero_le _⟩ (fun _ q_ => cvq q_ (ct_M_ran hm v.1.1 v.1.2.1)) ?_
        refine aw_P (P' := fun g => ∃ s2 A2, VT (addL 40 _ _) s A s2 A2 ∧ MP m h s2 A2 g) (fun g q => ⟨_, _, v.ran _, q⟩) ?_
        refine aw_ex fun s2 => aw_ex fun A2 => aw_pr fun v2 => ?_
        refine r_aload_n (pc := 28) dX12_driesIn_28 rfl ?_
        refine r_iconst (pc := 29) (v := 0) dX12_driesIn_29 (by decide) ?_
        refine r_iload_n (pc := 30) dX12_driesIn_30 rfl ?_
        rw [show (0 : Int32) = nI 0 from rfl]
        refine r_Vi (pc := 31) (μ' := mX12_driesIn) dX12_driesIn_31 nX12_260 iX12_driesIn vX12_driesIn kX12_driesIn rfl rfl (rr (by omega) rfl) rfl ⟨Nat.zero_le _, Nat.zero_le _⟩ (fun _ q_ => cvq q_ (ih 0 (by decide) (Nat.zero_le _) x _ _ _ v2)) ?_
        refine aw_ex fun s3 => aw_ex fun A3 => aw_pr fun v3 => ?_
        refine r_ineg (pc := 34) dX12_driesIn_34 ?_
        refine r_ireturn (pc := 35) (ty := .int) dX12_driesIn_35 rfl rfl ⟨Nat.zero_le _, Nat.zero_le _⟩ (fun gE hg => ?_)
        exact ⟨rfl, _, _, v3, hg⟩
    · skip
      obtain rfl : k = 0 := k_of hk (by decide) c1
      refine r_aload_n (pc := 4) dX12_driesIn_4 rfl ?_
      refine r_bipush (pc := 5) (v := 12) dX12_driesIn_5 (by decide) ?_
      refine r_Vv (pc := 7) (μ' := mX12_ran) dX12_driesIn_7 nX12_247 iX12_ran vX12_ran kX12_ran rfl rfl (rr (by omega) rfl) rfl ⟨Nat.zero_le _, Nat.zero_le _⟩ (fun _ q_ => cvq q_ (ct_M_ran hm v.1.1 v.1.2.1)) ?_
      refine aw_P (P' := fun g => ∃ s2 A2, VT (addL 40 _ _) s A s2 A2 ∧ MP m h s2 A2 g) (fun g q => ⟨_, _, v.ran _, q⟩) ?_
      refine aw_ex fun s2 => aw_ex fun A2 => aw_pr fun v2 => ?_
      refine r_iload_n (pc := 10) dX12_driesIn_10 rfl ?_
      refine r_aload_n (pc := 11) dX12_driesIn_11 rfl ?_
      refine r_getf (pc := 12) (k := 29) dX12_driesIn_12 hX12 eX12 (by decide) fX12_257 (fun _ q => mo hm q) rfl ?_
      rw [v2.2.1 29 (by decide)]
      refine r_isub (pc := 15) dX12_driesIn_15 ?_
      refine r_ireturn (pc := 16) (ty := .int) dX12_driesIn_16 rfl rfl ⟨Nat.zero_le _, Nat.zero_le _⟩ (fun gE hg => ?_)
      exact ⟨rfl, _, _, v2, hg⟩
  intro j
  induction j with
  | zero => exact St 0 (fun j' e => absurd e (by omega))
  | succ j ih => exact St _ (fun j' e => by cases e; exact ih)
set_option maxHeartbeats 4000000 in
theorem ct_M_rollsIn (hm : m + 14 < h.1) (h27 : s 27 = nI kd) (hkd : kd < 7) : ∀ j, ∀ k, k < 7 → lvN k ≤ j → ∀ x hd s1 A1, VT hd s A s1 A1 → CV (7 + j) 0 0 mX12_rollsIn m [.int (nI k), .int x] (mh m h s1 A1) (fun v g => v = some (.int (rlV (s 28) (s 29) kd k x hd).1) ∧ ∃ s2 A2, VT (rlV (s 28) (s 29) kd k x hd).2 s A s2 A2 ∧ MP m h s2 A2 g) := by
  have hlk : lvN kd ≤ 2 := by unfold lvN; split <;> (try split) <;> omega
  have St : ∀ j, (∀ j', j = j' + 1 → ∀ k, k < 7 → lvN k ≤ j' → ∀ x hd s1 A1, VT hd s A s1 A1 → CV (7 + j') 0 0 mX12_rollsIn m [.int (nI k), .int x] (mh m h s1 A1) (fun v g => v = some (.int (rlV (s 28) (s 29) kd k x hd).1) ∧ ∃ s2 A2, VT (rlV (s 28) (s 29) kd k x hd).2 s A s2 A2 ∧ MP m h s2 A2 g)) → ∀ k, k < 7 → lvN k ≤ j → ∀ x hd s1 A1, VT hd s A s1 A1 → CV (7 + j) 0 0 mX12_rollsIn m [.int (nI k), .int x] (mh m h s1 A1) (fun v g => v = some (.int (rlV (s 28) (s 29) kd k x hd).1) ∧ ∃ s2 A2, VT (rlV (s 28) (s 29) kd k x hd).2 s A s2 A2 ∧ MP m h s2 A2 g) := by
    intro j ih k hk hlv x hd s1 A1 v
    refine ⟨mV hm, ?_⟩
    refine ct_of (by decide) (fun _ _ => Nat.le_of_ble_eq_true rfl) ?_
    dsimp only [pad, ent]
    refine aw_P (P' := MP m h s1 A1) (fun _ q => q) ?_
    refine r_iload_n (pc := 0) dX12_rollsIn_0 rfl ?_
    refine r_if_ne (pc := 1) 22 dX12_rollsIn_1 (by decide) (fun c1 => ?_) (fun c1 => ?_)
    · skip
      have k0 : k ≠ 0 := fun e => c1 (by rw [e]; rfl)
      have hl := lv_ab k hk k0
      obtain ⟨j', rfl⟩ : ∃ j', j = j' + 1 := ⟨j - 1, by omega⟩
      have ih := ih j' rfl
      refine r_iload_n (pc := 22) dX12_rollsIn_22 rfl ?_
      refine r_iconst (pc := 23) (v := 2) dX12_rollsIn_23 (by decide) ?_
      refine r_icmp_ne (pc := 24) 52 dX12_rollsIn_24 (by decide) (fun c24 => ?_) (fun c24 => ?_)
      · skip
        have k2 : k ≠ 2 := fun e => c24 (by rw [e]; rfl)
        refine r_iload_n (pc := 52) dX12_rollsIn_52 rfl ?_
        refine r_iconst (pc := 53) (v := 5) dX12_rollsIn_53 (by decide) ?_
        refine r_icmp_ne (pc := 54) 72 dX12_rollsIn_54 (by decide) (fun c54 => ?_) (fun c54 => ?_)
        · skip
          have k5 : k ≠ 5 := fun e => c54 (by rw [e]; rfl)
          obtain ⟨a1, a2⟩ := ab_is k hk k0
          rw [rl_ab k hk k0 k2 k5]
          refine r_aload_n (pc := 72) dX12_rollsIn_72 rfl ?_
          refine r_iload_n (pc := 73) dX12_rollsIn_73 rfl ?_
          refine r_Sp (pc := 74) (μ' := mX12_above) dX12_rollsIn_74 nX12_118 sX12_above kX12_above rfl rfl (rr (by omega) rfl) rfl ⟨Nat.zero_le _, Nat.zero_le _⟩ (fun h => ct_M_above hk h) ?_
          rw [a1]
          refine r_iload_n (pc := 77) dX12_rollsIn_77 rfl ?_
          refine r_Vi (pc := 78) (μ' := mX12_rollsIn) dX12_rollsIn_78 nX12_266 iX12_rollsIn vX12_rollsIn kX12_rollsIn rfl rfl (rr (by omega) rfl) rfl ⟨Nat.zero_le _, Nat.zero_le _⟩ (fun _ q_ => cvq q_ (ih _ a2 (by omega) x _ _ _ v)) ?_
          refine r_ireturn (pc := 81) (ty := .int) dX12_rollsIn_81 rfl rfl ⟨Nat.zero_le _, Nat.zero_le _⟩ (fun gE hg => ?_)
          exact ⟨rfl, hg⟩
        · skip
          obtain rfl : k = 5 := k_of hk (by decide) c54
          refine r_aload_n (pc := 57) dX12_rollsIn_57 rfl ?_
          refine r_bipush (pc := 58) (v := 60) dX12_rollsIn_58 (by decide) ?_
          refine r_Vv (pc := 60) (μ' := mX12_ran) dX12_rollsIn_60 nX12_247 iX12_ran vX12_ran kX12_ran rfl rfl (rr (by omega) rfl) rfl ⟨Nat.zero_le _, Nat.zero_le _⟩ (fun _ q_ => cvq q_ (ct_M_ran hm v.1.1 v.1.2.1)) ?_
          refine aw_P (P' := fun g => ∃ s2 A2, VT (addL 40 _ _) s A s2 A2 ∧ MP m h s2 A2 g) (fun g q => ⟨_, _, v.ran _, q⟩) ?_
          refine aw_ex fun s2 => aw_ex fun A2 => aw_pr fun v2 => ?_
          refine r_aload_n (pc := 63) dX12_rollsIn_63 rfl ?_
          refine r_iconst (pc := 64) (v := 2) dX12_rollsIn_64 (by decide) ?_
          refine r_iload_n (pc := 65) dX12_rollsIn_65 rfl ?_
          refine r_iconst (pc := 66) (v := 1) dX12_rollsIn_66 (by decide) ?_
          refine r_iadd (pc := 67) dX12_rollsIn_67 ?_
          rw [show (2 : Int32) = nI 2 from rfl]
          refine r_Vi (pc := 68) (μ' := mX12_rollsIn) dX12_rollsIn_68 nX12_266 iX12_rollsIn vX12_rollsIn kX12_rollsIn rfl rfl (rr (by omega) rfl) rfl ⟨Nat.zero_le _, Nat.zero_le _⟩ (fun _ q_ => cvq q_ (ih 2 (by decide) (by have : lvN 5 = 2 := rfl; have : lvN 2 = 1 := rfl; omega) (x + 1) _ _ _ v2)) ?_
          refine aw_ex fun s3 => aw_ex fun A3 => aw_pr fun v3 => ?_
          refine r_ireturn (pc := 71) (ty := .int) dX12_rollsIn_71 rfl rfl ⟨Nat.zero_le _, Nat.zero_le _⟩ (fun gE hg => ?_)
          exact ⟨rfl, _, _, v3, hg⟩
      · skip
        obtain rfl : k = 2 := k_of hk (by decide) c24
        refine r_aload_n (pc := 27) dX12_rollsIn_27 rfl ?_
        refine r_bipush (pc := 28) (v := 30) dX12_rollsIn_28 (by decide) ?_
        refine r_Vv (pc := 30) (μ' := mX12_ran) dX12_rollsIn_30 nX12_247 iX12_ran vX12_ran kX12_ran rfl rfl (rr (by omega) rfl) rfl ⟨Nat.zero_le _, Nat.zero_le _⟩ (fun _ q_ => cvq q_ (ct_M_ran hm v.1.1 v.1.2.1)) ?_
        refine aw_P (P' := fun g => ∃ s2 A2, VT (addL 40 _ _) s A s2 A2 ∧ MP m h s2 A2 g) (fun g q => ⟨_, _, v.ran _, q⟩) ?_
        refine aw_ex fun s2 => aw_ex fun A2 => aw_pr fun v2 => ?_
        refine r_aload_n (pc := 33) dX12_rollsIn_33 rfl ?_
        refine r_iconst (pc := 34) (v := 0) dX12_rollsIn_34 (by decide) ?_
        refine r_iload_n (pc := 35) dX12_rollsIn_35 rfl ?_
        rw [show (0 : Int32) = nI 0 from rfl]
        refine r_Vi (pc := 36) (μ' := mX12_rollsIn) dX12_rollsIn_36 nX12_266 iX12_rollsIn vX12_rollsIn kX12_rollsIn rfl rfl (rr (by omega) rfl) rfl ⟨Nat.zero_le _, Nat.zero_le _⟩ (fun _ q_ => cvq q_ (ih 0 (by decide) (Nat.zero_le _) x _ _ _ v2)) ?_
        refine aw_ex fun s3 => aw_ex fun A3 => aw_pr fun v3 => ?_
        refine r_istore_n (pc := 39) dX12_rollsIn_39 rfl (Nat.le_of_ble_eq_true rfl) rfl ?_
        dsimp only [lset]
        refine r_iload_n (pc := 40) dX12_rollsIn_40 rfl ?_
        refine r_aload_n (pc := 41) dX12_rollsIn_41 rfl ?_
        refine r_aload_n (pc := 42) dX12_rollsIn_42 rfl ?_
        refine r_getf (pc := 43) (k := 27) dX12_rollsIn_43 hX12 eX12 (by decide) fX12_263 (fun _ q => mo hm q) rfl ?_
        refine r_iconst (pc := 46) (v := 1) dX12_rollsIn_46 (by decide) ?_
        rw [v3.2.1 27 (by decide), h27]
        refine r_Vi (pc := 47) (μ' := mX12_driesIn) dX12_rollsIn_47 nX12_260 iX12_driesIn vX12_driesIn kX12_driesIn rfl rfl (rr (by omega) rfl) rfl ⟨Nat.zero_le _, Nat.zero_le _⟩ (fun _ q_ => cvq q_ (ct_M_driesIn hm 2 kd hkd hlk 1 _ _ _ v3)) ?_
        refine aw_ex fun s4 => aw_ex fun A4 => aw_pr fun v4 => ?_
        refine r_isub (pc := 50) dX12_rollsIn_50 ?_
        refine r_ireturn (pc := 51) (ty := .int) dX12_rollsIn_51 rfl rfl ⟨Nat.zero_le _, Nat.zero_le _⟩ (fun gE hg => ?_)
        exact ⟨rfl, _, _, v4, hg⟩
    · skip
      obtain rfl : k = 0 := k_of hk (by decide) c1
      refine r_aload_n (pc := 4) dX12_rollsIn_4 rfl ?_
      refine r_bipush (pc := 5) (v := 11) dX12_rollsIn_5 (by decide) ?_
      refine r_Vv (pc := 7) (μ' := mX12_ran) dX12_rollsIn_7 nX12_247 iX12_ran vX12_ran kX12_ran rfl rfl (rr (by omega) rfl) rfl ⟨Nat.zero_le _, Nat.zero_le _⟩ (fun _ q_ => cvq q_ (ct_M_ran hm v.1.1 v.1.2.1)) ?_
      refine aw_P (P' := fun g => ∃ s2 A2, VT (addL 40 _ _) s A s2 A2 ∧ MP m h s2 A2 g) (fun g q => ⟨_, _, v.ran _, q⟩) ?_
      refine aw_ex fun s2 => aw_ex fun A2 => aw_pr fun v2 => ?_
      refine r_aload_n (pc := 10) dX12_rollsIn_10 rfl ?_
      refine r_aload_n (pc := 11) dX12_rollsIn_11 rfl ?_
      refine r_getf (pc := 12) (k := 27) dX12_rollsIn_12 hX12 eX12 (by decide) fX12_263 (fun _ q => mo hm q) rfl ?_
      refine r_iload_n (pc := 15) dX12_rollsIn_15 rfl ?_
      rw [v2.2.1 27 (by decide), h27]
      refine r_Vi (pc := 16) (μ' := mX12_loadsIn) dX12_rollsIn_16 nX12_254 iX12_loadsIn vX12_loadsIn kX12_loadsIn rfl rfl (rr (by omega) rfl) rfl ⟨Nat.zero_le _, Nat.zero_le _⟩ (fun _ q_ => cvq q_ (ct_M_loadsIn hm 2 kd hkd hlk x _ _ _ v2)) ?_
      refine aw_ex fun s3 => aw_ex fun A3 => aw_pr fun v3 => ?_
      refine r_iconst (pc := 19) (v := 2) dX12_rollsIn_19 (by decide) ?_
      refine r_imul (pc := 20) dX12_rollsIn_20 ?_
      refine r_ireturn (pc := 21) (ty := .int) dX12_rollsIn_21 rfl rfl ⟨Nat.zero_le _, Nat.zero_le _⟩ (fun gE hg => ?_)
      exact ⟨rfl, _, _, v3, hg⟩
  intro j
  induction j with
  | zero => exact St 0 (fun j' e => absurd e (by omega))
  | succ j ih => exact St _ (fun j' e => by cases e; exact ih)
set_option maxHeartbeats 4000000 in
theorem ct_M_tellsIn (hm : m + 14 < h.1) (h27 : s 27 = nI kd) (hkd : kd < 7) : ∀ j, ∀ k, k < 7 → lvN k ≤ j → ∀ x hd s1 A1, VT hd s A s1 A1 → CV (11 + j) 0 0 mX12_tellsIn m [.int (nI k), .int x] (mh m h s1 A1) (fun v g => v = some (.int (tlV (s 28) (s 29) kd k x hd).1) ∧ ∃ s2 A2, VT (tlV (s 28) (s 29) kd k x hd).2 s A s2 A2 ∧ MP m h s2 A2 g) := by
  have hlk : lvN kd ≤ 2 := by unfold lvN; split <;> (try split) <;> omega
  have St : ∀ j, (∀ j', j = j' + 1 → ∀ k, k < 7 → lvN k ≤ j' → ∀ x hd s1 A1, VT hd s A s1 A1 → CV (11 + j') 0 0 mX12_tellsIn m [.int (nI k), .int x] (mh m h s1 A1) (fun v g => v = some (.int (tlV (s 28) (s 29) kd k x hd).1) ∧ ∃ s2 A2, VT (tlV (s 28) (s 29) kd k x hd).2 s A s2 A2 ∧ MP m h s2 A2 g)) → ∀ k, k < 7 → lvN k ≤ j → ∀ x hd s1 A1, VT hd s A s1 A1 → CV (11 + j) 0 0 mX12_tellsIn m [.int (nI k), .int x] (mh m h s1 A1) (fun v g => v = some (.int (tlV (s 28) (s 29) kd k x hd).1) ∧ ∃ s2 A2, VT (tlV (s 28) (s 29) kd k x hd).2 s A s2 A2 ∧ MP m h s2 A2 g) := by
    intro j ih k hk hlv x hd s1 A1 v
    refine ⟨mV hm, ?_⟩
    refine ct_of (by decide) (fun _ _ => Nat.le_of_ble_eq_true rfl) ?_
    dsimp only [pad, ent]
    refine aw_P (P' := MP m h s1 A1) (fun _ q => q) ?_
    refine r_iload_n (pc := 0) dX12_tellsIn_0 rfl ?_
    refine r_if_ne (pc := 1) 32 dX12_tellsIn_1 (by decide) (fun c1 => ?_) (fun c1 => ?_)
    · skip
      have k0 : k ≠ 0 := fun e => c1 (by rw [e]; rfl)
      have hl := lv_ab k hk k0
      obtain ⟨j', rfl⟩ : ∃ j', j = j' + 1 := ⟨j - 1, by omega⟩
      have ih := ih j' rfl
      refine r_iload_n (pc := 32) dX12_tellsIn_32 rfl ?_
      refine r_iconst (pc := 33) (v := 4) dX12_tellsIn_33 (by decide) ?_
      refine r_icmp_ne (pc := 34) 62 dX12_tellsIn_34 (by decide) (fun c34 => ?_) (fun c34 => ?_)
      · skip
        have k4 : k ≠ 4 := fun e => c34 (by rw [e]; rfl)
        refine r_iload_n (pc := 62) dX12_tellsIn_62 rfl ?_
        refine r_bipush (pc := 63) (v := 6) dX12_tellsIn_63 (by decide) ?_
        refine r_icmp_ne (pc := 65) 93 dX12_tellsIn_65 (by decide) (fun c65 => ?_) (fun c65 => ?_)
        · skip
          have k6 : k ≠ 6 := fun e => c65 (by rw [e]; rfl)
          obtain ⟨a1, a2⟩ := ab_is k hk k0
          rw [tl_ab k hk k0 k4 k6]
          refine r_aload_n (pc := 93) dX12_tellsIn_93 rfl ?_
          refine r_iload_n (pc := 94) dX12_tellsIn_94 rfl ?_
          refine r_Sp (pc := 95) (μ' := mX12_above) dX12_tellsIn_95 nX12_118 sX12_above kX12_above rfl rfl (rr (by omega) rfl) rfl ⟨Nat.zero_le _, Nat.zero_le _⟩ (fun h => ct_M_above hk h) ?_
          rw [a1]
          refine r_iload_n (pc := 98) dX12_tellsIn_98 rfl ?_
          refine r_Vi (pc := 99) (μ' := mX12_tellsIn) dX12_tellsIn_99 nX12_269 iX12_tellsIn vX12_tellsIn kX12_tellsIn rfl rfl (rr (by omega) rfl) rfl ⟨Nat.zero_le _, Nat.zero_le _⟩ (fun _ q_ => cvq q_ (ih _ a2 (by omega) x _ _ _ v)) ?_
          refine r_ireturn (pc := 102) (ty := .int) dX12_tellsIn_102 rfl rfl ⟨Nat.zero_le _, Nat.zero_le _⟩ (fun gE hg => ?_)
          exact ⟨rfl, hg⟩
        · skip
          obtain rfl : k = 6 := k_of hk (by decide) c65
          refine r_aload_n (pc := 68) dX12_tellsIn_68 rfl ?_
          refine r_bipush (pc := 69) (v := 70) dX12_tellsIn_69 (by decide) ?_
          refine r_Vv (pc := 71) (μ' := mX12_ran) dX12_tellsIn_71 nX12_247 iX12_ran vX12_ran kX12_ran rfl rfl (rr (by omega) rfl) rfl ⟨Nat.zero_le _, Nat.zero_le _⟩ (fun _ q_ => cvq q_ (ct_M_ran hm v.1.1 v.1.2.1)) ?_
          refine aw_P (P' := fun g => ∃ s2 A2, VT (addL 40 _ _) s A s2 A2 ∧ MP m h s2 A2 g) (fun g q => ⟨_, _, v.ran _, q⟩) ?_
          refine aw_ex fun s2 => aw_ex fun A2 => aw_pr fun v2 => ?_
          refine r_aload_n (pc := 74) dX12_tellsIn_74 rfl ?_
          refine r_iconst (pc := 75) (v := 3) dX12_tellsIn_75 (by decide) ?_
          refine r_iload_n (pc := 76) dX12_tellsIn_76 rfl ?_
          rw [show (3 : Int32) = nI 3 from rfl]
          refine r_Vi (pc := 77) (μ' := mX12_tellsIn) dX12_tellsIn_77 nX12_269 iX12_tellsIn vX12_tellsIn kX12_tellsIn rfl rfl (rr (by omega) rfl) rfl ⟨Nat.zero_le _, Nat.zero_le _⟩ (fun _ q_ => cvq q_ (ih 3 (by decide) (by have : lvN 6 = 2 := rfl; have : lvN 3 = 1 := rfl; omega) x _ _ _ v2)) ?_
          refine aw_ex fun s3 => aw_ex fun A3 => aw_pr fun v3 => ?_
          refine r_istore_n (pc := 80) dX12_tellsIn_80 rfl (Nat.le_of_ble_eq_true rfl) rfl ?_
          dsimp only [lset]
          refine r_iload_n (pc := 81) dX12_tellsIn_81 rfl ?_
          refine r_aload_n (pc := 82) dX12_tellsIn_82 rfl ?_
          refine r_aload_n (pc := 83) dX12_tellsIn_83 rfl ?_
          refine r_getf (pc := 84) (k := 27) dX12_tellsIn_84 hX12 eX12 (by decide) fX12_263 (fun _ q => mo hm q) rfl ?_
          refine r_iconst (pc := 87) (v := 2) dX12_tellsIn_87 (by decide) ?_
          rw [v3.2.1 27 (by decide), h27]
          refine r_Vi (pc := 88) (μ' := mX12_loadsIn) dX12_tellsIn_88 nX12_254 iX12_loadsIn vX12_loadsIn kX12_loadsIn rfl rfl (rr (by omega) rfl) rfl ⟨Nat.zero_le _, Nat.zero_le _⟩ (fun _ q_ => cvq q_ (ct_M_loadsIn hm 2 kd hkd hlk 2 _ _ _ v3)) ?_
          refine aw_ex fun s4 => aw_ex fun A4 => aw_pr fun v4 => ?_
          refine r_isub (pc := 91) dX12_tellsIn_91 ?_
          refine r_ireturn (pc := 92) (ty := .int) dX12_tellsIn_92 rfl rfl ⟨Nat.zero_le _, Nat.zero_le _⟩ (fun gE hg => ?_)
          exact ⟨rfl, _, _, v4, hg⟩
      · skip
        obtain rfl : k = 4 := k_of hk (by decide) c34
        refine r_aload_n (pc := 37) dX12_tellsIn_37 rfl ?_
        refine r_bipush (pc := 38) (v := 51) dX12_tellsIn_38 (by decide) ?_
        refine r_Vv (pc := 40) (μ' := mX12_ran) dX12_tellsIn_40 nX12_247 iX12_ran vX12_ran kX12_ran rfl rfl (rr (by omega) rfl) rfl ⟨Nat.zero_le _, Nat.zero_le _⟩ (fun _ q_ => cvq q_ (ct_M_ran hm v.1.1 v.1.2.1)) ?_
        refine aw_P (P' := fun g => ∃ s2 A2, VT (addL 40 _ _) s A s2 A2 ∧ MP m h s2 A2 g) (fun g q => ⟨_, _, v.ran _, q⟩) ?_
        refine aw_ex fun s2 => aw_ex fun A2 => aw_pr fun v2 => ?_
        refine r_aload_n (pc := 43) dX12_tellsIn_43 rfl ?_
        refine r_aload_n (pc := 44) dX12_tellsIn_44 rfl ?_
        refine r_getf (pc := 45) (k := 27) dX12_tellsIn_45 hX12 eX12 (by decide) fX12_263 (fun _ q => mo hm q) rfl ?_
        refine r_iload_n (pc := 48) dX12_tellsIn_48 rfl ?_
        rw [v2.2.1 27 (by decide), h27]
        refine r_Vi (pc := 49) (μ' := mX12_rollsIn) dX12_tellsIn_49 nX12_266 iX12_rollsIn vX12_rollsIn kX12_rollsIn rfl rfl (rr (by omega) rfl) rfl ⟨Nat.zero_le _, Nat.zero_le _⟩ (fun _ q_ => cvq q_ (ct_M_rollsIn hm h27 hkd 2 kd hkd hlk x _ _ _ v2)) ?_
        refine aw_ex fun s3 => aw_ex fun A3 => aw_pr fun v3 => ?_
        refine r_istore_n (pc := 52) dX12_tellsIn_52 rfl (Nat.le_of_ble_eq_true rfl) rfl ?_
        dsimp only [lset]
        refine r_iload_n (pc := 53) dX12_tellsIn_53 rfl ?_
        refine r_aload_n (pc := 54) dX12_tellsIn_54 rfl ?_
        refine r_iconst (pc := 55) (v := 1) dX12_tellsIn_55 (by decide) ?_
        refine r_iload_n (pc := 56) dX12_tellsIn_56 rfl ?_
        rw [show (1 : Int32) = nI 1 from rfl]
        refine r_Vi (pc := 57) (μ' := mX12_tellsIn) dX12_tellsIn_57 nX12_269 iX12_tellsIn vX12_tellsIn kX12_tellsIn rfl rfl (rr (by omega) rfl) rfl ⟨Nat.zero_le _, Nat.zero_le _⟩ (fun _ q_ => cvq q_ (ih 1 (by decide) (by have : lvN 4 = 2 := rfl; have : lvN 1 = 1 := rfl; omega) x _ _ _ v3)) ?_
        refine aw_ex fun s4 => aw_ex fun A4 => aw_pr fun v4 => ?_
        refine r_isub (pc := 60) dX12_tellsIn_60 ?_
        refine r_ireturn (pc := 61) (ty := .int) dX12_tellsIn_61 rfl rfl ⟨Nat.zero_le _, Nat.zero_le _⟩ (fun gE hg => ?_)
        exact ⟨rfl, _, _, v4, hg⟩
    · skip
      obtain rfl : k = 0 := k_of hk (by decide) c1
      refine r_aload_n (pc := 4) dX12_tellsIn_4 rfl ?_
      refine r_bipush (pc := 5) (v := 13) dX12_tellsIn_5 (by decide) ?_
      refine r_Vv (pc := 7) (μ' := mX12_ran) dX12_tellsIn_7 nX12_247 iX12_ran vX12_ran kX12_ran rfl rfl (rr (by omega) rfl) rfl ⟨Nat.zero_le _, Nat.zero_le _⟩ (fun _ q_ => cvq q_ (ct_M_ran hm v.1.1 v.1.2.1)) ?_
      refine aw_P (P' := fun g => ∃ s2 A2, VT (addL 40 _ _) s A s2 A2 ∧ MP m h s2 A2 g) (fun g q => ⟨_, _, v.ran _, q⟩) ?_
      refine aw_ex fun s2 => aw_ex fun A2 => aw_pr fun v2 => ?_
      refine r_aload_n (pc := 10) dX12_tellsIn_10 rfl ?_
      refine r_aload_n (pc := 11) dX12_tellsIn_11 rfl ?_
      refine r_getf (pc := 12) (k := 27) dX12_tellsIn_12 hX12 eX12 (by decide) fX12_263 (fun _ q => mo hm q) rfl ?_
      refine r_iload_n (pc := 15) dX12_tellsIn_15 rfl ?_
      rw [v2.2.1 27 (by decide), h27]
      refine r_Vi (pc := 16) (μ' := mX12_rollsIn) dX12_tellsIn_16 nX12_266 iX12_rollsIn vX12_rollsIn kX12_rollsIn rfl rfl (rr (by omega) rfl) rfl ⟨Nat.zero_le _, Nat.zero_le _⟩ (fun _ q_ => cvq q_ (ct_M_rollsIn hm h27 hkd 2 kd hkd hlk x _ _ _ v2)) ?_
      refine aw_ex fun s3 => aw_ex fun A3 => aw_pr fun v3 => ?_
      refine r_istore_n (pc := 19) dX12_tellsIn_19 rfl (Nat.le_of_ble_eq_true rfl) rfl ?_
      dsimp only [lset]
      refine r_iload_n (pc := 20) dX12_tellsIn_20 rfl ?_
      refine r_aload_n (pc := 21) dX12_tellsIn_21 rfl ?_
      refine r_aload_n (pc := 22) dX12_tellsIn_22 rfl ?_
      refine r_getf (pc := 23) (k := 27) dX12_tellsIn_23 hX12 eX12 (by decide) fX12_263 (fun _ q => mo hm q) rfl ?_
      refine r_iload_n (pc := 26) dX12_tellsIn_26 rfl ?_
      rw [v3.2.1 27 (by decide), h27]
      refine r_Vi (pc := 27) (μ' := mX12_driesIn) dX12_tellsIn_27 nX12_260 iX12_driesIn vX12_driesIn kX12_driesIn rfl rfl (rr (by omega) rfl) rfl ⟨Nat.zero_le _, Nat.zero_le _⟩ (fun _ q_ => cvq q_ (ct_M_driesIn hm 2 kd hkd hlk x _ _ _ v3)) ?_
      refine aw_ex fun s4 => aw_ex fun A4 => aw_pr fun v4 => ?_
      refine r_ixor (pc := 30) dX12_tellsIn_30 ?_
      refine r_ireturn (pc := 31) (ty := .int) dX12_tellsIn_31 rfl rfl ⟨Nat.zero_le _, Nat.zero_le _⟩ (fun gE hg => ?_)
      exact ⟨rfl, _, _, v4, hg⟩
  intro j
  induction j with
  | zero => exact St 0 (fun j' e => absurd e (by omega))
  | succ j ih => exact St _ (fun j' e => by cases e; exact ih)
theorem wi3 {b : Int32} (h : wiB b 0 3 = true) (h0 : ¬ b = 0) (h1 : ¬ b = 1) (h2 : ¬ b = 2) : b = 3 := by
  obtain ⟨n, hn, hn2⟩ := wi_nat h (by decide)
  rw [show (3 : Int32).toInt = 3 from rfl] at hn2
  have : n = 0 ∨ n = 1 ∨ n = 2 ∨ n = 3 := by omega
  rcases this with rfl | rfl | rfl | rfl
  · exact absurd hn h0
  · exact absurd hn h1
  · exact absurd hn h2
  · exact hn
theorem MG.tra {hd2 : List Int32} (q : MG K hs tD tL tp wa z k bt sh hd er im s A) (v : s2 26 = nI hd2.length ∧ hd2.length ≤ 40 ∧ ∀ i, i < hd2.length → A2 13 i = hd2.getD i 0) (h1 : ∀ k, k < 10 → s2 k = s k) (h2 : ∀ i, i ≠ 13 → A2 i = A i) : MG K hs tD tL tp wa z k bt sh hd2 er im s2 A2 := by
  obtain ⟨q1, q2, q3, q4, q5, -⟩ := q
  unfold MG
  rw [h1 4 (by decide), h1 5 (by decide), h1 9 (by decide), h2 0 (by decide), h2 1 (by decide), h2 4 (by decide), h2 7 (by decide), h2 8 (by decide), h2 9 (by decide)]
  exact ⟨q1, q2, q3, q4, q5, v⟩
set_option maxHeartbeats 4000000 in
theorem cm_voice (hm : m + 14 < h.1) {a b c : Int32} (q : MG K hs tD tL tp wa z k bt sh hd er im s A) (hok : HOk hs) (e1 : (hdB hs a && wiB b 0 3) = false → ∀ s2 A2, MG K hs tD tL tp wa z k bt sh hd (errL er 1) im s2 A2 → Q (some (.int (-1000000000 - 1))) (mh m h s2 A2)) (hP : ∀ i, a = nI i → i < hs.length → wiB b 0 3 = true → ∀ s2 A2, MG K hs tD tL tp wa z k bt sh (voiV a (nI (hKd hs i)) (nI (hMn hs i)) 41 (nI (hKd hs i)) b c []).2 er im s2 A2 → Q (some (.int (voiV a (nI (hKd hs i)) (nI (hMn hs i)) 41 (nI (hKd hs i)) b c []).1)) (mh m h s2 A2)) : CV 50 0 0 mX12_voice m [.int a, .int b, .int c] (mh m h s A) Q := by
  refine ⟨mV hm, ?_⟩
  refine ct_of (by decide) (fun _ _ => Nat.le_of_ble_eq_true rfl) ?_
  dsimp only [pad, ent]
  have lk : ∀ kd, kd < 7 → lvN kd ≤ 2 := fun kd _ => by unfold lvN; split <;> (try split) <;> omega
  refine aw_P (P' := MP m h s A) (fun _ q => q) ?_
  refine r_aload_n (pc := 0) dX12_voice_0 rfl ?_
  refine r_iload_n (pc := 1) dX12_voice_1 rfl ?_
  refine r_Vi (pc := 2) (μ' := mX12_isHand) dX12_voice_2 nX12_98 iX12_isHand vX12_isHand kX12_isHand rfl rfl (rr (by omega) rfl) rfl ⟨Nat.zero_le _, Nat.zero_le _⟩ (fun _ q_ => cvq q_ (ct_M_isHand hm)) ?_
  rw [q.hb]
  refine r_if_eq (pc := 5) 17 dX12_voice_5 (by decide) (fun c5 => ?_) (fun c5 => ?_)
  · skip
    have k1 := b2i_0.mp c5
    refine r_aload_n (pc := 17) dX12_voice_17 rfl ?_
    refine r_ldc (pc := 18) (v := (-1000000001)) dX12_voice_18 qX12_61 ?_
    refine r_Vi (pc := 20) (μ' := mX12_errs) dX12_voice_20 nX12_62 iX12_errs vX12_errs kX12_errs rfl rfl (rr (by omega) rfl) rfl ⟨Nat.zero_le _, Nat.zero_le _⟩ (fun _ q_ => cvq q_ (ct_M_errs hm 1 (by decide) (by decide))) ?_
    rw [show (-1000000001 : Int32) = -1000000000 - 1 from rfl]
    refine r_ireturn (pc := 23) (ty := .int) dX12_voice_23 rfl rfl ⟨Nat.zero_le _, Nat.zero_le _⟩ (fun gE hg => ?_)
    exact mR hg (e1 (by first | (rw [k1]; rfl) | (rw [k1]; exact k2)) _ _ (q.err (by decide) rfl))
  · skip
    have k1 := b2i_n0.mp c5
    refine r_iload_n (pc := 8) dX12_voice_8 rfl ?_
    refine r_iconst (pc := 9) (v := 0) dX12_voice_9 (by decide) ?_
    refine r_iconst (pc := 10) (v := 3) dX12_voice_10 (by decide) ?_
    refine r_Sp (pc := 11) (μ' := mX12_in) dX12_voice_11 nX12_57 sX12_in kX12_in rfl rfl (rr (by omega) rfl) rfl ⟨Nat.zero_le _, Nat.zero_le _⟩ (fun h => ct_M_in h) ?_
    refine r_if_ne (pc := 14) 24 dX12_voice_14 (by decide) (fun c14 => ?_) (fun c14 => ?_)
    · skip
      have k2 := b2i_n0.mp c14
      obtain ⟨i, hi, hi2⟩ := hd_t k1 hok
      have h7 := hP i hi hi2 k2
      have hh := hok.at hi2
      have h6 := hok.1
      obtain ⟨r1, r2⟩ := q.rr.2.1.1.2 i hi2
      refine r_aload_n (pc := 24) dX12_voice_24 rfl ?_
      refine r_iconst (pc := 25) (v := 0) dX12_voice_25 (by decide) ?_
      refine r_mp (pc := 26) (k := 26) hm dX12_voice_26 fX12_244 (by decide) rfl rfl (fun _ _ => rfl) (fun _ _ => rfl) rfl ?_
      refine r_aload_n (pc := 29) dX12_voice_29 rfl ?_
      refine r_aload_n (pc := 30) dX12_voice_30 rfl ?_
      refine r_iload_n (pc := 31) dX12_voice_31 rfl ?_
      rw [hi]
      refine r_Vi (pc := 32) (μ' := mX12_kindOf) dX12_voice_32 nX12_101 iX12_kindOf vX12_kindOf kX12_kindOf rfl rfl (rr (by omega) rfl) rfl ⟨Nat.zero_le _, Nat.zero_le _⟩ (fun _ q_ => cvq q_ (ct_M_kindOf hm (show i < 6 by omega))) ?_
      rw [r1]
      refine r_mp (pc := 35) (k := 27) hm dX12_voice_35 fX12_263 (by decide) rfl rfl (fun _ _ => rfl) (fun _ _ => rfl) rfl ?_
      refine r_aload_n (pc := 38) dX12_voice_38 rfl ?_
      refine r_iload_n (pc := 39) dX12_voice_39 rfl ?_
      refine r_mp (pc := 40) (k := 28) hm dX12_voice_40 fX12_251 (by decide) rfl rfl (fun _ _ => rfl) (fun _ _ => rfl) rfl ?_
      refine r_aload_n (pc := 43) dX12_voice_43 rfl ?_
      refine r_aload_n (pc := 44) dX12_voice_44 rfl ?_
      refine r_iload_n (pc := 45) dX12_voice_45 rfl ?_
      refine r_Vi (pc := 46) (μ' := mX12_mOf) dX12_voice_46 nX12_104 iX12_mOf vX12_mOf kX12_mOf rfl rfl (rr (by omega) rfl) rfl ⟨Nat.zero_le _, Nat.zero_le _⟩ (fun _ q_ => cvq q_ (ct_M_mOf hm (show i < 6 by omega))) ?_
      rw [r2]
      refine r_mp (pc := 49) (k := 29) hm dX12_voice_49 fX12_257 (by decide) rfl rfl (fun _ _ => rfl) (fun _ _ => rfl) rfl ?_
      have v0 : VT [] (upd (upd (upd (upd s 26 0) 27 (nI (hKd hs i))) 28 (nI i)) 29 (nI (hMn hs i))) A (upd (upd (upd (upd s 26 0) 27 (nI (hKd hs i))) 28 (nI i)) 29 (nI (hMn hs i))) A := ⟨⟨rfl, Nat.zero_le _, fun i hi => absurd hi (Nat.not_lt_zero i)⟩, fun _ _ => rfl, fun _ _ => rfl⟩
      have fin : ∀ hd2 s2 A2, VT hd2 (upd (upd (upd (upd s 26 0) 27 (nI (hKd hs i))) 28 (nI i)) 29 (nI (hMn hs i))) A s2 A2 → MG K hs tD tL tp wa z k bt sh hd2 er im s2 A2 := fun hd2 s2 A2 v => q.tra v.1 (fun k hk => by rw [v.2.1 k (by omega), upd_n (by omega), upd_n (by omega), upd_n (by omega), upd_n (by omega)]) v.2.2
      rw [hi] at h7
      refine r_iload_n (pc := 52) dX12_voice_52 rfl ?_
      by_cases s53_0 : b = 0
      · skip
        refine r_tableAt (pc := 53) 80 0 dX12_voice_53 (by rw [s53_0]; decide) (by decide) rfl (by decide) ?_
        subst s53_0
        rw [vo_l hh.1] at h7
        refine r_aload_n (pc := 80) dX12_voice_80 rfl ?_
        refine r_aload_n (pc := 81) dX12_voice_81 rfl ?_
        refine r_getf (pc := 82) (k := 27) dX12_voice_82 hX12 eX12 (by decide) fX12_263 (fun _ q => mo hm q) rfl ?_
        refine r_iload_n (pc := 85) dX12_voice_85 rfl ?_
        refine r_Vi (pc := 86) (μ' := mX12_loadsIn) dX12_voice_86 nX12_254 iX12_loadsIn vX12_loadsIn kX12_loadsIn rfl rfl (rr (by omega) rfl) rfl ⟨Nat.zero_le _, Nat.zero_le _⟩ (fun _ q_ => cvq q_ (ct_M_loadsIn hm 2 (hKd hs i) hh.1 (lk _ hh.1) c _ _ _ v0)) ?_
        refine aw_ex fun s2 => aw_ex fun A2 => aw_pr fun v => ?_
        refine r_ireturn (pc := 89) (ty := .int) dX12_voice_89 rfl rfl ⟨Nat.zero_le _, Nat.zero_le _⟩ (fun gE hg => ?_)
        exact mR hg (h7 _ _ (fin _ _ _ v))
      by_cases s53_1 : b = 1
      · skip
        refine r_tableAt (pc := 53) 90 1 dX12_voice_53 (by rw [s53_1]; decide) (by decide) rfl (by decide) ?_
        subst s53_1
        rw [vo_r hh.1 hh.1] at h7
        refine r_aload_n (pc := 90) dX12_voice_90 rfl ?_
        refine r_aload_n (pc := 91) dX12_voice_91 rfl ?_
        refine r_getf (pc := 92) (k := 27) dX12_voice_92 hX12 eX12 (by decide) fX12_263 (fun _ q => mo hm q) rfl ?_
        refine r_iload_n (pc := 95) dX12_voice_95 rfl ?_
        refine r_Vi (pc := 96) (μ' := mX12_rollsIn) dX12_voice_96 nX12_266 iX12_rollsIn vX12_rollsIn kX12_rollsIn rfl rfl (rr (by omega) rfl) rfl ⟨Nat.zero_le _, Nat.zero_le _⟩ (fun _ q_ => cvq q_ (ct_M_rollsIn (kd := hKd hs i) hm rfl hh.1 2 (hKd hs i) hh.1 (lk _ hh.1) c _ _ _ v0)) ?_
        refine aw_ex fun s2 => aw_ex fun A2 => aw_pr fun v => ?_
        refine r_ireturn (pc := 99) (ty := .int) dX12_voice_99 rfl rfl ⟨Nat.zero_le _, Nat.zero_le _⟩ (fun gE hg => ?_)
        exact mR hg (h7 _ _ (fin _ _ _ v))
      by_cases s53_2 : b = 2
      · skip
        refine r_tableAt (pc := 53) 100 2 dX12_voice_53 (by rw [s53_2]; decide) (by decide) rfl (by decide) ?_
        subst s53_2
        rw [vo_d hh.1] at h7
        refine r_aload_n (pc := 100) dX12_voice_100 rfl ?_
        refine r_aload_n (pc := 101) dX12_voice_101 rfl ?_
        refine r_getf (pc := 102) (k := 27) dX12_voice_102 hX12 eX12 (by decide) fX12_263 (fun _ q => mo hm q) rfl ?_
        refine r_iload_n (pc := 105) dX12_voice_105 rfl ?_
        refine r_Vi (pc := 106) (μ' := mX12_driesIn) dX12_voice_106 nX12_260 iX12_driesIn vX12_driesIn kX12_driesIn rfl rfl (rr (by omega) rfl) rfl ⟨Nat.zero_le _, Nat.zero_le _⟩ (fun _ q_ => cvq q_ (ct_M_driesIn hm 2 (hKd hs i) hh.1 (lk _ hh.1) c _ _ _ v0)) ?_
        refine aw_ex fun s2 => aw_ex fun A2 => aw_pr fun v => ?_
        refine r_ireturn (pc := 109) (ty := .int) dX12_voice_109 rfl rfl ⟨Nat.zero_le _, Nat.zero_le _⟩ (fun gE hg => ?_)
        exact mR hg (h7 _ _ (fin _ _ _ v))
      have t53_0 : ¬ (b).toInt = 0 := fun q => s53_0 (Int32.toInt_inj.mp q)
      have t53_1 : ¬ (b).toInt = 1 := fun q => s53_1 (Int32.toInt_inj.mp q)
      have t53_2 : ¬ (b).toInt = 2 := fun q => s53_2 (Int32.toInt_inj.mp q)
      refine r_tableOut (pc := 53) 110 dX12_voice_53 (by omega) (by decide) ?_
      obtain rfl : b = 3 := wi3 k2 s53_0 s53_1 s53_2
      rw [vo_t hh.1 hh.1] at h7
      refine r_aload_n (pc := 110) dX12_voice_110 rfl ?_
      refine r_aload_n (pc := 111) dX12_voice_111 rfl ?_
      refine r_getf (pc := 112) (k := 27) dX12_voice_112 hX12 eX12 (by decide) fX12_263 (fun _ q => mo hm q) rfl ?_
      refine r_iload_n (pc := 115) dX12_voice_115 rfl ?_
      refine r_Vi (pc := 116) (μ' := mX12_tellsIn) dX12_voice_116 nX12_269 iX12_tellsIn vX12_tellsIn kX12_tellsIn rfl rfl (rr (by omega) rfl) rfl ⟨Nat.zero_le _, Nat.zero_le _⟩ (fun _ q_ => cvq q_ (ct_M_tellsIn (kd := hKd hs i) hm rfl hh.1 2 (hKd hs i) hh.1 (lk _ hh.1) c _ _ _ v0)) ?_
      refine aw_ex fun s2 => aw_ex fun A2 => aw_pr fun v => ?_
      refine r_ireturn (pc := 119) (ty := .int) dX12_voice_119 rfl rfl ⟨Nat.zero_le _, Nat.zero_le _⟩ (fun gE hg => ?_)
      exact mR hg (h7 _ _ (fin _ _ _ v))
    · skip
      have k2 := b2i_0.mp c14
      refine r_aload_n (pc := 17) dX12_voice_17 rfl ?_
      refine r_ldc (pc := 18) (v := (-1000000001)) dX12_voice_18 qX12_61 ?_
      refine r_Vi (pc := 20) (μ' := mX12_errs) dX12_voice_20 nX12_62 iX12_errs vX12_errs kX12_errs rfl rfl (rr (by omega) rfl) rfl ⟨Nat.zero_le _, Nat.zero_le _⟩ (fun _ q_ => cvq q_ (ct_M_errs hm 1 (by decide) (by decide))) ?_
      rw [show (-1000000001 : Int32) = -1000000000 - 1 from rfl]
      refine r_ireturn (pc := 23) (ty := .int) dX12_voice_23 rfl rfl ⟨Nat.zero_le _, Nat.zero_le _⟩ (fun gE hg => ?_)
      exact mR hg (e1 (by first | (rw [k1]; rfl) | (rw [k1]; exact k2)) _ _ (q.err (by decide) rfl))
end Mvoice
