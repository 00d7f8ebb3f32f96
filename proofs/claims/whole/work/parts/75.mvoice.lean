/-! THE REFERENCE, whole: voices -/
def abN : Nat → Nat
  | 4 => 1
  | 5 => 2
  | 6 => 3
  | _ => 0
theorem ab_is : ∀ k, k < 7 → k ≠ 0 → aboveI (nI k) = nI (abN k) ∧ abN k < 7 := by decide +kernel
def lvN (k : Nat) : Nat := if k = 0 then 0 else if k < 4 then 1 else 2
theorem lv_ab : ∀ k, k < 7 → k ≠ 0 → lvN (abN k) + 1 ≤ lvN k := by decide
theorem k_of {k c : Nat} (hk : k < 7) (hc : c < 7) (e : nI k = nI c) : k = c := (nI_eq (by omega) (by omega)).mp e
def ldV (num : Int32) (k : Nat) (x : Int32) (hd : List Int32) : Int32 × List Int32 := if k = 3 ∨ k = 6 then ((x + num) * 3, addL 40 (addL 40 hd 40) 10) else (x + num, addL 40 hd 10)
def drV (num mm : Int32) (k : Nat) (x : Int32) (hd : List Int32) : Int32 × List Int32 := if k = 1 then (-(x - mm), addL 40 (addL 40 hd 20) 12) else if k = 4 then (-(x - mm) ^^^ num, addL 40 (addL 40 (addL 40 hd 50) 20) 12) else (x - mm, addL 40 hd 12)
def rl0 (num : Int32) (kd : Nat) (x : Int32) (hd : List Int32) : Int32 × List Int32 := ((ldV num kd x (addL 40 hd 11)).1 * 2, (ldV num kd x (addL 40 hd 11)).2)
def rl2 (num mm : Int32) (kd : Nat) (x : Int32) (hd : List Int32) : Int32 × List Int32 := ((rl0 num kd x (addL 40 hd 30)).1 - (drV num mm kd 1 (rl0 num kd x (addL 40 hd 30)).2).1, (drV num mm kd 1 (rl0 num kd x (addL 40 hd 30)).2).2)
def rlV (num mm : Int32) (kd k : Nat) (x : Int32) (hd : List Int32) : Int32 × List Int32 := if k = 2 then rl2 num mm kd x hd else if k = 5 then rl2 num mm kd (x + 1) (addL 40 hd 60) else rl0 num kd x hd
def tl0 (num mm : Int32) (kd : Nat) (x : Int32) (hd : List Int32) : Int32 × List Int32 := ((rlV num mm kd kd x (addL 40 hd 13)).1 ^^^ (drV num mm kd x (rlV num mm kd kd x (addL 40 hd 13)).2).1, (drV num mm kd x (rlV num mm kd kd x (addL 40 hd 13)).2).2)
def tlV (num mm : Int32) (kd k : Nat) (x : Int32) (hd : List Int32) : Int32 × List Int32 := if k = 4 then ((rlV num mm kd kd x (addL 40 hd 51)).1 - (tl0 num mm kd x (rlV num mm kd kd x (addL 40 hd 51)).2).1, (tl0 num mm kd x (rlV num mm kd kd x (addL 40 hd 51)).2).2) else if k = 6 then ((tl0 num mm kd x (addL 40 hd 70)).1 - (ldV num kd 2 (tl0 num mm kd x (addL 40 hd 70)).2).1, (ldV num kd 2 (tl0 num mm kd x (addL 40 hd 70)).2).2) else tl0 num mm kd x hd
section Vq
variable {num mm K0 : Int32} {kd k n : Nat} {x : Int32} {hd : List Int32}
theorem voi_s {s act own body ab : Int32} (h1 : ownerI 7 s act = own) (h2 : bodyI own act = body) (h3 : aboveI own = ab) : voiV num K0 mm (n + 1) s act x hd = sayG (voiV num K0 mm n) num K0 mm body ab x (addL 40 hd body) := by
  subst h3; subst h2; subst h1; rfl
theorem own0 : ∀ k, k < 7 → ownerI 7 (nI k) 0 = (if k = 3 ∨ k = 6 then 3 else 0) := by decide +kernel
theorem own1 : ∀ k, k < 7 → ownerI 7 (nI k) 1 = (if k = 2 then 2 else if k = 5 then 5 else 0) := by decide +kernel
theorem own2 : ∀ k, k < 7 → ownerI 7 (nI k) 2 = (if k = 1 then 1 else if k = 4 then 4 else 0) := by decide +kernel
theorem own3 : ∀ k, k < 7 → ownerI 7 (nI k) 3 = (if k = 4 then 4 else if k = 6 then 6 else 0) := by decide +kernel
theorem vo_l0 (hk : k < 7) (c : ¬ (k = 3 ∨ k = 6)) : voiV num K0 mm (n + 1) (nI k) 0 x hd = (x + num, addL 40 hd 10) :=
  (voi_s (own := 0) (body := 10) (ab := -1) ((own0 k hk).trans (if_neg c)) (by decide) (by decide)).trans sayG_10
theorem vo_l (hk : k < 7) : voiV num K0 mm (n + 2) (nI k) 0 x hd = ldV num k x hd := by
  unfold ldV
  by_cases c : k = 3 ∨ k = 6
  · rw [if_pos c, voi_s (own := 3) (body := 40) (ab := nI 0) ((own0 k hk).trans (if_pos c)) (by decide) (by decide), sayG_40, vo_l0 (by decide) (by decide)]
  · rw [if_neg c]; exact vo_l0 hk c
theorem vo_d0 (hk : k < 7) (c : k ≠ 1) (c2 : k ≠ 4) : voiV num K0 mm (n + 1) (nI k) 2 x hd = (x - mm, addL 40 hd 12) :=
  (voi_s (own := 0) (body := 12) (ab := -1) ((own2 k hk).trans (by rw [if_neg c, if_neg c2])) (by decide) (by decide)).trans sayG_12
theorem vo_d1 : voiV num K0 mm (n + 2) (nI 1) 2 x hd = (-(x - mm), addL 40 (addL 40 hd 20) 12) := by
  rw [voi_s (own := 1) (body := 20) (ab := nI 0) (by decide) (by decide) (by decide), sayG_20, vo_d0 (by decide) (by decide) (by decide)]
theorem vo_d (hk : k < 7) : voiV num K0 mm (n + 3) (nI k) 2 x hd = drV num mm k x hd := by
  unfold drV
  by_cases c : k = 1
  · rw [if_pos c, c]; exact vo_d1
  · rw [if_neg c]
    by_cases c2 : k = 4
    · rw [if_pos c2, voi_s (own := 4) (body := 50) (ab := nI 1) ((own2 k hk).trans (by rw [if_neg c, if_pos c2])) (by decide) (by decide), sayG_50, vo_d1]
    · rw [if_neg c2]; exact vo_d0 hk c c2
theorem vo_r0 (hkd : kd < 7) (hk : k < 7) (c : k ≠ 2) (c2 : k ≠ 5) : voiV num (nI kd) mm (n + 3) (nI k) 1 x hd = rl0 num kd x hd := by
  rw [voi_s (own := 0) (body := 11) (ab := -1) ((own1 k hk).trans (by rw [if_neg c, if_neg c2])) (by decide) (by decide), sayG_11, vo_l hkd]
  rfl
theorem vo_r2 (hkd : kd < 7) : voiV num (nI kd) mm (n + 4) (nI 2) 1 x hd = rl2 num mm kd x hd := by
  rw [voi_s (own := 2) (body := 30) (ab := nI 0) (by decide) (by decide) (by decide), sayG_30, vo_r0 hkd (by decide) (by decide) (by decide), vo_d hkd]
  rfl
theorem vo_r (hkd : kd < 7) (hk : k < 7) : voiV num (nI kd) mm (n + 5) (nI k) 1 x hd = rlV num mm kd k x hd := by
  unfold rlV
  by_cases c : k = 2
  · rw [if_pos c, c]; exact vo_r2 hkd
  · rw [if_neg c]
    by_cases c2 : k = 5
    · rw [if_pos c2, voi_s (own := 5) (body := 60) (ab := nI 2) ((own1 k hk).trans (by rw [if_neg c, if_pos c2])) (by decide) (by decide), sayG_60, vo_r2 hkd]
    · rw [if_neg c2]; exact vo_r0 hkd hk c c2
theorem vo_t0 (hkd : kd < 7) (hk : k < 7) (c : k ≠ 4) (c2 : k ≠ 6) : voiV num (nI kd) mm (n + 6) (nI k) 3 x hd = tl0 num mm kd x hd := by
  rw [voi_s (own := 0) (body := 13) (ab := -1) ((own3 k hk).trans (by rw [if_neg c, if_neg c2])) (by decide) (by decide), sayG_13, vo_r hkd hkd, vo_d hkd]
  rfl
theorem vo_t (hkd : kd < 7) (hk : k < 7) : voiV num (nI kd) mm (n + 7) (nI k) 3 x hd = tlV num mm kd k x hd := by
  unfold tlV
  by_cases c : k = 4
  · rw [if_pos c, voi_s (own := 4) (body := 51) (ab := nI 1) ((own3 k hk).trans (by rw [if_pos c])) (by decide) (by decide), sayG_51, vo_r hkd hkd, vo_t0 hkd (by decide) (by decide) (by decide)]
  · rw [if_neg c]
    by_cases c2 : k = 6
    · rw [if_pos c2, voi_s (own := 6) (body := 70) (ab := nI 3) ((own3 k hk).trans (by rw [if_neg c, if_pos c2])) (by decide) (by decide), sayG_70, vo_t0 hkd (by decide) (by decide) (by decide), vo_l hkd]
    · rw [if_neg c2]; exact vo_t0 hkd hk c c2
theorem ld_ab : ∀ k, k < 7 → k ≠ 0 → k ≠ 3 → ldV num k x hd = ldV num (abN k) x hd := by
  intro k h1 h2 h3
  have : k = 1 ∨ k = 2 ∨ k = 4 ∨ k = 5 ∨ k = 6 := by omega
  rcases this with rfl | rfl | rfl | rfl | rfl <;> rfl
theorem dr_ab : ∀ k, k < 7 → k ≠ 0 → k ≠ 1 → k ≠ 4 → drV num mm k x hd = drV num mm (abN k) x hd := by
  intro k h1 h2 h3 h4
  have : k = 2 ∨ k = 3 ∨ k = 5 ∨ k = 6 := by omega
  rcases this with rfl | rfl | rfl | rfl <;> rfl
theorem rl_ab : ∀ k, k < 7 → k ≠ 0 → k ≠ 2 → k ≠ 5 → rlV num mm kd k x hd = rlV num mm kd (abN k) x hd := by
  intro k h1 h2 h3 h4
  have : k = 1 ∨ k = 3 ∨ k = 4 ∨ k = 6 := by omega
  rcases this with rfl | rfl | rfl | rfl <;> rfl
theorem tl_ab : ∀ k, k < 7 → k ≠ 0 → k ≠ 4 → k ≠ 6 → tlV num mm kd k x hd = tlV num mm kd (abN k) x hd := by
  intro k h1 h2 h3 h4
  have : k = 1 ∨ k = 2 ∨ k = 3 ∨ k = 5 := by omega
  rcases this with rfl | rfl | rfl | rfl <;> rfl
end Vq
section Mvoice
variable {m : Nat} {h : AH} {K K2 : CK} {hs hs2 : List (Nat × Nat)} {tD tL tD2 tL2 : Option (List Int32)} {tp wa tp2 wa2 hd er lD lL : List Int32} {z im z2 : Int32} {k : MK} {bt : Nat → Int32} {sh : Nat → List Int32} {s s2 : Nat → Int32} {A A2 : Nat → Nat → Int32} {Q : Option Value → AH → Prop} {f : Nat → Int32} {kd : Nat}
/-- what has been heard so far -/
def VT (hd : List Int32) (s : Nat → Int32) (A : Nat → Nat → Int32) (s1 : Nat → Int32) (A1 : Nat → Nat → Int32) : Prop := (s1 26 = nI hd.length ∧ hd.length ≤ 40 ∧ ∀ i, i < hd.length → A1 13 i = hd.getD i 0) ∧ (∀ k, k ≠ 26 → s1 k = s k) ∧ ∀ i, i ≠ 13 → A1 i = A i
theorem VT.ran {s1 : Nat → Int32} {A1 : Nat → Nat → Int32} (v : VT hd s A s1 A1) (b : Int32) : VT (addL 40 hd b) s A (if hd.length < 40 then upd s1 26 (nI (hd.length + 1)) else s1) (if hd.length < 40 then upA A1 13 (upd (A1 13) hd.length b) else A1) := by
  obtain ⟨⟨v1, v2, v3⟩, v4, v5⟩ := v
  unfold addL
  by_cases c : hd.length < 40
  · rw [if_pos c, if_pos c, if_pos c]
    refine ⟨⟨by rw [upd_s, List.length_append]; rfl, by rw [List.length_append]; exact c, fun i hi => ?_⟩, fun k hk => (upd_n hk).trans (v4 k hk), fun i hi => (upA_n hi).trans (v5 i hi)⟩
    rw [List.length_append] at hi
    rw [upA_s, getD_app hi]
    by_cases e : i = hd.length
    · rw [if_pos e, e, upd_s]
    · rw [if_neg e, upd_n e]
      exact v3 i (by have : i < hd.length + 1 := hi; omega)
  · rw [if_neg c, if_neg c, if_neg c]
    exact ⟨⟨v1, v2, v3⟩, v4, v5⟩
set_option maxHeartbeats 4000000 in
theorem ct_M_loadsIn (hm : m + 14 < h.1) : ∀ j k, k < 7 → lvN k ≤ j → ∀ x hd s1 A1, VT hd s A s1 A1 → CV (3 + j) 0 0 mX12_loadsIn m [.int (nI k), .int x] (mh m h s1 A1) (fun v g => v = some (.int (ldV (s 28) k x hd).1) ∧ ∃ s2 A2, VT (ldV (s 28) k x hd).2 s A s2 A2 ∧ MP m h s2 A2 g) := by
  have St : ∀ j, (∀ j', j = j' + 1 → ∀ k, k < 7 → lvN k ≤ j' → ∀ x hd s1 A1, VT hd s A s1 A1 → CV (3 + j') 0 0 mX12_loadsIn m [.int (nI k), .int x] (mh m h s1 A1) (fun v g => v = some (.int (ldV (s 28) k x hd).1) ∧ ∃ s2 A2, VT (ldV (s 28) k x hd).2 s A s2 A2 ∧ MP m h s2 A2 g)) → ∀ k, k < 7 → lvN k ≤ j → ∀ x hd s1 A1, VT hd s A s1 A1 → CV (3 + j) 0 0 mX12_loadsIn m [.int (nI k), .int x] (mh m h s1 A1) (fun v g => v = some (.int (ldV (s 28) k x hd).1) ∧ ∃ s2 A2, VT (ldV (s 28) k x hd).2 s A s2 A2 ∧ MP m h s2 A2 g) := by
    intro j ih k hk hlv x hd s1 A1 v
    refine ⟨mV hm, ?_⟩
    refine ct_of (by decide) (fun _ _ => Nat.le_of_ble_eq_true rfl) ?_
    dsimp only [pad, ent]
    refine aw_P (P' := MP m h s1 A1) (fun _ q => q) ?_
    refine r_iload_n (pc := 0) dX12_loadsIn_0 rfl ?_
    refine r_if_ne (pc := 1) 17 dX12_loadsIn_1 (by decide) (fun c1 => ?_) (fun c1 => ?_)
    · skip
      have k0 : k ≠ 0 := fun e => c1 (by rw [e]; rfl)
      have hl := lv_ab k hk k0
      obtain ⟨j', rfl⟩ : ∃ j', j = j' + 1 := ⟨j - 1, by omega⟩
      have ih := ih j' rfl
      refine r_iload_n (pc := 17) dX12_loadsIn_17 rfl ?_
      refine r_iconst (pc := 18) (v := 3) dX12_loadsIn_18 (by decide) ?_
      refine r_icmp_ne (pc := 19) 37 dX12_loadsIn_19 (by decide) (fun c19 => ?_) (fun c19 => ?_)
      · skip
        have k3 : k ≠ 3 := fun e => c19 (by rw [e]; rfl)
        obtain ⟨a1, a2⟩ := ab_is k hk k0
        rw [ld_ab k hk k0 k3]
        refine r_aload_n (pc := 37) dX12_loadsIn_37 rfl ?_
        refine r_iload_n (pc := 38) dX12_loadsIn_38 rfl ?_
        refine r_Sp (pc := 39) (μ' := mX12_above) dX12_loadsIn_39 nX12_118 sX12_above kX12_above rfl rfl (rr (by omega) rfl) rfl ⟨Nat.zero_le _, Nat.zero_le _⟩ (fun h => ct_M_above hk h) ?_
        rw [a1]
        refine r_iload_n (pc := 42) dX12_loadsIn_42 rfl ?_
        refine r_Vi (pc := 43) (μ' := mX12_loadsIn) dX12_loadsIn_43 nX12_254 iX12_loadsIn vX12_loadsIn kX12_loadsIn rfl rfl (rr (by omega) rfl) rfl ⟨Nat.zero_le _, Nat.zero_le _⟩ (fun _ q_ => cvq q_ (ih _ a2 (by omega) x _ _ _ v)) ?_
        refine r_ireturn (pc := 46) (ty := .int) dX12_loadsIn_46 rfl rfl ⟨Nat.zero_le _, Nat.zero_le _⟩ (fun gE hg => ?_)
        exact ⟨rfl, hg⟩
      · skip
        obtain rfl : k = 3 := k_of hk (by decide) c19
        refine r_aload_n (pc := 22) dX12_loadsIn_22 rfl ?_
        refine r_bipush (pc := 23) (v := 40) dX12_loadsIn_23 (by decide) ?_
        refine r_Vv (pc := 25) (μ' := mX12_ran) dX12_loadsIn_25 nX12_247 iX12_ran vX12_ran kX12_ran rfl rfl (rr (by omega) rfl) rfl ⟨Nat.zero_le _, Nat.zero_le _⟩ (fun _ q_ => cvq q_ (ct_M_ran hm v.1.1 v.1.2.1)) ?_
        refine aw_P (P' := fun g => ∃ s2 A2, VT (addL 40 _ _) s A s2 A2 ∧ MP m h s2 A2 g) (fun g q => ⟨_, _, v.ran _, q⟩) ?_
        refine aw_ex fun s2 => aw_ex fun A2 => aw_pr fun v2 => ?_
        refine r_aload_n (pc := 28) dX12_loadsIn_28 rfl ?_
        refine r_iconst (pc := 29) (v := 0) dX12_loadsIn_29 (by decide) ?_
        refine r_iload_n (pc := 30) dX12_loadsIn_30 rfl ?_
        rw [show (0 : Int32) = nI 0 from rfl]
        refine r_Vi (pc := 31) (μ' := mX12_loadsIn) dX12_loadsIn_31 nX12_254 iX12_loadsIn vX12_loadsIn kX12_loadsIn rfl rfl (rr (by omega) rfl) rfl ⟨Nat.zero_le _, Nat.zero_le _⟩ (fun _ q_ => cvq q_ (ih 0 (by decide) (Nat.zero_le _) x _ _ _ v2)) ?_
        refine aw_ex fun s3 => aw_ex fun A3 => aw_pr fun v3 => ?_
        refine r_iconst (pc := 34) (v := 3) dX12_loadsIn_34 (by decide) ?_
        refine r_imul (pc := 35) dX12_loadsIn_35 ?_
        refine r_ireturn (pc := 36) (ty := .int) dX12_loadsIn_36 rfl rfl ⟨Nat.zero_le _, Nat.zero_le _⟩ (fun gE hg => ?_)
        exact ⟨rfl, _, _, v3, hg⟩
    · skip
      obtain rfl : k = 0 := k_of hk (by decide) c1
      refine r_aload_n (pc := 4) dX12_loadsIn_4 rfl ?_
      refine r_bipush (pc := 5) (v := 10) dX12_loadsIn_5 (by decide) ?_
      refine r_Vv (pc := 7) (μ' := mX12_ran) dX12_loadsIn_7 nX12_247 iX12_ran vX12_ran kX12_ran rfl rfl (rr (by omega) rfl) rfl ⟨Nat.zero_le _, Nat.zero_le _⟩ (fun _ q_ => cvq q_ (ct_M_ran hm v.1.1 v.1.2.1)) ?_
      refine aw_P (P' := fun g => ∃ s2 A2, VT (addL 40 _ _) s A s2 A2 ∧ MP m h s2 A2 g) (fun g q => ⟨_, _, v.ran _, q⟩) ?_
      refine aw_ex fun s2 => aw_ex fun A2 => aw_pr fun v2 => ?_
      refine r_iload_n (pc := 10) dX12_loadsIn_10 rfl ?_
      refine r_aload_n (pc := 11) dX12_loadsIn_11 rfl ?_
      refine r_getf (pc := 12) (k := 28) dX12_loadsIn_12 hX12 eX12 (by decide) fX12_251 (fun _ q => mo hm q) rfl ?_
      rw [v2.2.1 28 (by decide)]
      refine r_iadd (pc := 15) dX12_loadsIn_15 ?_
      refine r_ireturn (pc := 16) (ty := .int) dX12_loadsIn_16 rfl rfl ⟨Nat.zero_le _, Nat.zero_le _⟩ (fun gE hg => ?_)
      exact ⟨rfl, _, _, v2, hg⟩
  intro j
  induction j with
  | zero => exact St 0 (fun j' e => absurd e (by omega))
  | succ j ih => exact St _ (fun j' e => by cases e; exact ih)
end Mvoice
