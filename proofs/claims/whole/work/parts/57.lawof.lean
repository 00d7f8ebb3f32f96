/-! THE REFERENCE: a factor, all of a TEXT, what a TEXT gives -/
section Fa
variable {u : Nat} {na nb nc : Int32} {bs : List Int32} {op : Nat} {σ : RS} {s s0 : Nat → Int32} {A : Nat → Nat → Int32} {m : Nat} {h : AH} {use : Int32}
set_option maxHeartbeats 8000000 in
theorem ct_M_compared {D : Nat} {f : RS → RS} (hD : 3 ≤ D) (hu : u < 2) (hb : bs.length ≤ 50) (hp : PF bs f) (hE : MdC u na nb nc bs op D mX12_sum f) : MdC u na nb nc bs op (D + 1) mX12_compared (cmpB bs f) := by
  intro σ h1 h2 h3
  obtain ⟨x1, hx, hct⟩ := hE σ h1 h2 h3
  obtain ⟨p1, p2, p3⟩ := hp σ h1 h3
  have p4 := p3 0 h2
  by_cases hc : (f σ).2.1 = true ∧ nxB bs (f σ) ∈ [60, 61, 62]
  · have hlt := nx_in hc.2 (by decide)
    obtain ⟨w, hw, hct2⟩ := hE (adB (f σ)) hlt (by show (f σ).2.2.length ≤ (f σ).1 + 1; omega) hc.1
    obtain ⟨r1, r2, r3⟩ := hp (adB (f σ)) hlt hc.1
    have r4 := r3 1 (by show (f σ).2.2.length + 1 ≤ (f σ).1 + 1; omega)
    obtain ⟨sg, hsg⟩ : ∃ sg, sg = nxB bs (f σ) := ⟨_, rfl⟩
    rw [← hsg] at hc
    have ho : sg ∈ opsL := (show ∀ z, z ∈ ([60, 61, 62] : List Int32) → z ∈ opsL by decide) sg hc.2
    have ec : cmpB bs f σ = emB sg (f (adB (f σ))) := by
      unfold cmpB
      rw [← hsg, if_pos hc]
    rw [ec]
    refine ⟨joinI sg x1 w, hx.C (fun g => hc.1) (EvR.op ho (by omega) hw), fun m h s A hm q => ⟨mV hm, ?_⟩⟩
    refine ct_of (by decide) (fun _ _ => Nat.le_of_ble_eq_true rfl) ?_
    dsimp only [pad, ent]
    have T : ∀ s2 : Nat → Int32, MdS u na nb nc bs op (f σ) s2 A → sFr s s2 → AW (fun _ => True) (rmd (D + 1) 0 0) mX12_compared 0 0 45 [some (.ref m), some (.int x1), some (.int sg), none, none] [] (MP m h s2 A) (fun v g => v = some (.int (joinI sg x1 w)) ∧ ∃ s2, (MdS u na nb nc bs op (emB sg (f (adB (f σ)))) s2 A ∧ sFr s s2) ∧ MP m h s2 A g) := by
      intro s2 q2 q3
      refine r_aload_n (pc := 45) dX12_compared_45 rfl ?_
      refine r_dup (pc := 46) dX12_compared_46 rfl ?_
      refine r_getf (pc := 47) (k := 11) dX12_compared_47 hX12 eX12 (by decide) fX12_132 (fun _ q => mo hm q) rfl ?_
      rw [q2.2.1]
      refine r_iconst (pc := 50) (v := 1) dX12_compared_50 (by decide) ?_
      refine r_iadd (pc := 51) dX12_compared_51 ?_
      rw [nI_1]
      refine r_mp (pc := 52) (k := 11) hm dX12_compared_52 fX12_132 (by decide) rfl rfl (fun _ _ => rfl) (fun _ _ => rfl) rfl ?_
      refine r_aload_n (pc := 55) dX12_compared_55 rfl ?_
      refine r_Vi (pc := 56) (μ' := mX12_sum) dX12_compared_56 nX12_171 iX12_sum vX12_sum kX12_sum rfl rfl (rr (by omega) rfl) rfl ⟨Nat.zero_le _, Nat.zero_le _⟩ (fun _ q_ => cvq q_ (hct2 m h _ A hm q2.ad)) ?_
      refine aw_ex fun s4 => aw_pr fun q4 => ?_
      refine r_istore_n (pc := 59) dX12_compared_59 rfl (Nat.le_of_ble_eq_true rfl) rfl ?_
      dsimp only [lset]
      refine r_iload_n (pc := 60) dX12_compared_60 rfl ?_
      refine r_bipush (pc := 61) (v := 60) dX12_compared_61 (by decide) ?_
      refine r_icmp_ne (pc := 63) 79 dX12_compared_63 (by decide) (fun c63 => ?_) (fun c63 => ?_)
      · skip
        refine r_iload_n (pc := 79) dX12_compared_79 rfl ?_
        refine r_bipush (pc := 80) (v := 61) dX12_compared_80 (by decide) ?_
        refine r_icmp_ne (pc := 82) 98 dX12_compared_82 (by decide) (fun c82 => ?_) (fun c82 => ?_)
        · skip
          have e3 : sg = 62 := by
            rcases List.mem_cons.mp hc.2 with e | e2
            · exact absurd e c63
            · rcases List.mem_cons.mp e2 with e | e3
              · exact absurd e c82
              · exact List.mem_singleton.mp e3
          refine r_iload_n (pc := 98) dX12_compared_98 rfl ?_
          refine r_iload_n (pc := 99) dX12_compared_99 rfl ?_
          refine r_icmp_le (pc := 100) 107 dX12_compared_100 (by decide) (fun c100 => ?_) (fun c100 => ?_)
          · skip
            have hv : joinI sg x1 w = 0 := by rw [e3]; show (if w < x1 then (1 : Int32) else 0) = 0; rw [if_neg (fun z : w < x1 => by have := fa_lt.mp z; have := fa_le.mp c100; omega)]
            refine r_iconst (pc := 107) (v := 0) dX12_compared_107 (by decide) ?_
            refine r_istore (pc := 108) dX12_compared_108 (Nat.le_of_ble_eq_true rfl) rfl ?_
            dsimp only [lset]
            refine r_iload (pc := 110) dX12_compared_110 rfl ?_
            refine r_if_eq (pc := 112) 119 dX12_compared_112 (by decide) (fun c112 => ?_) (fun c112 => ?_)
            · skip
              first
              | exact absurd c112 (by decide)
              | skip
                refine r_iconst (pc := 119) (v := 0) dX12_compared_119 (by decide) ?_
                refine r_ireturn (pc := 120) (ty := .int) dX12_compared_120 rfl rfl ⟨Nat.zero_le _, Nat.zero_le _⟩ (fun gE hg => ?_)
                rw [hv]
                exact ⟨rfl, s4, ⟨q4.1, (q3.up (by omega)).tr q4.2⟩, hg⟩
            · skip
              first
              | exact absurd rfl c112
              | skip
                refine r_iconst (pc := 115) (v := 1) dX12_compared_115 (by decide) ?_
                refine r_goto (pc := 116) 120 dX12_compared_116 (by decide) ?_
                refine r_ireturn (pc := 120) (ty := .int) dX12_compared_120 rfl rfl ⟨Nat.zero_le _, Nat.zero_le _⟩ (fun gE hg => ?_)
                rw [hv]
                exact ⟨rfl, s4, ⟨q4.1, (q3.up (by omega)).tr q4.2⟩, hg⟩
          · skip
            have hv : joinI sg x1 w = 1 := by rw [e3]; show (if w < x1 then (1 : Int32) else 0) = 1; exact if_pos (fa_lt.mpr (by have : ¬ x1.toInt ≤ w.toInt := fun z => c100 (fa_le.mpr z); omega))
            refine r_iconst (pc := 103) (v := 1) dX12_compared_103 (by decide) ?_
            refine r_goto (pc := 104) 108 dX12_compared_104 (by decide) ?_
            refine r_istore (pc := 108) dX12_compared_108 (Nat.le_of_ble_eq_true rfl) rfl ?_
            dsimp only [lset]
            refine r_iload (pc := 110) dX12_compared_110 rfl ?_
            refine r_if_eq (pc := 112) 119 dX12_compared_112 (by decide) (fun c112 => ?_) (fun c112 => ?_)
            · skip
              first
              | exact absurd c112 (by decide)
              | skip
                refine r_iconst (pc := 119) (v := 0) dX12_compared_119 (by decide) ?_
                refine r_ireturn (pc := 120) (ty := .int) dX12_compared_120 rfl rfl ⟨Nat.zero_le _, Nat.zero_le _⟩ (fun gE hg => ?_)
                rw [hv]
                exact ⟨rfl, s4, ⟨q4.1, (q3.up (by omega)).tr q4.2⟩, hg⟩
            · skip
              first
              | exact absurd rfl c112
              | skip
                refine r_iconst (pc := 115) (v := 1) dX12_compared_115 (by decide) ?_
                refine r_goto (pc := 116) 120 dX12_compared_116 (by decide) ?_
                refine r_ireturn (pc := 120) (ty := .int) dX12_compared_120 rfl rfl ⟨Nat.zero_le _, Nat.zero_le _⟩ (fun gE hg => ?_)
                rw [hv]
                exact ⟨rfl, s4, ⟨q4.1, (q3.up (by omega)).tr q4.2⟩, hg⟩
        · skip
          refine r_iload_n (pc := 85) dX12_compared_85 rfl ?_
          refine r_iload_n (pc := 86) dX12_compared_86 rfl ?_
          refine r_icmp_ne (pc := 87) 94 dX12_compared_87 (by decide) (fun c87 => ?_) (fun c87 => ?_)
          · skip
            have hv : joinI sg x1 w = 0 := by rw [c82]; exact if_neg c87
            refine r_iconst (pc := 94) (v := 0) dX12_compared_94 (by decide) ?_
            refine r_goto (pc := 95) 108 dX12_compared_95 (by decide) ?_
            refine r_istore (pc := 108) dX12_compared_108 (Nat.le_of_ble_eq_true rfl) rfl ?_
            dsimp only [lset]
            refine r_iload (pc := 110) dX12_compared_110 rfl ?_
            refine r_if_eq (pc := 112) 119 dX12_compared_112 (by decide) (fun c112 => ?_) (fun c112 => ?_)
            · skip
              first
              | exact absurd c112 (by decide)
              | skip
                refine r_iconst (pc := 119) (v := 0) dX12_compared_119 (by decide) ?_
                refine r_ireturn (pc := 120) (ty := .int) dX12_compared_120 rfl rfl ⟨Nat.zero_le _, Nat.zero_le _⟩ (fun gE hg => ?_)
                rw [hv]
                exact ⟨rfl, s4, ⟨q4.1, (q3.up (by omega)).tr q4.2⟩, hg⟩
            · skip
              first
              | exact absurd rfl c112
              | skip
                refine r_iconst (pc := 115) (v := 1) dX12_compared_115 (by decide) ?_
                refine r_goto (pc := 116) 120 dX12_compared_116 (by decide) ?_
                refine r_ireturn (pc := 120) (ty := .int) dX12_compared_120 rfl rfl ⟨Nat.zero_le _, Nat.zero_le _⟩ (fun gE hg => ?_)
                rw [hv]
                exact ⟨rfl, s4, ⟨q4.1, (q3.up (by omega)).tr q4.2⟩, hg⟩
          · skip
            have hv : joinI sg x1 w = 1 := by rw [c82]; exact if_pos c87
            refine r_iconst (pc := 90) (v := 1) dX12_compared_90 (by decide) ?_
            refine r_goto (pc := 91) 108 dX12_compared_91 (by decide) ?_
            refine r_istore (pc := 108) dX12_compared_108 (Nat.le_of_ble_eq_true rfl) rfl ?_
            dsimp only [lset]
            refine r_iload (pc := 110) dX12_compared_110 rfl ?_
            refine r_if_eq (pc := 112) 119 dX12_compared_112 (by decide) (fun c112 => ?_) (fun c112 => ?_)
            · skip
              first
              | exact absurd c112 (by decide)
              | skip
                refine r_iconst (pc := 119) (v := 0) dX12_compared_119 (by decide) ?_
                refine r_ireturn (pc := 120) (ty := .int) dX12_compared_120 rfl rfl ⟨Nat.zero_le _, Nat.zero_le _⟩ (fun gE hg => ?_)
                rw [hv]
                exact ⟨rfl, s4, ⟨q4.1, (q3.up (by omega)).tr q4.2⟩, hg⟩
            · skip
              first
              | exact absurd rfl c112
              | skip
                refine r_iconst (pc := 115) (v := 1) dX12_compared_115 (by decide) ?_
                refine r_goto (pc := 116) 120 dX12_compared_116 (by decide) ?_
                refine r_ireturn (pc := 120) (ty := .int) dX12_compared_120 rfl rfl ⟨Nat.zero_le _, Nat.zero_le _⟩ (fun gE hg => ?_)
                rw [hv]
                exact ⟨rfl, s4, ⟨q4.1, (q3.up (by omega)).tr q4.2⟩, hg⟩
      · skip
        refine r_iload_n (pc := 66) dX12_compared_66 rfl ?_
        refine r_iload_n (pc := 67) dX12_compared_67 rfl ?_
        refine r_icmp_ge (pc := 68) 75 dX12_compared_68 (by decide) (fun c68 => ?_) (fun c68 => ?_)
        · skip
          have hv : joinI sg x1 w = 0 := by rw [c63]; show (if x1 < w then (1 : Int32) else 0) = 0; rw [if_neg (fun z : x1 < w => by have := fa_lt.mp z; have := fa_le.mp c68; omega)]
          refine r_iconst (pc := 75) (v := 0) dX12_compared_75 (by decide) ?_
          refine r_goto (pc := 76) 108 dX12_compared_76 (by decide) ?_
          refine r_istore (pc := 108) dX12_compared_108 (Nat.le_of_ble_eq_true rfl) rfl ?_
          dsimp only [lset]
          refine r_iload (pc := 110) dX12_compared_110 rfl ?_
          refine r_if_eq (pc := 112) 119 dX12_compared_112 (by decide) (fun c112 => ?_) (fun c112 => ?_)
          · skip
            first
            | exact absurd c112 (by decide)
            | skip
              refine r_iconst (pc := 119) (v := 0) dX12_compared_119 (by decide) ?_
              refine r_ireturn (pc := 120) (ty := .int) dX12_compared_120 rfl rfl ⟨Nat.zero_le _, Nat.zero_le _⟩ (fun gE hg => ?_)
              rw [hv]
              exact ⟨rfl, s4, ⟨q4.1, (q3.up (by omega)).tr q4.2⟩, hg⟩
          · skip
            first
            | exact absurd rfl c112
            | skip
              refine r_iconst (pc := 115) (v := 1) dX12_compared_115 (by decide) ?_
              refine r_goto (pc := 116) 120 dX12_compared_116 (by decide) ?_
              refine r_ireturn (pc := 120) (ty := .int) dX12_compared_120 rfl rfl ⟨Nat.zero_le _, Nat.zero_le _⟩ (fun gE hg => ?_)
              rw [hv]
              exact ⟨rfl, s4, ⟨q4.1, (q3.up (by omega)).tr q4.2⟩, hg⟩
        · skip
          have hv : joinI sg x1 w = 1 := by rw [c63]; show (if x1 < w then (1 : Int32) else 0) = 1; exact if_pos (fa_lt.mpr (by have : ¬ w.toInt ≤ x1.toInt := fun z => c68 (fa_le.mpr z); omega))
          refine r_iconst (pc := 71) (v := 1) dX12_compared_71 (by decide) ?_
          refine r_goto (pc := 72) 108 dX12_compared_72 (by decide) ?_
          refine r_istore (pc := 108) dX12_compared_108 (Nat.le_of_ble_eq_true rfl) rfl ?_
          dsimp only [lset]
          refine r_iload (pc := 110) dX12_compared_110 rfl ?_
          refine r_if_eq (pc := 112) 119 dX12_compared_112 (by decide) (fun c112 => ?_) (fun c112 => ?_)
          · skip
            first
            | exact absurd c112 (by decide)
            | skip
              refine r_iconst (pc := 119) (v := 0) dX12_compared_119 (by decide) ?_
              refine r_ireturn (pc := 120) (ty := .int) dX12_compared_120 rfl rfl ⟨Nat.zero_le _, Nat.zero_le _⟩ (fun gE hg => ?_)
              rw [hv]
              exact ⟨rfl, s4, ⟨q4.1, (q3.up (by omega)).tr q4.2⟩, hg⟩
          · skip
            first
            | exact absurd rfl c112
            | skip
              refine r_iconst (pc := 115) (v := 1) dX12_compared_115 (by decide) ?_
              refine r_goto (pc := 116) 120 dX12_compared_116 (by decide) ?_
              refine r_ireturn (pc := 120) (ty := .int) dX12_compared_120 rfl rfl ⟨Nat.zero_le _, Nat.zero_le _⟩ (fun gE hg => ?_)
              rw [hv]
              exact ⟨rfl, s4, ⟨q4.1, (q3.up (by omega)).tr q4.2⟩, hg⟩
    refine aw_P (P' := MP m h s A) (fun _ q => q) ?_
    refine r_aload_n (pc := 0) dX12_compared_0 rfl ?_
    refine r_Vi (pc := 1) (μ' := mX12_sum) dX12_compared_1 nX12_171 iX12_sum vX12_sum kX12_sum rfl rfl (rr (by omega) rfl) rfl ⟨Nat.zero_le _, Nat.zero_le _⟩ (fun _ q_ => cvq q_ (hct m h s A hm q)) ?_
    refine aw_ex fun s2 => aw_pr fun q2 => ?_
    refine r_istore_n (pc := 4) dX12_compared_4 rfl (Nat.le_of_ble_eq_true rfl) rfl ?_
    dsimp only [lset]
    refine r_aload_n (pc := 5) dX12_compared_5 rfl ?_
    refine r_getf (pc := 6) (k := 17) dX12_compared_6 hX12 eX12 (by decide) fX12_129 (fun _ q => mo hm q) rfl ?_
    rw [q2.1.2.2.2.2.2.2.2.1, hc.1]
    refine r_if_eq (pc := 9) 23 dX12_compared_9 (by decide) (fun c9 => ?_) (fun c9 => ?_)
    · skip
      exact absurd c9 (by decide)
    · skip
      refine r_aload_n (pc := 12) dX12_compared_12 rfl ?_
      refine r_aload_n (pc := 13) dX12_compared_13 rfl ?_
      refine r_getf (pc := 14) (k := 11) dX12_compared_14 hX12 eX12 (by decide) fX12_132 (fun _ q => mo hm q) rfl ?_
      rw [q2.1.2.1]
      refine r_Vi (pc := 17) (μ' := mX12_byteAt) dX12_compared_17 nX12_135 iX12_byteAt vX12_byteAt kX12_byteAt rfl rfl (rr (by omega) rfl) rfl ⟨Nat.zero_le _, Nat.zero_le _⟩ (fun _ q_ => cvq q_ (ct_M_next hm hu hb q2.1 p1)) ?_
      rw [← hsg]
      refine r_goto (pc := 20) 24 dX12_compared_20 (by decide) ?_
      refine r_istore_n (pc := 24) dX12_compared_24 rfl (Nat.le_of_ble_eq_true rfl) rfl ?_
      dsimp only [lset]
      refine r_iload_n (pc := 25) dX12_compared_25 rfl ?_
      refine r_bipush (pc := 26) (v := 60) dX12_compared_26 (by decide) ?_
      refine r_icmp_eq (pc := 28) 45 dX12_compared_28 (by decide) (fun c28 => ?_) (fun c28 => ?_)
      · skip
        exact T s2 q2.1 q2.2
      · skip
        refine r_iload_n (pc := 31) dX12_compared_31 rfl ?_
        refine r_bipush (pc := 32) (v := 61) dX12_compared_32 (by decide) ?_
        refine r_icmp_eq (pc := 34) 45 dX12_compared_34 (by decide) (fun c34 => ?_) (fun c34 => ?_)
        · skip
          exact T s2 q2.1 q2.2
        · skip
          refine r_iload_n (pc := 37) dX12_compared_37 rfl ?_
          refine r_bipush (pc := 38) (v := 62) dX12_compared_38 (by decide) ?_
          refine r_icmp_eq (pc := 40) 45 dX12_compared_40 (by decide) (fun c40 => ?_) (fun c40 => ?_)
          · skip
            exact T s2 q2.1 q2.2
          · skip
            exact absurd hc.2 (by simp [c28, c34, c40])
  · have ec : cmpB bs f σ = f σ := if_neg hc
    rw [ec]
    refine ⟨x1, hx, fun m h s A hm q => ⟨mV hm, ?_⟩⟩
    refine ct_of (by decide) (fun _ _ => Nat.le_of_ble_eq_true rfl) ?_
    dsimp only [pad, ent]
    refine aw_P (P' := MP m h s A) (fun _ q => q) ?_
    refine r_aload_n (pc := 0) dX12_compared_0 rfl ?_
    refine r_Vi (pc := 1) (μ' := mX12_sum) dX12_compared_1 nX12_171 iX12_sum vX12_sum kX12_sum rfl rfl (rr (by omega) rfl) rfl ⟨Nat.zero_le _, Nat.zero_le _⟩ (fun _ q_ => cvq q_ (hct m h s A hm q)) ?_
    refine aw_ex fun s2 => aw_pr fun q2 => ?_
    refine r_istore_n (pc := 4) dX12_compared_4 rfl (Nat.le_of_ble_eq_true rfl) rfl ?_
    dsimp only [lset]
    refine r_aload_n (pc := 5) dX12_compared_5 rfl ?_
    refine r_getf (pc := 6) (k := 17) dX12_compared_6 hX12 eX12 (by decide) fX12_129 (fun _ q => mo hm q) rfl ?_
    rw [q2.1.2.2.2.2.2.2.2.1]
    refine r_if_eq (pc := 9) 23 dX12_compared_9 (by decide) (fun c9 => ?_) (fun c9 => ?_)
    · skip
      refine r_iconst (pc := 23) (v := (-1)) dX12_compared_23 (by decide) ?_
      refine r_istore_n (pc := 24) dX12_compared_24 rfl (Nat.le_of_ble_eq_true rfl) rfl ?_
      dsimp only [lset]
      refine r_iload_n (pc := 25) dX12_compared_25 rfl ?_
      refine r_bipush (pc := 26) (v := 60) dX12_compared_26 (by decide) ?_
      refine r_icmp_eq (pc := 28) 45 dX12_compared_28 (by decide) (fun c28 => ?_) (fun c28 => ?_)
      · skip
        first
        | exact absurd c28 (by decide)
        | exact absurd ⟨hg9, by rw [c28]; decide⟩ hc
      · skip
        refine r_iload_n (pc := 31) dX12_compared_31 rfl ?_
        refine r_bipush (pc := 32) (v := 61) dX12_compared_32 (by decide) ?_
        refine r_icmp_eq (pc := 34) 45 dX12_compared_34 (by decide) (fun c34 => ?_) (fun c34 => ?_)
        · skip
          first
          | exact absurd c34 (by decide)
          | exact absurd ⟨hg9, by rw [c34]; decide⟩ hc
        · skip
          refine r_iload_n (pc := 37) dX12_compared_37 rfl ?_
          refine r_bipush (pc := 38) (v := 62) dX12_compared_38 (by decide) ?_
          refine r_icmp_eq (pc := 40) 45 dX12_compared_40 (by decide) (fun c40 => ?_) (fun c40 => ?_)
          · skip
            first
            | exact absurd c40 (by decide)
            | exact absurd ⟨hg9, by rw [c40]; decide⟩ hc
          · skip
            refine r_iload_n (pc := 43) dX12_compared_43 rfl ?_
            refine r_ireturn (pc := 44) (ty := .int) dX12_compared_44 rfl rfl ⟨Nat.zero_le _, Nat.zero_le _⟩ (fun gE hg => ?_)
            exact ⟨rfl, s2, ⟨q2.1, q2.2⟩, hg⟩
    · skip
      have hg9 := b2i_n0.mp c9
      refine r_aload_n (pc := 12) dX12_compared_12 rfl ?_
      refine r_aload_n (pc := 13) dX12_compared_13 rfl ?_
      refine r_getf (pc := 14) (k := 11) dX12_compared_14 hX12 eX12 (by decide) fX12_132 (fun _ q => mo hm q) rfl ?_
      rw [q2.1.2.1]
      refine r_Vi (pc := 17) (μ' := mX12_byteAt) dX12_compared_17 nX12_135 iX12_byteAt vX12_byteAt kX12_byteAt rfl rfl (rr (by omega) rfl) rfl ⟨Nat.zero_le _, Nat.zero_le _⟩ (fun _ q_ => cvq q_ (ct_M_next hm hu hb q2.1 p1)) ?_
      refine r_goto (pc := 20) 24 dX12_compared_20 (by decide) ?_
      refine r_istore_n (pc := 24) dX12_compared_24 rfl (Nat.le_of_ble_eq_true rfl) rfl ?_
      dsimp only [lset]
      refine r_iload_n (pc := 25) dX12_compared_25 rfl ?_
      refine r_bipush (pc := 26) (v := 60) dX12_compared_26 (by decide) ?_
      refine r_icmp_eq (pc := 28) 45 dX12_compared_28 (by decide) (fun c28 => ?_) (fun c28 => ?_)
      · skip
        first
        | exact absurd c28 (by decide)
        | exact absurd ⟨hg9, by rw [c28]; decide⟩ hc
      · skip
        refine r_iload_n (pc := 31) dX12_compared_31 rfl ?_
        refine r_bipush (pc := 32) (v := 61) dX12_compared_32 (by decide) ?_
        refine r_icmp_eq (pc := 34) 45 dX12_compared_34 (by decide) (fun c34 => ?_) (fun c34 => ?_)
        · skip
          first
          | exact absurd c34 (by decide)
          | exact absurd ⟨hg9, by rw [c34]; decide⟩ hc
        · skip
          refine r_iload_n (pc := 37) dX12_compared_37 rfl ?_
          refine r_bipush (pc := 38) (v := 62) dX12_compared_38 (by decide) ?_
          refine r_icmp_eq (pc := 40) 45 dX12_compared_40 (by decide) (fun c40 => ?_) (fun c40 => ?_)
          · skip
            first
            | exact absurd c40 (by decide)
            | exact absurd ⟨hg9, by rw [c40]; decide⟩ hc
          · skip
            refine r_iload_n (pc := 43) dX12_compared_43 rfl ?_
            refine r_ireturn (pc := 44) (ty := .int) dX12_compared_44 rfl rfl ⟨Nat.zero_le _, Nat.zero_le _⟩ (fun gE hg => ?_)
            exact ⟨rfl, s2, ⟨q2.1, q2.2⟩, hg⟩
theorem ct_M_all {D : Nat} {f : RS → RS} (hD : 3 ≤ D) (hu : u < 2) (hb : bs.length ≤ 50) (hp : PF bs f) (hE : MdC u na nb nc bs op D mX12_factor f) : MdC u na nb nc bs op (D + 5) mX12_whole (allB bs f) :=
  ct_M_whole (by omega) hu hb ((((hp.loop (by decide)).loop (by decide)).cmp).loop (by decide)) (ct_M_both (by omega) hu hb (((hp.loop (by decide)).loop (by decide)).cmp) (ct_M_compared (by omega) hu hb ((hp.loop (by decide)).loop (by decide)) (ct_M_sum (by omega) hu hb (hp.loop (by decide)) (ct_M_product hD hu hb hp hE))))
theorem facB_dig (hg : σ.2.1 = true) (hd : digB (nxB bs σ) = true) : ∀ d, facB use bs d σ = numB bs 4 0 σ
  | 0 => by unfold facB; rw [if_neg (by rw [hg]; exact fun x => absurd x (by decide)), if_pos hd]
  | d + 1 => by unfold facB; rw [if_neg (by rw [hg]; exact fun x => absurd x (by decide)), if_pos hd]
theorem facB_name (hg : σ.2.1 = true) (hd : ¬ digB (nxB bs σ) = true) (hn : 0 ≤ nameI use (nxB bs σ)) : ∀ d, facB use bs d σ = psB (10000 + nameI use (nxB bs σ)) (adB σ)
  | 0 => by unfold facB; rw [if_neg (by rw [hg]; exact fun x => absurd x (by decide)), if_neg hd, if_pos hn]
  | d + 1 => by unfold facB; rw [if_neg (by rw [hg]; exact fun x => absurd x (by decide)), if_neg hd, if_pos hn]
theorem facB_bad (hg : σ.2.1 = true) (hd : ¬ digB (nxB bs σ) = true) (hn : ¬ 0 ≤ nameI use (nxB bs σ)) : ∀ d, (d = 0 ∨ (¬ nxB bs σ = 33 ∧ ¬ nxB bs σ = 40)) → facB use bs d σ = flB σ
  | 0, _ => by unfold facB; rw [if_neg (by rw [hg]; exact fun x => absurd x (by decide)), if_neg hd, if_neg hn]
  | d + 1, h => by
    have h2 : ¬ nxB bs σ = 33 ∧ ¬ nxB bs σ = 40 := by
      rcases h with h | h
      · exact absurd h (by omega)
      · exact h
    unfold facB
    rw [if_neg (by rw [hg]; exact fun x => absurd x (by decide)), if_neg hd, if_neg hn, if_neg h2.1, if_neg h2.2]
theorem name_no {c : Int32} (h : c = 33 ∨ c = 40) : ¬ 0 ≤ nameI (nI u) c ∧ ¬ digB c = true := by
  have e : nameI (nI u) c = if c = 114 then 0 else if c = 115 then 1 else if c = (if nI u = 0 then 104 else 119) then 2 else -1 := rfl
  rcases h with rfl | rfl
  · rw [e, if_neg (by decide), if_neg (by decide), if_neg (by split <;> decide)]; decide
  · rw [e, if_neg (by decide), if_neg (by decide), if_neg (by split <;> decide)]; decide
theorem name_3 {c : Int32} (h : 0 ≤ nameI use c) : nameI use c = 0 ∨ nameI use c = 1 ∨ nameI use c = 2 := by
  have e : nameI use c = if c = 114 then 0 else if c = 115 then 1 else if c = (if use = 0 then 104 else 119) then 2 else -1 := rfl
  by_cases a : c = 114
  · exact Or.inl (by rw [e, if_pos a])
  · by_cases b : c = 115
    · exact Or.inr (Or.inl (by rw [e, if_neg a, if_pos b]))
    · by_cases d : c = (if use = 0 then 104 else 119)
      · exact Or.inr (Or.inr (by rw [e, if_neg a, if_neg b, if_pos d]))
      · rw [e, if_neg a, if_neg b, if_neg d] at h
        exact absurd h (by decide)
theorem isB_t {z : Int32} {τ : RS} (h : τ.2.1 = true) (h2 : nxB bs τ = z) : isB bs z τ = true := by
  unfold isB
  rw [h, decide_eq_true h2]; rfl
set_option maxHeartbeats 8000000 in
theorem ct_M_factor (hu : u < 2) (hb : bs.length ≤ 50) : ∀ d, d ≤ 5 → MdC u na nb nc bs (5 - d) (4 + 6 * d) mX12_factor (facB (nI u) bs d) := by
  intro d
  induction d with
  | zero =>
    intro hd5 σ h1 h2 h3
    have hop : nI (5 - 0) = nI 5 ↔ 0 = 0 := by rw [nI_eq (by omega) (by omega)]; omega
    by_cases hd : digB (nxB bs σ) = true
    · obtain ⟨n1, n2, n3⟩ := numE_p (bs := bs) 4 0 σ h1
      have hlt := dig_nx hd
      obtain ⟨v1, v2⟩ := numE_rng (bs := bs) 4 0 0 σ (by omega) (by decide) (by decide)
      rw [facB_dig h3 hd, numB_eq]
      refine ⟨(numE bs 4 0 σ).2, fun _ => ⟨[(numE bs 4 0 σ).2], ?_, fun stk => ?_⟩, fun m h s A hm q => ⟨mV hm, ?_⟩⟩
      · show addL 50 (numE bs 4 0 σ).1.2.2 _ = _
        rw [n3]
        exact addL_ok (by omega)
      · show runS na nb nc [(numE bs 4 0 σ).2] stk = _
        unfold runS stepS
        rw [if_pos (fa_lt.mpr (by rw [show (10000 : Int32).toInt = 10000 from rfl]; omega))]
        rfl
      · refine ct_of (by decide) (fun _ _ => Nat.le_of_ble_eq_true rfl) ?_
        dsimp only [pad, ent]
        refine aw_P (P' := MP m h s A) (fun _ q => q) ?_
        refine r_aload_n (pc := 0) dX12_factor_0 rfl ?_
        refine r_aload_n (pc := 1) dX12_factor_1 rfl ?_
        refine r_getf (pc := 2) (k := 11) dX12_factor_2 hX12 eX12 (by decide) fX12_132 (fun _ q => mo hm q) rfl ?_
        rw [q.2.1]
        refine r_Vi (pc := 5) (μ' := mX12_byteAt) dX12_factor_5 nX12_135 iX12_byteAt vX12_byteAt kX12_byteAt rfl rfl (rr (by omega) rfl) rfl ⟨Nat.zero_le _, Nat.zero_le _⟩ (fun _ q_ => cvq q_ (ct_M_next hm hu hb q h1)) ?_
        refine r_istore_n (pc := 8) dX12_factor_8 rfl (Nat.le_of_ble_eq_true rfl) rfl ?_
        dsimp only [lset]
        refine r_iload_n (pc := 9) dX12_factor_9 rfl ?_
        refine r_Sp (pc := 10) (μ' := mX12_isDigit) dX12_factor_10 nX12_138 sX12_isDigit kX12_isDigit rfl rfl (rr (by omega) rfl) rfl ⟨Nat.zero_le _, Nat.zero_le _⟩ (fun h => ct_M_isDigit h) ?_
        rw [hd]
        refine r_if_eq (pc := 13) 21 dX12_factor_13 (by decide) (fun c13 => ?_) (fun c13 => ?_)
        · skip
          exact absurd c13 (by decide)
        · skip
          refine r_aload_n (pc := 16) dX12_factor_16 rfl ?_
          refine r_Vi (pc := 17) (μ' := mX12_number) dX12_factor_17 nX12_153 iX12_number vX12_number kX12_number rfl rfl (rr (by omega) rfl) rfl ⟨Nat.zero_le _, Nat.zero_le _⟩ (fun _ q_ => cvq q_ (ct_M_number hm hu hb q h1)) ?_
          refine aw_ex fun s2 => aw_pr fun q2 => ?_
          refine r_ireturn (pc := 20) (ty := .int) dX12_factor_20 rfl rfl ⟨Nat.zero_le _, Nat.zero_le _⟩ (fun gE hg => ?_)
          exact ⟨rfl, s2, q2, hg⟩
    · by_cases hn : 0 ≤ nameI (nI u) (nxB bs σ)
      · have hlt := name_nx hn
        have h33 : ¬ nxB bs σ = 33 := fun x => (name_no (Or.inl x)).1 hn
        have h40 : ¬ nxB bs σ = 40 := fun x => (name_no (Or.inr x)).1 hn
        obtain ⟨i, hi⟩ : ∃ i, i = nameI (nI u) (nxB bs σ) := ⟨_, rfl⟩
        have hi3 := name_3 hn
        rw [facB_name h3 hd hn]
        refine ⟨if nameI (nI u) (nxB bs σ) = 0 then na else if nameI (nI u) (nxB bs σ) = 1 then nb else if nameI (nI u) (nxB bs σ) = 2 then nc else 0, fun _ => ⟨[10000 + nameI (nI u) (nxB bs σ)], ?_, fun stk => ?_⟩, fun m h s A hm q => ⟨mV hm, ?_⟩⟩
        · show addL 50 σ.2.2 _ = _
          exact addL_ok (by omega)
        · rcases hi3 with e | e | e
          · rw [e]; rfl
          · rw [e]; rfl
          · rw [e]; rfl
        · refine ct_of (by decide) (fun _ _ => Nat.le_of_ble_eq_true rfl) ?_
          dsimp only [pad, ent]
          refine aw_P (P' := MP m h s A) (fun _ q => q) ?_
          refine r_aload_n (pc := 0) dX12_factor_0 rfl ?_
          refine r_aload_n (pc := 1) dX12_factor_1 rfl ?_
          refine r_getf (pc := 2) (k := 11) dX12_factor_2 hX12 eX12 (by decide) fX12_132 (fun _ q => mo hm q) rfl ?_
          rw [q.2.1]
          refine r_Vi (pc := 5) (μ' := mX12_byteAt) dX12_factor_5 nX12_135 iX12_byteAt vX12_byteAt kX12_byteAt rfl rfl (rr (by omega) rfl) rfl ⟨Nat.zero_le _, Nat.zero_le _⟩ (fun _ q_ => cvq q_ (ct_M_next hm hu hb q h1)) ?_
          refine r_istore_n (pc := 8) dX12_factor_8 rfl (Nat.le_of_ble_eq_true rfl) rfl ?_
          dsimp only [lset]
          refine r_iload_n (pc := 9) dX12_factor_9 rfl ?_
          refine r_Sp (pc := 10) (μ' := mX12_isDigit) dX12_factor_10 nX12_138 sX12_isDigit kX12_isDigit rfl rfl (rr (by omega) rfl) rfl ⟨Nat.zero_le _, Nat.zero_le _⟩ (fun h => ct_M_isDigit h) ?_
          refine r_if_eq (pc := 13) 21 dX12_factor_13 (by decide) (fun c13 => ?_) (fun c13 => ?_)
          · skip
            refine r_iload_n (pc := 21) dX12_factor_21 rfl ?_
            refine r_bipush (pc := 22) (v := 33) dX12_factor_22 (by decide) ?_
            refine r_icmp_eq (pc := 24) 39 dX12_factor_24 (by decide) (fun c24 => ?_) (fun c24 => ?_)
            · skip
              exact absurd c24 h33
            · skip
              refine r_iload_n (pc := 27) dX12_factor_27 rfl ?_
              refine r_bipush (pc := 28) (v := 40) dX12_factor_28 (by decide) ?_
              refine r_icmp_eq (pc := 30) 39 dX12_factor_30 (by decide) (fun c30 => ?_) (fun c30 => ?_)
              · skip
                exact absurd c30 h40
              · skip
                refine r_aload_n (pc := 33) dX12_factor_33 rfl ?_
                refine r_iload_n (pc := 34) dX12_factor_34 rfl ?_
                refine r_Vi (pc := 35) (μ' := mX12_named) dX12_factor_35 nX12_156 iX12_named vX12_named kX12_named rfl rfl (rr (by omega) rfl) rfl ⟨Nat.zero_le _, Nat.zero_le _⟩ (fun _ q_ => cvq q_ (ct_M_named hm hu q)) ?_
                refine aw_ex fun s2 => aw_pr fun q2 => ?_
                rw [if_pos hn] at q2
                refine r_ireturn (pc := 38) (ty := .int) dX12_factor_38 rfl rfl ⟨Nat.zero_le _, Nat.zero_le _⟩ (fun gE hg => ?_)
                exact ⟨rfl, s2, q2, hg⟩
          · skip
            exact absurd (b2i_n0.mp c13) hd
      · by_cases hb2 : 0 = 0 ∨ (¬ nxB bs σ = 33 ∧ ¬ nxB bs σ = 40)
        · rw [facB_bad h3 hd hn _ hb2]
          refine ⟨0, fun g => absurd g (by show ¬ false = true; decide), fun m h s A hm q => ⟨mV hm, ?_⟩⟩
          refine ct_of (by decide) (fun _ _ => Nat.le_of_ble_eq_true rfl) ?_
          dsimp only [pad, ent]
          have e1 : (if nameI (nI u) (nxB bs σ) = 0 then na else if nameI (nI u) (nxB bs σ) = 1 then nb else if nameI (nI u) (nxB bs σ) = 2 then nc else 0) = 0 := by
            rw [if_neg (fun x => hn (by rw [x]; decide)), if_neg (fun x => hn (by rw [x]; decide)), if_neg (fun x => hn (by rw [x]; decide))]
          refine aw_P (P' := MP m h s A) (fun _ q => q) ?_
          refine r_aload_n (pc := 0) dX12_factor_0 rfl ?_
          refine r_aload_n (pc := 1) dX12_factor_1 rfl ?_
          refine r_getf (pc := 2) (k := 11) dX12_factor_2 hX12 eX12 (by decide) fX12_132 (fun _ q => mo hm q) rfl ?_
          rw [q.2.1]
          refine r_Vi (pc := 5) (μ' := mX12_byteAt) dX12_factor_5 nX12_135 iX12_byteAt vX12_byteAt kX12_byteAt rfl rfl (rr (by omega) rfl) rfl ⟨Nat.zero_le _, Nat.zero_le _⟩ (fun _ q_ => cvq q_ (ct_M_next hm hu hb q h1)) ?_
          refine r_istore_n (pc := 8) dX12_factor_8 rfl (Nat.le_of_ble_eq_true rfl) rfl ?_
          dsimp only [lset]
          refine r_iload_n (pc := 9) dX12_factor_9 rfl ?_
          refine r_Sp (pc := 10) (μ' := mX12_isDigit) dX12_factor_10 nX12_138 sX12_isDigit kX12_isDigit rfl rfl (rr (by omega) rfl) rfl ⟨Nat.zero_le _, Nat.zero_le _⟩ (fun h => ct_M_isDigit h) ?_
          refine r_if_eq (pc := 13) 21 dX12_factor_13 (by decide) (fun c13 => ?_) (fun c13 => ?_)
          · skip
            refine r_iload_n (pc := 21) dX12_factor_21 rfl ?_
            refine r_bipush (pc := 22) (v := 33) dX12_factor_22 (by decide) ?_
            refine r_icmp_eq (pc := 24) 39 dX12_factor_24 (by decide) (fun c24 => ?_) (fun c24 => ?_)
            · skip
              refine r_aload_n (pc := 39) dX12_factor_39 rfl ?_
              refine r_getf (pc := 40) (k := 13) dX12_factor_40 hX12 eX12 (by decide) fX12_159 (fun _ q => mo hm q) rfl ?_
              refine r_iconst (pc := 43) (v := 5) dX12_factor_43 (by decide) ?_
              rw [q.2.2.2.1]
              refine r_icmp_ne (pc := 44) 52 dX12_factor_44 (by decide) (fun c44 => ?_) (fun c44 => ?_)
              · skip
                exact absurd (show nI (5 - 0) = 5 from hop.mpr (by
                  rcases hb2 with e | e
                  · exact e
                  · first
                    | exact absurd c24 e.1
                    | exact absurd c30 e.2)) c44
              · skip
                refine r_aload_n (pc := 47) dX12_factor_47 rfl ?_
                refine r_Vi (pc := 48) (μ' := mX12_fails) dX12_factor_48 nX12_141 iX12_fails vX12_fails kX12_fails rfl rfl (rr (by omega) rfl) rfl ⟨Nat.zero_le _, Nat.zero_le _⟩ (fun _ q_ => cvq q_ (ct_M_fails hm)) ?_
                refine r_ireturn (pc := 51) (ty := .int) dX12_factor_51 rfl rfl ⟨Nat.zero_le _, Nat.zero_le _⟩ (fun gE hg => ?_)
                exact ⟨rfl, _, ⟨q.fl, (sFr.rf s).up (by omega)⟩, hg⟩
            · skip
              refine r_iload_n (pc := 27) dX12_factor_27 rfl ?_
              refine r_bipush (pc := 28) (v := 40) dX12_factor_28 (by decide) ?_
              refine r_icmp_eq (pc := 30) 39 dX12_factor_30 (by decide) (fun c30 => ?_) (fun c30 => ?_)
              · skip
                refine r_aload_n (pc := 39) dX12_factor_39 rfl ?_
                refine r_getf (pc := 40) (k := 13) dX12_factor_40 hX12 eX12 (by decide) fX12_159 (fun _ q => mo hm q) rfl ?_
                refine r_iconst (pc := 43) (v := 5) dX12_factor_43 (by decide) ?_
                rw [q.2.2.2.1]
                refine r_icmp_ne (pc := 44) 52 dX12_factor_44 (by decide) (fun c44 => ?_) (fun c44 => ?_)
                · skip
                  exact absurd (show nI (5 - 0) = 5 from hop.mpr (by
                    rcases hb2 with e | e
                    · exact e
                    · first
                      | exact absurd c24 e.1
                      | exact absurd c30 e.2)) c44
                · skip
                  refine r_aload_n (pc := 47) dX12_factor_47 rfl ?_
                  refine r_Vi (pc := 48) (μ' := mX12_fails) dX12_factor_48 nX12_141 iX12_fails vX12_fails kX12_fails rfl rfl (rr (by omega) rfl) rfl ⟨Nat.zero_le _, Nat.zero_le _⟩ (fun _ q_ => cvq q_ (ct_M_fails hm)) ?_
                  refine r_ireturn (pc := 51) (ty := .int) dX12_factor_51 rfl rfl ⟨Nat.zero_le _, Nat.zero_le _⟩ (fun gE hg => ?_)
                  exact ⟨rfl, _, ⟨q.fl, (sFr.rf s).up (by omega)⟩, hg⟩
              · skip
                refine r_aload_n (pc := 33) dX12_factor_33 rfl ?_
                refine r_iload_n (pc := 34) dX12_factor_34 rfl ?_
                refine r_Vi (pc := 35) (μ' := mX12_named) dX12_factor_35 nX12_156 iX12_named vX12_named kX12_named rfl rfl (rr (by omega) rfl) rfl ⟨Nat.zero_le _, Nat.zero_le _⟩ (fun _ q_ => cvq q_ (ct_M_named hm hu q)) ?_
                rw [e1]
                refine aw_ex fun s2 => aw_pr fun q2 => ?_
                rw [if_neg hn] at q2
                refine r_ireturn (pc := 38) (ty := .int) dX12_factor_38 rfl rfl ⟨Nat.zero_le _, Nat.zero_le _⟩ (fun gE hg => ?_)
                exact ⟨rfl, s2, q2, hg⟩
          · skip
            exact absurd (b2i_n0.mp c13) hd
        · exact absurd (Or.inl rfl) hb2
  | succ d ih =>
    intro hd5 σ h1 h2 h3
    have hop : nI (5 - (d + 1)) = nI 5 ↔ (d + 1) = 0 := by rw [nI_eq (by omega) (by omega)]; omega
    by_cases hd : digB (nxB bs σ) = true
    · obtain ⟨n1, n2, n3⟩ := numE_p (bs := bs) 4 0 σ h1
      have hlt := dig_nx hd
      obtain ⟨v1, v2⟩ := numE_rng (bs := bs) 4 0 0 σ (by omega) (by decide) (by decide)
      rw [facB_dig h3 hd, numB_eq]
      refine ⟨(numE bs 4 0 σ).2, fun _ => ⟨[(numE bs 4 0 σ).2], ?_, fun stk => ?_⟩, fun m h s A hm q => ⟨mV hm, ?_⟩⟩
      · show addL 50 (numE bs 4 0 σ).1.2.2 _ = _
        rw [n3]
        exact addL_ok (by omega)
      · show runS na nb nc [(numE bs 4 0 σ).2] stk = _
        unfold runS stepS
        rw [if_pos (fa_lt.mpr (by rw [show (10000 : Int32).toInt = 10000 from rfl]; omega))]
        rfl
      · refine ct_of (by decide) (fun _ _ => Nat.le_of_ble_eq_true rfl) ?_
        dsimp only [pad, ent]
        refine aw_P (P' := MP m h s A) (fun _ q => q) ?_
        refine r_aload_n (pc := 0) dX12_factor_0 rfl ?_
        refine r_aload_n (pc := 1) dX12_factor_1 rfl ?_
        refine r_getf (pc := 2) (k := 11) dX12_factor_2 hX12 eX12 (by decide) fX12_132 (fun _ q => mo hm q) rfl ?_
        rw [q.2.1]
        refine r_Vi (pc := 5) (μ' := mX12_byteAt) dX12_factor_5 nX12_135 iX12_byteAt vX12_byteAt kX12_byteAt rfl rfl (rr (by omega) rfl) rfl ⟨Nat.zero_le _, Nat.zero_le _⟩ (fun _ q_ => cvq q_ (ct_M_next hm hu hb q h1)) ?_
        refine r_istore_n (pc := 8) dX12_factor_8 rfl (Nat.le_of_ble_eq_true rfl) rfl ?_
        dsimp only [lset]
        refine r_iload_n (pc := 9) dX12_factor_9 rfl ?_
        refine r_Sp (pc := 10) (μ' := mX12_isDigit) dX12_factor_10 nX12_138 sX12_isDigit kX12_isDigit rfl rfl (rr (by omega) rfl) rfl ⟨Nat.zero_le _, Nat.zero_le _⟩ (fun h => ct_M_isDigit h) ?_
        rw [hd]
        refine r_if_eq (pc := 13) 21 dX12_factor_13 (by decide) (fun c13 => ?_) (fun c13 => ?_)
        · skip
          exact absurd c13 (by decide)
        · skip
          refine r_aload_n (pc := 16) dX12_factor_16 rfl ?_
          refine r_Vi (pc := 17) (μ' := mX12_number) dX12_factor_17 nX12_153 iX12_number vX12_number kX12_number rfl rfl (rr (by omega) rfl) rfl ⟨Nat.zero_le _, Nat.zero_le _⟩ (fun _ q_ => cvq q_ (ct_M_number hm hu hb q h1)) ?_
          refine aw_ex fun s2 => aw_pr fun q2 => ?_
          refine r_ireturn (pc := 20) (ty := .int) dX12_factor_20 rfl rfl ⟨Nat.zero_le _, Nat.zero_le _⟩ (fun gE hg => ?_)
          exact ⟨rfl, s2, q2, hg⟩
    · by_cases hn : 0 ≤ nameI (nI u) (nxB bs σ)
      · have hlt := name_nx hn
        have h33 : ¬ nxB bs σ = 33 := fun x => (name_no (Or.inl x)).1 hn
        have h40 : ¬ nxB bs σ = 40 := fun x => (name_no (Or.inr x)).1 hn
        obtain ⟨i, hi⟩ : ∃ i, i = nameI (nI u) (nxB bs σ) := ⟨_, rfl⟩
        have hi3 := name_3 hn
        rw [facB_name h3 hd hn]
        refine ⟨if nameI (nI u) (nxB bs σ) = 0 then na else if nameI (nI u) (nxB bs σ) = 1 then nb else if nameI (nI u) (nxB bs σ) = 2 then nc else 0, fun _ => ⟨[10000 + nameI (nI u) (nxB bs σ)], ?_, fun stk => ?_⟩, fun m h s A hm q => ⟨mV hm, ?_⟩⟩
        · show addL 50 σ.2.2 _ = _
          exact addL_ok (by omega)
        · rcases hi3 with e | e | e
          · rw [e]; rfl
          · rw [e]; rfl
          · rw [e]; rfl
        · refine ct_of (by decide) (fun _ _ => Nat.le_of_ble_eq_true rfl) ?_
          dsimp only [pad, ent]
          refine aw_P (P' := MP m h s A) (fun _ q => q) ?_
          refine r_aload_n (pc := 0) dX12_factor_0 rfl ?_
          refine r_aload_n (pc := 1) dX12_factor_1 rfl ?_
          refine r_getf (pc := 2) (k := 11) dX12_factor_2 hX12 eX12 (by decide) fX12_132 (fun _ q => mo hm q) rfl ?_
          rw [q.2.1]
          refine r_Vi (pc := 5) (μ' := mX12_byteAt) dX12_factor_5 nX12_135 iX12_byteAt vX12_byteAt kX12_byteAt rfl rfl (rr (by omega) rfl) rfl ⟨Nat.zero_le _, Nat.zero_le _⟩ (fun _ q_ => cvq q_ (ct_M_next hm hu hb q h1)) ?_
          refine r_istore_n (pc := 8) dX12_factor_8 rfl (Nat.le_of_ble_eq_true rfl) rfl ?_
          dsimp only [lset]
          refine r_iload_n (pc := 9) dX12_factor_9 rfl ?_
          refine r_Sp (pc := 10) (μ' := mX12_isDigit) dX12_factor_10 nX12_138 sX12_isDigit kX12_isDigit rfl rfl (rr (by omega) rfl) rfl ⟨Nat.zero_le _, Nat.zero_le _⟩ (fun h => ct_M_isDigit h) ?_
          refine r_if_eq (pc := 13) 21 dX12_factor_13 (by decide) (fun c13 => ?_) (fun c13 => ?_)
          · skip
            refine r_iload_n (pc := 21) dX12_factor_21 rfl ?_
            refine r_bipush (pc := 22) (v := 33) dX12_factor_22 (by decide) ?_
            refine r_icmp_eq (pc := 24) 39 dX12_factor_24 (by decide) (fun c24 => ?_) (fun c24 => ?_)
            · skip
              exact absurd c24 h33
            · skip
              refine r_iload_n (pc := 27) dX12_factor_27 rfl ?_
              refine r_bipush (pc := 28) (v := 40) dX12_factor_28 (by decide) ?_
              refine r_icmp_eq (pc := 30) 39 dX12_factor_30 (by decide) (fun c30 => ?_) (fun c30 => ?_)
              · skip
                exact absurd c30 h40
              · skip
                refine r_aload_n (pc := 33) dX12_factor_33 rfl ?_
                refine r_iload_n (pc := 34) dX12_factor_34 rfl ?_
                refine r_Vi (pc := 35) (μ' := mX12_named) dX12_factor_35 nX12_156 iX12_named vX12_named kX12_named rfl rfl (rr (by omega) rfl) rfl ⟨Nat.zero_le _, Nat.zero_le _⟩ (fun _ q_ => cvq q_ (ct_M_named hm hu q)) ?_
                refine aw_ex fun s2 => aw_pr fun q2 => ?_
                rw [if_pos hn] at q2
                refine r_ireturn (pc := 38) (ty := .int) dX12_factor_38 rfl rfl ⟨Nat.zero_le _, Nat.zero_le _⟩ (fun gE hg => ?_)
                exact ⟨rfl, s2, q2, hg⟩
          · skip
            exact absurd (b2i_n0.mp c13) hd
      · by_cases hb2 : (d + 1) = 0 ∨ (¬ nxB bs σ = 33 ∧ ¬ nxB bs σ = 40)
        · rw [facB_bad h3 hd hn _ hb2]
          refine ⟨0, fun g => absurd g (by show ¬ false = true; decide), fun m h s A hm q => ⟨mV hm, ?_⟩⟩
          refine ct_of (by decide) (fun _ _ => Nat.le_of_ble_eq_true rfl) ?_
          dsimp only [pad, ent]
          have e1 : (if nameI (nI u) (nxB bs σ) = 0 then na else if nameI (nI u) (nxB bs σ) = 1 then nb else if nameI (nI u) (nxB bs σ) = 2 then nc else 0) = 0 := by
            rw [if_neg (fun x => hn (by rw [x]; decide)), if_neg (fun x => hn (by rw [x]; decide)), if_neg (fun x => hn (by rw [x]; decide))]
          refine aw_P (P' := MP m h s A) (fun _ q => q) ?_
          refine r_aload_n (pc := 0) dX12_factor_0 rfl ?_
          refine r_aload_n (pc := 1) dX12_factor_1 rfl ?_
          refine r_getf (pc := 2) (k := 11) dX12_factor_2 hX12 eX12 (by decide) fX12_132 (fun _ q => mo hm q) rfl ?_
          rw [q.2.1]
          refine r_Vi (pc := 5) (μ' := mX12_byteAt) dX12_factor_5 nX12_135 iX12_byteAt vX12_byteAt kX12_byteAt rfl rfl (rr (by omega) rfl) rfl ⟨Nat.zero_le _, Nat.zero_le _⟩ (fun _ q_ => cvq q_ (ct_M_next hm hu hb q h1)) ?_
          refine r_istore_n (pc := 8) dX12_factor_8 rfl (Nat.le_of_ble_eq_true rfl) rfl ?_
          dsimp only [lset]
          refine r_iload_n (pc := 9) dX12_factor_9 rfl ?_
          refine r_Sp (pc := 10) (μ' := mX12_isDigit) dX12_factor_10 nX12_138 sX12_isDigit kX12_isDigit rfl rfl (rr (by omega) rfl) rfl ⟨Nat.zero_le _, Nat.zero_le _⟩ (fun h => ct_M_isDigit h) ?_
          refine r_if_eq (pc := 13) 21 dX12_factor_13 (by decide) (fun c13 => ?_) (fun c13 => ?_)
          · skip
            refine r_iload_n (pc := 21) dX12_factor_21 rfl ?_
            refine r_bipush (pc := 22) (v := 33) dX12_factor_22 (by decide) ?_
            refine r_icmp_eq (pc := 24) 39 dX12_factor_24 (by decide) (fun c24 => ?_) (fun c24 => ?_)
            · skip
              refine r_aload_n (pc := 39) dX12_factor_39 rfl ?_
              refine r_getf (pc := 40) (k := 13) dX12_factor_40 hX12 eX12 (by decide) fX12_159 (fun _ q => mo hm q) rfl ?_
              refine r_iconst (pc := 43) (v := 5) dX12_factor_43 (by decide) ?_
              rw [q.2.2.2.1]
              refine r_icmp_ne (pc := 44) 52 dX12_factor_44 (by decide) (fun c44 => ?_) (fun c44 => ?_)
              · skip
                exact absurd (show nI (5 - (d + 1)) = 5 from hop.mpr (by
                  rcases hb2 with e | e
                  · exact e
                  · first
                    | exact absurd c24 e.1
                    | exact absurd c30 e.2)) c44
              · skip
                refine r_aload_n (pc := 47) dX12_factor_47 rfl ?_
                refine r_Vi (pc := 48) (μ' := mX12_fails) dX12_factor_48 nX12_141 iX12_fails vX12_fails kX12_fails rfl rfl (rr (by omega) rfl) rfl ⟨Nat.zero_le _, Nat.zero_le _⟩ (fun _ q_ => cvq q_ (ct_M_fails hm)) ?_
                refine r_ireturn (pc := 51) (ty := .int) dX12_factor_51 rfl rfl ⟨Nat.zero_le _, Nat.zero_le _⟩ (fun gE hg => ?_)
                exact ⟨rfl, _, ⟨q.fl, (sFr.rf s).up (by omega)⟩, hg⟩
            · skip
              refine r_iload_n (pc := 27) dX12_factor_27 rfl ?_
              refine r_bipush (pc := 28) (v := 40) dX12_factor_28 (by decide) ?_
              refine r_icmp_eq (pc := 30) 39 dX12_factor_30 (by decide) (fun c30 => ?_) (fun c30 => ?_)
              · skip
                refine r_aload_n (pc := 39) dX12_factor_39 rfl ?_
                refine r_getf (pc := 40) (k := 13) dX12_factor_40 hX12 eX12 (by decide) fX12_159 (fun _ q => mo hm q) rfl ?_
                refine r_iconst (pc := 43) (v := 5) dX12_factor_43 (by decide) ?_
                rw [q.2.2.2.1]
                refine r_icmp_ne (pc := 44) 52 dX12_factor_44 (by decide) (fun c44 => ?_) (fun c44 => ?_)
                · skip
                  exact absurd (show nI (5 - (d + 1)) = 5 from hop.mpr (by
                    rcases hb2 with e | e
                    · exact e
                    · first
                      | exact absurd c24 e.1
                      | exact absurd c30 e.2)) c44
                · skip
                  refine r_aload_n (pc := 47) dX12_factor_47 rfl ?_
                  refine r_Vi (pc := 48) (μ' := mX12_fails) dX12_factor_48 nX12_141 iX12_fails vX12_fails kX12_fails rfl rfl (rr (by omega) rfl) rfl ⟨Nat.zero_le _, Nat.zero_le _⟩ (fun _ q_ => cvq q_ (ct_M_fails hm)) ?_
                  refine r_ireturn (pc := 51) (ty := .int) dX12_factor_51 rfl rfl ⟨Nat.zero_le _, Nat.zero_le _⟩ (fun gE hg => ?_)
                  exact ⟨rfl, _, ⟨q.fl, (sFr.rf s).up (by omega)⟩, hg⟩
              · skip
                refine r_aload_n (pc := 33) dX12_factor_33 rfl ?_
                refine r_iload_n (pc := 34) dX12_factor_34 rfl ?_
                refine r_Vi (pc := 35) (μ' := mX12_named) dX12_factor_35 nX12_156 iX12_named vX12_named kX12_named rfl rfl (rr (by omega) rfl) rfl ⟨Nat.zero_le _, Nat.zero_le _⟩ (fun _ q_ => cvq q_ (ct_M_named hm hu q)) ?_
                rw [e1]
                refine aw_ex fun s2 => aw_pr fun q2 => ?_
                rw [if_neg hn] at q2
                refine r_ireturn (pc := 38) (ty := .int) dX12_factor_38 rfl rfl ⟨Nat.zero_le _, Nat.zero_le _⟩ (fun gE hg => ?_)
                exact ⟨rfl, s2, q2, hg⟩
          · skip
            exact absurd (b2i_n0.mp c13) hd
        · have hb3 : nxB bs σ = 33 ∨ nxB bs σ = 40 := Decidable.byContradiction fun x => hb2 (Or.inr ⟨fun y => x (Or.inl y), fun y => x (Or.inr y)⟩)
          have hlt : σ.1 < bs.length := by
            rcases hb3 with e | e
            · exact nx_in (l := [33]) (by rw [e]; exact List.mem_singleton.mpr rfl) (by decide)
            · exact nx_in (l := [40]) (by rw [e]; exact List.mem_singleton.mpr rfl) (by decide)
          have ih2 : MdC u na nb nc bs (5 - d) (4 + 6 * d) mX12_factor (facB (nI u) bs d) := ih (by omega)
          have e56 : 5 - (d + 1) + 1 = 5 - d := by omega
          have hnop : ¬ nI (5 - (d + 1)) = 5 := fun x => by have := hop.mp x; omega
          by_cases h33 : nxB bs σ = 33
          · obtain ⟨w, hw, hct⟩ := ih2 (adB σ) hlt (by show σ.2.2.length ≤ σ.1 + 1; omega) h3
            obtain ⟨r1, r2, r3⟩ := PF.fac (use := nI u) (bs := bs) d (adB σ) hlt h3
            have r4 := r3 1 (by show σ.2.2.length + 1 ≤ σ.1 + 1; omega)
            have ec : facB (nI u) bs (d + 1) σ = emB 33 (facB (nI u) bs d (adB σ)) := by
              rw [facB, if_neg (by rw [h3]; exact fun x => absurd x (by decide)), if_neg hd, if_neg hn, if_pos h33]
            rw [ec]
            refine ⟨if w = 0 then 1 else 0, fun g => ?_, fun m h s A hm q => ⟨mV hm, ?_⟩⟩
            · obtain ⟨e, he, hr⟩ := hw g
              refine ⟨e ++ [20033], ?_, fun stk => ?_⟩
              · show addL 50 (facB (nI u) bs d (adB σ)).2.2 (20000 + 33) = _
                rw [addL_ok (by omega), he, List.append_assoc]; rfl
              · rw [runS_app, hr]; rfl
            · refine ct_of (by decide) (fun _ _ => Nat.le_of_ble_eq_true rfl) ?_
              dsimp only [pad, ent]
              refine aw_P (P' := MP m h s A) (fun _ q => q) ?_
              have qo : MdS u na nb nc bs (5 - d) (adB σ) (upd (upd s 13 (nI (5 - (d + 1)) + 1)) 11 (nI (σ.1 + 1))) A := (q.opn (by rw [nI_1, e56])).ad
              refine r_aload_n (pc := 0) dX12_factor_0 rfl ?_
              refine r_aload_n (pc := 1) dX12_factor_1 rfl ?_
              refine r_getf (pc := 2) (k := 11) dX12_factor_2 hX12 eX12 (by decide) fX12_132 (fun _ q => mo hm q) rfl ?_
              rw [q.2.1]
              refine r_Vi (pc := 5) (μ' := mX12_byteAt) dX12_factor_5 nX12_135 iX12_byteAt vX12_byteAt kX12_byteAt rfl rfl (rr (by omega) rfl) rfl ⟨Nat.zero_le _, Nat.zero_le _⟩ (fun _ q_ => cvq q_ (ct_M_next hm hu hb q h1)) ?_
              refine r_istore_n (pc := 8) dX12_factor_8 rfl (Nat.le_of_ble_eq_true rfl) rfl ?_
              dsimp only [lset]
              refine r_iload_n (pc := 9) dX12_factor_9 rfl ?_
              refine r_Sp (pc := 10) (μ' := mX12_isDigit) dX12_factor_10 nX12_138 sX12_isDigit kX12_isDigit rfl rfl (rr (by omega) rfl) rfl ⟨Nat.zero_le _, Nat.zero_le _⟩ (fun h => ct_M_isDigit h) ?_
              refine r_if_eq (pc := 13) 21 dX12_factor_13 (by decide) (fun c13 => ?_) (fun c13 => ?_)
              · skip
                refine r_iload_n (pc := 21) dX12_factor_21 rfl ?_
                refine r_bipush (pc := 22) (v := 33) dX12_factor_22 (by decide) ?_
                refine r_icmp_eq (pc := 24) 39 dX12_factor_24 (by decide) (fun c24 => ?_) (fun c24 => ?_)
                · skip
                  refine r_aload_n (pc := 39) dX12_factor_39 rfl ?_
                  refine r_getf (pc := 40) (k := 13) dX12_factor_40 hX12 eX12 (by decide) fX12_159 (fun _ q => mo hm q) rfl ?_
                  rw [q.2.2.2.1]
                  refine r_iconst (pc := 43) (v := 5) dX12_factor_43 (by decide) ?_
                  refine r_icmp_ne (pc := 44) 52 dX12_factor_44 (by decide) (fun c44 => ?_) (fun c44 => ?_)
                  · skip
                    refine r_aload_n (pc := 52) dX12_factor_52 rfl ?_
                    refine r_dup (pc := 53) dX12_factor_53 rfl ?_
                    refine r_getf (pc := 54) (k := 13) dX12_factor_54 hX12 eX12 (by decide) fX12_159 (fun _ q => mo hm q) rfl ?_
                    rw [q.2.2.2.1]
                    refine r_iconst (pc := 57) (v := 1) dX12_factor_57 (by decide) ?_
                    refine r_iadd (pc := 58) dX12_factor_58 ?_
                    refine r_mp (pc := 59) (k := 13) hm dX12_factor_59 fX12_159 (by decide) rfl rfl (fun _ _ => rfl) (fun _ _ => rfl) rfl ?_
                    refine r_aload_n (pc := 62) dX12_factor_62 rfl ?_
                    refine r_dup (pc := 63) dX12_factor_63 rfl ?_
                    refine r_getf (pc := 64) (k := 11) dX12_factor_64 hX12 eX12 (by decide) fX12_132 (fun _ q => mo hm q) rfl ?_
                    rw [show upd s 13 (nI (5 - (d + 1)) + 1) 11 = nI σ.1 from q.2.1]
                    refine r_iconst (pc := 67) (v := 1) dX12_factor_67 (by decide) ?_
                    refine r_iadd (pc := 68) dX12_factor_68 ?_
                    rw [nI_1]
                    refine r_mp (pc := 69) (k := 11) hm dX12_factor_69 fX12_132 (by decide) rfl rfl (fun _ _ => rfl) (fun _ _ => rfl) rfl ?_
                    refine r_iload_n (pc := 72) dX12_factor_72 rfl ?_
                    refine r_bipush (pc := 73) (v := 33) dX12_factor_73 (by decide) ?_
                    refine r_icmp_ne (pc := 75) 85 dX12_factor_75 (by decide) (fun c75 => ?_) (fun c75 => ?_)
                    · skip
                      exact absurd h33 c75
                    · skip
                      refine r_aload_n (pc := 78) dX12_factor_78 rfl ?_
                      refine r_Vi (pc := 79) (μ' := mX12_factor) dX12_factor_79 nX12_162 iX12_factor vX12_factor kX12_factor rfl rfl (rr (by omega) rfl) rfl ⟨Nat.zero_le _, Nat.zero_le _⟩ (fun _ q_ => cvq q_ (hct m h _ A hm qo)) ?_
                      refine aw_ex fun s2 => aw_pr fun q2 => ?_
                      refine r_goto (pc := 82) 89 dX12_factor_82 (by decide) ?_
                      refine r_istore_n (pc := 89) dX12_factor_89 rfl (Nat.le_of_ble_eq_true rfl) rfl ?_
                      dsimp only [lset]
                      refine r_aload_n (pc := 90) dX12_factor_90 rfl ?_
                      refine r_dup (pc := 91) dX12_factor_91 rfl ?_
                      refine r_getf (pc := 92) (k := 13) dX12_factor_92 hX12 eX12 (by decide) fX12_159 (fun _ q => mo hm q) rfl ?_
                      rw [q2.1.2.2.2.1]
                      refine r_iconst (pc := 95) (v := 1) dX12_factor_95 (by decide) ?_
                      refine r_isub (pc := 96) dX12_factor_96 ?_
                      refine r_mp (pc := 97) (k := 13) hm dX12_factor_97 fX12_159 (by decide) rfl rfl (fun _ _ => rfl) (fun _ _ => rfl) rfl ?_
                      refine r_iload_n (pc := 100) dX12_factor_100 rfl ?_
                      refine r_bipush (pc := 101) (v := 33) dX12_factor_101 (by decide) ?_
                      refine r_icmp_ne (pc := 103) 116 dX12_factor_103 (by decide) (fun c103 => ?_) (fun c103 => ?_)
                      · skip
                        exact absurd h33 c103
                      · skip
                        refine r_iload_n (pc := 106) dX12_factor_106 rfl ?_
                        refine r_if_ne (pc := 107) 114 dX12_factor_107 (by decide) (fun c107 => ?_) (fun c107 => ?_)
                        · skip
                          rw [if_neg c107]
                          refine r_iconst (pc := 114) (v := 0) dX12_factor_114 (by decide) ?_
                          refine r_ireturn (pc := 115) (ty := .int) dX12_factor_115 rfl rfl ⟨Nat.zero_le _, Nat.zero_le _⟩ (fun gE hg => ?_)
                          exact ⟨rfl, _, ⟨q2.1.opn (by rw [show (5 - d) = (5 - (d + 1)) + 1 by omega]; exact nI_pred _), ((((sFr.rf s).up (by omega)).up (by omega)).tr q2.2).up (by omega)⟩, hg⟩
                        · skip
                          rw [if_pos c107]
                          refine r_iconst (pc := 110) (v := 1) dX12_factor_110 (by decide) ?_
                          refine r_goto (pc := 111) 115 dX12_factor_111 (by decide) ?_
                          refine r_ireturn (pc := 115) (ty := .int) dX12_factor_115 rfl rfl ⟨Nat.zero_le _, Nat.zero_le _⟩ (fun gE hg => ?_)
                          exact ⟨rfl, _, ⟨q2.1.opn (by rw [show (5 - d) = (5 - (d + 1)) + 1 by omega]; exact nI_pred _), ((((sFr.rf s).up (by omega)).up (by omega)).tr q2.2).up (by omega)⟩, hg⟩
                  · skip
                    exact absurd c44 hnop
                · skip
                  exact absurd h33 c24
              · skip
                exact absurd (b2i_n0.mp c13) hd
          · have h40 : nxB bs σ = 40 := by
              rcases hb3 with e | e
              · exact absurd e h33
              · exact e
            obtain ⟨w, hw, hct⟩ := ct_M_all (by omega) hu hb (PF.fac (use := nI u) (bs := bs) d) ih2 (adB σ) hlt (by show σ.2.2.length ≤ σ.1 + 1; omega) h3
            obtain ⟨r1, r2, r3⟩ := (PF.fac (use := nI u) (bs := bs) d).all (adB σ) hlt h3
            have r4 := r3 1 (by show σ.2.2.length + 1 ≤ σ.1 + 1; omega)
            obtain ⟨τ, hτ⟩ : ∃ τ, τ = allB bs (facB (nI u) bs d) (adB σ) := ⟨_, rfl⟩
            have ec : facB (nI u) bs (d + 1) σ = if isB bs 41 τ = true then adB τ else flB τ := by
              rw [facB, if_neg (by rw [h3]; exact fun x => absurd x (by decide)), if_neg hd, if_neg hn, if_neg h33, if_pos h40, ← hτ]
            rw [← hτ] at hw hct r1 r2 r3 r4
            rw [ec]
            by_cases hpar : isB bs 41 τ = true
            · rw [if_pos hpar]
              obtain ⟨g1, g2⟩ := isB_op hpar
              refine ⟨w, hw, fun m h s A hm q => ⟨mV hm, ?_⟩⟩
              refine ct_of (by decide) (fun _ _ => Nat.le_of_ble_eq_true rfl) ?_
              dsimp only [pad, ent]
              refine aw_P (P' := MP m h s A) (fun _ q => q) ?_
              have qo : MdS u na nb nc bs (5 - d) (adB σ) (upd (upd s 13 (nI (5 - (d + 1)) + 1)) 11 (nI (σ.1 + 1))) A := (q.opn (by rw [nI_1, e56])).ad
              refine r_aload_n (pc := 0) dX12_factor_0 rfl ?_
              refine r_aload_n (pc := 1) dX12_factor_1 rfl ?_
              refine r_getf (pc := 2) (k := 11) dX12_factor_2 hX12 eX12 (by decide) fX12_132 (fun _ q => mo hm q) rfl ?_
              rw [q.2.1]
              refine r_Vi (pc := 5) (μ' := mX12_byteAt) dX12_factor_5 nX12_135 iX12_byteAt vX12_byteAt kX12_byteAt rfl rfl (rr (by omega) rfl) rfl ⟨Nat.zero_le _, Nat.zero_le _⟩ (fun _ q_ => cvq q_ (ct_M_next hm hu hb q h1)) ?_
              refine r_istore_n (pc := 8) dX12_factor_8 rfl (Nat.le_of_ble_eq_true rfl) rfl ?_
              dsimp only [lset]
              refine r_iload_n (pc := 9) dX12_factor_9 rfl ?_
              refine r_Sp (pc := 10) (μ' := mX12_isDigit) dX12_factor_10 nX12_138 sX12_isDigit kX12_isDigit rfl rfl (rr (by omega) rfl) rfl ⟨Nat.zero_le _, Nat.zero_le _⟩ (fun h => ct_M_isDigit h) ?_
              refine r_if_eq (pc := 13) 21 dX12_factor_13 (by decide) (fun c13 => ?_) (fun c13 => ?_)
              · skip
                refine r_iload_n (pc := 21) dX12_factor_21 rfl ?_
                refine r_bipush (pc := 22) (v := 33) dX12_factor_22 (by decide) ?_
                refine r_icmp_eq (pc := 24) 39 dX12_factor_24 (by decide) (fun c24 => ?_) (fun c24 => ?_)
                · skip
                  exact absurd c24 h33
                · skip
                  refine r_iload_n (pc := 27) dX12_factor_27 rfl ?_
                  refine r_bipush (pc := 28) (v := 40) dX12_factor_28 (by decide) ?_
                  refine r_icmp_eq (pc := 30) 39 dX12_factor_30 (by decide) (fun c30 => ?_) (fun c30 => ?_)
                  · skip
                    refine r_aload_n (pc := 39) dX12_factor_39 rfl ?_
                    refine r_getf (pc := 40) (k := 13) dX12_factor_40 hX12 eX12 (by decide) fX12_159 (fun _ q => mo hm q) rfl ?_
                    rw [q.2.2.2.1]
                    refine r_iconst (pc := 43) (v := 5) dX12_factor_43 (by decide) ?_
                    refine r_icmp_ne (pc := 44) 52 dX12_factor_44 (by decide) (fun c44 => ?_) (fun c44 => ?_)
                    · skip
                      refine r_aload_n (pc := 52) dX12_factor_52 rfl ?_
                      refine r_dup (pc := 53) dX12_factor_53 rfl ?_
                      refine r_getf (pc := 54) (k := 13) dX12_factor_54 hX12 eX12 (by decide) fX12_159 (fun _ q => mo hm q) rfl ?_
                      rw [q.2.2.2.1]
                      refine r_iconst (pc := 57) (v := 1) dX12_factor_57 (by decide) ?_
                      refine r_iadd (pc := 58) dX12_factor_58 ?_
                      refine r_mp (pc := 59) (k := 13) hm dX12_factor_59 fX12_159 (by decide) rfl rfl (fun _ _ => rfl) (fun _ _ => rfl) rfl ?_
                      refine r_aload_n (pc := 62) dX12_factor_62 rfl ?_
                      refine r_dup (pc := 63) dX12_factor_63 rfl ?_
                      refine r_getf (pc := 64) (k := 11) dX12_factor_64 hX12 eX12 (by decide) fX12_132 (fun _ q => mo hm q) rfl ?_
                      rw [show upd s 13 (nI (5 - (d + 1)) + 1) 11 = nI σ.1 from q.2.1]
                      refine r_iconst (pc := 67) (v := 1) dX12_factor_67 (by decide) ?_
                      refine r_iadd (pc := 68) dX12_factor_68 ?_
                      rw [nI_1]
                      refine r_mp (pc := 69) (k := 11) hm dX12_factor_69 fX12_132 (by decide) rfl rfl (fun _ _ => rfl) (fun _ _ => rfl) rfl ?_
                      refine r_iload_n (pc := 72) dX12_factor_72 rfl ?_
                      refine r_bipush (pc := 73) (v := 33) dX12_factor_73 (by decide) ?_
                      refine r_icmp_ne (pc := 75) 85 dX12_factor_75 (by decide) (fun c75 => ?_) (fun c75 => ?_)
                      · skip
                        refine r_aload_n (pc := 85) dX12_factor_85 rfl ?_
                        refine r_Vi (pc := 86) (μ' := mX12_whole) dX12_factor_86 nX12_165 iX12_whole vX12_whole kX12_whole rfl rfl (rr (by omega) rfl) rfl ⟨Nat.zero_le _, Nat.zero_le _⟩ (fun _ q_ => cvq q_ (hct m h _ A hm qo)) ?_
                        refine aw_ex fun s2 => aw_pr fun q2 => ?_
                        have q3 : MdS u na nb nc bs (5 - (d + 1)) τ (upd s2 13 (nI (5 - d) - 1)) A := q2.1.opn (by rw [show (5 - d) = (5 - (d + 1)) + 1 by omega]; exact nI_pred _)
                        refine r_istore_n (pc := 89) dX12_factor_89 rfl (Nat.le_of_ble_eq_true rfl) rfl ?_
                        dsimp only [lset]
                        refine r_aload_n (pc := 90) dX12_factor_90 rfl ?_
                        refine r_dup (pc := 91) dX12_factor_91 rfl ?_
                        refine r_getf (pc := 92) (k := 13) dX12_factor_92 hX12 eX12 (by decide) fX12_159 (fun _ q => mo hm q) rfl ?_
                        rw [q2.1.2.2.2.1]
                        refine r_iconst (pc := 95) (v := 1) dX12_factor_95 (by decide) ?_
                        refine r_isub (pc := 96) dX12_factor_96 ?_
                        refine r_mp (pc := 97) (k := 13) hm dX12_factor_97 fX12_159 (by decide) rfl rfl (fun _ _ => rfl) (fun _ _ => rfl) rfl ?_
                        refine r_iload_n (pc := 100) dX12_factor_100 rfl ?_
                        refine r_bipush (pc := 101) (v := 33) dX12_factor_101 (by decide) ?_
                        refine r_icmp_ne (pc := 103) 116 dX12_factor_103 (by decide) (fun c103 => ?_) (fun c103 => ?_)
                        · skip
                          refine r_aload_n (pc := 116) dX12_factor_116 rfl ?_
                          refine r_getf (pc := 117) (k := 17) dX12_factor_117 hX12 eX12 (by decide) fX12_129 (fun _ q => mo hm q) rfl ?_
                          rw [show upd s2 13 (nI (5 - d) - 1) 17 = b2i τ.2.1 from q2.1.2.2.2.2.2.2.2.1, g1]
                          refine r_if_eq (pc := 120) 148 dX12_factor_120 (by decide) (fun c120 => ?_) (fun c120 => ?_)
                          · skip
                            exact absurd c120 (by decide)
                          · skip
                            refine r_aload_n (pc := 123) dX12_factor_123 rfl ?_
                            refine r_aload_n (pc := 124) dX12_factor_124 rfl ?_
                            refine r_getf (pc := 125) (k := 11) dX12_factor_125 hX12 eX12 (by decide) fX12_132 (fun _ q => mo hm q) rfl ?_
                            rw [show upd s2 13 (nI (5 - d) - 1) 11 = nI τ.1 from q2.1.2.1]
                            refine r_Vi (pc := 128) (μ' := mX12_byteAt) dX12_factor_128 nX12_135 iX12_byteAt vX12_byteAt kX12_byteAt rfl rfl (rr (by omega) rfl) rfl ⟨Nat.zero_le _, Nat.zero_le _⟩ (fun _ q_ => cvq q_ (ct_M_next hm hu hb q3 r1)) ?_
                            refine r_bipush (pc := 131) (v := 41) dX12_factor_131 (by decide) ?_
                            refine r_icmp_ne (pc := 133) 148 dX12_factor_133 (by decide) (fun c133 => ?_) (fun c133 => ?_)
                            · skip
                              exact absurd g2 c133
                            · skip
                              refine r_aload_n (pc := 136) dX12_factor_136 rfl ?_
                              refine r_dup (pc := 137) dX12_factor_137 rfl ?_
                              refine r_getf (pc := 138) (k := 11) dX12_factor_138 hX12 eX12 (by decide) fX12_132 (fun _ q => mo hm q) rfl ?_
                              rw [show upd s2 13 (nI (5 - d) - 1) 11 = nI τ.1 from q2.1.2.1]
                              refine r_iconst (pc := 141) (v := 1) dX12_factor_141 (by decide) ?_
                              refine r_iadd (pc := 142) dX12_factor_142 ?_
                              rw [nI_1]
                              refine r_mp (pc := 143) (k := 11) hm dX12_factor_143 fX12_132 (by decide) rfl rfl (fun _ _ => rfl) (fun _ _ => rfl) rfl ?_
                              refine r_iload_n (pc := 146) dX12_factor_146 rfl ?_
                              refine r_ireturn (pc := 147) (ty := .int) dX12_factor_147 rfl rfl ⟨Nat.zero_le _, Nat.zero_le _⟩ (fun gE hg => ?_)
                              exact ⟨rfl, _, ⟨q3.ad, (((((sFr.rf s).up (by omega)).up (by omega)).tr q2.2).up (by omega)).up (by omega)⟩, hg⟩
                        · skip
                          exact absurd c103 h33
                      · skip
                        exact absurd c75 h33
                    · skip
                      exact absurd c44 hnop
                  · skip
                    exact absurd h40 c30
              · skip
                exact absurd (b2i_n0.mp c13) hd
            · rw [if_neg hpar]
              refine ⟨0, fun g => absurd g (by show ¬ false = true; decide), fun m h s A hm q => ⟨mV hm, ?_⟩⟩
              refine ct_of (by decide) (fun _ _ => Nat.le_of_ble_eq_true rfl) ?_
              dsimp only [pad, ent]
              refine aw_P (P' := MP m h s A) (fun _ q => q) ?_
              have qo : MdS u na nb nc bs (5 - d) (adB σ) (upd (upd s 13 (nI (5 - (d + 1)) + 1)) 11 (nI (σ.1 + 1))) A := (q.opn (by rw [nI_1, e56])).ad
              refine r_aload_n (pc := 0) dX12_factor_0 rfl ?_
              refine r_aload_n (pc := 1) dX12_factor_1 rfl ?_
              refine r_getf (pc := 2) (k := 11) dX12_factor_2 hX12 eX12 (by decide) fX12_132 (fun _ q => mo hm q) rfl ?_
              rw [q.2.1]
              refine r_Vi (pc := 5) (μ' := mX12_byteAt) dX12_factor_5 nX12_135 iX12_byteAt vX12_byteAt kX12_byteAt rfl rfl (rr (by omega) rfl) rfl ⟨Nat.zero_le _, Nat.zero_le _⟩ (fun _ q_ => cvq q_ (ct_M_next hm hu hb q h1)) ?_
              refine r_istore_n (pc := 8) dX12_factor_8 rfl (Nat.le_of_ble_eq_true rfl) rfl ?_
              dsimp only [lset]
              refine r_iload_n (pc := 9) dX12_factor_9 rfl ?_
              refine r_Sp (pc := 10) (μ' := mX12_isDigit) dX12_factor_10 nX12_138 sX12_isDigit kX12_isDigit rfl rfl (rr (by omega) rfl) rfl ⟨Nat.zero_le _, Nat.zero_le _⟩ (fun h => ct_M_isDigit h) ?_
              refine r_if_eq (pc := 13) 21 dX12_factor_13 (by decide) (fun c13 => ?_) (fun c13 => ?_)
              · skip
                refine r_iload_n (pc := 21) dX12_factor_21 rfl ?_
                refine r_bipush (pc := 22) (v := 33) dX12_factor_22 (by decide) ?_
                refine r_icmp_eq (pc := 24) 39 dX12_factor_24 (by decide) (fun c24 => ?_) (fun c24 => ?_)
                · skip
                  exact absurd c24 h33
                · skip
                  refine r_iload_n (pc := 27) dX12_factor_27 rfl ?_
                  refine r_bipush (pc := 28) (v := 40) dX12_factor_28 (by decide) ?_
                  refine r_icmp_eq (pc := 30) 39 dX12_factor_30 (by decide) (fun c30 => ?_) (fun c30 => ?_)
                  · skip
                    refine r_aload_n (pc := 39) dX12_factor_39 rfl ?_
                    refine r_getf (pc := 40) (k := 13) dX12_factor_40 hX12 eX12 (by decide) fX12_159 (fun _ q => mo hm q) rfl ?_
                    rw [q.2.2.2.1]
                    refine r_iconst (pc := 43) (v := 5) dX12_factor_43 (by decide) ?_
                    refine r_icmp_ne (pc := 44) 52 dX12_factor_44 (by decide) (fun c44 => ?_) (fun c44 => ?_)
                    · skip
                      refine r_aload_n (pc := 52) dX12_factor_52 rfl ?_
                      refine r_dup (pc := 53) dX12_factor_53 rfl ?_
                      refine r_getf (pc := 54) (k := 13) dX12_factor_54 hX12 eX12 (by decide) fX12_159 (fun _ q => mo hm q) rfl ?_
                      rw [q.2.2.2.1]
                      refine r_iconst (pc := 57) (v := 1) dX12_factor_57 (by decide) ?_
                      refine r_iadd (pc := 58) dX12_factor_58 ?_
                      refine r_mp (pc := 59) (k := 13) hm dX12_factor_59 fX12_159 (by decide) rfl rfl (fun _ _ => rfl) (fun _ _ => rfl) rfl ?_
                      refine r_aload_n (pc := 62) dX12_factor_62 rfl ?_
                      refine r_dup (pc := 63) dX12_factor_63 rfl ?_
                      refine r_getf (pc := 64) (k := 11) dX12_factor_64 hX12 eX12 (by decide) fX12_132 (fun _ q => mo hm q) rfl ?_
                      rw [show upd s 13 (nI (5 - (d + 1)) + 1) 11 = nI σ.1 from q.2.1]
                      refine r_iconst (pc := 67) (v := 1) dX12_factor_67 (by decide) ?_
                      refine r_iadd (pc := 68) dX12_factor_68 ?_
                      rw [nI_1]
                      refine r_mp (pc := 69) (k := 11) hm dX12_factor_69 fX12_132 (by decide) rfl rfl (fun _ _ => rfl) (fun _ _ => rfl) rfl ?_
                      refine r_iload_n (pc := 72) dX12_factor_72 rfl ?_
                      refine r_bipush (pc := 73) (v := 33) dX12_factor_73 (by decide) ?_
                      refine r_icmp_ne (pc := 75) 85 dX12_factor_75 (by decide) (fun c75 => ?_) (fun c75 => ?_)
                      · skip
                        refine r_aload_n (pc := 85) dX12_factor_85 rfl ?_
                        refine r_Vi (pc := 86) (μ' := mX12_whole) dX12_factor_86 nX12_165 iX12_whole vX12_whole kX12_whole rfl rfl (rr (by omega) rfl) rfl ⟨Nat.zero_le _, Nat.zero_le _⟩ (fun _ q_ => cvq q_ (hct m h _ A hm qo)) ?_
                        refine aw_ex fun s2 => aw_pr fun q2 => ?_
                        have q3 : MdS u na nb nc bs (5 - (d + 1)) τ (upd s2 13 (nI (5 - d) - 1)) A := q2.1.opn (by rw [show (5 - d) = (5 - (d + 1)) + 1 by omega]; exact nI_pred _)
                        refine r_istore_n (pc := 89) dX12_factor_89 rfl (Nat.le_of_ble_eq_true rfl) rfl ?_
                        dsimp only [lset]
                        refine r_aload_n (pc := 90) dX12_factor_90 rfl ?_
                        refine r_dup (pc := 91) dX12_factor_91 rfl ?_
                        refine r_getf (pc := 92) (k := 13) dX12_factor_92 hX12 eX12 (by decide) fX12_159 (fun _ q => mo hm q) rfl ?_
                        rw [q2.1.2.2.2.1]
                        refine r_iconst (pc := 95) (v := 1) dX12_factor_95 (by decide) ?_
                        refine r_isub (pc := 96) dX12_factor_96 ?_
                        refine r_mp (pc := 97) (k := 13) hm dX12_factor_97 fX12_159 (by decide) rfl rfl (fun _ _ => rfl) (fun _ _ => rfl) rfl ?_
                        refine r_iload_n (pc := 100) dX12_factor_100 rfl ?_
                        refine r_bipush (pc := 101) (v := 33) dX12_factor_101 (by decide) ?_
                        refine r_icmp_ne (pc := 103) 116 dX12_factor_103 (by decide) (fun c103 => ?_) (fun c103 => ?_)
                        · skip
                          refine r_aload_n (pc := 116) dX12_factor_116 rfl ?_
                          refine r_getf (pc := 117) (k := 17) dX12_factor_117 hX12 eX12 (by decide) fX12_129 (fun _ q => mo hm q) rfl ?_
                          rw [show upd s2 13 (nI (5 - d) - 1) 17 = b2i τ.2.1 from q2.1.2.2.2.2.2.2.2.1]
                          refine r_if_eq (pc := 120) 148 dX12_factor_120 (by decide) (fun c120 => ?_) (fun c120 => ?_)
                          · skip
                            refine r_aload_n (pc := 148) dX12_factor_148 rfl ?_
                            refine r_Vi (pc := 149) (μ' := mX12_fails) dX12_factor_149 nX12_141 iX12_fails vX12_fails kX12_fails rfl rfl (rr (by omega) rfl) rfl ⟨Nat.zero_le _, Nat.zero_le _⟩ (fun _ q_ => cvq q_ (ct_M_fails hm)) ?_
                            refine r_ireturn (pc := 152) (ty := .int) dX12_factor_152 rfl rfl ⟨Nat.zero_le _, Nat.zero_le _⟩ (fun gE hg => ?_)
                            exact ⟨rfl, _, ⟨q3.fl, (((((sFr.rf s).up (by omega)).up (by omega)).tr q2.2).up (by omega)).up (by omega)⟩, hg⟩
                          · skip
                            refine r_aload_n (pc := 123) dX12_factor_123 rfl ?_
                            refine r_aload_n (pc := 124) dX12_factor_124 rfl ?_
                            refine r_getf (pc := 125) (k := 11) dX12_factor_125 hX12 eX12 (by decide) fX12_132 (fun _ q => mo hm q) rfl ?_
                            rw [show upd s2 13 (nI (5 - d) - 1) 11 = nI τ.1 from q2.1.2.1]
                            refine r_Vi (pc := 128) (μ' := mX12_byteAt) dX12_factor_128 nX12_135 iX12_byteAt vX12_byteAt kX12_byteAt rfl rfl (rr (by omega) rfl) rfl ⟨Nat.zero_le _, Nat.zero_le _⟩ (fun _ q_ => cvq q_ (ct_M_next hm hu hb q3 r1)) ?_
                            refine r_bipush (pc := 131) (v := 41) dX12_factor_131 (by decide) ?_
                            refine r_icmp_ne (pc := 133) 148 dX12_factor_133 (by decide) (fun c133 => ?_) (fun c133 => ?_)
                            · skip
                              refine r_aload_n (pc := 148) dX12_factor_148 rfl ?_
                              refine r_Vi (pc := 149) (μ' := mX12_fails) dX12_factor_149 nX12_141 iX12_fails vX12_fails kX12_fails rfl rfl (rr (by omega) rfl) rfl ⟨Nat.zero_le _, Nat.zero_le _⟩ (fun _ q_ => cvq q_ (ct_M_fails hm)) ?_
                              refine r_ireturn (pc := 152) (ty := .int) dX12_factor_152 rfl rfl ⟨Nat.zero_le _, Nat.zero_le _⟩ (fun gE hg => ?_)
                              exact ⟨rfl, _, ⟨q3.fl, (((((sFr.rf s).up (by omega)).up (by omega)).tr q2.2).up (by omega)).up (by omega)⟩, hg⟩
                            · skip
                              exact absurd (isB_t (b2i_n0.mp c120) c133) hpar
                        · skip
                          exact absurd c103 h33
                      · skip
                        exact absurd c75 h33
                    · skip
                      exact absurd c44 hnop
                  · skip
                    exact absurd h40 c30
              · skip
                exact absurd (b2i_n0.mp c13) hd
/-- a TEXT told by its bytes, and the steps that it was read into -/
def TR (use : Int32) (t : Option (List Int32)) (l : List Int32) : Prop := (t = none ∧ l = []) ∨ ∃ bs, t = some bs ∧ bs.length ≤ 50 ∧ rdOk use bs = true ∧ l = (rdAll use bs).2.2
end Fa
