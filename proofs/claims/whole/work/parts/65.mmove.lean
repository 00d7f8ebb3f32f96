/-! THE REFERENCE, whole: move, whites, judge -/
section Mmove
variable {m : Nat} {h : AH} {K K2 : CK} {hs hs2 : List (Nat × Nat)} {tD tL tD2 tL2 : Option (List Int32)} {tp wa tp2 wa2 hd er lD lL : List Int32} {z im z2 : Int32} {k : MK} {bt : Nat → Int32} {sh : Nat → List Int32} {s s2 : Nat → Int32} {A A2 : Nat → Nat → Int32} {Q : Option Value → AH → Prop} {f : Nat → Int32}
theorem sz_sub {n : Int32} {l : Nat} (hl : l ≤ 40) (h0 : 0 ≤ n.toInt) : (nI l - n).toInt = (l : Int) - n.toInt := by
  have := Int32.toInt_lt n
  rw [Int32.toInt_sub, nI_T (by omega)]
  exact Int.bmod_eq_of_le (by omega) (by omega)
set_option maxHeartbeats 8000000 in
theorem cm_move (hm : m + 14 < h.1) {a i b j n : Int32} (q : MG K hs tD tL tp wa z k bt sh hd er im s A) (e1 : (shB a && shB b) = false → ∀ s2 A2, MG K hs tD tL tp wa z k bt sh hd (errL er 1) im s2 A2 → Q (some (.int (-1000000000 - 1))) (mh m h s2 A2)) (e2 : ∀ u t, a = nI u → u < 4 → b = nI t → t < 4 → (bt u = 0 ∨ bt t = 0) → ∀ s2 A2, MG K hs tD tL tp wa z k bt sh hd (errL er 2) im s2 A2 → Q (some (.int (-1000000000 - 2))) (mh m h s2 A2)) (e5 : ∀ u t, a = nI u → u < 4 → b = nI t → t < 4 → ¬ bt u = 0 → ¬ bt t = 0 → ¬ bt u = bt t → ∀ s2 A2, MG K hs tD tL tp wa z k bt sh hd (errL er 5) im s2 A2 → Q (some (.int (-1000000000 - 5))) (mh m h s2 A2)) (e1b : ∀ u t, a = nI u → u < 4 → b = nI t → t < 4 → ¬ bt u = 0 → ¬ bt t = 0 → bt u = bt t → (rnB (sh u) i n && rnB (sh t) j n) = false → ∀ s2 A2, MG K hs tD tL tp wa z k bt sh hd (errL er 1) im s2 A2 → Q (some (.int (-1000000000 - 1))) (mh m h s2 A2)) (hP : ∀ u t i2 j2 n2, a = nI u → u < 4 → b = nI t → t < 4 → ¬ bt u = 0 → ¬ bt t = 0 → bt u = bt t → i = nI i2 → j = nI j2 → n = nI n2 → i2 + n2 ≤ (sh u).length → j2 + n2 ≤ (sh t).length → ∀ s2 A2, MG K hs tD tL tp wa z k (upS bt t (bt t)) (upS sh t (mvL (sh t) (sh u) j2 i2 0 n2)) hd er im s2 A2 → Q (some (.int n)) (mh m h s2 A2)) : CV 6 0 0 mX12_move m [.int a, .int i, .int b, .int j, .int n] (mh m h s A) Q := by
  refine ⟨mV hm, ?_⟩
  refine ct_of (by decide) (fun _ _ => Nat.le_of_ble_eq_true rfl) ?_
  dsimp only [pad, ent]
  refine aw_P (P' := MP m h s A) (fun _ q => q) ?_
  by_cases ka : shB a = true
  · obtain ⟨u, hu, hu4⟩ := sh_t ka
    by_cases kb : shB b = true
    · obtain ⟨t, ht, ht4⟩ := sh_t kb
      obtain ⟨a1, a2, a3, a4⟩ := q.shs hu4
      obtain ⟨b1, b2, b3, b4⟩ := q.shs ht4
      subst hu
      subst ht
      have M : ¬ bt u = 0 → ¬ bt t = 0 → bt u = bt t → ∀ i2 j2 n2, i = nI i2 → j = nI j2 → n = nI n2 → i2 + n2 ≤ (sh u).length → j2 + n2 ≤ (sh t).length → AW (fun _ => True) (rmd 6 0 0) mX12_move 0 0 116 [some (.ref m), some (.int (nI u)), some (.int i), some (.int (nI t)), some (.int j), some (.int n), none] [] (MP m h s A) Q := by
        intro k1 k2 k3 i2 j2 n2 hi hj hn hl1 hl2
        have h7 := hP u t i2 j2 n2 rfl hu4 rfl ht4 k1 k2 k3 hi hj hn hl1 hl2
        subst hi
        subst hj
        subst hn
        have hTn := nI_T (n := n2) (by omega)
        have L2 : ∀ F : Nat → Int32, (∀ x, x < n2 → F x = (sh u).getD (i2 + x) 0) → ∀ x, x ≤ n2 → ∀ G : Nat → Int32, (∀ y, G y = if 40 * t + j2 ≤ y ∧ y < 40 * t + j2 + x then F (y - (40 * t + j2)) else A 9 y) → AW (fun _ => True) (rmd 6 0 0) mX12_move 0 0 156 [some (.ref m), some (.int (nI u)), some (.int (nI i2)), some (.int (nI t)), some (.int (nI j2)), some (.int (nI n2)), some (.int (nI x))] [] (MP m h s (upA (upA A 10 F) 9 G)) Q := by
          intro F hF
          refine up_loop ?_ ?_
          · intro G hG
            refine r_iload (pc := 156) dX12_move_156 rfl ?_
            refine r_iload (pc := 158) dX12_move_158 rfl ?_
            refine r_icmp_ge (pc := 160) 191 dX12_move_160 (by decide) (fun c160 => ?_) (fun c160 => ?_)
            · skip
              refine r_iload (pc := 191) dX12_move_191 rfl ?_
              refine r_ireturn (pc := 193) (ty := .int) dX12_move_193 rfl rfl ⟨Nat.zero_le _, Nat.zero_le _⟩ (fun gE hg => ?_)
              refine mR hg (h7 _ _ (q.shp ht4 (fun x hx => (upA_n (by omega)).trans (upA_n (by omega))) b1 (by rw [mvL_len]; exact b2) (by rw [mvL_len]; exact b3) (fun y hy => ?_) (fun x _ _ => ⟨rfl, rfl⟩) (fun y hy => ?_)))
              · rw [mvL_len] at hy
                rw [upA_s, hG, mvL_at hy]
                by_cases e : j2 + 0 ≤ y ∧ y < j2 + n2
                · rw [if_pos e, if_pos (by omega), hF _ (by omega), show 40 * t + y - (40 * t + j2) = y - j2 by omega]
                · rw [if_neg e, if_neg (by omega)]; exact b4 y hy
              · rw [upA_s, hG, if_neg (by omega)]
            · skip
              exact absurd (fa_le.mpr (Int.le_refl _)) c160
          · intro x hx ih G hG
            have hT := nI_T (n := x) (by omega)
            refine r_iload (pc := 156) dX12_move_156 rfl ?_
            refine r_iload (pc := 158) dX12_move_158 rfl ?_
            refine r_icmp_ge (pc := 160) 191 dX12_move_160 (by decide) (fun c160 => ?_) (fun c160 => ?_)
            · skip
              exact absurd c160 (fun y => by have := fa_le.mp y; omega)
            · skip
              refine r_aload_n (pc := 163) dX12_move_163 rfl ?_
              refine r_getf (pc := 164) (k := 21) dX12_move_164 hX12 eX12 (by decide) fX12_37 (fun _ q => mo hm q) rfl ?_
              refine r_bipush (pc := 167) (v := 40) dX12_move_167 (by decide) ?_
              refine r_iload_n (pc := 169) dX12_move_169 rfl ?_
              refine r_imul (pc := 170) dX12_move_170 ?_
              refine r_iload (pc := 171) dX12_move_171 rfl ?_
              refine r_iadd (pc := 173) dX12_move_173 ?_
              rw [ix40]
              refine r_iload (pc := 174) dX12_move_174 rfl ?_
              refine r_iadd (pc := 176) dX12_move_176 ?_
              rw [nI_add]
              refine r_aload_n (pc := 177) dX12_move_177 rfl ?_
              refine r_getf (pc := 178) (k := 22) dX12_move_178 hX12 eX12 (by decide) fX12_40 (fun _ q => mo hm q) rfl ?_
              refine r_iload (pc := 181) dX12_move_181 rfl ?_
              refine r_ml (pc := 183) (i := 10) (j := x) hm dX12_move_183 (by decide) (nI_T (by omega)) (show x < 40 by omega) ?_
              refine r_ms (pc := 184) (i := 9) (j := (40 * t + j2 + x)) hm dX12_move_184 (by decide) (nI_T (by omega)) (show (40 * t + j2 + x) < 160 by omega) ?_
              refine r_iinc1 (pc := 185) dX12_move_185 rfl (Nat.le_of_ble_eq_true rfl) rfl ?_
              dsimp only [lset]
              refine r_goto (pc := 188) 156 dX12_move_188 (by decide) ?_
              rw [nI_1, upA_2, upA_s, show upA (upA A 10 F) 9 G 10 x = F x from rfl]
              exact ih _ (fun y => by
                by_cases e : y = 40 * t + j2 + x
                · rw [e, upd_s, if_pos (by omega), show 40 * t + j2 + x - (40 * t + j2) = x by omega]
                · rw [upd_n e, hG]
                  by_cases e2 : 40 * t + j2 ≤ y ∧ y < 40 * t + j2 + x
                  · rw [if_pos e2, if_pos (by omega)]
                  · rw [if_neg e2, if_neg (by omega)])
        have L1 : ∀ x, x ≤ n2 → ∀ (F : Nat → Int32), (∀ y, y < x → F y = (sh u).getD (i2 + y) 0) → AW (fun _ => True) (rmd 6 0 0) mX12_move 0 0 119 [some (.ref m), some (.int (nI u)), some (.int (nI i2)), some (.int (nI t)), some (.int (nI j2)), some (.int (nI n2)), some (.int (nI x))] [] (MP m h s (upA A 10 F)) Q := by
          refine up_loop ?_ ?_
          · intro F hF
            refine r_iload (pc := 119) dX12_move_119 rfl ?_
            refine r_iload (pc := 121) dX12_move_121 rfl ?_
            refine r_icmp_ge (pc := 123) 153 dX12_move_123 (by decide) (fun c123 => ?_) (fun c123 => ?_)
            · skip
              refine r_iconst (pc := 153) (v := 0) dX12_move_153 (by decide) ?_
              refine r_istore (pc := 154) dX12_move_154 (Nat.le_of_ble_eq_true rfl) rfl ?_
              dsimp only [lset]
              refine aw_P (P' := MP m h s (upA (upA A 10 F) 9 (A 9))) (fun g q => by rw [show upA (upA A 10 F) 9 (A 9) = upA A 10 F from upA_id (A := upA A 10 F) (i := 9)]; exact q) ?_
              exact L2 F hF 0 (Nat.zero_le _) (A 9) (fun y => by rw [if_neg (by omega)])
            · skip
              exact absurd (fa_le.mpr (Int.le_refl _)) c123
          · intro x hx ih F hF
            have hT := nI_T (n := x) (by omega)
            refine r_iload (pc := 119) dX12_move_119 rfl ?_
            refine r_iload (pc := 121) dX12_move_121 rfl ?_
            refine r_icmp_ge (pc := 123) 153 dX12_move_123 (by decide) (fun c123 => ?_) (fun c123 => ?_)
            · skip
              exact absurd c123 (fun y => by have := fa_le.mp y; omega)
            · skip
              refine r_aload_n (pc := 126) dX12_move_126 rfl ?_
              refine r_getf (pc := 127) (k := 22) dX12_move_127 hX12 eX12 (by decide) fX12_40 (fun _ q => mo hm q) rfl ?_
              refine r_iload (pc := 130) dX12_move_130 rfl ?_
              refine r_aload_n (pc := 132) dX12_move_132 rfl ?_
              refine r_getf (pc := 133) (k := 21) dX12_move_133 hX12 eX12 (by decide) fX12_37 (fun _ q => mo hm q) rfl ?_
              refine r_bipush (pc := 136) (v := 40) dX12_move_136 (by decide) ?_
              refine r_iload_n (pc := 138) dX12_move_138 rfl ?_
              refine r_imul (pc := 139) dX12_move_139 ?_
              refine r_iload_n (pc := 140) dX12_move_140 rfl ?_
              refine r_iadd (pc := 141) dX12_move_141 ?_
              rw [ix40]
              refine r_iload (pc := 142) dX12_move_142 rfl ?_
              refine r_iadd (pc := 144) dX12_move_144 ?_
              rw [nI_add]
              refine r_ml (pc := 145) (i := 9) (j := (40 * u + i2 + x)) hm dX12_move_145 (by decide) (nI_T (by omega)) (show (40 * u + i2 + x) < 160 by omega) ?_
              refine r_ms (pc := 146) (i := 10) (j := x) hm dX12_move_146 (by decide) (nI_T (by omega)) (show x < 40 by omega) ?_
              refine r_iinc1 (pc := 147) dX12_move_147 rfl (Nat.le_of_ble_eq_true rfl) rfl ?_
              dsimp only [lset]
              refine r_goto (pc := 150) 119 dX12_move_150 (by decide) ?_
              rw [nI_1, upA_2, upA_s, show upA A 10 F 9 (40 * u + i2 + x) = (sh u).getD (i2 + x) 0 from (congrArg (A 9) (Nat.add_assoc _ _ _)).trans (a4 _ (by omega))]
              exact ih _ (fun y hy => by
                by_cases e : y = x
                · rw [e, upd_s]
                · rw [upd_n e]; exact hF y (by omega))
        refine aw_P (P' := MP m h s (upA A 10 (A 10))) (fun _ q => by rw [upA_id]; exact q) ?_
        refine r_iconst (pc := 116) (v := 0) dX12_move_116 (by decide) ?_
        refine r_istore (pc := 117) dX12_move_117 (Nat.le_of_ble_eq_true rfl) rfl ?_
        dsimp only [lset]
        exact L1 0 (Nat.zero_le _) (A 10) (fun y hy => absurd hy (Nat.not_lt_zero y))
      refine r_iload_n (pc := 0) dX12_move_0 rfl ?_
      refine r_Sp (pc := 1) (μ' := mX12_isSheet) dX12_move_1 nX12_217 sX12_isSheet kX12_isSheet rfl rfl (rr (by decide) rfl) rfl ⟨Nat.zero_le _, Nat.zero_le _⟩ (fun h => ct_M_isSheet h) ?_
      rw [ka]
      refine r_if_eq (pc := 4) 14 dX12_move_4 (by decide) (fun c4 => ?_) (fun c4 => ?_)
      · skip
        exact absurd c4 (by decide)
      · skip
        refine r_iload_n (pc := 7) dX12_move_7 rfl ?_
        refine r_Sp (pc := 8) (μ' := mX12_isSheet) dX12_move_8 nX12_217 sX12_isSheet kX12_isSheet rfl rfl (rr (by decide) rfl) rfl ⟨Nat.zero_le _, Nat.zero_le _⟩ (fun h => ct_M_isSheet h) ?_
        rw [kb]
        refine r_if_ne (pc := 11) 21 dX12_move_11 (by decide) (fun c11 => ?_) (fun c11 => ?_)
        · skip
          refine r_aload_n (pc := 21) dX12_move_21 rfl ?_
          refine r_getf (pc := 22) (k := 19) dX12_move_22 hX12 eX12 (by decide) fX12_31 (fun _ q => mo hm q) rfl ?_
          refine r_iload_n (pc := 25) dX12_move_25 rfl ?_
          refine r_ml (pc := 26) (i := 7) (j := u) hm dX12_move_26 (by decide) (nI_T (by omega)) (show u < 4 by omega) ?_
          rw [a1]
          refine r_if_eq (pc := 27) 39 dX12_move_27 (by decide) (fun c27 => ?_) (fun c27 => ?_)
          · skip
            have k12 : bt u = 0 ∨ bt t = 0 := Or.inl c27
            refine r_aload_n (pc := 39) dX12_move_39 rfl ?_
            refine r_ldc (pc := 40) (v := (-1000000002)) dX12_move_40 qX12_220 ?_
            refine r_Vi (pc := 42) (μ' := mX12_errs) dX12_move_42 nX12_62 iX12_errs vX12_errs kX12_errs rfl rfl (rr (by decide) rfl) rfl ⟨Nat.zero_le _, Nat.zero_le _⟩ (fun _ q_ => cvq q_ (ct_M_errs hm 2 (by decide) (by decide))) ?_
            rw [show (-1000000002 : Int32) = -1000000000 - 2 from rfl]
            refine r_ireturn (pc := 45) (ty := .int) dX12_move_45 rfl rfl ⟨Nat.zero_le _, Nat.zero_le _⟩ (fun gE hg => ?_)
            exact mR hg (e2 u t rfl hu4 rfl ht4 k12 _ _ (q.err (by decide) rfl))
          · skip
            refine r_aload_n (pc := 30) dX12_move_30 rfl ?_
            refine r_getf (pc := 31) (k := 19) dX12_move_31 hX12 eX12 (by decide) fX12_31 (fun _ q => mo hm q) rfl ?_
            refine r_iload_n (pc := 34) dX12_move_34 rfl ?_
            refine r_ml (pc := 35) (i := 7) (j := t) hm dX12_move_35 (by decide) (nI_T (by omega)) (show t < 4 by omega) ?_
            rw [b1]
            refine r_if_ne (pc := 36) 46 dX12_move_36 (by decide) (fun c36 => ?_) (fun c36 => ?_)
            · skip
              refine r_aload_n (pc := 46) dX12_move_46 rfl ?_
              refine r_getf (pc := 47) (k := 19) dX12_move_47 hX12 eX12 (by decide) fX12_31 (fun _ q => mo hm q) rfl ?_
              refine r_iload_n (pc := 50) dX12_move_50 rfl ?_
              refine r_ml (pc := 51) (i := 7) (j := u) hm dX12_move_51 (by decide) (nI_T (by omega)) (show u < 4 by omega) ?_
              rw [a1]
              refine r_aload_n (pc := 52) dX12_move_52 rfl ?_
              refine r_getf (pc := 53) (k := 19) dX12_move_53 hX12 eX12 (by decide) fX12_31 (fun _ q => mo hm q) rfl ?_
              refine r_iload_n (pc := 56) dX12_move_56 rfl ?_
              refine r_ml (pc := 57) (i := 7) (j := t) hm dX12_move_57 (by decide) (nI_T (by omega)) (show t < 4 by omega) ?_
              rw [b1]
              refine r_icmp_eq (pc := 58) 68 dX12_move_58 (by decide) (fun c58 => ?_) (fun c58 => ?_)
              · skip
                refine r_iload (pc := 68) dX12_move_68 rfl ?_
                refine r_if_lt (pc := 70) 109 dX12_move_70 (by decide) (fun c70 => ?_) (fun c70 => ?_)
                · skip
                  have k9 : (rnB (sh u) i n && rnB (sh t) j n) = false := by
                    have := fa_lt.mp c70
                    rw [t0] at this
                    rw [show rnB (sh u) i n = false from decide_eq_false (by omega)]; rfl
                  refine r_aload_n (pc := 109) dX12_move_109 rfl ?_
                  refine r_ldc (pc := 110) (v := (-1000000001)) dX12_move_110 qX12_61 ?_
                  refine r_Vi (pc := 112) (μ' := mX12_errs) dX12_move_112 nX12_62 iX12_errs vX12_errs kX12_errs rfl rfl (rr (by decide) rfl) rfl ⟨Nat.zero_le _, Nat.zero_le _⟩ (fun _ q_ => cvq q_ (ct_M_errs hm 1 (by decide) (by decide))) ?_
                  rw [show (-1000000001 : Int32) = -1000000000 - 1 from rfl]
                  refine r_ireturn (pc := 115) (ty := .int) dX12_move_115 rfl rfl ⟨Nat.zero_le _, Nat.zero_le _⟩ (fun gE hg => ?_)
                  exact mR hg (e1b u t rfl hu4 rfl ht4 c27 c36 c58 k9 _ _ (q.err (by decide) rfl))
                · skip
                  have n0 : 0 ≤ n.toInt := by have : ¬ n.toInt < (0 : Int32).toInt := fun y => c70 (fa_lt.mpr y); rw [t0] at this; omega
                  have su := sz_sub a3 n0
                  have st := sz_sub b3 n0
                  refine r_iload_n (pc := 73) dX12_move_73 rfl ?_
                  refine r_if_lt (pc := 74) 109 dX12_move_74 (by decide) (fun c74 => ?_) (fun c74 => ?_)
                  · skip
                    have k9 : (rnB (sh u) i n && rnB (sh t) j n) = false := by
                      have := fa_lt.mp c74
                      rw [t0] at this
                      rw [show rnB (sh u) i n = false from decide_eq_false (by omega)]; rfl
                    refine r_aload_n (pc := 109) dX12_move_109 rfl ?_
                    refine r_ldc (pc := 110) (v := (-1000000001)) dX12_move_110 qX12_61 ?_
                    refine r_Vi (pc := 112) (μ' := mX12_errs) dX12_move_112 nX12_62 iX12_errs vX12_errs kX12_errs rfl rfl (rr (by decide) rfl) rfl ⟨Nat.zero_le _, Nat.zero_le _⟩ (fun _ q_ => cvq q_ (ct_M_errs hm 1 (by decide) (by decide))) ?_
                    rw [show (-1000000001 : Int32) = -1000000000 - 1 from rfl]
                    refine r_ireturn (pc := 115) (ty := .int) dX12_move_115 rfl rfl ⟨Nat.zero_le _, Nat.zero_le _⟩ (fun gE hg => ?_)
                    exact mR hg (e1b u t rfl hu4 rfl ht4 c27 c36 c58 k9 _ _ (q.err (by decide) rfl))
                  · skip
                    have i0 : 0 ≤ i.toInt := by have : ¬ i.toInt < (0 : Int32).toInt := fun y => c74 (fa_lt.mpr y); rw [t0] at this; omega
                    refine r_iload (pc := 77) dX12_move_77 rfl ?_
                    refine r_if_lt (pc := 79) 109 dX12_move_79 (by decide) (fun c79 => ?_) (fun c79 => ?_)
                    · skip
                      have k9 : (rnB (sh u) i n && rnB (sh t) j n) = false := by
                        have := fa_lt.mp c79
                        rw [t0] at this
                        rw [show rnB (sh t) j n = false from decide_eq_false (by omega), Bool.and_false]
                      refine r_aload_n (pc := 109) dX12_move_109 rfl ?_
                      refine r_ldc (pc := 110) (v := (-1000000001)) dX12_move_110 qX12_61 ?_
                      refine r_Vi (pc := 112) (μ' := mX12_errs) dX12_move_112 nX12_62 iX12_errs vX12_errs kX12_errs rfl rfl (rr (by decide) rfl) rfl ⟨Nat.zero_le _, Nat.zero_le _⟩ (fun _ q_ => cvq q_ (ct_M_errs hm 1 (by decide) (by decide))) ?_
                      rw [show (-1000000001 : Int32) = -1000000000 - 1 from rfl]
                      refine r_ireturn (pc := 115) (ty := .int) dX12_move_115 rfl rfl ⟨Nat.zero_le _, Nat.zero_le _⟩ (fun gE hg => ?_)
                      exact mR hg (e1b u t rfl hu4 rfl ht4 c27 c36 c58 k9 _ _ (q.err (by decide) rfl))
                    · skip
                      have j0 : 0 ≤ j.toInt := by have : ¬ j.toInt < (0 : Int32).toInt := fun y => c79 (fa_lt.mpr y); rw [t0] at this; omega
                      refine r_iload_n (pc := 82) dX12_move_82 rfl ?_
                      refine r_aload_n (pc := 83) dX12_move_83 rfl ?_
                      refine r_getf (pc := 84) (k := 20) dX12_move_84 hX12 eX12 (by decide) fX12_34 (fun _ q => mo hm q) rfl ?_
                      refine r_iload_n (pc := 87) dX12_move_87 rfl ?_
                      refine r_ml (pc := 88) (i := 8) (j := u) hm dX12_move_88 (by decide) (nI_T (by omega)) (show u < 4 by omega) ?_
                      rw [a2]
                      refine r_iload (pc := 89) dX12_move_89 rfl ?_
                      refine r_isub (pc := 91) dX12_move_91 ?_
                      refine r_icmp_gt (pc := 92) 109 dX12_move_92 (by decide) (fun c92 => ?_) (fun c92 => ?_)
                      · skip
                        have k9 : (rnB (sh u) i n && rnB (sh t) j n) = false := by
                          have := fa_lt.mp c92
                          rw [show rnB (sh u) i n = false from decide_eq_false (by omega)]; rfl
                        refine r_aload_n (pc := 109) dX12_move_109 rfl ?_
                        refine r_ldc (pc := 110) (v := (-1000000001)) dX12_move_110 qX12_61 ?_
                        refine r_Vi (pc := 112) (μ' := mX12_errs) dX12_move_112 nX12_62 iX12_errs vX12_errs kX12_errs rfl rfl (rr (by decide) rfl) rfl ⟨Nat.zero_le _, Nat.zero_le _⟩ (fun _ q_ => cvq q_ (ct_M_errs hm 1 (by decide) (by decide))) ?_
                        rw [show (-1000000001 : Int32) = -1000000000 - 1 from rfl]
                        refine r_ireturn (pc := 115) (ty := .int) dX12_move_115 rfl rfl ⟨Nat.zero_le _, Nat.zero_le _⟩ (fun gE hg => ?_)
                        exact mR hg (e1b u t rfl hu4 rfl ht4 c27 c36 c58 k9 _ _ (q.err (by decide) rfl))
                      · skip
                        have i9 : i.toInt ≤ (nI (sh u).length - n).toInt := Decidable.byContradiction fun y => c92 (fa_lt.mpr (by omega))
                        refine r_iload (pc := 95) dX12_move_95 rfl ?_
                        refine r_aload_n (pc := 97) dX12_move_97 rfl ?_
                        refine r_getf (pc := 98) (k := 20) dX12_move_98 hX12 eX12 (by decide) fX12_34 (fun _ q => mo hm q) rfl ?_
                        refine r_iload_n (pc := 101) dX12_move_101 rfl ?_
                        refine r_ml (pc := 102) (i := 8) (j := t) hm dX12_move_102 (by decide) (nI_T (by omega)) (show t < 4 by omega) ?_
                        rw [b2]
                        refine r_iload (pc := 103) dX12_move_103 rfl ?_
                        refine r_isub (pc := 105) dX12_move_105 ?_
                        refine r_icmp_le (pc := 106) 116 dX12_move_106 (by decide) (fun c106 => ?_) (fun c106 => ?_)
                        · skip
                          have j9 := fa_le.mp c106
                          obtain ⟨i2, hi2⟩ : ∃ i2, i2 = i.toInt.toNat := ⟨_, rfl⟩
                          obtain ⟨j2, hj2⟩ : ∃ j2, j2 = j.toInt.toNat := ⟨_, rfl⟩
                          obtain ⟨n2, hn2⟩ : ∃ n2, n2 = n.toInt.toNat := ⟨_, rfl⟩
                          have ei : i = nI i2 := by rw [hi2]; exact (nI_tn (by omega) (by omega)).symm
                          have ej : j = nI j2 := by rw [hj2]; exact (nI_tn (by omega) (by omega)).symm
                          have en : n = nI n2 := by rw [hn2]; exact (nI_tn (by omega) (by omega)).symm
                          exact M c27 c36 c58 i2 j2 n2 ei ej en (by omega) (by omega)
                        · skip
                          have k9 : (rnB (sh u) i n && rnB (sh t) j n) = false := by
                            have : ¬ j.toInt ≤ (nI (sh t).length - n).toInt := fun y => c106 (fa_le.mpr y)
                            rw [show rnB (sh t) j n = false from decide_eq_false (by omega), Bool.and_false]
                          refine r_aload_n (pc := 109) dX12_move_109 rfl ?_
                          refine r_ldc (pc := 110) (v := (-1000000001)) dX12_move_110 qX12_61 ?_
                          refine r_Vi (pc := 112) (μ' := mX12_errs) dX12_move_112 nX12_62 iX12_errs vX12_errs kX12_errs rfl rfl (rr (by decide) rfl) rfl ⟨Nat.zero_le _, Nat.zero_le _⟩ (fun _ q_ => cvq q_ (ct_M_errs hm 1 (by decide) (by decide))) ?_
                          rw [show (-1000000001 : Int32) = -1000000000 - 1 from rfl]
                          refine r_ireturn (pc := 115) (ty := .int) dX12_move_115 rfl rfl ⟨Nat.zero_le _, Nat.zero_le _⟩ (fun gE hg => ?_)
                          exact mR hg (e1b u t rfl hu4 rfl ht4 c27 c36 c58 k9 _ _ (q.err (by decide) rfl))
              · skip
                refine r_aload_n (pc := 61) dX12_move_61 rfl ?_
                refine r_ldc (pc := 62) (v := (-1000000005)) dX12_move_62 qX12_121 ?_
                refine r_Vi (pc := 64) (μ' := mX12_errs) dX12_move_64 nX12_62 iX12_errs vX12_errs kX12_errs rfl rfl (rr (by decide) rfl) rfl ⟨Nat.zero_le _, Nat.zero_le _⟩ (fun _ q_ => cvq q_ (ct_M_errs hm 5 (by decide) (by decide))) ?_
                rw [show (-1000000005 : Int32) = -1000000000 - 5 from rfl]
                refine r_ireturn (pc := 67) (ty := .int) dX12_move_67 rfl rfl ⟨Nat.zero_le _, Nat.zero_le _⟩ (fun gE hg => ?_)
                exact mR hg (e5 u t rfl hu4 rfl ht4 c27 c36 c58 _ _ (q.err (by decide) rfl))
            · skip
              have k12 : bt u = 0 ∨ bt t = 0 := Or.inr c36
              refine r_aload_n (pc := 39) dX12_move_39 rfl ?_
              refine r_ldc (pc := 40) (v := (-1000000002)) dX12_move_40 qX12_220 ?_
              refine r_Vi (pc := 42) (μ' := mX12_errs) dX12_move_42 nX12_62 iX12_errs vX12_errs kX12_errs rfl rfl (rr (by decide) rfl) rfl ⟨Nat.zero_le _, Nat.zero_le _⟩ (fun _ q_ => cvq q_ (ct_M_errs hm 2 (by decide) (by decide))) ?_
              rw [show (-1000000002 : Int32) = -1000000000 - 2 from rfl]
              refine r_ireturn (pc := 45) (ty := .int) dX12_move_45 rfl rfl ⟨Nat.zero_le _, Nat.zero_le _⟩ (fun gE hg => ?_)
              exact mR hg (e2 u t rfl hu4 rfl ht4 k12 _ _ (q.err (by decide) rfl))
        · skip
          exact absurd c11 (by decide)
    · have kb2 : shB b = false := by cases e : shB b <;> simp_all
      refine r_iload_n (pc := 0) dX12_move_0 rfl ?_
      refine r_Sp (pc := 1) (μ' := mX12_isSheet) dX12_move_1 nX12_217 sX12_isSheet kX12_isSheet rfl rfl (rr (by decide) rfl) rfl ⟨Nat.zero_le _, Nat.zero_le _⟩ (fun h => ct_M_isSheet h) ?_
      rw [ka]
      refine r_if_eq (pc := 4) 14 dX12_move_4 (by decide) (fun c4 => ?_) (fun c4 => ?_)
      · skip
        exact absurd c4 (by decide)
      · skip
        refine r_iload_n (pc := 7) dX12_move_7 rfl ?_
        refine r_Sp (pc := 8) (μ' := mX12_isSheet) dX12_move_8 nX12_217 sX12_isSheet kX12_isSheet rfl rfl (rr (by decide) rfl) rfl ⟨Nat.zero_le _, Nat.zero_le _⟩ (fun h => ct_M_isSheet h) ?_
        rw [kb2]
        refine r_if_ne (pc := 11) 21 dX12_move_11 (by decide) (fun c11 => ?_) (fun c11 => ?_)
        · skip
          exact absurd rfl c11
        · skip
          refine r_aload_n (pc := 14) dX12_move_14 rfl ?_
          refine r_ldc (pc := 15) (v := (-1000000001)) dX12_move_15 qX12_61 ?_
          refine r_Vi (pc := 17) (μ' := mX12_errs) dX12_move_17 nX12_62 iX12_errs vX12_errs kX12_errs rfl rfl (rr (by decide) rfl) rfl ⟨Nat.zero_le _, Nat.zero_le _⟩ (fun _ q_ => cvq q_ (ct_M_errs hm 1 (by decide) (by decide))) ?_
          rw [show (-1000000001 : Int32) = -1000000000 - 1 from rfl]
          refine r_ireturn (pc := 20) (ty := .int) dX12_move_20 rfl rfl ⟨Nat.zero_le _, Nat.zero_le _⟩ (fun gE hg => ?_)
          exact mR hg (e1 (by rw [ka, kb2]; rfl) _ _ (q.err (by decide) rfl))
  · have ka2 : shB a = false := by cases e : shB a <;> simp_all
    refine r_iload_n (pc := 0) dX12_move_0 rfl ?_
    refine r_Sp (pc := 1) (μ' := mX12_isSheet) dX12_move_1 nX12_217 sX12_isSheet kX12_isSheet rfl rfl (rr (by decide) rfl) rfl ⟨Nat.zero_le _, Nat.zero_le _⟩ (fun h => ct_M_isSheet h) ?_
    rw [ka2]
    refine r_if_eq (pc := 4) 14 dX12_move_4 (by decide) (fun c4 => ?_) (fun c4 => ?_)
    · skip
      refine r_aload_n (pc := 14) dX12_move_14 rfl ?_
      refine r_ldc (pc := 15) (v := (-1000000001)) dX12_move_15 qX12_61 ?_
      refine r_Vi (pc := 17) (μ' := mX12_errs) dX12_move_17 nX12_62 iX12_errs vX12_errs kX12_errs rfl rfl (rr (by decide) rfl) rfl ⟨Nat.zero_le _, Nat.zero_le _⟩ (fun _ q_ => cvq q_ (ct_M_errs hm 1 (by decide) (by decide))) ?_
      rw [show (-1000000001 : Int32) = -1000000000 - 1 from rfl]
      refine r_ireturn (pc := 20) (ty := .int) dX12_move_20 rfl rfl ⟨Nat.zero_le _, Nat.zero_le _⟩ (fun gE hg => ?_)
      exact mR hg (e1 (by rw [ka2]; rfl) _ _ (q.err (by decide) rfl))
    · skip
      exact absurd rfl c4
theorem RMk_wh {f f2 : Nat → Int32} {l : List Int32} {n : Nat} (ok : KOk K) (q : RMk K f) (hg : ∀ j, j < n → goodW l j = true) (h1 : ∀ c, c < kRo K * kSt K → f2 (26 + 2 * c) = if c < n then l.getD c 0 else f (26 + 2 * c)) (ho : ∀ j, (j < 7 ∨ (25 ≤ j ∧ j < 97 ∧ (j - 25) % 2 = 0)) → f2 j = f j) : RMk (whK K l n) f2 := by
  have hst : 1 ≤ kSt K ∧ kSt K ≤ 6 := ok.2.1
  have hro : 1 ≤ kRo K ∧ kRo K ≤ 6 := ok.1
  have h36 : kRo K * kSt K ≤ 6 * 6 := Nat.mul_le_mul (by omega) (by omega)
  obtain ⟨ro, st, mi, he, le, wh, si, ca, w, v⟩ := K
  obtain ⟨q0, q1, q2, q3, q4, q5, q6, q7⟩ := q
  refine ⟨(ho 0 (by omega)).trans q0, (ho 1 (by omega)).trans q1, (ho 2 (by omega)).trans q2, (ho 3 (by omega)).trans q3, (ho 4 (by omega)).trans q4, (ho 5 (by omega)).trans q5, (ho 6 (by omega)).trans q6, fun r s hr hs => ?_⟩
  have hr : r < ro := hr
  have hs : s < st := hs
  have hc := cell_lt hr hs
  have h36 : ro * st ≤ 6 * 6 := h36
  have h1 : ∀ c, c < ro * st → f2 (26 + 2 * c) = if c < n then l.getD c 0 else f (26 + 2 * c) := h1
  refine ⟨(ho _ (Or.inr ⟨by omega, by show 25 + 2 * (r * st + s) < 97; omega, by show (25 + 2 * (r * st + s) - 25) % 2 = 0; omega⟩)).trans (q7 r s hr hs).1, ?_⟩
  show f2 (26 + 2 * (r * st + s)) = nI (if s < st ∧ r * st + s < n then (l.getD (r * st + s) 0).toInt.toNat else v r s)
  rw [h1 _ hc]
  by_cases e : r * st + s < n
  · rw [if_pos e, if_pos ⟨hs, e⟩]
    have := of_decide_eq_true (hg _ e)
    exact (nI_tn (by omega) (by omega)).symm
  · rw [if_neg e, if_neg (fun x => e x.2)]
    exact (q7 r s hr hs).2
set_option maxHeartbeats 4000000 in
theorem cm_whites (hm : m + 14 < h.1) {a : Int32} (q : MG K hs tD tL tp wa z k bt sh hd er im s A) (ok : KOk K) (e1 : shB a = false → ∀ s2 A2, MG K hs tD tL tp wa z k bt sh hd (errL er 1) im s2 A2 → Q (some (.int (-1000000000 - 1))) (mh m h s2 A2)) (e2 : ∀ j, a = nI j → j < 4 → bt j = 0 → ∀ s2 A2, MG K hs tD tL tp wa z k bt sh hd (errL er 2) im s2 A2 → Q (some (.int (-1000000000 - 2))) (mh m h s2 A2)) (hP : ∀ j, a = nI j → j < 4 → ¬ bt j = 0 → ∀ s2 A2, MG (whK K (sh j) (whN K (sh j))) hs tD tL tp wa z k bt sh hd er im s2 A2 → Q (some (.int (nI (whN K (sh j))))) (mh m h s2 A2)) : CV 6 0 0 mX12_whites m [.int a] (mh m h s A) Q := by
  refine ⟨mV hm, ?_⟩
  refine ct_of (by decide) (fun _ _ => Nat.le_of_ble_eq_true rfl) ?_
  dsimp only [pad, ent]
  have hst : 1 ≤ kSt K ∧ kSt K ≤ 6 := ok.2.1
  have hro : 1 ≤ kRo K ∧ kRo K ≤ 6 := ok.1
  have h36 : kRo K * kSt K ≤ 6 * 6 := Nat.mul_le_mul (by omega) (by omega)
  have hTc := nI_T (n := kRo K * kSt K) (by omega)
  have L : ∀ j, a = nI j → j < 4 → ¬ bt j = 0 → ∀ x, x ≤ min (sh j).length (kRo K * kSt K) → (∀ y, y < x → goodW (sh j) y = true) → ∀ f : Nat → Int32, (∀ c, c < kRo K * kSt K → f (26 + 2 * c) = if c < x then (sh j).getD c 0 else A 0 (26 + 2 * c)) → (∀ y, (y < 25 ∨ 97 ≤ y ∨ (y - 25) % 2 = 0) → f y = A 0 y) → AW (fun _ => True) (rmd 6 0 0) mX12_whites 0 0 32 [some (.ref m), some (.int (nI j)), some (.int (nI x))] [] (MP m h s (upA A 0 f)) Q := by
    intro j hj hj4 hb
    obtain ⟨a1, a2, a3, a4⟩ := q.shs hj4
    have hTl := nI_T (n := (sh j).length) (by omega)
    have h7 := hP j hj hj4 hb
    have fin : ∀ x, x ≤ min (sh j).length (kRo K * kSt K) → (∀ y, y < x → goodW (sh j) y = true) → whN K (sh j) = x → ∀ f : Nat → Int32, (∀ c, c < kRo K * kSt K → f (26 + 2 * c) = if c < x then (sh j).getD c 0 else A 0 (26 + 2 * c)) → (∀ y, (y < 25 ∨ 97 ≤ y ∨ (y - 25) % 2 = 0) → f y = A 0 y) → AW (fun _ => True) (rmd 6 0 0) mX12_whites 0 0 100 [some (.ref m), some (.int (nI j)), some (.int (nI x))] [] (MP m h s (upA A 0 f)) Q := by
      intro x hx hgx hw f f1 f2
      rw [hw] at h7
      refine r_iload_n (pc := 100) dX12_whites_100 rfl ?_
      refine r_ireturn (pc := 101) (ty := .int) dX12_whites_101 rfl rfl ⟨Nat.zero_le _, Nat.zero_le _⟩ (fun gE hg => ?_)
      exact mR hg (h7 _ _ (q.row (RMk_wh ok q.rk hgx f1 (fun j hj => f2 j (by omega))) (q.rr.ext fun j hj => f2 j (by unfold RJ at hj; omega))))
    refine up_loop ?_ ?_
    · intro hgx f f1 f2
      have hw : whN K (sh j) = min (sh j).length (kRo K * kSt K) := stopAt_all hgx
      have hTm := nI_T (n := min (sh j).length (kRo K * kSt K)) (by omega)
      refine r_iload_n (pc := 32) dX12_whites_32 rfl ?_
      refine r_aload_n (pc := 33) dX12_whites_33 rfl ?_
      refine r_getf (pc := 34) (k := 20) dX12_whites_34 hX12 eX12 (by decide) fX12_34 (fun _ q => mo hm q) rfl ?_
      refine r_iload_n (pc := 37) dX12_whites_37 rfl ?_
      refine r_ml (pc := 38) (i := 8) (j := j) hm dX12_whites_38 (by decide) (nI_T (by omega)) (show j < 4 by omega) ?_
      rw [show upA A 0 f 8 j = nI (sh j).length from a2]
      refine r_icmp_ge (pc := 39) 100 dX12_whites_39 (by decide) (fun c39 => ?_) (fun c39 => ?_)
      · skip
        exact fin _ (Nat.le_refl _) hgx hw f f1 f2
      · skip
        have k1 : min (sh j).length (kRo K * kSt K) < (sh j).length := Decidable.byContradiction fun y => c39 (fa_le.mpr (by omega))
        refine r_iload_n (pc := 42) dX12_whites_42 rfl ?_
        refine r_aload_n (pc := 43) dX12_whites_43 rfl ?_
        refine r_Vi (pc := 44) (μ' := mX12_cells) dX12_whites_44 nX12_66 iX12_cells vX12_cells kX12_cells rfl rfl (rr (by decide) rfl) rfl ⟨Nat.zero_le _, Nat.zero_le _⟩ (fun _ q_ => cvq q_ (ct_M_cells hm)) ?_
        rw [show upA A 0 f 0 0 * upA A 0 f 0 1 = nI (kRo K * kSt K) by rw [upA_s, f2 0 (by omega), f2 1 (by omega)]; exact q.cce]
        refine r_icmp_ge (pc := 47) 100 dX12_whites_47 (by decide) (fun c47 => ?_) (fun c47 => ?_)
        · skip
          exact fin _ (Nat.le_refl _) hgx hw f f1 f2
        · skip
          exact absurd (fa_le.mpr (by omega)) c47
    · intro x hx ih hgx f f1 f2
      have hT := nI_T (n := x) (by omega)
      have hi1 : (25 : Int32) + 2 * nI x = nI (25 + 2 * x) := ix2 25 2 x
      have hgw : goodW (sh j) x = wiB ((sh j).getD x 0) 0 99 := rfl
      refine r_iload_n (pc := 32) dX12_whites_32 rfl ?_
      refine r_aload_n (pc := 33) dX12_whites_33 rfl ?_
      refine r_getf (pc := 34) (k := 20) dX12_whites_34 hX12 eX12 (by decide) fX12_34 (fun _ q => mo hm q) rfl ?_
      refine r_iload_n (pc := 37) dX12_whites_37 rfl ?_
      refine r_ml (pc := 38) (i := 8) (j := j) hm dX12_whites_38 (by decide) (nI_T (by omega)) (show j < 4 by omega) ?_
      rw [show upA A 0 f 8 j = nI (sh j).length from a2]
      refine r_icmp_ge (pc := 39) 100 dX12_whites_39 (by decide) (fun c39 => ?_) (fun c39 => ?_)
      · skip
        exact absurd c39 (fun y => by have := fa_le.mp y; omega)
      · skip
        refine r_iload_n (pc := 42) dX12_whites_42 rfl ?_
        refine r_aload_n (pc := 43) dX12_whites_43 rfl ?_
        refine r_Vi (pc := 44) (μ' := mX12_cells) dX12_whites_44 nX12_66 iX12_cells vX12_cells kX12_cells rfl rfl (rr (by decide) rfl) rfl ⟨Nat.zero_le _, Nat.zero_le _⟩ (fun _ q_ => cvq q_ (ct_M_cells hm)) ?_
        rw [show upA A 0 f 0 0 * upA A 0 f 0 1 = nI (kRo K * kSt K) by rw [upA_s, f2 0 (by omega), f2 1 (by omega)]; exact q.cce]
        refine r_icmp_ge (pc := 47) 100 dX12_whites_47 (by decide) (fun c47 => ?_) (fun c47 => ?_)
        · skip
          exact absurd c47 (fun y => by have := fa_le.mp y; omega)
        · skip
          refine r_aload_n (pc := 50) dX12_whites_50 rfl ?_
          refine r_getf (pc := 51) (k := 21) dX12_whites_51 hX12 eX12 (by decide) fX12_37 (fun _ q => mo hm q) rfl ?_
          refine r_bipush (pc := 54) (v := 40) dX12_whites_54 (by decide) ?_
          refine r_iload_n (pc := 56) dX12_whites_56 rfl ?_
          refine r_imul (pc := 57) dX12_whites_57 ?_
          refine r_iload_n (pc := 58) dX12_whites_58 rfl ?_
          refine r_iadd (pc := 59) dX12_whites_59 ?_
          rw [ix40]
          refine r_ml (pc := 60) (i := 9) (j := (40 * j + x)) hm dX12_whites_60 (by decide) (nI_T (by omega)) (show (40 * j + x) < 160 by omega) ?_
          rw [show upA A 0 f 9 (40 * j + x) = (sh j).getD x 0 from a4 x (by omega)]
          refine r_iconst (pc := 61) (v := 0) dX12_whites_61 (by decide) ?_
          refine r_bipush (pc := 62) (v := 99) dX12_whites_62 (by decide) ?_
          refine r_Sp (pc := 64) (μ' := mX12_in) dX12_whites_64 nX12_57 sX12_in kX12_in rfl rfl (rr (by decide) rfl) rfl ⟨Nat.zero_le _, Nat.zero_le _⟩ (fun h => ct_M_in h) ?_
          rw [← hgw]
          refine r_if_eq (pc := 67) 100 dX12_whites_67 (by decide) (fun c67 => ?_) (fun c67 => ?_)
          · skip
            have k1 := b2i_0.mp c67
            exact fin x (by omega) hgx (stopAt_eq hgx k1 hx) f f1 f2
          · skip
            have k1 := b2i_n0.mp c67
            refine r_aload_n (pc := 70) dX12_whites_70 rfl ?_
            refine r_getf (pc := 71) (k := 0) dX12_whites_71 hX12 eX12 (by decide) fX12_7 (fun _ q => mo hm q) rfl ?_
            refine r_bipush (pc := 74) (v := 25) dX12_whites_74 (by decide) ?_
            refine r_iconst (pc := 76) (v := 2) dX12_whites_76 (by decide) ?_
            refine r_iload_n (pc := 77) dX12_whites_77 rfl ?_
            refine r_imul (pc := 78) dX12_whites_78 ?_
            refine r_iadd (pc := 79) dX12_whites_79 ?_
            rw [hi1]
            refine r_iconst (pc := 80) (v := 1) dX12_whites_80 (by decide) ?_
            refine r_iadd (pc := 81) dX12_whites_81 ?_
            rw [nI_1, show 25 + 2 * x + 1 = 26 + 2 * x by omega]
            refine r_aload_n (pc := 82) dX12_whites_82 rfl ?_
            refine r_getf (pc := 83) (k := 21) dX12_whites_83 hX12 eX12 (by decide) fX12_37 (fun _ q => mo hm q) rfl ?_
            refine r_bipush (pc := 86) (v := 40) dX12_whites_86 (by decide) ?_
            refine r_iload_n (pc := 88) dX12_whites_88 rfl ?_
            refine r_imul (pc := 89) dX12_whites_89 ?_
            refine r_iload_n (pc := 90) dX12_whites_90 rfl ?_
            refine r_iadd (pc := 91) dX12_whites_91 ?_
            rw [ix40]
            refine r_ml (pc := 92) (i := 9) (j := (40 * j + x)) hm dX12_whites_92 (by decide) (nI_T (by omega)) (show (40 * j + x) < 160 by omega) ?_
            rw [show upA A 0 f 9 (40 * j + x) = (sh j).getD x 0 from a4 x (by omega)]
            refine r_ms (pc := 93) (i := 0) (j := (26 + 2 * x)) hm dX12_whites_93 (by decide) (nI_T (by omega)) (show (26 + 2 * x) < 267 by omega) ?_
            refine r_iinc1 (pc := 94) dX12_whites_94 rfl (Nat.le_of_ble_eq_true rfl) rfl ?_
            dsimp only [lset]
            refine r_goto (pc := 97) 32 dX12_whites_97 (by decide) ?_
            rw [nI_1, upA_2, upA_s]
            exact ih (fun y hy => by
              by_cases e : y = x
              · rw [e]; exact k1
              · exact hgx y (by omega)) _ (fun c hc => by
              by_cases e : c = x
              · rw [e, upd_s, if_pos (by omega)]
              · rw [upd_n (by omega), f1 c hc]
                by_cases e2 : c < x
                · rw [if_pos e2, if_pos (by omega)]
                · rw [if_neg e2, if_neg (by omega)]) (fun y hy => by rw [upd_n (by omega)]; exact f2 y hy)
  refine aw_P (P' := MP m h s A) (fun _ q => q) ?_
  refine r_iload_n (pc := 0) dX12_whites_0 rfl ?_
  refine r_Sp (pc := 1) (μ' := mX12_isSheet) dX12_whites_1 nX12_217 sX12_isSheet kX12_isSheet rfl rfl (rr (by decide) rfl) rfl ⟨Nat.zero_le _, Nat.zero_le _⟩ (fun h => ct_M_isSheet h) ?_
  refine r_if_ne (pc := 4) 14 dX12_whites_4 (by decide) (fun c4 => ?_) (fun c4 => ?_)
  · skip
    have kb := b2i_n0.mp c4
    obtain ⟨j, hj, hj4⟩ := sh_t kb
    obtain ⟨a1, a2, a3, a4⟩ := q.shs hj4
    refine r_aload_n (pc := 14) dX12_whites_14 rfl ?_
    refine r_getf (pc := 15) (k := 19) dX12_whites_15 hX12 eX12 (by decide) fX12_31 (fun _ q => mo hm q) rfl ?_
    refine r_iload_n (pc := 18) dX12_whites_18 rfl ?_
    rw [hj]
    refine r_ml (pc := 19) (i := 7) (j := j) hm dX12_whites_19 (by decide) (nI_T (by omega)) (show j < 4 by omega) ?_
    rw [a1]
    refine r_if_ne (pc := 20) 30 dX12_whites_20 (by decide) (fun c20 => ?_) (fun c20 => ?_)
    · skip
      refine r_iconst (pc := 30) (v := 0) dX12_whites_30 (by decide) ?_
      refine r_istore_n (pc := 31) dX12_whites_31 rfl (Nat.le_of_ble_eq_true rfl) rfl ?_
      dsimp only [lset]
      refine aw_P (P' := MP m h s (upA A 0 (A 0))) (fun _ q => by rw [upA_id]; exact q) ?_
      exact L j hj hj4 c20 0 (Nat.zero_le _) (fun y hy => absurd hy (Nat.not_lt_zero y)) (A 0) (fun c hc => by rw [if_neg (by omega)]) (fun y hy => rfl)
    · skip
      refine r_aload_n (pc := 23) dX12_whites_23 rfl ?_
      refine r_ldc (pc := 24) (v := (-1000000002)) dX12_whites_24 qX12_220 ?_
      refine r_Vi (pc := 26) (μ' := mX12_errs) dX12_whites_26 nX12_62 iX12_errs vX12_errs kX12_errs rfl rfl (rr (by decide) rfl) rfl ⟨Nat.zero_le _, Nat.zero_le _⟩ (fun _ q_ => cvq q_ (ct_M_errs hm 2 (by decide) (by decide))) ?_
      rw [show (-1000000002 : Int32) = -1000000000 - 2 from rfl]
      refine r_ireturn (pc := 29) (ty := .int) dX12_whites_29 rfl rfl ⟨Nat.zero_le _, Nat.zero_le _⟩ (fun gE hg => ?_)
      exact mR hg (e2 j hj hj4 c20 _ _ (q.err (by decide) rfl))
  · skip
    have kb := b2i_0.mp c4
    refine r_aload_n (pc := 7) dX12_whites_7 rfl ?_
    refine r_ldc (pc := 8) (v := (-1000000001)) dX12_whites_8 qX12_61 ?_
    refine r_Vi (pc := 10) (μ' := mX12_errs) dX12_whites_10 nX12_62 iX12_errs vX12_errs kX12_errs rfl rfl (rr (by decide) rfl) rfl ⟨Nat.zero_le _, Nat.zero_le _⟩ (fun _ q_ => cvq q_ (ct_M_errs hm 1 (by decide) (by decide))) ?_
    rw [show (-1000000001 : Int32) = -1000000000 - 1 from rfl]
    refine r_ireturn (pc := 13) (ty := .int) dX12_whites_13 rfl rfl ⟨Nat.zero_le _, Nat.zero_le _⟩ (fun gE hg => ?_)
    exact mR hg (e1 kb _ _ (q.err (by decide) rfl))
set_option maxHeartbeats 4000000 in
theorem cm_judge (hm : m + 14 < h.1) {a : Int32} (q : MG K hs tD tL tp wa z k bt sh hd er im s A) (ok : KOk K) (e1 : shB a = false → ∀ s2 A2, MG K hs tD tL tp wa z k bt sh hd (errL er 1) im s2 A2 → Q (some (.int (-1000000000 - 1))) (mh m h s2 A2)) (e2 : ∀ j, a = nI j → j < 4 → bt j = 0 → ∀ s2 A2, MG K hs tD tL tp wa z k bt sh hd (errL er 2) im s2 A2 → Q (some (.int (-1000000000 - 2))) (mh m h s2 A2)) (hP : ∀ j, a = nI j → j < 4 → ¬ bt j = 0 → ∀ s2 A2, MG K hs tD tL tp wa z k bt sh hd er im s2 A2 → Q (some (.int (fowI (sh j) (tab K.1 K.2.1 fun r s => iI (K.2.2.2.2.2.2.2.2.1 r s))))) (mh m h s2 A2)) : CV 6 0 0 mX12_judge m [.int a] (mh m h s A) Q := by
  refine ⟨mV hm, ?_⟩
  refine ct_of (by decide) (fun _ _ => Nat.le_of_ble_eq_true rfl) ?_
  dsimp only [pad, ent]
  have hst : 1 ≤ kSt K ∧ kSt K ≤ 6 := ok.2.1
  have hro : 1 ≤ kRo K ∧ kRo K ≤ 6 := ok.1
  have h36 : kRo K * kSt K ≤ 6 * 6 := Nat.mul_le_mul (by omega) (by omega)
  have hTc := nI_T (n := kRo K * kSt K) (by omega)
  obtain ⟨l, hl⟩ : ∃ l, l = tab K.1 K.2.1 fun r s => iI (K.2.2.2.2.2.2.2.2.1 r s) := ⟨_, rfl⟩
  have hll : l.length = kRo K * kSt K := by rw [hl]; exact tab_len
  have hg : ∀ c, c < kRo K * kSt K → l.getD c 0 = iI (kW K (c / kSt K) (c % kSt K)) := fun c hc => by rw [hl]; exact tab_get hc
  rw [← hl] at hP
  have L : ∀ j, a = nI j → j < 4 → ¬ bt j = 0 → ∀ x, x ≤ min (sh j).length (kRo K * kSt K) → (∀ y, y < x → eqW (sh j) l y = true) → AW (fun _ => True) (rmd 6 0 0) mX12_judge 0 0 32 [some (.ref m), some (.int (nI j)), some (.int (nI x))] [] (MP m h s A) Q := by
    intro j hj hj4 hb
    obtain ⟨a1, a2, a3, a4⟩ := q.shs hj4
    have hTl := nI_T (n := (sh j).length) (by omega)
    have h7 := hP j hj hj4 hb
    have ef : fowI (sh j) l = if stopAt (eqW (sh j) l) (min (sh j).length l.length) < min (sh j).length l.length then nI (stopAt (eqW (sh j) l) (min (sh j).length l.length)) else if (sh j).length = l.length then -1 else nI (min (sh j).length l.length) := rfl
    rw [hll] at ef
    refine up_loop ?_ ?_
    · intro hgx
      rw [show stopAt (eqW (sh j) l) (min (sh j).length (kRo K * kSt K)) = min (sh j).length (kRo K * kSt K) from stopAt_all hgx, if_neg (by omega)] at ef
      have hTm := nI_T (n := min (sh j).length (kRo K * kSt K)) (by omega)
      refine r_iload_n (pc := 32) dX12_judge_32 rfl ?_
      refine r_aload_n (pc := 33) dX12_judge_33 rfl ?_
      refine r_getf (pc := 34) (k := 20) dX12_judge_34 hX12 eX12 (by decide) fX12_34 (fun _ q => mo hm q) rfl ?_
      refine r_iload_n (pc := 37) dX12_judge_37 rfl ?_
      refine r_ml (pc := 38) (i := 8) (j := j) hm dX12_judge_38 (by decide) (nI_T (by omega)) (show j < 4 by omega) ?_
      rw [a2]
      refine r_icmp_ge (pc := 39) 75 dX12_judge_39 (by decide) (fun c39 => ?_) (fun c39 => ?_)
      · skip
        refine r_iload_n (pc := 75) dX12_judge_75 rfl ?_
        refine r_aload_n (pc := 76) dX12_judge_76 rfl ?_
        refine r_getf (pc := 77) (k := 20) dX12_judge_77 hX12 eX12 (by decide) fX12_34 (fun _ q => mo hm q) rfl ?_
        refine r_iload_n (pc := 80) dX12_judge_80 rfl ?_
        refine r_ml (pc := 81) (i := 8) (j := j) hm dX12_judge_81 (by decide) (nI_T (by omega)) (show j < 4 by omega) ?_
        rw [a2]
        refine r_icmp_ne (pc := 82) 97 dX12_judge_82 (by decide) (fun c82 => ?_) (fun c82 => ?_)
        · skip
          have k1 : ¬ min (sh j).length (kRo K * kSt K) = (sh j).length := fun y => c82 (by rw [y])
          rw [if_neg (by omega)] at ef
          refine r_iload_n (pc := 97) dX12_judge_97 rfl ?_
          refine r_ireturn (pc := 98) (ty := .int) dX12_judge_98 rfl rfl ⟨Nat.zero_le _, Nat.zero_le _⟩ (fun gE hg => ?_)
          exact mR hg (by rw [ef] at h7; exact h7 _ _ q)
        · skip
          have k1 : min (sh j).length (kRo K * kSt K) = (sh j).length := (nI_eq (by omega) (by omega)).mp c82
          refine r_iload_n (pc := 85) dX12_judge_85 rfl ?_
          refine r_aload_n (pc := 86) dX12_judge_86 rfl ?_
          refine r_Vi (pc := 87) (μ' := mX12_cells) dX12_judge_87 nX12_66 iX12_cells vX12_cells kX12_cells rfl rfl (rr (by decide) rfl) rfl ⟨Nat.zero_le _, Nat.zero_le _⟩ (fun _ q_ => cvq q_ (ct_M_cells hm)) ?_
          rw [q.cce]
          refine r_icmp_ne (pc := 90) 97 dX12_judge_90 (by decide) (fun c90 => ?_) (fun c90 => ?_)
          · skip
            have k2 : ¬ min (sh j).length (kRo K * kSt K) = kRo K * kSt K := fun y => c90 (by rw [y])
            rw [if_neg (by omega)] at ef
            refine r_iload_n (pc := 97) dX12_judge_97 rfl ?_
            refine r_ireturn (pc := 98) (ty := .int) dX12_judge_98 rfl rfl ⟨Nat.zero_le _, Nat.zero_le _⟩ (fun gE hg => ?_)
            exact mR hg (by rw [ef] at h7; exact h7 _ _ q)
          · skip
            have k2 : min (sh j).length (kRo K * kSt K) = kRo K * kSt K := (nI_eq (by omega) (by omega)).mp c90
            rw [if_pos (by omega)] at ef
            refine r_iconst (pc := 93) (v := (-1)) dX12_judge_93 (by decide) ?_
            refine r_goto (pc := 94) 98 dX12_judge_94 (by decide) ?_
            refine r_ireturn (pc := 98) (ty := .int) dX12_judge_98 rfl rfl ⟨Nat.zero_le _, Nat.zero_le _⟩ (fun gE hg => ?_)
            exact mR hg (by rw [ef] at h7; exact h7 _ _ q)
      · skip
        refine r_iload_n (pc := 42) dX12_judge_42 rfl ?_
        refine r_aload_n (pc := 43) dX12_judge_43 rfl ?_
        refine r_Vi (pc := 44) (μ' := mX12_cells) dX12_judge_44 nX12_66 iX12_cells vX12_cells kX12_cells rfl rfl (rr (by decide) rfl) rfl ⟨Nat.zero_le _, Nat.zero_le _⟩ (fun _ q_ => cvq q_ (ct_M_cells hm)) ?_
        rw [q.cce]
        refine r_icmp_ge (pc := 47) 75 dX12_judge_47 (by decide) (fun c47 => ?_) (fun c47 => ?_)
        · skip
          refine r_iload_n (pc := 75) dX12_judge_75 rfl ?_
          refine r_aload_n (pc := 76) dX12_judge_76 rfl ?_
          refine r_getf (pc := 77) (k := 20) dX12_judge_77 hX12 eX12 (by decide) fX12_34 (fun _ q => mo hm q) rfl ?_
          refine r_iload_n (pc := 80) dX12_judge_80 rfl ?_
          refine r_ml (pc := 81) (i := 8) (j := j) hm dX12_judge_81 (by decide) (nI_T (by omega)) (show j < 4 by omega) ?_
          rw [a2]
          refine r_icmp_ne (pc := 82) 97 dX12_judge_82 (by decide) (fun c82 => ?_) (fun c82 => ?_)
          · skip
            have k1 : ¬ min (sh j).length (kRo K * kSt K) = (sh j).length := fun y => c82 (by rw [y])
            rw [if_neg (by omega)] at ef
            refine r_iload_n (pc := 97) dX12_judge_97 rfl ?_
            refine r_ireturn (pc := 98) (ty := .int) dX12_judge_98 rfl rfl ⟨Nat.zero_le _, Nat.zero_le _⟩ (fun gE hg => ?_)
            exact mR hg (by rw [ef] at h7; exact h7 _ _ q)
          · skip
            have k1 : min (sh j).length (kRo K * kSt K) = (sh j).length := (nI_eq (by omega) (by omega)).mp c82
            refine r_iload_n (pc := 85) dX12_judge_85 rfl ?_
            refine r_aload_n (pc := 86) dX12_judge_86 rfl ?_
            refine r_Vi (pc := 87) (μ' := mX12_cells) dX12_judge_87 nX12_66 iX12_cells vX12_cells kX12_cells rfl rfl (rr (by decide) rfl) rfl ⟨Nat.zero_le _, Nat.zero_le _⟩ (fun _ q_ => cvq q_ (ct_M_cells hm)) ?_
            rw [q.cce]
            refine r_icmp_ne (pc := 90) 97 dX12_judge_90 (by decide) (fun c90 => ?_) (fun c90 => ?_)
            · skip
              have k2 : ¬ min (sh j).length (kRo K * kSt K) = kRo K * kSt K := fun y => c90 (by rw [y])
              rw [if_neg (by omega)] at ef
              refine r_iload_n (pc := 97) dX12_judge_97 rfl ?_
              refine r_ireturn (pc := 98) (ty := .int) dX12_judge_98 rfl rfl ⟨Nat.zero_le _, Nat.zero_le _⟩ (fun gE hg => ?_)
              exact mR hg (by rw [ef] at h7; exact h7 _ _ q)
            · skip
              have k2 : min (sh j).length (kRo K * kSt K) = kRo K * kSt K := (nI_eq (by omega) (by omega)).mp c90
              rw [if_pos (by omega)] at ef
              refine r_iconst (pc := 93) (v := (-1)) dX12_judge_93 (by decide) ?_
              refine r_goto (pc := 94) 98 dX12_judge_94 (by decide) ?_
              refine r_ireturn (pc := 98) (ty := .int) dX12_judge_98 rfl rfl ⟨Nat.zero_le _, Nat.zero_le _⟩ (fun gE hg => ?_)
              exact mR hg (by rw [ef] at h7; exact h7 _ _ q)
        · skip
          exact absurd (fa_le.mpr (by
            have : ¬ (nI (sh j).length).toInt ≤ (nI (min (sh j).length (kRo K * kSt K))).toInt := fun y => c39 (fa_le.mpr y)
            omega)) c47
    · intro x hx ih hgx
      have hT := nI_T (n := x) (by omega)
      have cc := (q.rk.cell (show x < kRo K * kSt K by omega) (by omega)).1
      refine r_iload_n (pc := 32) dX12_judge_32 rfl ?_
      refine r_aload_n (pc := 33) dX12_judge_33 rfl ?_
      refine r_getf (pc := 34) (k := 20) dX12_judge_34 hX12 eX12 (by decide) fX12_34 (fun _ q => mo hm q) rfl ?_
      refine r_iload_n (pc := 37) dX12_judge_37 rfl ?_
      refine r_ml (pc := 38) (i := 8) (j := j) hm dX12_judge_38 (by decide) (nI_T (by omega)) (show j < 4 by omega) ?_
      rw [a2]
      refine r_icmp_ge (pc := 39) 75 dX12_judge_39 (by decide) (fun c39 => ?_) (fun c39 => ?_)
      · skip
        exact absurd c39 (fun y => by have := fa_le.mp y; omega)
      · skip
        refine r_iload_n (pc := 42) dX12_judge_42 rfl ?_
        refine r_aload_n (pc := 43) dX12_judge_43 rfl ?_
        refine r_Vi (pc := 44) (μ' := mX12_cells) dX12_judge_44 nX12_66 iX12_cells vX12_cells kX12_cells rfl rfl (rr (by decide) rfl) rfl ⟨Nat.zero_le _, Nat.zero_le _⟩ (fun _ q_ => cvq q_ (ct_M_cells hm)) ?_
        rw [q.cce]
        refine r_icmp_ge (pc := 47) 75 dX12_judge_47 (by decide) (fun c47 => ?_) (fun c47 => ?_)
        · skip
          exact absurd c47 (fun y => by have := fa_le.mp y; omega)
        · skip
          refine r_aload_n (pc := 50) dX12_judge_50 rfl ?_
          refine r_getf (pc := 51) (k := 21) dX12_judge_51 hX12 eX12 (by decide) fX12_37 (fun _ q => mo hm q) rfl ?_
          refine r_bipush (pc := 54) (v := 40) dX12_judge_54 (by decide) ?_
          refine r_iload_n (pc := 56) dX12_judge_56 rfl ?_
          refine r_imul (pc := 57) dX12_judge_57 ?_
          refine r_iload_n (pc := 58) dX12_judge_58 rfl ?_
          refine r_iadd (pc := 59) dX12_judge_59 ?_
          rw [ix40]
          refine r_ml (pc := 60) (i := 9) (j := (40 * j + x)) hm dX12_judge_60 (by decide) (nI_T (by omega)) (show (40 * j + x) < 160 by omega) ?_
          rw [a4 x (by omega)]
          refine r_aload_n (pc := 61) dX12_judge_61 rfl ?_
          refine r_iload_n (pc := 62) dX12_judge_62 rfl ?_
          refine r_Vi (pc := 63) (μ' := mX12_whenOf) dX12_judge_63 nX12_81 iX12_whenOf vX12_whenOf kX12_whenOf rfl rfl (rr (by decide) rfl) rfl ⟨Nat.zero_le _, Nat.zero_le _⟩ (fun _ q_ => cvq q_ (ct_M_whenOf hm (show x < 36 by omega))) ?_
          rw [cc, ← hg x (by omega)]
          refine r_icmp_ne (pc := 66) 75 dX12_judge_66 (by decide) (fun c66 => ?_) (fun c66 => ?_)
          · skip
            have k1 : eqW (sh j) l x = false := decide_eq_false c66
            rw [stopAt_eq hgx k1 hx, if_pos hx] at ef
            refine r_iload_n (pc := 75) dX12_judge_75 rfl ?_
            refine r_aload_n (pc := 76) dX12_judge_76 rfl ?_
            refine r_getf (pc := 77) (k := 20) dX12_judge_77 hX12 eX12 (by decide) fX12_34 (fun _ q => mo hm q) rfl ?_
            refine r_iload_n (pc := 80) dX12_judge_80 rfl ?_
            refine r_ml (pc := 81) (i := 8) (j := j) hm dX12_judge_81 (by decide) (nI_T (by omega)) (show j < 4 by omega) ?_
            rw [a2]
            refine r_icmp_ne (pc := 82) 97 dX12_judge_82 (by decide) (fun c82 => ?_) (fun c82 => ?_)
            · skip
              refine r_iload_n (pc := 97) dX12_judge_97 rfl ?_
              refine r_ireturn (pc := 98) (ty := .int) dX12_judge_98 rfl rfl ⟨Nat.zero_le _, Nat.zero_le _⟩ (fun gE hg => ?_)
              exact mR hg (by rw [ef] at h7; exact h7 _ _ q)
            · skip
              exact absurd ((nI_eq (by omega) (by omega)).mp c82) (by omega)
          · skip
            have k1 : eqW (sh j) l x = true := decide_eq_true c66
            refine r_iinc1 (pc := 69) dX12_judge_69 rfl (Nat.le_of_ble_eq_true rfl) rfl ?_
            dsimp only [lset]
            refine r_goto (pc := 72) 32 dX12_judge_72 (by decide) ?_
            rw [nI_1]
            exact ih (fun y hy => by
              by_cases e : y = x
              · rw [e]; exact k1
              · exact hgx y (by omega))
  refine aw_P (P' := MP m h s A) (fun _ q => q) ?_
  refine r_iload_n (pc := 0) dX12_judge_0 rfl ?_
  refine r_Sp (pc := 1) (μ' := mX12_isSheet) dX12_judge_1 nX12_217 sX12_isSheet kX12_isSheet rfl rfl (rr (by decide) rfl) rfl ⟨Nat.zero_le _, Nat.zero_le _⟩ (fun h => ct_M_isSheet h) ?_
  refine r_if_ne (pc := 4) 14 dX12_judge_4 (by decide) (fun c4 => ?_) (fun c4 => ?_)
  · skip
    have kb := b2i_n0.mp c4
    obtain ⟨j, hj, hj4⟩ := sh_t kb
    obtain ⟨a1, a2, a3, a4⟩ := q.shs hj4
    refine r_aload_n (pc := 14) dX12_judge_14 rfl ?_
    refine r_getf (pc := 15) (k := 19) dX12_judge_15 hX12 eX12 (by decide) fX12_31 (fun _ q => mo hm q) rfl ?_
    refine r_iload_n (pc := 18) dX12_judge_18 rfl ?_
    rw [hj]
    refine r_ml (pc := 19) (i := 7) (j := j) hm dX12_judge_19 (by decide) (nI_T (by omega)) (show j < 4 by omega) ?_
    rw [a1]
    refine r_if_ne (pc := 20) 30 dX12_judge_20 (by decide) (fun c20 => ?_) (fun c20 => ?_)
    · skip
      refine r_iconst (pc := 30) (v := 0) dX12_judge_30 (by decide) ?_
      refine r_istore_n (pc := 31) dX12_judge_31 rfl (Nat.le_of_ble_eq_true rfl) rfl ?_
      dsimp only [lset]
      exact L j hj hj4 c20 0 (Nat.zero_le _) (fun y hy => absurd hy (Nat.not_lt_zero y))
    · skip
      refine r_aload_n (pc := 23) dX12_judge_23 rfl ?_
      refine r_ldc (pc := 24) (v := (-1000000002)) dX12_judge_24 qX12_220 ?_
      refine r_Vi (pc := 26) (μ' := mX12_errs) dX12_judge_26 nX12_62 iX12_errs vX12_errs kX12_errs rfl rfl (rr (by decide) rfl) rfl ⟨Nat.zero_le _, Nat.zero_le _⟩ (fun _ q_ => cvq q_ (ct_M_errs hm 2 (by decide) (by decide))) ?_
      rw [show (-1000000002 : Int32) = -1000000000 - 2 from rfl]
      refine r_ireturn (pc := 29) (ty := .int) dX12_judge_29 rfl rfl ⟨Nat.zero_le _, Nat.zero_le _⟩ (fun gE hg => ?_)
      exact mR hg (e2 j hj hj4 c20 _ _ (q.err (by decide) rfl))
  · skip
    have kb := b2i_0.mp c4
    refine r_aload_n (pc := 7) dX12_judge_7 rfl ?_
    refine r_ldc (pc := 8) (v := (-1000000001)) dX12_judge_8 qX12_61 ?_
    refine r_Vi (pc := 10) (μ' := mX12_errs) dX12_judge_10 nX12_62 iX12_errs vX12_errs kX12_errs rfl rfl (rr (by decide) rfl) rfl ⟨Nat.zero_le _, Nat.zero_le _⟩ (fun _ q_ => cvq q_ (ct_M_errs hm 1 (by decide) (by decide))) ?_
    rw [show (-1000000001 : Int32) = -1000000000 - 1 from rfl]
    refine r_ireturn (pc := 13) (ty := .int) dX12_judge_13 rfl rfl ⟨Nat.zero_le _, Nat.zero_le _⟩ (fun gE hg => ?_)
    exact mR hg (e1 kb _ _ (q.err (by decide) rfl))
end Mmove
