/-! lay: the table of sums -/
def LI (ar ar1 : Nat → Nat → Int32) (key : Int32) (m0 i j : Nat) : Prop := (∀ k, k ≠ 24 → ar1 k = ar k) ∧ ∀ a b, b ≤ m0 → (a < i ∨ (a = i ∧ b < j)) → ar1 24 (25 * a + b) = dp (ar 15) (ar 20) (ar 21) (ar 22) (ar 23) key a b
theorem LI.up {ar ar1 : Nat → Nat → Int32} {key v : Int32} {m0 i j : Nat} (h : LI ar ar1 key m0 i j) (hm : m0 ≤ 24) (hj : j ≤ m0) (hv : v = dp (ar 15) (ar 20) (ar 21) (ar 22) (ar 23) key i j) : LI ar (aup ar1 24 (25 * i + j) v) key m0 i (j + 1) := by
  refine ⟨fun k hk => ?_, fun a b hb hab => ?_⟩
  · unfold aup; rw [if_neg hk]; exact h.1 k hk
  · unfold aup upd
    rw [if_pos rfl]
    by_cases e : 25 * a + b = 25 * i + j
    · have : a = i := by omega
      have : b = j := by omega
      subst a; subst b
      rw [if_pos rfl]; exact hv
    · rw [if_neg e]
      refine h.2 a b hb ?_
      rcases hab with q | ⟨q1, q2⟩
      · exact Or.inl q
      · refine Or.inr ⟨q1, ?_⟩
        subst q1
        have : b ≠ j := fun q => e (by rw [q])
        omega
theorem LI.row {ar ar1 : Nat → Nat → Int32} {key : Int32} {m0 i : Nat} (h : LI ar ar1 key m0 i (m0 + 1)) : LI ar ar1 key m0 (i + 1) 0 := ⟨h.1, fun a b hb hab => h.2 a b hb (by omega)⟩
abbrev rX8_lay : Room := rmK 2 0 0 44
set_option maxRecDepth 100000 in
set_option maxHeartbeats 400000 in
theorem c_mLay (l : Launch) {κ : zK} {G : zH} {x : Nat} {ad : Nat → Nat} {sc : Nat → Int32} {ar : Nat → Nat → Int32} (n m0 : Nat) (key : Int32) (hM : RM κ G x ad sc ar) (hn : sc 25 = nI n) (hn2 : n ≤ 24) (hm : sc 26 = nI m0) (hm2 : m0 ≤ 24) : Ct l yX8_lay cX8_lay 5 (some FieldType.int) rX8_lay κ [.ref x, .int key] G (pI (fun r G2 => r = dp (ar 15) (ar 20) (ar 21) (ar 22) (ar 23) key n m0 ∧ ∃ ar2, RM κ G2 x ad sc ar2 ∧ zF 1 G G2 ∧ (∀ k, k ≠ 24 → ar2 k = ar k) ∧ ∀ a c0, a ≤ n → c0 ≤ m0 → ar2 24 (25 * a + c0) = dp (ar 15) (ar 20) (ar 21) (ar 22) (ar 23) key a c0)) := by
  refine Ct.of (by decide +kernel) (fun v hv => by
    simp only [List.mem_cons, List.mem_nil_iff, or_false, List.not_mem_nil] at hv
    rcases hv with rfl | rfl <;> rfl) (Nat.le_of_ble_eq_true rfl) ?_
  intro p e s m args below meth cC
  refine z_L (L' := [some (.ref x), some (.int key), none, none, none]) rfl ?_
  generalize hQx : MQ below (zQc κ _) args s _ _ (zA κ) = Qx
  have hF : zF 1 G G := zF.rf
  have inner : ∀ (i : Nat), i ≤ n → (∀ (G1 : zH) (ar1 : Nat → Nat → Int32) (w4 : Option Value), RM κ G1 x ad sc ar1 → zF 1 G G1 → LI ar ar1 key m0 i (m0 + 1) → Z p l e rX8_lay s m args below meth cC yX8_lay cX8_lay 5 (some FieldType.int) κ Qx 0 0 G1 [some (.ref x), some (.int key), some (.int (nI i)), some (.int (nI (m0 + 1))), w4] 166 []) → ∀ (d j : Nat) (G1 : zH) (ar1 : Nat → Nat → Int32) (w4 : Option Value), j + d = m0 + 1 → RM κ G1 x ad sc ar1 → zF 1 G G1 → LI ar ar1 key m0 i j → Z p l e rX8_lay s m args below meth cC yX8_lay cX8_lay 5 (some FieldType.int) κ Qx 0 0 G1 [some (.ref x), some (.int key), some (.int (nI i)), some (.int (nI j)), w4] 12 [] := by
    intro i hin hk d
    induction d with
    | zero =>
      intro j G1 ar1 w4 hjd hM hF hI
      refine z_il3 (pc := 12) dX8_lay_12 ?_
      refine z_al0 (pc := 13) dX8_lay_13 ?_
      refine z_mg26 (pc := 14) hM rfl dX8_lay_14 ?_
      rw [hm]
      refine z_icmp_gt (pc := 17) 166 dX8_lay_17 rfl (fun c17 => ?_) (fun c17 => absurd (by rw [nI_ltI (by omega) (by omega)]; omega) c17)
      rw [show j = m0 + 1 by omega] at hI ⊢
      exact hk _ _ _ hM hF hI
    | succ d ih =>
      intro j G1 ar1 w4 hjd hM hF hI
      have hjm : j ≤ m0 := by omega
      rcases i with _ | i
      · rcases j with _ | j
        · refine z_il3 (pc := 12) dX8_lay_12 ?_
          refine z_al0 (pc := 13) dX8_lay_13 ?_
          refine z_mg26 (pc := 14) hM rfl dX8_lay_14 ?_
          rw [hm]
          refine z_icmp_gt (pc := 17) 166 dX8_lay_17 rfl (fun c17 => absurd c17 (by rw [nI_ltI (by omega) (by omega)]; omega)) (fun c17 => ?_)
          refine z_il2 (pc := 20) dX8_lay_20 ?_
          refine z_if_ne (pc := 21) 32 dX8_lay_21 rfl (fun c21 => absurd (nI_0) c21) (fun c21 => ?_)
          refine z_il3 (pc := 24) dX8_lay_24 ?_
          refine z_if_ne (pc := 25) 32 dX8_lay_25 rfl (fun c25 => absurd (nI_0) c25) (fun c25 => ?_)
          refine z_iconst (pc := 28) (0) (by decide) dX8_lay_28 ?_
          refine z_goto (pc := 29) 34 dX8_lay_29 rfl ?_
          refine z_is4 (pc := 34) dX8_lay_34 (by decide) ?_
          refine z_il2 (pc := 36) dX8_lay_36 ?_
          refine z_if_le (pc := 37) 73 dX8_lay_37 rfl (fun c37 => ?_) (fun c37 => absurd (by rw [nI_0]; exact Int32.le_refl _) c37)
          refine z_il2 (pc := 73) dX8_lay_73 ?_
          refine z_if_le (pc := 74) 110 dX8_lay_74 rfl (fun c74 => ?_) (fun c74 => absurd (by rw [nI_0]; exact Int32.le_refl _) c74)
          refine z_il3 (pc := 110) dX8_lay_110 ?_
          refine z_if_le (pc := 111) 147 dX8_lay_111 rfl (fun c111 => ?_) (fun c111 => absurd (by rw [nI_0]; exact Int32.le_refl _) c111)
          refine z_al0 (pc := 147) dX8_lay_147 ?_
          refine z_mg24 (pc := 148) hM rfl dX8_lay_148 ?_
          refine z_bipush (pc := 151) (25) (by decide) dX8_lay_151 ?_
          refine z_il2 (pc := 153) dX8_lay_153 ?_
          refine z_imul (pc := 154) dX8_lay_154 ?_
          refine z_il3 (pc := 155) dX8_lay_155 ?_
          refine z_iadd (pc := 156) dX8_lay_156 ?_
          refine z_il4 (pc := 157) dX8_lay_157 ?_
          rw [ix25]
          refine z_mst (pc := 159) 24 625 hM rfl (by decide) rfl (by omega) dX8_lay_159 (fun G1 hM1 hF1 => ?_)
          have hF := zF.trans hF hF1
          clear hF1
          replace hM := hM1
          clear hM1
          refine z_ii3 (pc := 160) (nI (0 + 1)) dX8_lay_160 (nI_1 _) (by decide) ?_
          refine z_goto (pc := 163) 12 dX8_lay_163 rfl ?_
          exact ih (0 + 1) _ _ _ (by omega) hM hF (hI.up hm2 hjm (by
            have hk15 := hI.1 15 (by omega)
            have hk20 := hI.1 20 (by omega)
            have hk21 := hI.1 21 (by omega)
            have hk22 := hI.1 22 (by omega)
            have hk23 := hI.1 23 (by omega)
            rfl))
        · refine z_il3 (pc := 12) dX8_lay_12 ?_
          refine z_al0 (pc := 13) dX8_lay_13 ?_
          refine z_mg26 (pc := 14) hM rfl dX8_lay_14 ?_
          rw [hm]
          refine z_icmp_gt (pc := 17) 166 dX8_lay_17 rfl (fun c17 => absurd c17 (by rw [nI_ltI (by omega) (by omega)]; omega)) (fun c17 => ?_)
          refine z_il2 (pc := 20) dX8_lay_20 ?_
          refine z_if_ne (pc := 21) 32 dX8_lay_21 rfl (fun c21 => absurd (nI_0) c21) (fun c21 => ?_)
          refine z_il3 (pc := 24) dX8_lay_24 ?_
          refine z_if_ne (pc := 25) 32 dX8_lay_25 rfl (fun c25 => ?_) (fun c25 => absurd c25 (nI_ne0 (by omega) (by omega)))
          refine z_ldc (pc := 32) kw_899 dX8_lay_32 ?_
          refine z_is4 (pc := 34) dX8_lay_34 (by decide) ?_
          refine z_il2 (pc := 36) dX8_lay_36 ?_
          refine z_if_le (pc := 37) 73 dX8_lay_37 rfl (fun c37 => ?_) (fun c37 => absurd (by rw [nI_0]; exact Int32.le_refl _) c37)
          refine z_il2 (pc := 73) dX8_lay_73 ?_
          refine z_if_le (pc := 74) 110 dX8_lay_74 rfl (fun c74 => ?_) (fun c74 => absurd (by rw [nI_0]; exact Int32.le_refl _) c74)
          refine z_il3 (pc := 110) dX8_lay_110 ?_
          refine z_if_le (pc := 111) 147 dX8_lay_111 rfl (fun c111 => absurd c111 (nI_nle (by omega) (by omega))) (fun c111 => ?_)
          refine z_il4 (pc := 114) dX8_lay_114 ?_
          refine z_al0 (pc := 116) dX8_lay_116 ?_
          refine z_mg24 (pc := 117) hM rfl dX8_lay_117 ?_
          refine z_bipush (pc := 120) (25) (by decide) dX8_lay_120 ?_
          refine z_il2 (pc := 122) dX8_lay_122 ?_
          refine z_imul (pc := 123) dX8_lay_123 ?_
          refine z_il3 (pc := 124) dX8_lay_124 ?_
          refine z_iadd (pc := 125) dX8_lay_125 ?_
          refine z_iconst (pc := 126) (1) (by decide) dX8_lay_126 ?_
          refine z_isub (pc := 127) dX8_lay_127 ?_
          rw [ix25, show nI (25 * 0 + (j + 1)) - 1 = nI (25 * 0 + j) from nI_pred _]
          refine z_mld (pc := 128) 24 625 hM rfl (by decide) rfl (by omega) dX8_lay_128 ?_
          refine z_al0 (pc := 129) dX8_lay_129 ?_
          refine z_al0 (pc := 130) dX8_lay_130 ?_
          refine z_mg22 (pc := 131) hM rfl dX8_lay_131 ?_
          refine z_il3 (pc := 134) dX8_lay_134 ?_
          refine z_iconst (pc := 135) (1) (by decide) dX8_lay_135 ?_
          refine z_isub (pc := 136) dX8_lay_136 ?_
          rw [nI_pred]
          refine z_mld (pc := 137) 22 24 hM rfl (by decide) rfl (by omega) dX8_lay_137 ?_
          refine z_callVr (pc := 138) (c_mAlone l _ hM) hM.1 rfl rfl kw_912 zc_X8_alone (by decide) (by decide) rfl (Nat.le_of_ble_eq_true rfl) dX8_lay_138 ?_
          refine z_iadd (pc := 141) dX8_lay_141 ?_
          refine z_mmin (pc := 142) kw_911 kw_280 kw_12 kw_281 (by decide) (Nat.le_of_ble_eq_true rfl) dX8_lay_142 ?_
          refine z_is4 (pc := 145) dX8_lay_145 (by decide) ?_
          refine z_al0 (pc := 147) dX8_lay_147 ?_
          refine z_mg24 (pc := 148) hM rfl dX8_lay_148 ?_
          refine z_bipush (pc := 151) (25) (by decide) dX8_lay_151 ?_
          refine z_il2 (pc := 153) dX8_lay_153 ?_
          refine z_imul (pc := 154) dX8_lay_154 ?_
          refine z_il3 (pc := 155) dX8_lay_155 ?_
          refine z_iadd (pc := 156) dX8_lay_156 ?_
          refine z_il4 (pc := 157) dX8_lay_157 ?_
          rw [ix25]
          refine z_mst (pc := 159) 24 625 hM rfl (by decide) rfl (by omega) dX8_lay_159 (fun G1 hM1 hF1 => ?_)
          have hF := zF.trans hF hF1
          clear hF1
          replace hM := hM1
          clear hM1
          refine z_ii3 (pc := 160) (nI (j + 1 + 1)) dX8_lay_160 (nI_1 _) (by decide) ?_
          refine z_goto (pc := 163) 12 dX8_lay_163 rfl ?_
          exact ih (j + 1 + 1) _ _ _ (by omega) hM hF (hI.up hm2 hjm (by
            have hk15 := hI.1 15 (by omega)
            have hk20 := hI.1 20 (by omega)
            have hk21 := hI.1 21 (by omega)
            have hk22 := hI.1 22 (by omega)
            have hk23 := hI.1 23 (by omega)
            have e1 := hI.2 0 j (by omega) (by omega)
            rw [e1, imin_top, hk15, hk22]
            rfl))
      · rcases j with _ | j
        · refine z_il3 (pc := 12) dX8_lay_12 ?_
          refine z_al0 (pc := 13) dX8_lay_13 ?_
          refine z_mg26 (pc := 14) hM rfl dX8_lay_14 ?_
          rw [hm]
          refine z_icmp_gt (pc := 17) 166 dX8_lay_17 rfl (fun c17 => absurd c17 (by rw [nI_ltI (by omega) (by omega)]; omega)) (fun c17 => ?_)
          refine z_il2 (pc := 20) dX8_lay_20 ?_
          refine z_if_ne (pc := 21) 32 dX8_lay_21 rfl (fun c21 => ?_) (fun c21 => absurd c21 (nI_ne0 (by omega) (by omega)))
          refine z_ldc (pc := 32) kw_899 dX8_lay_32 ?_
          refine z_is4 (pc := 34) dX8_lay_34 (by decide) ?_
          refine z_il2 (pc := 36) dX8_lay_36 ?_
          refine z_if_le (pc := 37) 73 dX8_lay_37 rfl (fun c37 => absurd c37 (nI_nle (by omega) (by omega))) (fun c37 => ?_)
          refine z_il3 (pc := 40) dX8_lay_40 ?_
          refine z_if_le (pc := 41) 73 dX8_lay_41 rfl (fun c41 => ?_) (fun c41 => absurd (by rw [nI_0]; exact Int32.le_refl _) c41)
          refine z_il2 (pc := 73) dX8_lay_73 ?_
          refine z_if_le (pc := 74) 110 dX8_lay_74 rfl (fun c74 => absurd c74 (nI_nle (by omega) (by omega))) (fun c74 => ?_)
          refine z_il4 (pc := 77) dX8_lay_77 ?_
          refine z_al0 (pc := 79) dX8_lay_79 ?_
          refine z_mg24 (pc := 80) hM rfl dX8_lay_80 ?_
          refine z_bipush (pc := 83) (25) (by decide) dX8_lay_83 ?_
          refine z_il2 (pc := 85) dX8_lay_85 ?_
          refine z_iconst (pc := 86) (1) (by decide) dX8_lay_86 ?_
          refine z_isub (pc := 87) dX8_lay_87 ?_
          rw [nI_pred]
          refine z_imul (pc := 88) dX8_lay_88 ?_
          refine z_il3 (pc := 89) dX8_lay_89 ?_
          refine z_iadd (pc := 90) dX8_lay_90 ?_
          rw [ix25]
          refine z_mld (pc := 91) 24 625 hM rfl (by decide) rfl (by omega) dX8_lay_91 ?_
          refine z_al0 (pc := 92) dX8_lay_92 ?_
          refine z_al0 (pc := 93) dX8_lay_93 ?_
          refine z_mg20 (pc := 94) hM rfl dX8_lay_94 ?_
          refine z_il2 (pc := 97) dX8_lay_97 ?_
          refine z_iconst (pc := 98) (1) (by decide) dX8_lay_98 ?_
          refine z_isub (pc := 99) dX8_lay_99 ?_
          rw [nI_pred]
          refine z_mld (pc := 100) 20 24 hM rfl (by decide) rfl (by omega) dX8_lay_100 ?_
          refine z_callVr (pc := 101) (c_mAlone l _ hM) hM.1 rfl rfl kw_912 zc_X8_alone (by decide) (by decide) rfl (Nat.le_of_ble_eq_true rfl) dX8_lay_101 ?_
          refine z_iadd (pc := 104) dX8_lay_104 ?_
          refine z_mmin (pc := 105) kw_911 kw_280 kw_12 kw_281 (by decide) (Nat.le_of_ble_eq_true rfl) dX8_lay_105 ?_
          refine z_is4 (pc := 108) dX8_lay_108 (by decide) ?_
          refine z_il3 (pc := 110) dX8_lay_110 ?_
          refine z_if_le (pc := 111) 147 dX8_lay_111 rfl (fun c111 => ?_) (fun c111 => absurd (by rw [nI_0]; exact Int32.le_refl _) c111)
          refine z_al0 (pc := 147) dX8_lay_147 ?_
          refine z_mg24 (pc := 148) hM rfl dX8_lay_148 ?_
          refine z_bipush (pc := 151) (25) (by decide) dX8_lay_151 ?_
          refine z_il2 (pc := 153) dX8_lay_153 ?_
          refine z_imul (pc := 154) dX8_lay_154 ?_
          refine z_il3 (pc := 155) dX8_lay_155 ?_
          refine z_iadd (pc := 156) dX8_lay_156 ?_
          refine z_il4 (pc := 157) dX8_lay_157 ?_
          rw [ix25]
          refine z_mst (pc := 159) 24 625 hM rfl (by decide) rfl (by omega) dX8_lay_159 (fun G1 hM1 hF1 => ?_)
          have hF := zF.trans hF hF1
          clear hF1
          replace hM := hM1
          clear hM1
          refine z_ii3 (pc := 160) (nI (0 + 1)) dX8_lay_160 (nI_1 _) (by decide) ?_
          refine z_goto (pc := 163) 12 dX8_lay_163 rfl ?_
          exact ih (0 + 1) _ _ _ (by omega) hM hF (hI.up hm2 hjm (by
            have hk15 := hI.1 15 (by omega)
            have hk20 := hI.1 20 (by omega)
            have hk21 := hI.1 21 (by omega)
            have hk22 := hI.1 22 (by omega)
            have hk23 := hI.1 23 (by omega)
            have e1 := hI.2 i 0 (by omega) (by omega)
            rw [e1, imin_top, hk15, hk20]
            rfl))
        · refine z_il3 (pc := 12) dX8_lay_12 ?_
          refine z_al0 (pc := 13) dX8_lay_13 ?_
          refine z_mg26 (pc := 14) hM rfl dX8_lay_14 ?_
          rw [hm]
          refine z_icmp_gt (pc := 17) 166 dX8_lay_17 rfl (fun c17 => absurd c17 (by rw [nI_ltI (by omega) (by omega)]; omega)) (fun c17 => ?_)
          refine z_il2 (pc := 20) dX8_lay_20 ?_
          refine z_if_ne (pc := 21) 32 dX8_lay_21 rfl (fun c21 => ?_) (fun c21 => absurd c21 (nI_ne0 (by omega) (by omega)))
          refine z_ldc (pc := 32) kw_899 dX8_lay_32 ?_
          refine z_is4 (pc := 34) dX8_lay_34 (by decide) ?_
          refine z_il2 (pc := 36) dX8_lay_36 ?_
          refine z_if_le (pc := 37) 73 dX8_lay_37 rfl (fun c37 => absurd c37 (nI_nle (by omega) (by omega))) (fun c37 => ?_)
          refine z_il3 (pc := 40) dX8_lay_40 ?_
          refine z_if_le (pc := 41) 73 dX8_lay_41 rfl (fun c41 => absurd c41 (nI_nle (by omega) (by omega))) (fun c41 => ?_)
          refine z_al0 (pc := 44) dX8_lay_44 ?_
          refine z_mg24 (pc := 45) hM rfl dX8_lay_45 ?_
          refine z_bipush (pc := 48) (25) (by decide) dX8_lay_48 ?_
          refine z_il2 (pc := 50) dX8_lay_50 ?_
          refine z_iconst (pc := 51) (1) (by decide) dX8_lay_51 ?_
          refine z_isub (pc := 52) dX8_lay_52 ?_
          rw [nI_pred]
          refine z_imul (pc := 53) dX8_lay_53 ?_
          refine z_il3 (pc := 54) dX8_lay_54 ?_
          refine z_iadd (pc := 55) dX8_lay_55 ?_
          refine z_iconst (pc := 56) (1) (by decide) dX8_lay_56 ?_
          refine z_isub (pc := 57) dX8_lay_57 ?_
          rw [ix25, show nI (25 * i + (j + 1)) - 1 = nI (25 * i + j) from nI_pred _]
          refine z_mld (pc := 58) 24 625 hM rfl (by decide) rfl (by omega) dX8_lay_58 ?_
          refine z_al0 (pc := 59) dX8_lay_59 ?_
          refine z_il2 (pc := 60) dX8_lay_60 ?_
          refine z_iconst (pc := 61) (1) (by decide) dX8_lay_61 ?_
          refine z_isub (pc := 62) dX8_lay_62 ?_
          refine z_il3 (pc := 63) dX8_lay_63 ?_
          rw [nI_pred]
          refine z_iconst (pc := 64) (1) (by decide) dX8_lay_64 ?_
          refine z_isub (pc := 65) dX8_lay_65 ?_
          rw [nI_pred]
          refine z_il1 (pc := 66) dX8_lay_66 ?_
          refine z_callVr (pc := 67) (c_mOfTwo l i j key hM (by omega) (by omega)) hM.1 rfl rfl kw_904 zc_X8_ofTwo (by decide) (by decide) rfl (Nat.le_of_ble_eq_true rfl) dX8_lay_67 ?_
          refine z_iadd (pc := 70) dX8_lay_70 ?_
          refine z_is4 (pc := 71) dX8_lay_71 (by decide) ?_
          refine z_il2 (pc := 73) dX8_lay_73 ?_
          refine z_if_le (pc := 74) 110 dX8_lay_74 rfl (fun c74 => absurd c74 (nI_nle (by omega) (by omega))) (fun c74 => ?_)
          refine z_il4 (pc := 77) dX8_lay_77 ?_
          refine z_al0 (pc := 79) dX8_lay_79 ?_
          refine z_mg24 (pc := 80) hM rfl dX8_lay_80 ?_
          refine z_bipush (pc := 83) (25) (by decide) dX8_lay_83 ?_
          refine z_il2 (pc := 85) dX8_lay_85 ?_
          refine z_iconst (pc := 86) (1) (by decide) dX8_lay_86 ?_
          refine z_isub (pc := 87) dX8_lay_87 ?_
          rw [nI_pred]
          refine z_imul (pc := 88) dX8_lay_88 ?_
          refine z_il3 (pc := 89) dX8_lay_89 ?_
          refine z_iadd (pc := 90) dX8_lay_90 ?_
          rw [ix25]
          refine z_mld (pc := 91) 24 625 hM rfl (by decide) rfl (by omega) dX8_lay_91 ?_
          refine z_al0 (pc := 92) dX8_lay_92 ?_
          refine z_al0 (pc := 93) dX8_lay_93 ?_
          refine z_mg20 (pc := 94) hM rfl dX8_lay_94 ?_
          refine z_il2 (pc := 97) dX8_lay_97 ?_
          refine z_iconst (pc := 98) (1) (by decide) dX8_lay_98 ?_
          refine z_isub (pc := 99) dX8_lay_99 ?_
          rw [nI_pred]
          refine z_mld (pc := 100) 20 24 hM rfl (by decide) rfl (by omega) dX8_lay_100 ?_
          refine z_callVr (pc := 101) (c_mAlone l _ hM) hM.1 rfl rfl kw_912 zc_X8_alone (by decide) (by decide) rfl (Nat.le_of_ble_eq_true rfl) dX8_lay_101 ?_
          refine z_iadd (pc := 104) dX8_lay_104 ?_
          refine z_mmin (pc := 105) kw_911 kw_280 kw_12 kw_281 (by decide) (Nat.le_of_ble_eq_true rfl) dX8_lay_105 ?_
          refine z_is4 (pc := 108) dX8_lay_108 (by decide) ?_
          refine z_il3 (pc := 110) dX8_lay_110 ?_
          refine z_if_le (pc := 111) 147 dX8_lay_111 rfl (fun c111 => absurd c111 (nI_nle (by omega) (by omega))) (fun c111 => ?_)
          refine z_il4 (pc := 114) dX8_lay_114 ?_
          refine z_al0 (pc := 116) dX8_lay_116 ?_
          refine z_mg24 (pc := 117) hM rfl dX8_lay_117 ?_
          refine z_bipush (pc := 120) (25) (by decide) dX8_lay_120 ?_
          refine z_il2 (pc := 122) dX8_lay_122 ?_
          refine z_imul (pc := 123) dX8_lay_123 ?_
          refine z_il3 (pc := 124) dX8_lay_124 ?_
          refine z_iadd (pc := 125) dX8_lay_125 ?_
          refine z_iconst (pc := 126) (1) (by decide) dX8_lay_126 ?_
          refine z_isub (pc := 127) dX8_lay_127 ?_
          rw [ix25, show nI (25 * (i + 1) + (j + 1)) - 1 = nI (25 * (i + 1) + j) from nI_pred _]
          refine z_mld (pc := 128) 24 625 hM rfl (by decide) rfl (by omega) dX8_lay_128 ?_
          refine z_al0 (pc := 129) dX8_lay_129 ?_
          refine z_al0 (pc := 130) dX8_lay_130 ?_
          refine z_mg22 (pc := 131) hM rfl dX8_lay_131 ?_
          refine z_il3 (pc := 134) dX8_lay_134 ?_
          refine z_iconst (pc := 135) (1) (by decide) dX8_lay_135 ?_
          refine z_isub (pc := 136) dX8_lay_136 ?_
          rw [nI_pred]
          refine z_mld (pc := 137) 22 24 hM rfl (by decide) rfl (by omega) dX8_lay_137 ?_
          refine z_callVr (pc := 138) (c_mAlone l _ hM) hM.1 rfl rfl kw_912 zc_X8_alone (by decide) (by decide) rfl (Nat.le_of_ble_eq_true rfl) dX8_lay_138 ?_
          refine z_iadd (pc := 141) dX8_lay_141 ?_
          refine z_mmin (pc := 142) kw_911 kw_280 kw_12 kw_281 (by decide) (Nat.le_of_ble_eq_true rfl) dX8_lay_142 ?_
          refine z_is4 (pc := 145) dX8_lay_145 (by decide) ?_
          refine z_al0 (pc := 147) dX8_lay_147 ?_
          refine z_mg24 (pc := 148) hM rfl dX8_lay_148 ?_
          refine z_bipush (pc := 151) (25) (by decide) dX8_lay_151 ?_
          refine z_il2 (pc := 153) dX8_lay_153 ?_
          refine z_imul (pc := 154) dX8_lay_154 ?_
          refine z_il3 (pc := 155) dX8_lay_155 ?_
          refine z_iadd (pc := 156) dX8_lay_156 ?_
          refine z_il4 (pc := 157) dX8_lay_157 ?_
          rw [ix25]
          refine z_mst (pc := 159) 24 625 hM rfl (by decide) rfl (by omega) dX8_lay_159 (fun G1 hM1 hF1 => ?_)
          have hF := zF.trans hF hF1
          clear hF1
          replace hM := hM1
          clear hM1
          refine z_ii3 (pc := 160) (nI (j + 1 + 1)) dX8_lay_160 (nI_1 _) (by decide) ?_
          refine z_goto (pc := 163) 12 dX8_lay_163 rfl ?_
          exact ih (j + 1 + 1) _ _ _ (by omega) hM hF (hI.up hm2 hjm (by
            have hk15 := hI.1 15 (by omega)
            have hk20 := hI.1 20 (by omega)
            have hk21 := hI.1 21 (by omega)
            have hk22 := hI.1 22 (by omega)
            have hk23 := hI.1 23 (by omega)
            have e1 := hI.2 i j (by omega) (by omega)
            have e2 := hI.2 i (j + 1) (by omega) (by omega)
            have e3 := hI.2 (i + 1) j (by omega) (by omega)
            rw [e1, e2, e3, hk15, hk20, hk21, hk22, hk23]
            rfl))
  have outer : ∀ (d i : Nat) (G1 : zH) (ar1 : Nat → Nat → Int32) (w3 w4 : Option Value), i + d = n + 1 → RM κ G1 x ad sc ar1 → zF 1 G G1 → LI ar ar1 key m0 i 0 → Z p l e rX8_lay s m args below meth cC yX8_lay cX8_lay 5 (some FieldType.int) κ Qx 0 0 G1 [some (.ref x), some (.int key), some (.int (nI i)), w3, w4] 2 [] := by
    intro d
    induction d with
    | zero =>
      intro i G1 ar1 w3 w4 hid hM hF hI
      refine z_il2 (pc := 2) dX8_lay_2 ?_
      refine z_al0 (pc := 3) dX8_lay_3 ?_
      refine z_mg25 (pc := 4) hM rfl dX8_lay_4 ?_
      rw [hn]
      refine z_icmp_gt (pc := 7) 172 dX8_lay_7 rfl (fun c7 => ?_) (fun c7 => absurd (by rw [nI_ltI (by omega) (by omega)]; omega) c7)
      rw [show i = n + 1 by omega] at hI
      refine z_al0 (pc := 172) dX8_lay_172 ?_
      refine z_mg24 (pc := 173) hM rfl dX8_lay_173 ?_
      refine z_bipush (pc := 176) (25) (by decide) dX8_lay_176 ?_
      refine z_al0 (pc := 178) dX8_lay_178 ?_
      refine z_mg25 (pc := 179) hM rfl dX8_lay_179 ?_
      refine z_imul (pc := 182) dX8_lay_182 ?_
      refine z_al0 (pc := 183) dX8_lay_183 ?_
      refine z_mg26 (pc := 184) hM rfl dX8_lay_184 ?_
      refine z_iadd (pc := 187) dX8_lay_187 ?_
      rw [hn, hm, ix25]
      refine z_mld (pc := 188) 24 625 hM rfl (by decide) rfl (by omega) dX8_lay_188 ?_
      rw [← hQx]
      refine z_iret (pc := 189) rfl (by decide) dX8_lay_189 (⟨_, rfl, by rw [hI.2 n m0 (Nat.le_refl _) (by omega)], _, hM, hF, hI.1, fun a c0 ha hb => hI.2 a c0 hb (by omega)⟩)
    | succ d ih =>
      intro i G1 ar1 w3 w4 hid hM hF hI
      refine z_il2 (pc := 2) dX8_lay_2 ?_
      refine z_al0 (pc := 3) dX8_lay_3 ?_
      refine z_mg25 (pc := 4) hM rfl dX8_lay_4 ?_
      rw [hn]
      refine z_icmp_gt (pc := 7) 172 dX8_lay_7 rfl (fun c7 => absurd c7 (by rw [nI_ltI (by omega) (by omega)]; omega)) (fun c7 => ?_)
      refine z_iconst (pc := 10) (0) (by decide) dX8_lay_10 ?_
      refine z_is3 (pc := 11) dX8_lay_11 (by decide) ?_
      refine inner i (by omega) (fun G1 ar1 w4 hM hF hI => ?_) (m0 + 1) 0 _ _ _ (by omega) hM hF hI
      refine z_ii2 (pc := 166) (nI (i + 1)) dX8_lay_166 (nI_1 _) (by decide) ?_
      refine z_goto (pc := 169) 2 dX8_lay_169 rfl ?_
      exact ih (i + 1) _ _ _ _ (by omega) hM hF hI.row
  refine z_iconst (pc := 0) (0) (by decide) dX8_lay_0 ?_
  refine z_is2 (pc := 1) dX8_lay_1 (by decide) ?_
  exact outer (n + 1) 0 _ _ _ _ (by omega) hM hF ⟨fun _ _ => rfl, fun a c0 _ h => by omega⟩
