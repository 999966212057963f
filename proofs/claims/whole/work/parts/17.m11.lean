/-- the span of words v, as the reference goes through the sheets -/
def spanM (ar : Nat → Nat → Int32) (v q g : Int32) : Nat → Int32
  | 0 => -1
  | k + 1 => if ar 3 k = v ∧ ¬ frg ar k q ∧ (spanM ar v q g k = -1 ∨ (if g = 0 then ar 2 k < spanM ar v q g k else spanM ar v q g k < ar 2 k)) then ar 2 k else spanM ar v q g k
def cntF (ar : Nat → Nat → Int32) : Nat → Int32
  | 0 => 0
  | k + 1 => cntF ar k + zb (ar 5 k ≠ -1)
def lenS (ar : Nat → Nat → Int32) : Nat → Int32
  | 0 => 0
  | k + 1 => lenS ar k + ar 4 k
def cntR (n c d w : Nat) (ar : Nat → Nat → Int32) (what : Int32) : Int32 := if what = 0 then nI w else if what = 1 then nI n else if what = 2 then cntF ar n else if what = 3 then lenS ar n else if what = 4 then nI c else if what = 5 then nI d else -1
theorem w6 (v : Int32) : v = 0 ∨ v = 1 ∨ v = 2 ∨ v = 3 ∨ v = 4 ∨ v = 5 ∨ ((v.toInt < 0 ∨ 5 < v.toInt) ∧ v ≠ 0 ∧ v ≠ 1 ∧ v ≠ 2 ∧ v ≠ 3 ∧ v ≠ 4 ∧ v ≠ 5) := by
  simp only [ne_eq, i_eq, i_0, i_n1, i_n2, i_n3, i_n4, i_n5]
  omega
abbrev rX8_doubles : Room := rmK 1 0 0 21
set_option maxRecDepth 100000 in
set_option maxHeartbeats 400000 in
theorem c_mDoubles (l : Launch) {κ : zK} {G : zH} {x : Nat} {ad : Nat → Nat} {sc : Nat → Int32} {ar : Nat → Nat → Int32} (n c d w : Nat) (ln : Nat → Nat) (a0 b0 : Int32) (hM : RM κ G x ad sc ar) (hJ : MJ n c d w ln sc ar) : Ct l yX8_doubles cX8_doubles 4 (some FieldType.boolean) rX8_doubles κ [.ref x, .int a0, .int b0] G (pI (fun r G2 => ∃ sc2 ar2, RM κ G2 x ad sc2 ar2 ∧ zF 1 G G2 ∧ ((okDbl n d ar a0 b0 ∧ r = 1 ∧ sc2 = sup (sup sc 0 0) 18 (nI (d + 1)) ∧ ar2 = oDbl ar d a0 b0) ∨ (¬ okDbl n d ar a0 b0 ∧ r = 0 ∧ sc2 = sup sc 0 0 ∧ ar2 = ar)))) := by
  refine Ct.of (by decide +kernel) (fun v hv => by
    simp only [List.mem_cons, List.mem_nil_iff, or_false, List.not_mem_nil] at hv
    rcases hv with rfl | rfl | rfl <;> rfl) (Nat.le_of_ble_eq_true rfl) ?_
  intro p e s m args below meth cC
  refine z_L (L' := [some (.ref x), some (.int a0), some (.int b0), none]) rfl ?_
  generalize hQx : MQ below (zQc κ _) args s _ _ (zA κ) = Qx
  have hF : zF 1 G G := zF.rf
  refine z_al0 (pc := 0) dX8_doubles_0 ?_
  refine z_iconst (pc := 1) (0) (by decide) dX8_doubles_1 ?_
  refine z_mp0 (pc := 2) hM rfl dX8_doubles_2 (fun G1 hM1 hF1 => ?_)
  have hF := zF.trans hF hF1
  clear hF1
  replace hM := hM1
  clear hM1
  have e16 : sup sc 0 0 16 = nI n := hJ.1
  have e17 : sup sc 0 0 17 = nI c := hJ.2.2.1
  have e18 : sup sc 0 0 18 = nI d := hJ.2.2.2.2.1
  have e19 : sup sc 0 0 19 = nI w := hJ.2.2.2.2.2.2.1
  have hn20 := hJ.2.1
  have hc200 := hJ.2.2.2.1
  have hd60 := hJ.2.2.2.2.2.1
  have hw1000 := hJ.2.2.2.2.2.2.2.1
  refine z_al0 (pc := 5) dX8_doubles_5 ?_
  refine z_il1 (pc := 6) dX8_doubles_6 ?_
  refine z_callVr (pc := 7) (c_mIsSheet l a0 hM) hM.1 rfl rfl kw_844 zc_X8_isSheet (by decide) (by decide) rfl (Nat.le_of_ble_eq_true rfl) dX8_doubles_7 ?_
  rw [e16]
  refine z_ifz_eq (pc := 10) 45 dX8_doubles_10 rfl (fun c10 => ?_) (fun c10 => ?_)
  · refine z_iconst (pc := 45) (0) (by decide) dX8_doubles_45 ?_
    rw [← hQx]
    refine z_zret (pc := 46) rfl rfl (by decide) dX8_doubles_46 (by
      refine ⟨_, rfl, _, _, hM, hF, Or.inr ⟨?_, rfl, rfl, rfl⟩⟩
      first | exact (fun h => absurd h.1 c10) | exact (fun h => absurd h.2.1 c18) | exact (fun h => h.2.2.1 (by rw [iN_nI (by omega), iN_nI (by omega)]; exact c33)) | exact (fun h => h.2.2.2.1 ((nI_eq (by omega) (by omega)).mp (by rw [show nI 60 = 60 from rfl]; exact c40))) | exact (fun h => h.2.2.2.1 ((nI_eq (by omega) (by omega)).mp (by rw [show nI 60 = 60 from rfl]; exact c42))))
  · refine z_al0 (pc := 13) dX8_doubles_13 ?_
    refine z_il2 (pc := 14) dX8_doubles_14 ?_
    refine z_callVr (pc := 15) (c_mIsSheet l b0 hM) hM.1 rfl rfl kw_844 zc_X8_isSheet (by decide) (by decide) rfl (Nat.le_of_ble_eq_true rfl) dX8_doubles_15 ?_
    rw [e16]
    refine z_ifz_eq (pc := 18) 45 dX8_doubles_18 rfl (fun c18 => ?_) (fun c18 => ?_)
    · refine z_iconst (pc := 45) (0) (by decide) dX8_doubles_45 ?_
      rw [← hQx]
      refine z_zret (pc := 46) rfl rfl (by decide) dX8_doubles_46 (by
      refine ⟨_, rfl, _, _, hM, hF, Or.inr ⟨?_, rfl, rfl, rfl⟩⟩
      first | exact (fun h => absurd h.1 c10) | exact (fun h => absurd h.2.1 c18) | exact (fun h => h.2.2.1 (by rw [iN_nI (by omega), iN_nI (by omega)]; exact c33)) | exact (fun h => h.2.2.2.1 ((nI_eq (by omega) (by omega)).mp (by rw [show nI 60 = 60 from rfl]; exact c40))) | exact (fun h => h.2.2.2.1 ((nI_eq (by omega) (by omega)).mp (by rw [show nI 60 = 60 from rfl]; exact c42))))
    · obtain ⟨ha0, ha1⟩ := id c10
      obtain ⟨a, rfl, ha⟩ := ix_in ha0 ha1 (by omega)
      obtain ⟨hb0, hb1⟩ := id c18
      obtain ⟨b, rfl, hb⟩ := ix_in hb0 hb1 (by omega)
      refine z_al0 (pc := 21) dX8_doubles_21 ?_
      refine z_mg1 (pc := 22) hM rfl dX8_doubles_22 ?_
      refine z_il1 (pc := 25) dX8_doubles_25 ?_
      refine z_mld (pc := 26) 1 20 hM rfl (by decide) rfl (by omega) dX8_doubles_26 ?_
      refine z_al0 (pc := 27) dX8_doubles_27 ?_
      refine z_mg1 (pc := 28) hM rfl dX8_doubles_28 ?_
      refine z_il2 (pc := 31) dX8_doubles_31 ?_
      refine z_mld (pc := 32) 1 20 hM rfl (by decide) rfl (by omega) dX8_doubles_32 ?_
      refine z_icmp_eq (pc := 33) 45 dX8_doubles_33 rfl (fun c33 => ?_) (fun c33 => ?_)
      · refine z_iconst (pc := 45) (0) (by decide) dX8_doubles_45 ?_
        rw [← hQx]
        refine z_zret (pc := 46) rfl rfl (by decide) dX8_doubles_46 (by
      refine ⟨_, rfl, _, _, hM, hF, Or.inr ⟨?_, rfl, rfl, rfl⟩⟩
      first | exact (fun h => absurd h.1 c10) | exact (fun h => absurd h.2.1 c18) | exact (fun h => h.2.2.1 (by rw [iN_nI (by omega), iN_nI (by omega)]; exact c33)) | exact (fun h => h.2.2.2.1 ((nI_eq (by omega) (by omega)).mp (by rw [show nI 60 = 60 from rfl]; exact c40))) | exact (fun h => h.2.2.2.1 ((nI_eq (by omega) (by omega)).mp (by rw [show nI 60 = 60 from rfl]; exact c42))))
      · refine z_al0 (pc := 36) dX8_doubles_36 ?_
        refine z_mg18 (pc := 37) hM rfl dX8_doubles_37 ?_
        rw [e18]
        refine z_bipush (pc := 40) (60) (by decide) dX8_doubles_40 ?_
        refine z_icmp_ne (pc := 42) 47 dX8_doubles_42 rfl (fun c42 => ?_) (fun c42 => ?_)
        · have hd0 : d ≠ 60 := fun q => c42 (by rw [q]; rfl)
          refine z_iconst (pc := 47) (0) (by decide) dX8_doubles_47 ?_
          refine z_is3 (pc := 48) dX8_doubles_48 (by decide) ?_
          have lp : ∀ (dd k : Nat), k + dd = d → (∀ j, j < k → ¬ ((ar 13 j = nI a ∧ ar 14 j = nI b) ∨ (ar 13 j = nI b ∧ ar 14 j = nI a))) → Z p l e rX8_doubles s m args below meth cC yX8_doubles cX8_doubles 4 (some FieldType.boolean) κ Qx 0 0 G1 [some (.ref x), some (.int (nI a)), some (.int (nI b)), some (.int (nI k))] 49 [] := by
            intro dd
            induction dd with
            | zero =>
              intro k hkd hI
              refine z_il3 (pc := 49) dX8_doubles_49 ?_
              refine z_al0 (pc := 50) dX8_doubles_50 ?_
              refine z_mg18 (pc := 51) hM rfl dX8_doubles_51 ?_
              rw [e18]
              refine z_icmp_ge (pc := 54) 105 dX8_doubles_54 rfl (fun c54 => ?_) (fun c54 => absurd (by rw [show k = d by omega]; exact Int32.le_refl _) c54)
              refine z_al0 (pc := 105) dX8_doubles_105 ?_
              refine z_mg13 (pc := 106) hM rfl dX8_doubles_106 ?_
              refine z_al0 (pc := 109) dX8_doubles_109 ?_
              refine z_mg18 (pc := 110) hM rfl dX8_doubles_110 ?_
              rw [e18]
              refine z_il1 (pc := 113) dX8_doubles_113 ?_
              refine z_mst (pc := 114) 13 60 hM rfl (by decide) rfl (by omega) dX8_doubles_114 (fun G1 hM1 hF1 => ?_)
              have hF := zF.trans hF hF1
              clear hF1
              replace hM := hM1
              clear hM1
              refine z_al0 (pc := 115) dX8_doubles_115 ?_
              refine z_mg14 (pc := 116) hM rfl dX8_doubles_116 ?_
              refine z_al0 (pc := 119) dX8_doubles_119 ?_
              refine z_mg18 (pc := 120) hM rfl dX8_doubles_120 ?_
              rw [e18]
              refine z_il2 (pc := 123) dX8_doubles_123 ?_
              refine z_mst (pc := 124) 14 60 hM rfl (by decide) rfl (by omega) dX8_doubles_124 (fun G1 hM1 hF1 => ?_)
              have hF := zF.trans hF hF1
              clear hF1
              replace hM := hM1
              clear hM1
              refine z_al0 (pc := 125) dX8_doubles_125 ?_
              refine z_dup (pc := 126) rfl dX8_doubles_126 ?_
              refine z_mg18 (pc := 127) hM rfl dX8_doubles_127 ?_
              refine z_iconst (pc := 130) (1) (by decide) dX8_doubles_130 ?_
              refine z_iadd (pc := 131) dX8_doubles_131 ?_
              rw [e18, nI_1]
              refine z_mp18 (pc := 132) hM rfl dX8_doubles_132 (fun G1 hM1 hF1 => ?_)
              have hF := zF.trans hF hF1
              clear hF1
              replace hM := hM1
              clear hM1
              refine z_iconst (pc := 135) (1) (by decide) dX8_doubles_135 ?_
              rw [← hQx]
              refine z_zret (pc := 136) rfl rfl (by decide) dX8_doubles_136 (⟨_, rfl, _, _, hM, hF, Or.inl ⟨⟨c10, c18, by rw [iN_nI (by omega), iN_nI (by omega)]; exact c33, hd0, fun j hj => hI j (by omega)⟩, rfl, rfl, rfl⟩⟩)
            | succ dd ih =>
              intro k hkd hI
              refine z_il3 (pc := 49) dX8_doubles_49 ?_
              refine z_al0 (pc := 50) dX8_doubles_50 ?_
              refine z_mg18 (pc := 51) hM rfl dX8_doubles_51 ?_
              rw [e18]
              refine z_icmp_ge (pc := 54) 105 dX8_doubles_54 rfl (fun c54 => absurd c54 (by rw [nI_leI (by omega) (by omega)]; omega)) (fun c54 => ?_)
              have hkd2 : k < d := by omega
              refine z_al0 (pc := 57) dX8_doubles_57 ?_
              refine z_mg13 (pc := 58) hM rfl dX8_doubles_58 ?_
              refine z_il3 (pc := 61) dX8_doubles_61 ?_
              refine z_mld (pc := 62) 13 60 hM rfl (by decide) rfl (by omega) dX8_doubles_62 ?_
              refine z_il1 (pc := 63) dX8_doubles_63 ?_
              refine z_icmp_ne (pc := 64) 77 dX8_doubles_64 rfl (fun c64 => ?_) (fun c64 => ?_)
              · refine z_al0 (pc := 77) dX8_doubles_77 ?_
                refine z_mg13 (pc := 78) hM rfl dX8_doubles_78 ?_
                refine z_il3 (pc := 81) dX8_doubles_81 ?_
                refine z_mld (pc := 82) 13 60 hM rfl (by decide) rfl (by omega) dX8_doubles_82 ?_
                refine z_il2 (pc := 83) dX8_doubles_83 ?_
                refine z_icmp_ne (pc := 84) 99 dX8_doubles_84 rfl (fun c84 => ?_) (fun c84 => ?_)
                · refine z_ii3 (pc := 99) (nI (k + 1)) dX8_doubles_99 (nI_1 _) (by decide) ?_
                  refine z_goto (pc := 102) 49 dX8_doubles_102 rfl ?_
                  exact ih (k + 1) (by omega) (fun j hj => by
                    by_cases e : j = k
                    · subst e
                      exact fun h => h.elim (fun h => c64 h.1) (fun h => c84 h.1)
                    · exact hI j (by omega))
                · refine z_al0 (pc := 87) dX8_doubles_87 ?_
                  refine z_mg14 (pc := 88) hM rfl dX8_doubles_88 ?_
                  refine z_il3 (pc := 91) dX8_doubles_91 ?_
                  refine z_mld (pc := 92) 14 60 hM rfl (by decide) rfl (by omega) dX8_doubles_92 ?_
                  refine z_il1 (pc := 93) dX8_doubles_93 ?_
                  refine z_icmp_ne (pc := 94) 99 dX8_doubles_94 rfl (fun c94 => ?_) (fun c94 => ?_)
                  · refine z_ii3 (pc := 99) (nI (k + 1)) dX8_doubles_99 (nI_1 _) (by decide) ?_
                    refine z_goto (pc := 102) 49 dX8_doubles_102 rfl ?_
                    exact ih (k + 1) (by omega) (fun j hj => by
                      by_cases e : j = k
                      · subst e
                        exact fun h => h.elim (fun h => c64 h.1) (fun h => c94 h.2)
                      · exact hI j (by omega))
                  · refine z_iconst (pc := 97) (0) (by decide) dX8_doubles_97 ?_
                    rw [← hQx]
                    refine z_zret (pc := 98) rfl rfl (by decide) dX8_doubles_98 (⟨_, rfl, _, _, hM, hF, Or.inr ⟨fun h => h.2.2.2.2 k hkd2 (Or.inr ⟨c84, c94⟩), rfl, rfl, rfl⟩⟩)
              · refine z_al0 (pc := 67) dX8_doubles_67 ?_
                refine z_mg14 (pc := 68) hM rfl dX8_doubles_68 ?_
                refine z_il3 (pc := 71) dX8_doubles_71 ?_
                refine z_mld (pc := 72) 14 60 hM rfl (by decide) rfl (by omega) dX8_doubles_72 ?_
                refine z_il2 (pc := 73) dX8_doubles_73 ?_
                refine z_icmp_eq (pc := 74) 97 dX8_doubles_74 rfl (fun c74 => ?_) (fun c74 => ?_)
                · refine z_iconst (pc := 97) (0) (by decide) dX8_doubles_97 ?_
                  rw [← hQx]
                  refine z_zret (pc := 98) rfl rfl (by decide) dX8_doubles_98 (⟨_, rfl, _, _, hM, hF, Or.inr ⟨fun h => h.2.2.2.2 k hkd2 (Or.inl ⟨c64, c74⟩), rfl, rfl, rfl⟩⟩)
                · refine z_al0 (pc := 77) dX8_doubles_77 ?_
                  refine z_mg13 (pc := 78) hM rfl dX8_doubles_78 ?_
                  refine z_il3 (pc := 81) dX8_doubles_81 ?_
                  refine z_mld (pc := 82) 13 60 hM rfl (by decide) rfl (by omega) dX8_doubles_82 ?_
                  refine z_il2 (pc := 83) dX8_doubles_83 ?_
                  refine z_icmp_ne (pc := 84) 99 dX8_doubles_84 rfl (fun c84 => ?_) (fun c84 => ?_)
                  · refine z_ii3 (pc := 99) (nI (k + 1)) dX8_doubles_99 (nI_1 _) (by decide) ?_
                    refine z_goto (pc := 102) 49 dX8_doubles_102 rfl ?_
                    exact ih (k + 1) (by omega) (fun j hj => by
                      by_cases e : j = k
                      · subst e
                        exact fun h => h.elim (fun h => c74 h.2) (fun h => c84 h.1)
                      · exact hI j (by omega))
                  · refine z_al0 (pc := 87) dX8_doubles_87 ?_
                    refine z_mg14 (pc := 88) hM rfl dX8_doubles_88 ?_
                    refine z_il3 (pc := 91) dX8_doubles_91 ?_
                    refine z_mld (pc := 92) 14 60 hM rfl (by decide) rfl (by omega) dX8_doubles_92 ?_
                    refine z_il1 (pc := 93) dX8_doubles_93 ?_
                    refine z_icmp_ne (pc := 94) 99 dX8_doubles_94 rfl (fun c94 => ?_) (fun c94 => ?_)
                    · refine z_ii3 (pc := 99) (nI (k + 1)) dX8_doubles_99 (nI_1 _) (by decide) ?_
                      refine z_goto (pc := 102) 49 dX8_doubles_102 rfl ?_
                      exact ih (k + 1) (by omega) (fun j hj => by
                        by_cases e : j = k
                        · subst e
                          exact fun h => h.elim (fun h => c74 h.2) (fun h => c94 h.2)
                        · exact hI j (by omega))
                    · refine z_iconst (pc := 97) (0) (by decide) dX8_doubles_97 ?_
                      rw [← hQx]
                      refine z_zret (pc := 98) rfl rfl (by decide) dX8_doubles_98 (⟨_, rfl, _, _, hM, hF, Or.inr ⟨fun h => h.2.2.2.2 k hkd2 (Or.inr ⟨c84, c94⟩), rfl, rfl, rfl⟩⟩)
          exact lp d 0 (by omega) (fun j h => absurd h (Nat.not_lt_zero _))
        · refine z_iconst (pc := 45) (0) (by decide) dX8_doubles_45 ?_
          rw [← hQx]
          refine z_zret (pc := 46) rfl rfl (by decide) dX8_doubles_46 (by
      refine ⟨_, rfl, _, _, hM, hF, Or.inr ⟨?_, rfl, rfl, rfl⟩⟩
      first | exact (fun h => absurd h.1 c10) | exact (fun h => absurd h.2.1 c18) | exact (fun h => h.2.2.1 (by rw [iN_nI (by omega), iN_nI (by omega)]; exact c33)) | exact (fun h => h.2.2.2.1 ((nI_eq (by omega) (by omega)).mp (by rw [show nI 60 = 60 from rfl]; exact c40))) | exact (fun h => h.2.2.2.1 ((nI_eq (by omega) (by omega)).mp (by rw [show nI 60 = 60 from rfl]; exact c42))))
abbrev rX8_at : Room := rmK 2 0 0 43
set_option maxRecDepth 100000 in
set_option maxHeartbeats 400000 in
theorem c_mAt (l : Launch) {κ : zK} {G : zH} {x : Nat} {ad : Nat → Nat} {sc : Nat → Int32} {ar : Nat → Nat → Int32} (n c d w : Nat) (ln : Nat → Nat) (s0 i0 q what : Int32) (hM : RM κ G x ad sc ar) (hJ : MJ n c d w ln sc ar) : Ct l yX8_at cX8_at 5 (some FieldType.int) rX8_at κ [.ref x, .int s0, .int i0, .int q, .int what] G (pI (fun r G2 => RM κ G2 x ad (sup sc 0 (zb (¬ okAt n w ln s0 i0 q what))) ar ∧ zF 1 G G2 ∧ r = if okAt n w ln s0 i0 q what then kn ar (iN s0) (iN i0) q (decide (what = 1)) c else 0)) := by
  refine Ct.of (by decide +kernel) (fun v hv => by
    simp only [List.mem_cons, List.mem_nil_iff, or_false, List.not_mem_nil] at hv
    rcases hv with rfl | rfl | rfl | rfl | rfl <;> rfl) (Nat.le_of_ble_eq_true rfl) ?_
  intro p e s m args below meth cC
  refine z_L (L' := [some (.ref x), some (.int s0), some (.int i0), some (.int q), some (.int what)]) rfl ?_
  generalize hQx : MQ below (zQc κ _) args s _ _ (zA κ) = Qx
  have hF : zF 1 G G := zF.rf
  have e16 : sc 16 = nI n := hJ.1
  have e17 : sc 17 = nI c := hJ.2.2.1
  have e18 : sc 18 = nI d := hJ.2.2.2.2.1
  have e19 : sc 19 = nI w := hJ.2.2.2.2.2.2.1
  have hn20 := hJ.2.1
  have hc200 := hJ.2.2.2.1
  have hd60 := hJ.2.2.2.2.2.1
  have hw1000 := hJ.2.2.2.2.2.2.2.1
  skip
  refine z_al0 (pc := 0) dX8_at_0 ?_
  refine z_al0 (pc := 1) dX8_at_1 ?_
  refine z_il1 (pc := 2) dX8_at_2 ?_
  refine z_callVr (pc := 3) (c_mIsSheet l s0 hM) hM.1 rfl rfl kw_844 zc_X8_isSheet (by decide) (by decide) rfl (Nat.le_of_ble_eq_true rfl) dX8_at_3 ?_
  rw [e16]
  refine z_ifz_eq (pc := 6) 41 dX8_at_6 rfl (fun c6 => ?_) (fun c6 => ?_)
  · refine z_iconst (pc := 41) (1) (by decide) dX8_at_41 ?_
    refine z_goto (pc := 42) 46 dX8_at_42 rfl ?_
    refine z_mp0 (pc := 46) hM rfl dX8_at_46 (fun G1 hM1 hF1 => ?_)
    have hF := zF.trans hF hF1
    clear hF1
    replace hM := hM1
    clear hM1
    refine z_al0 (pc := 49) dX8_at_49 ?_
    refine z_mg0 (pc := 50) hM rfl dX8_at_50 ?_
    rw [show sup sc 0 1 0 = 1 from rfl]
    refine z_if_le (pc := 53) 60 dX8_at_53 rfl (fun c53 => absurd c53 (by decide)) (fun c53 => ?_)
    refine z_iconst (pc := 56) (0) (by decide) dX8_at_56 ?_
    refine z_goto (pc := 57) 78 dX8_at_57 rfl ?_
    rw [← hQx]
    refine z_iret (pc := 78) rfl (by decide) dX8_at_78 (by
      have hno : ¬ okAt n w ln s0 i0 q what := by
        first | exact (fun h => absurd h.1 c6) | exact (fun h => absurd h.2.1.1 (Int32.not_le.mpr c10)) | exact (fun h => absurd h.2.1.2 (by rw [iN_nI (by omega)]; exact Int32.not_lt.mpr c20)) | exact (fun h => absurd h.2.2.1 c28) | exact (fun h => absurd h.2.2.2 c38)
      exact ⟨_, rfl, by rw [zb_t hno]; exact hM, hF, (if_neg hno).symm⟩)
  · obtain ⟨ha0, ha1⟩ := id c6
    obtain ⟨a, rfl, ha⟩ := ix_in ha0 ha1 (by omega)
    have hla := hJ.2.2.2.2.2.2.2.2.1 a ha
    have hl24 := hla.2
    refine z_il2 (pc := 9) dX8_at_9 ?_
    refine z_if_lt (pc := 10) 41 dX8_at_10 rfl (fun c10 => ?_) (fun c10 => ?_)
    · refine z_iconst (pc := 41) (1) (by decide) dX8_at_41 ?_
      refine z_goto (pc := 42) 46 dX8_at_42 rfl ?_
      refine z_mp0 (pc := 46) hM rfl dX8_at_46 (fun G1 hM1 hF1 => ?_)
      have hF := zF.trans hF hF1
      clear hF1
      replace hM := hM1
      clear hM1
      refine z_al0 (pc := 49) dX8_at_49 ?_
      refine z_mg0 (pc := 50) hM rfl dX8_at_50 ?_
      rw [show sup sc 0 1 0 = 1 from rfl]
      refine z_if_le (pc := 53) 60 dX8_at_53 rfl (fun c53 => absurd c53 (by decide)) (fun c53 => ?_)
      refine z_iconst (pc := 56) (0) (by decide) dX8_at_56 ?_
      refine z_goto (pc := 57) 78 dX8_at_57 rfl ?_
      rw [← hQx]
      refine z_iret (pc := 78) rfl (by decide) dX8_at_78 (by
      have hno : ¬ okAt n w ln (nI a) i0 q what := by
        first | exact (fun h => absurd h.1 c6) | exact (fun h => absurd h.2.1.1 (Int32.not_le.mpr c10)) | exact (fun h => absurd h.2.1.2 (by rw [iN_nI (by omega)]; exact Int32.not_lt.mpr c20)) | exact (fun h => absurd h.2.2.1 c28) | exact (fun h => absurd h.2.2.2 c38)
      exact ⟨_, rfl, by rw [zb_t hno]; exact hM, hF, (if_neg hno).symm⟩)
    · refine z_il2 (pc := 13) dX8_at_13 ?_
      refine z_al0 (pc := 14) dX8_at_14 ?_
      refine z_mg4 (pc := 15) hM rfl dX8_at_15 ?_
      refine z_il1 (pc := 18) dX8_at_18 ?_
      refine z_mld (pc := 19) 4 20 hM rfl (by decide) rfl (by omega) dX8_at_19 ?_
      rw [hla.1]
      refine z_icmp_ge (pc := 20) 41 dX8_at_20 rfl (fun c20 => ?_) (fun c20 => ?_)
      · refine z_iconst (pc := 41) (1) (by decide) dX8_at_41 ?_
        refine z_goto (pc := 42) 46 dX8_at_42 rfl ?_
        refine z_mp0 (pc := 46) hM rfl dX8_at_46 (fun G1 hM1 hF1 => ?_)
        have hF := zF.trans hF hF1
        clear hF1
        replace hM := hM1
        clear hM1
        refine z_al0 (pc := 49) dX8_at_49 ?_
        refine z_mg0 (pc := 50) hM rfl dX8_at_50 ?_
        rw [show sup sc 0 1 0 = 1 from rfl]
        refine z_if_le (pc := 53) 60 dX8_at_53 rfl (fun c53 => absurd c53 (by decide)) (fun c53 => ?_)
        refine z_iconst (pc := 56) (0) (by decide) dX8_at_56 ?_
        refine z_goto (pc := 57) 78 dX8_at_57 rfl ?_
        rw [← hQx]
        refine z_iret (pc := 78) rfl (by decide) dX8_at_78 (by
      have hno : ¬ okAt n w ln (nI a) i0 q what := by
        first | exact (fun h => absurd h.1 c6) | exact (fun h => absurd h.2.1.1 (Int32.not_le.mpr c10)) | exact (fun h => absurd h.2.1.2 (by rw [iN_nI (by omega)]; exact Int32.not_lt.mpr c20)) | exact (fun h => absurd h.2.2.1 c28) | exact (fun h => absurd h.2.2.2 c38)
      exact ⟨_, rfl, by rw [zb_t hno]; exact hM, hF, (if_neg hno).symm⟩)
      · refine z_al0 (pc := 23) dX8_at_23 ?_
        refine z_il3 (pc := 24) dX8_at_24 ?_
        refine z_callVr (pc := 25) (c_mIsDay l q hM) hM.1 rfl rfl kw_875 zc_X8_isDay (by decide) (by decide) rfl (Nat.le_of_ble_eq_true rfl) dX8_at_25 ?_
        rw [e19]
        refine z_ifz_eq (pc := 28) 41 dX8_at_28 rfl (fun c28 => ?_) (fun c28 => ?_)
        · refine z_iconst (pc := 41) (1) (by decide) dX8_at_41 ?_
          refine z_goto (pc := 42) 46 dX8_at_42 rfl ?_
          refine z_mp0 (pc := 46) hM rfl dX8_at_46 (fun G1 hM1 hF1 => ?_)
          have hF := zF.trans hF hF1
          clear hF1
          replace hM := hM1
          clear hM1
          refine z_al0 (pc := 49) dX8_at_49 ?_
          refine z_mg0 (pc := 50) hM rfl dX8_at_50 ?_
          rw [show sup sc 0 1 0 = 1 from rfl]
          refine z_if_le (pc := 53) 60 dX8_at_53 rfl (fun c53 => absurd c53 (by decide)) (fun c53 => ?_)
          refine z_iconst (pc := 56) (0) (by decide) dX8_at_56 ?_
          refine z_goto (pc := 57) 78 dX8_at_57 rfl ?_
          rw [← hQx]
          refine z_iret (pc := 78) rfl (by decide) dX8_at_78 (by
      have hno : ¬ okAt n w ln (nI a) i0 q what := by
        first | exact (fun h => absurd h.1 c6) | exact (fun h => absurd h.2.1.1 (Int32.not_le.mpr c10)) | exact (fun h => absurd h.2.1.2 (by rw [iN_nI (by omega)]; exact Int32.not_lt.mpr c20)) | exact (fun h => absurd h.2.2.1 c28) | exact (fun h => absurd h.2.2.2 c38)
      exact ⟨_, rfl, by rw [zb_t hno]; exact hM, hF, (if_neg hno).symm⟩)
        · refine z_il4 (pc := 31) dX8_at_31 ?_
          refine z_iconst (pc := 33) (0) (by decide) dX8_at_33 ?_
          refine z_iconst (pc := 34) (1) (by decide) dX8_at_34 ?_
          refine z_callSr (pc := 35) (c_mIsIn l what 0 1) kw_837 zc_X8_isIn (by decide) (by decide) rfl (Nat.le_of_ble_eq_true rfl) dX8_at_35 ?_
          refine z_ifz_ne (pc := 38) 45 dX8_at_38 rfl (fun c38 => ?_) (fun c38 => ?_)
          · have hok : okAt n w ln (nI a) i0 q what := ⟨c6, ⟨Int32.not_lt.mp c10, by rw [iN_nI (by omega)]; exact Int32.not_le.mp c20⟩, c28, c38⟩
            obtain ⟨i, rfl, hi⟩ := ix_in (Int32.not_lt.mp c10) (Int32.not_le.mp c20) (by omega)
            refine z_iconst (pc := 45) (0) (by decide) dX8_at_45 ?_
            refine z_mp0 (pc := 46) hM rfl dX8_at_46 (fun G1 hM1 hF1 => ?_)
            have hF := zF.trans hF hF1
            clear hF1
            replace hM := hM1
            clear hM1
            refine z_al0 (pc := 49) dX8_at_49 ?_
            refine z_mg0 (pc := 50) hM rfl dX8_at_50 ?_
            rw [show sup sc 0 0 0 = 0 from rfl]
            refine z_if_le (pc := 53) 60 dX8_at_53 rfl (fun c53 => ?_) (fun c53 => absurd (by decide) c53)
            refine z_al0 (pc := 60) dX8_at_60 ?_
            refine z_il1 (pc := 61) dX8_at_61 ?_
            refine z_il2 (pc := 62) dX8_at_62 ?_
            refine z_il3 (pc := 63) dX8_at_63 ?_
            refine z_il4 (pc := 64) dX8_at_64 ?_
            refine z_iconst (pc := 66) (1) (by decide) dX8_at_66 ?_
            refine z_icmp_ne (pc := 67) 74 dX8_at_67 rfl (fun c67 => ?_) (fun c67 => ?_)
            · refine z_iconst (pc := 74) (0) (by decide) dX8_at_74 ?_
              refine z_callVr (pc := 75) (c_mKnown l a i c q false hM (by omega) (by omega) hJ.2.2.1 hJ.2.2.2.1) hM.1 rfl rfl kw_879 zc_X8_known (by decide) (by decide) rfl (Nat.le_of_ble_eq_true rfl) dX8_at_75 ?_
              rw [← hQx]
              refine z_iret (pc := 78) rfl (by decide) dX8_at_78 (⟨_, rfl, by rw [zb_f (fun h => h hok)]; exact hM, hF, by rw [if_pos hok, iN_nI (by omega), iN_nI (by omega)]; rw [show decide (what = 1) = false from decide_eq_false c67]⟩)
            · refine z_iconst (pc := 70) (1) (by decide) dX8_at_70 ?_
              refine z_goto (pc := 71) 75 dX8_at_71 rfl ?_
              refine z_callVr (pc := 75) (c_mKnown l a i c q true hM (by omega) (by omega) hJ.2.2.1 hJ.2.2.2.1) hM.1 rfl rfl kw_879 zc_X8_known (by decide) (by decide) rfl (Nat.le_of_ble_eq_true rfl) dX8_at_75 ?_
              rw [← hQx]
              refine z_iret (pc := 78) rfl (by decide) dX8_at_78 (⟨_, rfl, by rw [zb_f (fun h => h hok)]; exact hM, hF, by rw [if_pos hok, iN_nI (by omega), iN_nI (by omega)]; rw [show decide (what = 1) = true from decide_eq_true c67]⟩)
          · refine z_iconst (pc := 41) (1) (by decide) dX8_at_41 ?_
            refine z_goto (pc := 42) 46 dX8_at_42 rfl ?_
            refine z_mp0 (pc := 46) hM rfl dX8_at_46 (fun G1 hM1 hF1 => ?_)
            have hF := zF.trans hF hF1
            clear hF1
            replace hM := hM1
            clear hM1
            refine z_al0 (pc := 49) dX8_at_49 ?_
            refine z_mg0 (pc := 50) hM rfl dX8_at_50 ?_
            rw [show sup sc 0 1 0 = 1 from rfl]
            refine z_if_le (pc := 53) 60 dX8_at_53 rfl (fun c53 => absurd c53 (by decide)) (fun c53 => ?_)
            refine z_iconst (pc := 56) (0) (by decide) dX8_at_56 ?_
            refine z_goto (pc := 57) 78 dX8_at_57 rfl ?_
            rw [← hQx]
            refine z_iret (pc := 78) rfl (by decide) dX8_at_78 (by
      have hno : ¬ okAt n w ln (nI a) i0 q what := by
        first | exact (fun h => absurd h.1 c6) | exact (fun h => absurd h.2.1.1 (Int32.not_le.mpr c10)) | exact (fun h => absurd h.2.1.2 (by rw [iN_nI (by omega)]; exact Int32.not_lt.mpr c20)) | exact (fun h => absurd h.2.2.1 c28) | exact (fun h => absurd h.2.2.2 c38)
      exact ⟨_, rfl, by rw [zb_t hno]; exact hM, hF, (if_neg hno).symm⟩)
abbrev rX8_span : Room := rmK 2 0 0 43
set_option maxRecDepth 100000 in
set_option maxHeartbeats 400000 in
theorem c_mSpan (l : Launch) {κ : zK} {G : zH} {x : Nat} {ad : Nat → Nat} {sc : Nat → Int32} {ar : Nat → Nat → Int32} (n c d w : Nat) (ln : Nat → Nat) (v0 q g0 : Int32) (hM : RM κ G x ad sc ar) (hJ : MJ n c d w ln sc ar) : Ct l yX8_span cX8_span 6 (some FieldType.int) rX8_span κ [.ref x, .int v0, .int q, .int g0] G (qP (if (0 ≤ v0 ∧ v0 ≤ 9) ∧ 0 ≤ q ∧ q ≤ nI w then spanM ar v0 q g0 n else -1) κ G x ad sc ar) := by
  refine Ct.of (by decide +kernel) (fun v hv => by
    simp only [List.mem_cons, List.mem_nil_iff, or_false, List.not_mem_nil] at hv
    rcases hv with rfl | rfl | rfl | rfl <;> rfl) (Nat.le_of_ble_eq_true rfl) ?_
  intro p e s m args below meth cC
  refine z_L (L' := [some (.ref x), some (.int v0), some (.int q), some (.int g0), none, none]) rfl ?_
  generalize hQx : MQ below (zQc κ _) args s _ _ (zA κ) = Qx
  have hF : zF 1 G G := zF.rf
  refine z_al0 (pc := 0) dX8_span_0 ?_
  refine z_iconst (pc := 1) (0) (by decide) dX8_span_1 ?_
  refine z_mp0 (pc := 2) hM rfl dX8_span_2 (fun G1 hM1 hF1 => ?_)
  have hF := zF.trans hF hF1
  clear hF1
  replace hM := hM1
  clear hM1
  have e16 : sup sc 0 0 16 = nI n := hJ.1
  have e17 : sup sc 0 0 17 = nI c := hJ.2.2.1
  have e18 : sup sc 0 0 18 = nI d := hJ.2.2.2.2.1
  have e19 : sup sc 0 0 19 = nI w := hJ.2.2.2.2.2.2.1
  have hn20 := hJ.2.1
  have hc200 := hJ.2.2.2.1
  have hd60 := hJ.2.2.2.2.2.1
  have hw1000 := hJ.2.2.2.2.2.2.2.1
  refine z_il1 (pc := 5) dX8_span_5 ?_
  refine z_iconst (pc := 6) (0) (by decide) dX8_span_6 ?_
  refine z_bipush (pc := 7) (9) (by decide) dX8_span_7 ?_
  refine z_callSr (pc := 9) (c_mIsIn l v0 0 9) kw_837 zc_X8_isIn (by decide) (by decide) rfl (Nat.le_of_ble_eq_true rfl) dX8_span_9 ?_
  refine z_ifz_eq (pc := 12) 23 dX8_span_12 rfl (fun c12 => ?_) (fun c12 => ?_)
  · refine z_iconst (pc := 23) (-1) (by decide) dX8_span_23 ?_
    rw [← hQx]
    refine z_iret (pc := 24) rfl (by decide) dX8_span_24 (⟨_, rfl, (if_neg (fun h => c12 h.1)).symm, _, _, hM, hF, PS.sc0 0 0 (by omega)⟩)
  · refine z_al0 (pc := 15) dX8_span_15 ?_
    refine z_il2 (pc := 16) dX8_span_16 ?_
    refine z_callVr (pc := 17) (c_mIsDay l q hM) hM.1 rfl rfl kw_875 zc_X8_isDay (by decide) (by decide) rfl (Nat.le_of_ble_eq_true rfl) dX8_span_17 ?_
    rw [e19]
    refine z_ifz_ne (pc := 20) 25 dX8_span_20 rfl (fun c20 => ?_) (fun c20 => ?_)
    · have hok : (0 ≤ v0 ∧ v0 ≤ 9) ∧ 0 ≤ q ∧ q ≤ nI w := ⟨c12, c20⟩
      refine z_iconst (pc := 25) (-1) (by decide) dX8_span_25 ?_
      refine z_is4 (pc := 26) dX8_span_26 (by decide) ?_
      refine z_iconst (pc := 28) (0) (by decide) dX8_span_28 ?_
      refine z_is5 (pc := 29) dX8_span_29 (by decide) ?_
      have lp : ∀ (dd k : Nat), k + dd = n → Z p l e rX8_span s m args below meth cC yX8_span cX8_span 6 (some FieldType.int) κ Qx 0 0 G1 [some (.ref x), some (.int v0), some (.int q), some (.int g0), some (.int (spanM ar v0 q g0 k)), some (.int (nI k))] 31 [] := by
        intro dd
        induction dd with
        | zero =>
          intro k hkd
          refine z_il5 (pc := 31) dX8_span_31 ?_
          refine z_al0 (pc := 33) dX8_span_33 ?_
          refine z_mg16 (pc := 34) hM rfl dX8_span_34 ?_
          rw [e16]
          refine z_icmp_ge (pc := 37) 113 dX8_span_37 rfl (fun c37 => ?_) (fun c37 => absurd (by rw [show k = n by omega]; exact Int32.le_refl _) c37)
          rw [show k = n by omega]
          refine z_il4 (pc := 113) dX8_span_113 ?_
          rw [← hQx]
          refine z_iret (pc := 115) rfl (by decide) dX8_span_115 (⟨_, rfl, (if_pos hok).symm, _, _, hM, hF, PS.sc0 0 0 (by omega)⟩)
        | succ dd ih =>
          intro k hkd
          refine z_il5 (pc := 31) dX8_span_31 ?_
          refine z_al0 (pc := 33) dX8_span_33 ?_
          refine z_mg16 (pc := 34) hM rfl dX8_span_34 ?_
          rw [e16]
          refine z_icmp_ge (pc := 37) 113 dX8_span_37 rfl (fun c37 => absurd c37 (by rw [nI_leI (by omega) (by omega)]; omega)) (fun c37 => ?_)
          refine z_al0 (pc := 40) dX8_span_40 ?_
          refine z_mg3 (pc := 41) hM rfl dX8_span_41 ?_
          refine z_il5 (pc := 44) dX8_span_44 ?_
          refine z_mld (pc := 46) 3 20 hM rfl (by decide) rfl (by omega) dX8_span_46 ?_
          refine z_il1 (pc := 47) dX8_span_47 ?_
          refine z_icmp_ne (pc := 48) 107 dX8_span_48 rfl (fun c48 => ?_) (fun c48 => ?_)
          · refine z_ii5 (pc := 107) (nI (k + 1)) dX8_span_107 (nI_1 _) (by decide) ?_
            refine z_goto (pc := 110) 31 dX8_span_110 rfl ?_
            refine z_L (L' := [some (.ref x), some (.int v0), some (.int q), some (.int g0), some (.int (spanM ar v0 q g0 (k + 1))), some (.int (nI (k + 1)))]) (by rw [show spanM ar v0 q g0 (k + 1) = _ from if_neg (fun h => c48 h.1)]) ?_
            exact ih (k + 1) (by omega)
          · refine z_al0 (pc := 51) dX8_span_51 ?_
            refine z_il5 (pc := 52) dX8_span_52 ?_
            refine z_il2 (pc := 54) dX8_span_54 ?_
            refine z_callVr (pc := 55) (c_mIsForged l k q hM (by omega)) hM.1 rfl rfl kw_936 zc_X8_isForged (by decide) (by decide) rfl (Nat.le_of_ble_eq_true rfl) dX8_span_55 ?_
            refine z_ifz_ne (pc := 58) 107 dX8_span_58 rfl (fun c58 => ?_) (fun c58 => ?_)
            · refine z_ii5 (pc := 107) (nI (k + 1)) dX8_span_107 (nI_1 _) (by decide) ?_
              refine z_goto (pc := 110) 31 dX8_span_110 rfl ?_
              refine z_L (L' := [some (.ref x), some (.int v0), some (.int q), some (.int g0), some (.int (spanM ar v0 q g0 (k + 1))), some (.int (nI (k + 1)))]) (by rw [show spanM ar v0 q g0 (k + 1) = _ from if_neg (fun h => h.2.1 c58)]) ?_
              exact ih (k + 1) (by omega)
            · refine z_il4 (pc := 61) dX8_span_61 ?_
              refine z_iconst (pc := 63) (-1) (by decide) dX8_span_63 ?_
              refine z_icmp_eq (pc := 64) 98 dX8_span_64 rfl (fun c64 => ?_) (fun c64 => ?_)
              · refine z_al0 (pc := 98) dX8_span_98 ?_
                refine z_mg2 (pc := 99) hM rfl dX8_span_99 ?_
                refine z_il5 (pc := 102) dX8_span_102 ?_
                refine z_mld (pc := 104) 2 20 hM rfl (by decide) rfl (by omega) dX8_span_104 ?_
                refine z_is4 (pc := 105) dX8_span_105 (by decide) ?_
                refine z_ii5 (pc := 107) (nI (k + 1)) dX8_span_107 (nI_1 _) (by decide) ?_
                refine z_goto (pc := 110) 31 dX8_span_110 rfl ?_
                refine z_L (L' := [some (.ref x), some (.int v0), some (.int q), some (.int g0), some (.int (spanM ar v0 q g0 (k + 1))), some (.int (nI (k + 1)))]) (by rw [show spanM ar v0 q g0 (k + 1) = _ from if_pos ⟨c48, c58, Or.inl c64⟩]) ?_
                exact ih (k + 1) (by omega)
              · refine z_il3 (pc := 67) dX8_span_67 ?_
                refine z_if_eq (pc := 68) 86 dX8_span_68 rfl (fun c68 => ?_) (fun c68 => ?_)
                · refine z_al0 (pc := 86) dX8_span_86 ?_
                  refine z_mg2 (pc := 87) hM rfl dX8_span_87 ?_
                  refine z_il5 (pc := 90) dX8_span_90 ?_
                  refine z_mld (pc := 92) 2 20 hM rfl (by decide) rfl (by omega) dX8_span_92 ?_
                  refine z_il4 (pc := 93) dX8_span_93 ?_
                  refine z_icmp_ge (pc := 95) 107 dX8_span_95 rfl (fun c95 => ?_) (fun c95 => ?_)
                  · refine z_ii5 (pc := 107) (nI (k + 1)) dX8_span_107 (nI_1 _) (by decide) ?_
                    refine z_goto (pc := 110) 31 dX8_span_110 rfl ?_
                    refine z_L (L' := [some (.ref x), some (.int v0), some (.int q), some (.int g0), some (.int (spanM ar v0 q g0 (k + 1))), some (.int (nI (k + 1)))]) (by rw [show spanM ar v0 q g0 (k + 1) = _ from if_neg (fun h => h.2.2.elim c64 (fun h => by rw [if_pos c68] at h; exact absurd h (Int32.not_lt.mpr c95)))]) ?_
                    exact ih (k + 1) (by omega)
                  · refine z_al0 (pc := 98) dX8_span_98 ?_
                    refine z_mg2 (pc := 99) hM rfl dX8_span_99 ?_
                    refine z_il5 (pc := 102) dX8_span_102 ?_
                    refine z_mld (pc := 104) 2 20 hM rfl (by decide) rfl (by omega) dX8_span_104 ?_
                    refine z_is4 (pc := 105) dX8_span_105 (by decide) ?_
                    refine z_ii5 (pc := 107) (nI (k + 1)) dX8_span_107 (nI_1 _) (by decide) ?_
                    refine z_goto (pc := 110) 31 dX8_span_110 rfl ?_
                    refine z_L (L' := [some (.ref x), some (.int v0), some (.int q), some (.int g0), some (.int (spanM ar v0 q g0 (k + 1))), some (.int (nI (k + 1)))]) (by rw [show spanM ar v0 q g0 (k + 1) = _ from if_pos ⟨c48, c58, Or.inr (by rw [if_pos c68]; exact Int32.not_le.mp c95)⟩]) ?_
                    exact ih (k + 1) (by omega)
                · refine z_al0 (pc := 71) dX8_span_71 ?_
                  refine z_mg2 (pc := 72) hM rfl dX8_span_72 ?_
                  refine z_il5 (pc := 75) dX8_span_75 ?_
                  refine z_mld (pc := 77) 2 20 hM rfl (by decide) rfl (by omega) dX8_span_77 ?_
                  refine z_il4 (pc := 78) dX8_span_78 ?_
                  refine z_icmp_le (pc := 80) 107 dX8_span_80 rfl (fun c80 => ?_) (fun c80 => ?_)
                  · refine z_ii5 (pc := 107) (nI (k + 1)) dX8_span_107 (nI_1 _) (by decide) ?_
                    refine z_goto (pc := 110) 31 dX8_span_110 rfl ?_
                    refine z_L (L' := [some (.ref x), some (.int v0), some (.int q), some (.int g0), some (.int (spanM ar v0 q g0 (k + 1))), some (.int (nI (k + 1)))]) (by rw [show spanM ar v0 q g0 (k + 1) = _ from if_neg (fun h => h.2.2.elim c64 (fun h => by rw [if_neg c68] at h; exact absurd h (Int32.not_lt.mpr c80)))]) ?_
                    exact ih (k + 1) (by omega)
                  · refine z_goto (pc := 83) 98 dX8_span_83 rfl ?_
                    refine z_al0 (pc := 98) dX8_span_98 ?_
                    refine z_mg2 (pc := 99) hM rfl dX8_span_99 ?_
                    refine z_il5 (pc := 102) dX8_span_102 ?_
                    refine z_mld (pc := 104) 2 20 hM rfl (by decide) rfl (by omega) dX8_span_104 ?_
                    refine z_is4 (pc := 105) dX8_span_105 (by decide) ?_
                    refine z_ii5 (pc := 107) (nI (k + 1)) dX8_span_107 (nI_1 _) (by decide) ?_
                    refine z_goto (pc := 110) 31 dX8_span_110 rfl ?_
                    refine z_L (L' := [some (.ref x), some (.int v0), some (.int q), some (.int g0), some (.int (spanM ar v0 q g0 (k + 1))), some (.int (nI (k + 1)))]) (by rw [show spanM ar v0 q g0 (k + 1) = _ from if_pos ⟨c48, c58, Or.inr (by rw [if_neg c68]; exact Int32.not_le.mp c80)⟩]) ?_
                    exact ih (k + 1) (by omega)
      exact lp n 0 (by omega)
    · refine z_iconst (pc := 23) (-1) (by decide) dX8_span_23 ?_
      rw [← hQx]
      refine z_iret (pc := 24) rfl (by decide) dX8_span_24 (⟨_, rfl, (if_neg (fun h => c20 h.2)).symm, _, _, hM, hF, PS.sc0 0 0 (by omega)⟩)
abbrev rX8_count : Room := rmK 0 0 0 0
set_option maxRecDepth 100000 in
set_option maxHeartbeats 400000 in
theorem c_mCount (l : Launch) {κ : zK} {G : zH} {x : Nat} {ad : Nat → Nat} {sc : Nat → Int32} {ar : Nat → Nat → Int32} (n c d w : Nat) (ln : Nat → Nat) (what : Int32) (hM : RM κ G x ad sc ar) (hJ : MJ n c d w ln sc ar) : Ct l yX8_count cX8_count 4 (some FieldType.int) rX8_count κ [.ref x, .int what] G (qP (cntR n c d w ar what) κ G x ad sc ar) := by
  refine Ct.of (by decide +kernel) (fun v hv => by
    simp only [List.mem_cons, List.mem_nil_iff, or_false, List.not_mem_nil] at hv
    rcases hv with rfl | rfl <;> rfl) (Nat.le_of_ble_eq_true rfl) ?_
  intro p e s m args below meth cC
  refine z_L (L' := [some (.ref x), some (.int what), none, none]) rfl ?_
  generalize hQx : MQ below (zQc κ _) args s _ _ (zA κ) = Qx
  have hF : zF 1 G G := zF.rf
  refine z_al0 (pc := 0) dX8_count_0 ?_
  refine z_iconst (pc := 1) (0) (by decide) dX8_count_1 ?_
  refine z_mp0 (pc := 2) hM rfl dX8_count_2 (fun G1 hM1 hF1 => ?_)
  have hF := zF.trans hF hF1
  clear hF1
  replace hM := hM1
  clear hM1
  have e16 : sup sc 0 0 16 = nI n := hJ.1
  have e17 : sup sc 0 0 17 = nI c := hJ.2.2.1
  have e18 : sup sc 0 0 18 = nI d := hJ.2.2.2.2.1
  have e19 : sup sc 0 0 19 = nI w := hJ.2.2.2.2.2.2.1
  have hn20 := hJ.2.1
  have hc200 := hJ.2.2.2.1
  have hd60 := hJ.2.2.2.2.2.1
  have hw1000 := hJ.2.2.2.2.2.2.2.1
  refine z_iconst (pc := 5) (0) (by decide) dX8_count_5 ?_
  refine z_is2 (pc := 6) dX8_count_6 (by decide) ?_
  refine z_il1 (pc := 7) dX8_count_7 ?_
  rcases w6 what with h | h | h | h | h | h | ⟨h, h0, h1, h2, h3, h4, h5⟩
  · subst h
    refine z_tableIn (pc := 8) 48 dX8_count_8 (by decide) (by decide) rfl rfl ?_
    refine z_al0 (pc := 48) dX8_count_48 ?_
    refine z_mg19 (pc := 49) hM rfl dX8_count_49 ?_
    rw [← hQx]
    refine z_iret (pc := 52) rfl (by decide) dX8_count_52 (⟨_, rfl, by exact e19, _, _, hM, hF, PS.sc0 0 0 (by omega)⟩)
  · subst h
    refine z_tableIn (pc := 8) 53 dX8_count_8 (by decide) (by decide) rfl rfl ?_
    refine z_al0 (pc := 53) dX8_count_53 ?_
    refine z_mg16 (pc := 54) hM rfl dX8_count_54 ?_
    rw [← hQx]
    refine z_iret (pc := 57) rfl (by decide) dX8_count_57 (⟨_, rfl, by exact e16, _, _, hM, hF, PS.sc0 0 0 (by omega)⟩)
  · subst h
    refine z_tableIn (pc := 8) 58 dX8_count_8 (by decide) (by decide) rfl rfl ?_
    refine z_iconst (pc := 58) (0) (by decide) dX8_count_58 ?_
    refine z_is3 (pc := 59) dX8_count_59 (by decide) ?_
    have lp : ∀ (dd k : Nat), k + dd = n → Z p l e rX8_count s m args below meth cC yX8_count cX8_count 4 (some FieldType.int) κ Qx 0 0 G1 [some (.ref x), some (.int 2), some (.int (cntF ar k)), some (.int (nI k))] 60 [] := by
      intro dd
      induction dd with
      | zero =>
        intro k hkd
        refine z_il3 (pc := 60) dX8_count_60 ?_
        refine z_al0 (pc := 61) dX8_count_61 ?_
        refine z_mg16 (pc := 62) hM rfl dX8_count_62 ?_
        rw [e16]
        refine z_icmp_ge (pc := 65) 92 dX8_count_65 rfl (fun c65 => ?_) (fun c65 => absurd (by rw [show k = n by omega]; exact Int32.le_refl _) c65)
        rw [show k = n by omega]
        refine z_il2 (pc := 92) dX8_count_92 ?_
        rw [← hQx]
        refine z_iret (pc := 93) rfl (by decide) dX8_count_93 (⟨_, rfl, by rfl, _, _, hM, hF, PS.sc0 0 0 (by omega)⟩)
      | succ dd ih =>
        intro k hkd
        refine z_il3 (pc := 60) dX8_count_60 ?_
        refine z_al0 (pc := 61) dX8_count_61 ?_
        refine z_mg16 (pc := 62) hM rfl dX8_count_62 ?_
        rw [e16]
        refine z_icmp_ge (pc := 65) 92 dX8_count_65 rfl (fun c65 => absurd c65 (by rw [nI_leI (by omega) (by omega)]; omega)) (fun c65 => ?_)
        refine z_il2 (pc := 68) dX8_count_68 ?_
        refine z_al0 (pc := 69) dX8_count_69 ?_
        refine z_mg5 (pc := 70) hM rfl dX8_count_70 ?_
        refine z_il3 (pc := 73) dX8_count_73 ?_
        refine z_mld (pc := 74) 5 20 hM rfl (by decide) rfl (by omega) dX8_count_74 ?_
        refine z_iconst (pc := 75) (-1) (by decide) dX8_count_75 ?_
        refine z_icmp_eq (pc := 76) 83 dX8_count_76 rfl (fun c76 => ?_) (fun c76 => ?_)
        · refine z_iconst (pc := 83) (0) (by decide) dX8_count_83 ?_
          refine z_iadd (pc := 84) dX8_count_84 ?_
          refine z_is2 (pc := 85) dX8_count_85 (by decide) ?_
          refine z_ii3 (pc := 86) (nI (k + 1)) dX8_count_86 (nI_1 _) (by decide) ?_
          refine z_goto (pc := 89) 60 dX8_count_89 rfl ?_
          refine z_L (L' := [some (.ref x), some (.int 2), some (.int (cntF ar (k + 1))), some (.int (nI (k + 1)))]) (by rw [show cntF ar (k + 1) = cntF ar k + zb (ar 5 k ≠ -1) from rfl, zb_f (fun h => h c76)]) ?_
          exact ih (k + 1) (by omega)
        · refine z_iconst (pc := 79) (1) (by decide) dX8_count_79 ?_
          refine z_goto (pc := 80) 84 dX8_count_80 rfl ?_
          refine z_iadd (pc := 84) dX8_count_84 ?_
          refine z_is2 (pc := 85) dX8_count_85 (by decide) ?_
          refine z_ii3 (pc := 86) (nI (k + 1)) dX8_count_86 (nI_1 _) (by decide) ?_
          refine z_goto (pc := 89) 60 dX8_count_89 rfl ?_
          refine z_L (L' := [some (.ref x), some (.int 2), some (.int (cntF ar (k + 1))), some (.int (nI (k + 1)))]) (by rw [show cntF ar (k + 1) = cntF ar k + zb (ar 5 k ≠ -1) from rfl, zb_t c76]) ?_
          exact ih (k + 1) (by omega)
    exact lp n 0 (by omega)
  · subst h
    refine z_tableIn (pc := 8) 94 dX8_count_8 (by decide) (by decide) rfl rfl ?_
    refine z_iconst (pc := 94) (0) (by decide) dX8_count_94 ?_
    refine z_is3 (pc := 95) dX8_count_95 (by decide) ?_
    have lp : ∀ (dd k : Nat), k + dd = n → Z p l e rX8_count s m args below meth cC yX8_count cX8_count 4 (some FieldType.int) κ Qx 0 0 G1 [some (.ref x), some (.int 3), some (.int (lenS ar k)), some (.int (nI k))] 96 [] := by
      intro dd
      induction dd with
      | zero =>
        intro k hkd
        refine z_il3 (pc := 96) dX8_count_96 ?_
        refine z_al0 (pc := 97) dX8_count_97 ?_
        refine z_mg16 (pc := 98) hM rfl dX8_count_98 ?_
        rw [e16]
        refine z_icmp_ge (pc := 101) 119 dX8_count_101 rfl (fun c101 => ?_) (fun c101 => absurd (by rw [show k = n by omega]; exact Int32.le_refl _) c101)
        rw [show k = n by omega]
        refine z_il2 (pc := 119) dX8_count_119 ?_
        rw [← hQx]
        refine z_iret (pc := 120) rfl (by decide) dX8_count_120 (⟨_, rfl, by rfl, _, _, hM, hF, PS.sc0 0 0 (by omega)⟩)
      | succ dd ih =>
        intro k hkd
        refine z_il3 (pc := 96) dX8_count_96 ?_
        refine z_al0 (pc := 97) dX8_count_97 ?_
        refine z_mg16 (pc := 98) hM rfl dX8_count_98 ?_
        rw [e16]
        refine z_icmp_ge (pc := 101) 119 dX8_count_101 rfl (fun c101 => absurd c101 (by rw [nI_leI (by omega) (by omega)]; omega)) (fun c101 => ?_)
        refine z_il2 (pc := 104) dX8_count_104 ?_
        refine z_al0 (pc := 105) dX8_count_105 ?_
        refine z_mg4 (pc := 106) hM rfl dX8_count_106 ?_
        refine z_il3 (pc := 109) dX8_count_109 ?_
        refine z_mld (pc := 110) 4 20 hM rfl (by decide) rfl (by omega) dX8_count_110 ?_
        refine z_iadd (pc := 111) dX8_count_111 ?_
        refine z_is2 (pc := 112) dX8_count_112 (by decide) ?_
        refine z_ii3 (pc := 113) (nI (k + 1)) dX8_count_113 (nI_1 _) (by decide) ?_
        refine z_goto (pc := 116) 96 dX8_count_116 rfl ?_
        exact ih (k + 1) (by omega)
    exact lp n 0 (by omega)
  · subst h
    refine z_tableIn (pc := 8) 121 dX8_count_8 (by decide) (by decide) rfl rfl ?_
    refine z_al0 (pc := 121) dX8_count_121 ?_
    refine z_mg17 (pc := 122) hM rfl dX8_count_122 ?_
    rw [← hQx]
    refine z_iret (pc := 125) rfl (by decide) dX8_count_125 (⟨_, rfl, by exact e17, _, _, hM, hF, PS.sc0 0 0 (by omega)⟩)
  · subst h
    refine z_tableIn (pc := 8) 126 dX8_count_8 (by decide) (by decide) rfl rfl ?_
    refine z_al0 (pc := 126) dX8_count_126 ?_
    refine z_mg18 (pc := 127) hM rfl dX8_count_127 ?_
    rw [← hQx]
    refine z_iret (pc := 130) rfl (by decide) dX8_count_130 (⟨_, rfl, by exact e18, _, _, hM, hF, PS.sc0 0 0 (by omega)⟩)
  · refine z_tableOut (pc := 8) 131 dX8_count_8 h rfl ?_
    refine z_iconst (pc := 131) (-1) (by decide) dX8_count_131 ?_
    rw [← hQx]
    refine z_iret (pc := 132) rfl (by decide) dX8_count_132 (⟨_, rfl, by unfold cntR; rw [if_neg h0, if_neg h1, if_neg h2, if_neg h3, if_neg h4, if_neg h5], _, _, hM, hF, PS.sc0 0 0 (by omega)⟩)
