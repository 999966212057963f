abbrev isNt (p b : Int32) : Prop := p = -1 ∨ (0 ≤ p ∧ p ≤ 60) ∧ 1 ≤ b ∧ b ≤ 16
abbrev okSheet (n : Nat) (h y v : Int32) : Prop := n ≠ 20 ∧ (0 ≤ h ∧ h ≤ 5) ∧ (0 ≤ y ∧ y ≤ 3000) ∧ 0 ≤ v ∧ v ≤ 9
def oSheet (n : Nat) (ar : Nat → Nat → Int32) (h y v : Int32) : Nat → Nat → Int32 := aup (aup (aup (aup (aup ar 1 n h) 2 n y) 3 n v) 4 n 0) 5 n (-1)
abbrev okNote (n : Nat) (ln : Nat → Nat) (s0 p b : Int32) : Prop := okS n s0 ∧ isNt p b ∧ ln (iN s0) ≠ 24
def oNote (ar : Nat → Nat → Int32) (s l : Nat) (p b : Int32) : Nat → Nat → Int32 := aup (aup (aup ar 6 (24 * s + l) p) 7 (24 * s + l) (if p = -1 then 0 else b)) 4 s (nI (l + 1))
abbrev okCor (n c : Nat) (ln : Nat → Nat) (s0 i p b : Int32) : Prop := okS n s0 ∧ (0 ≤ i ∧ i < nI (ln (iN s0))) ∧ isNt p b ∧ c ≠ 200
def oCor (ar : Nat → Nat → Int32) (c w : Nat) (s0 i p b : Int32) : Nat → Nat → Int32 := aup (aup (aup (aup (aup ar 8 c s0) 9 c i) 10 c p) 11 c (if p = -1 then 0 else b)) 12 c (nI w)
abbrev okFor (n : Nat) (ar : Nat → Nat → Int32) (s0 : Int32) : Prop := okS n s0 ∧ ar 5 (iN s0) = -1
abbrev okDbl (n d : Nat) (ar : Nat → Nat → Int32) (a0 b0 : Int32) : Prop := okS n a0 ∧ okS n b0 ∧ ar 1 (iN a0) ≠ ar 1 (iN b0) ∧ d ≠ 60 ∧ ∀ k, k < d → ¬ ((ar 13 k = a0 ∧ ar 14 k = b0) ∨ (ar 13 k = b0 ∧ ar 14 k = a0))
def oDbl (ar : Nat → Nat → Int32) (d : Nat) (a0 b0 : Int32) : Nat → Nat → Int32 := aup (aup ar 13 d a0) 14 d b0
abbrev okDay (w : Nat) (m : Int32) : Prop := (0 ≤ m ∧ m ≤ 1000) ∧ nI w + m ≤ 1000
abbrev okPri (k v : Int32) : Prop := (0 ≤ k ∧ k ≤ 4) ∧ 0 ≤ v ∧ v ≤ (if k = 4 then 10000 else if k = 0 ∨ k = 2 then 20 else 200)
abbrev okAt (n w : Nat) (ln : Nat → Nat) (s0 i q what : Int32) : Prop := okS n s0 ∧ (0 ≤ i ∧ i < nI (ln (iN s0))) ∧ (0 ≤ q ∧ q ≤ nI w) ∧ 0 ≤ what ∧ what ≤ 1
abbrev rX8_sheet : Room := rmK 1 0 0 22
set_option maxRecDepth 100000 in
set_option maxHeartbeats 400000 in
theorem c_mSheet (l : Launch) {κ : zK} {G : zH} {x : Nat} {ad : Nat → Nat} {sc : Nat → Int32} {ar : Nat → Nat → Int32} (n c d w : Nat) (ln : Nat → Nat) (h0 y0 v0 : Int32) (hM : RM κ G x ad sc ar) (hJ : MJ n c d w ln sc ar) : Ct l yX8_sheet cX8_sheet 4 (some FieldType.int) rX8_sheet κ [.ref x, .int h0, .int y0, .int v0] G (pI (fun r G2 => ∃ sc2 ar2, RM κ G2 x ad sc2 ar2 ∧ zF 1 G G2 ∧ ((okSheet n h0 y0 v0 ∧ r = nI n ∧ sc2 = sup (sup sc 0 0) 16 (nI (n + 1)) ∧ ar2 = oSheet n ar h0 y0 v0) ∨ (¬ okSheet n h0 y0 v0 ∧ r = -1 ∧ sc2 = sup sc 0 0 ∧ ar2 = ar)))) := by
  refine Ct.of (by decide +kernel) (fun v hv => by
    simp only [List.mem_cons, List.mem_nil_iff, or_false, List.not_mem_nil] at hv
    rcases hv with rfl | rfl | rfl | rfl <;> rfl) (Nat.le_of_ble_eq_true rfl) ?_
  intro p e s m args below meth cC
  refine z_L (L' := [some (.ref x), some (.int h0), some (.int y0), some (.int v0)]) rfl ?_
  generalize hQx : MQ below (zQc κ _) args s _ _ (zA κ) = Qx
  have hF : zF 1 G G := zF.rf
  refine z_al0 (pc := 0) dX8_sheet_0 ?_
  refine z_iconst (pc := 1) (0) (by decide) dX8_sheet_1 ?_
  refine z_mp0 (pc := 2) hM rfl dX8_sheet_2 (fun G1 hM1 hF1 => ?_)
  have hF := zF.trans hF hF1
  clear hF1
  replace hM := hM1
  clear hM1
  have e16 : sup sc 0 0 16 = nI n := hJ.1
  have e17 : sup sc 0 0 17 = nI c := hJ.2.2.1
  have e18 : sup sc 0 0 18 = nI d := hJ.2.2.2.2.1
  have e19 : sup sc 0 0 19 = nI w := hJ.2.2.2.2.2.2.1
  have hn20 := hJ.2.1
  have hc200 := hJ.2.2.2.1
  have hd60 := hJ.2.2.2.2.2.1
  have hw1000 := hJ.2.2.2.2.2.2.2.1
  refine z_al0 (pc := 5) dX8_sheet_5 ?_
  refine z_mg16 (pc := 6) hM rfl dX8_sheet_6 ?_
  rw [e16]
  refine z_bipush (pc := 9) (20) (by decide) dX8_sheet_9 ?_
  refine z_icmp_eq (pc := 11) 44 dX8_sheet_11 rfl (fun c11 => ?_) (fun c11 => ?_)
  · refine z_iconst (pc := 44) (-1) (by decide) dX8_sheet_44 ?_
    rw [← hQx]
    refine z_iret (pc := 45) rfl (by decide) dX8_sheet_45 (by
      refine ⟨_, rfl, _, _, hM, hF, Or.inr ⟨?_, rfl, rfl, rfl⟩⟩
      first | exact (fun h => absurd h.1 (fun q => q ((nI_eq (by omega) (by omega)).mp (by rw [show nI 20 = 20 from rfl]; exact c11)))) | exact (fun h => c20 h.2.1) | exact (fun h => c31 h.2.2.1) | exact (fun h => c41 h.2.2.2))
  · refine z_il1 (pc := 14) dX8_sheet_14 ?_
    refine z_iconst (pc := 15) (0) (by decide) dX8_sheet_15 ?_
    refine z_iconst (pc := 16) (5) (by decide) dX8_sheet_16 ?_
    refine z_callSr (pc := 17) (c_mIsIn l h0 0 5) kw_837 zc_X8_isIn (by decide) (by decide) rfl (Nat.le_of_ble_eq_true rfl) dX8_sheet_17 ?_
    refine z_ifz_eq (pc := 20) 44 dX8_sheet_20 rfl (fun c20 => ?_) (fun c20 => ?_)
    · refine z_iconst (pc := 44) (-1) (by decide) dX8_sheet_44 ?_
      rw [← hQx]
      refine z_iret (pc := 45) rfl (by decide) dX8_sheet_45 (by
      refine ⟨_, rfl, _, _, hM, hF, Or.inr ⟨?_, rfl, rfl, rfl⟩⟩
      first | exact (fun h => absurd h.1 (fun q => q ((nI_eq (by omega) (by omega)).mp (by rw [show nI 20 = 20 from rfl]; exact c11)))) | exact (fun h => c20 h.2.1) | exact (fun h => c31 h.2.2.1) | exact (fun h => c41 h.2.2.2))
    · refine z_il2 (pc := 23) dX8_sheet_23 ?_
      refine z_iconst (pc := 24) (0) (by decide) dX8_sheet_24 ?_
      refine z_sipush (pc := 25) (3000) (by decide) dX8_sheet_25 ?_
      refine z_callSr (pc := 28) (c_mIsIn l y0 0 3000) kw_837 zc_X8_isIn (by decide) (by decide) rfl (Nat.le_of_ble_eq_true rfl) dX8_sheet_28 ?_
      refine z_ifz_eq (pc := 31) 44 dX8_sheet_31 rfl (fun c31 => ?_) (fun c31 => ?_)
      · refine z_iconst (pc := 44) (-1) (by decide) dX8_sheet_44 ?_
        rw [← hQx]
        refine z_iret (pc := 45) rfl (by decide) dX8_sheet_45 (by
      refine ⟨_, rfl, _, _, hM, hF, Or.inr ⟨?_, rfl, rfl, rfl⟩⟩
      first | exact (fun h => absurd h.1 (fun q => q ((nI_eq (by omega) (by omega)).mp (by rw [show nI 20 = 20 from rfl]; exact c11)))) | exact (fun h => c20 h.2.1) | exact (fun h => c31 h.2.2.1) | exact (fun h => c41 h.2.2.2))
      · refine z_il3 (pc := 34) dX8_sheet_34 ?_
        refine z_iconst (pc := 35) (0) (by decide) dX8_sheet_35 ?_
        refine z_bipush (pc := 36) (9) (by decide) dX8_sheet_36 ?_
        refine z_callSr (pc := 38) (c_mIsIn l v0 0 9) kw_837 zc_X8_isIn (by decide) (by decide) rfl (Nat.le_of_ble_eq_true rfl) dX8_sheet_38 ?_
        refine z_ifz_ne (pc := 41) 46 dX8_sheet_41 rfl (fun c41 => ?_) (fun c41 => ?_)
        · have hok : okSheet n h0 y0 v0 := ⟨fun q => c11 (by rw [q]; rfl), c20, c31, c41⟩
          have hn19 : n ≠ 20 := hok.1
          refine z_al0 (pc := 46) dX8_sheet_46 ?_
          refine z_mg1 (pc := 47) hM rfl dX8_sheet_47 ?_
          refine z_al0 (pc := 50) dX8_sheet_50 ?_
          refine z_mg16 (pc := 51) hM rfl dX8_sheet_51 ?_
          refine z_il1 (pc := 54) dX8_sheet_54 ?_
          rw [e16]
          refine z_mst (pc := 55) 1 20 hM rfl (by decide) rfl (by omega) dX8_sheet_55 (fun G1 hM1 hF1 => ?_)
          have hF := zF.trans hF hF1
          clear hF1
          replace hM := hM1
          clear hM1
          refine z_al0 (pc := 56) dX8_sheet_56 ?_
          refine z_mg2 (pc := 57) hM rfl dX8_sheet_57 ?_
          refine z_al0 (pc := 60) dX8_sheet_60 ?_
          refine z_mg16 (pc := 61) hM rfl dX8_sheet_61 ?_
          refine z_il2 (pc := 64) dX8_sheet_64 ?_
          rw [e16]
          refine z_mst (pc := 65) 2 20 hM rfl (by decide) rfl (by omega) dX8_sheet_65 (fun G1 hM1 hF1 => ?_)
          have hF := zF.trans hF hF1
          clear hF1
          replace hM := hM1
          clear hM1
          refine z_al0 (pc := 66) dX8_sheet_66 ?_
          refine z_mg3 (pc := 67) hM rfl dX8_sheet_67 ?_
          refine z_al0 (pc := 70) dX8_sheet_70 ?_
          refine z_mg16 (pc := 71) hM rfl dX8_sheet_71 ?_
          refine z_il3 (pc := 74) dX8_sheet_74 ?_
          rw [e16]
          refine z_mst (pc := 75) 3 20 hM rfl (by decide) rfl (by omega) dX8_sheet_75 (fun G1 hM1 hF1 => ?_)
          have hF := zF.trans hF hF1
          clear hF1
          replace hM := hM1
          clear hM1
          refine z_al0 (pc := 76) dX8_sheet_76 ?_
          refine z_mg4 (pc := 77) hM rfl dX8_sheet_77 ?_
          refine z_al0 (pc := 80) dX8_sheet_80 ?_
          refine z_mg16 (pc := 81) hM rfl dX8_sheet_81 ?_
          refine z_iconst (pc := 84) (0) (by decide) dX8_sheet_84 ?_
          rw [e16]
          refine z_mst (pc := 85) 4 20 hM rfl (by decide) rfl (by omega) dX8_sheet_85 (fun G1 hM1 hF1 => ?_)
          have hF := zF.trans hF hF1
          clear hF1
          replace hM := hM1
          clear hM1
          refine z_al0 (pc := 86) dX8_sheet_86 ?_
          refine z_mg5 (pc := 87) hM rfl dX8_sheet_87 ?_
          refine z_al0 (pc := 90) dX8_sheet_90 ?_
          refine z_mg16 (pc := 91) hM rfl dX8_sheet_91 ?_
          refine z_iconst (pc := 94) (-1) (by decide) dX8_sheet_94 ?_
          rw [e16]
          refine z_mst (pc := 95) 5 20 hM rfl (by decide) rfl (by omega) dX8_sheet_95 (fun G1 hM1 hF1 => ?_)
          have hF := zF.trans hF hF1
          clear hF1
          replace hM := hM1
          clear hM1
          refine z_al0 (pc := 96) dX8_sheet_96 ?_
          refine z_dup (pc := 97) rfl dX8_sheet_97 ?_
          refine z_mg16 (pc := 98) hM rfl dX8_sheet_98 ?_
          refine z_iconst (pc := 101) (1) (by decide) dX8_sheet_101 ?_
          refine z_iadd (pc := 102) dX8_sheet_102 ?_
          rw [e16, nI_1]
          refine z_mp16 (pc := 103) hM rfl dX8_sheet_103 (fun G1 hM1 hF1 => ?_)
          have hF := zF.trans hF hF1
          clear hF1
          replace hM := hM1
          clear hM1
          refine z_al0 (pc := 106) dX8_sheet_106 ?_
          refine z_mg16 (pc := 107) hM rfl dX8_sheet_107 ?_
          refine z_iconst (pc := 110) (1) (by decide) dX8_sheet_110 ?_
          refine z_isub (pc := 111) dX8_sheet_111 ?_
          rw [show sup (sup sc 0 0) 16 (nI (n + 1)) 16 - 1 = nI n from nI_pred n]
          rw [← hQx]
          refine z_iret (pc := 112) rfl (by decide) dX8_sheet_112 (⟨_, rfl, _, _, hM, hF, Or.inl ⟨hok, rfl, rfl, rfl⟩⟩)
        · refine z_iconst (pc := 44) (-1) (by decide) dX8_sheet_44 ?_
          rw [← hQx]
          refine z_iret (pc := 45) rfl (by decide) dX8_sheet_45 (by
      refine ⟨_, rfl, _, _, hM, hF, Or.inr ⟨?_, rfl, rfl, rfl⟩⟩
      first | exact (fun h => absurd h.1 (fun q => q ((nI_eq (by omega) (by omega)).mp (by rw [show nI 20 = 20 from rfl]; exact c11)))) | exact (fun h => c20 h.2.1) | exact (fun h => c31 h.2.2.1) | exact (fun h => c41 h.2.2.2))
abbrev rX8_note : Room := rmK 2 0 0 43
set_option maxRecDepth 100000 in
set_option maxHeartbeats 400000 in
theorem c_mNote (l : Launch) {κ : zK} {G : zH} {x : Nat} {ad : Nat → Nat} {sc : Nat → Int32} {ar : Nat → Nat → Int32} (n c d w : Nat) (ln : Nat → Nat) (s0 p0 b0 : Int32) (hM : RM κ G x ad sc ar) (hJ : MJ n c d w ln sc ar) : Ct l yX8_note cX8_note 4 (some FieldType.int) rX8_note κ [.ref x, .int s0, .int p0, .int b0] G (pI (fun r G2 => ∃ sc2 ar2, RM κ G2 x ad sc2 ar2 ∧ zF 1 G G2 ∧ ((okNote n ln s0 p0 b0 ∧ r = nI (ln (iN s0) + 1) ∧ sc2 = sup sc 0 0 ∧ ar2 = oNote ar (iN s0) (ln (iN s0)) p0 b0) ∨ (¬ okNote n ln s0 p0 b0 ∧ r = -1 ∧ sc2 = sup sc 0 0 ∧ ar2 = ar)))) := by
  refine Ct.of (by decide +kernel) (fun v hv => by
    simp only [List.mem_cons, List.mem_nil_iff, or_false, List.not_mem_nil] at hv
    rcases hv with rfl | rfl | rfl | rfl <;> rfl) (Nat.le_of_ble_eq_true rfl) ?_
  intro p e s m args below meth cC
  refine z_L (L' := [some (.ref x), some (.int s0), some (.int p0), some (.int b0)]) rfl ?_
  generalize hQx : MQ below (zQc κ _) args s _ _ (zA κ) = Qx
  have hF : zF 1 G G := zF.rf
  refine z_al0 (pc := 0) dX8_note_0 ?_
  refine z_iconst (pc := 1) (0) (by decide) dX8_note_1 ?_
  refine z_mp0 (pc := 2) hM rfl dX8_note_2 (fun G1 hM1 hF1 => ?_)
  have hF := zF.trans hF hF1
  clear hF1
  replace hM := hM1
  clear hM1
  have e16 : sup sc 0 0 16 = nI n := hJ.1
  have e17 : sup sc 0 0 17 = nI c := hJ.2.2.1
  have e18 : sup sc 0 0 18 = nI d := hJ.2.2.2.2.1
  have e19 : sup sc 0 0 19 = nI w := hJ.2.2.2.2.2.2.1
  have hn20 := hJ.2.1
  have hc200 := hJ.2.2.2.1
  have hd60 := hJ.2.2.2.2.2.1
  have hw1000 := hJ.2.2.2.2.2.2.2.1
  refine z_al0 (pc := 5) dX8_note_5 ?_
  refine z_il1 (pc := 6) dX8_note_6 ?_
  refine z_callVr (pc := 7) (c_mIsSheet l s0 hM) hM.1 rfl rfl kw_844 zc_X8_isSheet (by decide) (by decide) rfl (Nat.le_of_ble_eq_true rfl) dX8_note_7 ?_
  rw [e16]
  refine z_ifz_eq (pc := 10) 32 dX8_note_10 rfl (fun c10 => ?_) (fun c10 => ?_)
  · refine z_iconst (pc := 32) (-1) (by decide) dX8_note_32 ?_
    rw [← hQx]
    refine z_iret (pc := 33) rfl (by decide) dX8_note_33 (by
      refine ⟨_, rfl, _, _, hM, hF, Or.inr ⟨?_, rfl, rfl, rfl⟩⟩
      first | exact (fun h => absurd h.1 c10) | exact (fun h => absurd h.2.1 c18) | exact (fun h => h.2.2 (by rw [iN_nI (by omega)]; exact (nI_eq (by omega) (by omega)).mp (by rw [show nI 24 = 24 from rfl]; exact c29))))
  · refine z_il2 (pc := 13) dX8_note_13 ?_
    refine z_il3 (pc := 14) dX8_note_14 ?_
    refine z_callSr (pc := 15) (c_mIsNote l p0 b0) kw_848 zc_X8_isNote (by decide) (by decide) rfl (Nat.le_of_ble_eq_true rfl) dX8_note_15 ?_
    refine z_ifz_eq (pc := 18) 32 dX8_note_18 rfl (fun c18 => ?_) (fun c18 => ?_)
    · refine z_iconst (pc := 32) (-1) (by decide) dX8_note_32 ?_
      rw [← hQx]
      refine z_iret (pc := 33) rfl (by decide) dX8_note_33 (by
      refine ⟨_, rfl, _, _, hM, hF, Or.inr ⟨?_, rfl, rfl, rfl⟩⟩
      first | exact (fun h => absurd h.1 c10) | exact (fun h => absurd h.2.1 c18) | exact (fun h => h.2.2 (by rw [iN_nI (by omega)]; exact (nI_eq (by omega) (by omega)).mp (by rw [show nI 24 = 24 from rfl]; exact c29))))
    · obtain ⟨ha0, ha1⟩ := id c10
      obtain ⟨a, rfl, ha⟩ := ix_in ha0 ha1 (by omega)
      have hla := hJ.2.2.2.2.2.2.2.2.1 a ha
      have hl24 := hla.2
      refine z_al0 (pc := 21) dX8_note_21 ?_
      refine z_mg4 (pc := 22) hM rfl dX8_note_22 ?_
      refine z_il1 (pc := 25) dX8_note_25 ?_
      refine z_mld (pc := 26) 4 20 hM rfl (by decide) rfl (by omega) dX8_note_26 ?_
      rw [hla.1]
      refine z_bipush (pc := 27) (24) (by decide) dX8_note_27 ?_
      refine z_icmp_ne (pc := 29) 34 dX8_note_29 rfl (fun c29 => ?_) (fun c29 => ?_)
      · have hln : ln a ≠ 24 := fun q => c29 (by rw [q]; rfl)
        have hok : okNote n ln (nI a) p0 b0 := ⟨c10, c18, by rw [iN_nI (by omega)]; exact hln⟩
        refine z_al0 (pc := 34) dX8_note_34 ?_
        refine z_mg6 (pc := 35) hM rfl dX8_note_35 ?_
        refine z_bipush (pc := 38) (24) (by decide) dX8_note_38 ?_
        refine z_il1 (pc := 40) dX8_note_40 ?_
        refine z_imul (pc := 41) dX8_note_41 ?_
        refine z_al0 (pc := 42) dX8_note_42 ?_
        refine z_mg4 (pc := 43) hM rfl dX8_note_43 ?_
        refine z_il1 (pc := 46) dX8_note_46 ?_
        refine z_mld (pc := 47) 4 20 hM rfl (by decide) rfl (by omega) dX8_note_47 ?_
        rw [hla.1]
        refine z_iadd (pc := 48) dX8_note_48 ?_
        refine z_il2 (pc := 49) dX8_note_49 ?_
        rw [ix24]
        refine z_mst (pc := 50) 6 480 hM rfl (by decide) rfl (by omega) dX8_note_50 (fun G1 hM1 hF1 => ?_)
        have hF := zF.trans hF hF1
        clear hF1
        replace hM := hM1
        clear hM1
        refine z_al0 (pc := 51) dX8_note_51 ?_
        refine z_mg7 (pc := 52) hM rfl dX8_note_52 ?_
        refine z_bipush (pc := 55) (24) (by decide) dX8_note_55 ?_
        refine z_il1 (pc := 57) dX8_note_57 ?_
        refine z_imul (pc := 58) dX8_note_58 ?_
        refine z_al0 (pc := 59) dX8_note_59 ?_
        refine z_mg4 (pc := 60) hM rfl dX8_note_60 ?_
        refine z_il1 (pc := 63) dX8_note_63 ?_
        refine z_mld (pc := 64) 4 20 hM rfl (by decide) rfl (by omega) dX8_note_64 ?_
        rw [show aup ar 6 (24 * a + ln a) p0 4 a = nI (ln a) from hla.1]
        refine z_iadd (pc := 65) dX8_note_65 ?_
        refine z_il2 (pc := 66) dX8_note_66 ?_
        refine z_iconst (pc := 67) (-1) (by decide) dX8_note_67 ?_
        skip
        refine z_icmp_ne (pc := 68) 75 dX8_note_68 rfl (fun c68 => ?_) (fun c68 => ?_)
        · refine z_il3 (pc := 75) dX8_note_75 ?_
          rw [ix24]
          refine z_mst (pc := 76) 7 480 hM rfl (by decide) rfl (by omega) dX8_note_76 (fun G1 hM1 hF1 => ?_)
          have hF := zF.trans hF hF1
          clear hF1
          replace hM := hM1
          clear hM1
          refine z_al0 (pc := 77) dX8_note_77 ?_
          refine z_mg4 (pc := 78) hM rfl dX8_note_78 ?_
          refine z_il1 (pc := 81) dX8_note_81 ?_
          refine z_dup2 (pc := 82) rfl rfl dX8_note_82 ?_
          refine z_mld (pc := 83) 4 20 hM rfl (by decide) rfl (by omega) dX8_note_83 ?_
          refine z_iconst (pc := 84) (1) (by decide) dX8_note_84 ?_
          refine z_iadd (pc := 85) dX8_note_85 ?_
          rw [show aup (aup ar 6 (24 * a + ln a) p0) 7 (24 * a + ln a) _ 4 a + 1 = nI (ln a + 1) from by show ar 4 a + 1 = _; rw [hla.1]; exact nI_1 _]
          refine z_mst (pc := 86) 4 20 hM rfl (by decide) rfl (by omega) dX8_note_86 (fun G1 hM1 hF1 => ?_)
          have hF := zF.trans hF hF1
          clear hF1
          replace hM := hM1
          clear hM1
          refine z_al0 (pc := 87) dX8_note_87 ?_
          refine z_mg4 (pc := 88) hM rfl dX8_note_88 ?_
          refine z_il1 (pc := 91) dX8_note_91 ?_
          refine z_mld (pc := 92) 4 20 hM rfl (by decide) rfl (by omega) dX8_note_92 ?_
          rw [← hQx]
          refine z_iret (pc := 93) rfl (by decide) dX8_note_93 (⟨_, rfl, _, _, hM, hF, Or.inl ⟨hok, by rw [iN_nI (by omega)]; simp [aup, upd], rfl, by rw [iN_nI (by omega)]; unfold oNote; rw [if_neg c68]⟩⟩)
        · refine z_iconst (pc := 71) (0) (by decide) dX8_note_71 ?_
          refine z_goto (pc := 72) 76 dX8_note_72 rfl ?_
          rw [ix24]
          refine z_mst (pc := 76) 7 480 hM rfl (by decide) rfl (by omega) dX8_note_76 (fun G1 hM1 hF1 => ?_)
          have hF := zF.trans hF hF1
          clear hF1
          replace hM := hM1
          clear hM1
          refine z_al0 (pc := 77) dX8_note_77 ?_
          refine z_mg4 (pc := 78) hM rfl dX8_note_78 ?_
          refine z_il1 (pc := 81) dX8_note_81 ?_
          refine z_dup2 (pc := 82) rfl rfl dX8_note_82 ?_
          refine z_mld (pc := 83) 4 20 hM rfl (by decide) rfl (by omega) dX8_note_83 ?_
          refine z_iconst (pc := 84) (1) (by decide) dX8_note_84 ?_
          refine z_iadd (pc := 85) dX8_note_85 ?_
          rw [show aup (aup ar 6 (24 * a + ln a) p0) 7 (24 * a + ln a) _ 4 a + 1 = nI (ln a + 1) from by show ar 4 a + 1 = _; rw [hla.1]; exact nI_1 _]
          refine z_mst (pc := 86) 4 20 hM rfl (by decide) rfl (by omega) dX8_note_86 (fun G1 hM1 hF1 => ?_)
          have hF := zF.trans hF hF1
          clear hF1
          replace hM := hM1
          clear hM1
          refine z_al0 (pc := 87) dX8_note_87 ?_
          refine z_mg4 (pc := 88) hM rfl dX8_note_88 ?_
          refine z_il1 (pc := 91) dX8_note_91 ?_
          refine z_mld (pc := 92) 4 20 hM rfl (by decide) rfl (by omega) dX8_note_92 ?_
          rw [← hQx]
          refine z_iret (pc := 93) rfl (by decide) dX8_note_93 (⟨_, rfl, _, _, hM, hF, Or.inl ⟨hok, by rw [iN_nI (by omega)]; simp [aup, upd], rfl, by rw [iN_nI (by omega)]; unfold oNote; rw [if_pos c68]⟩⟩)
      · refine z_iconst (pc := 32) (-1) (by decide) dX8_note_32 ?_
        rw [← hQx]
        refine z_iret (pc := 33) rfl (by decide) dX8_note_33 (by
      refine ⟨_, rfl, _, _, hM, hF, Or.inr ⟨?_, rfl, rfl, rfl⟩⟩
      first | exact (fun h => absurd h.1 c10) | exact (fun h => absurd h.2.1 c18) | exact (fun h => h.2.2 (by rw [iN_nI (by omega)]; exact (nI_eq (by omega) (by omega)).mp (by rw [show nI 24 = 24 from rfl]; exact c29))))
abbrev rX8_correct : Room := rmK 2 0 0 43
set_option maxRecDepth 100000 in
set_option maxHeartbeats 400000 in
theorem c_mCorrect (l : Launch) {κ : zK} {G : zH} {x : Nat} {ad : Nat → Nat} {sc : Nat → Int32} {ar : Nat → Nat → Int32} (n c d w : Nat) (ln : Nat → Nat) (s0 i0 p0 b0 : Int32) (hM : RM κ G x ad sc ar) (hJ : MJ n c d w ln sc ar) : Ct l yX8_correct cX8_correct 5 (some FieldType.boolean) rX8_correct κ [.ref x, .int s0, .int i0, .int p0, .int b0] G (pI (fun r G2 => ∃ sc2 ar2, RM κ G2 x ad sc2 ar2 ∧ zF 1 G G2 ∧ ((okCor n c ln s0 i0 p0 b0 ∧ r = 1 ∧ sc2 = sup (sup sc 0 0) 17 (nI (c + 1)) ∧ ar2 = oCor ar c w s0 i0 p0 b0) ∨ (¬ okCor n c ln s0 i0 p0 b0 ∧ r = 0 ∧ sc2 = sup sc 0 0 ∧ ar2 = ar)))) := by
  refine Ct.of (by decide +kernel) (fun v hv => by
    simp only [List.mem_cons, List.mem_nil_iff, or_false, List.not_mem_nil] at hv
    rcases hv with rfl | rfl | rfl | rfl | rfl <;> rfl) (Nat.le_of_ble_eq_true rfl) ?_
  intro p e s m args below meth cC
  refine z_L (L' := [some (.ref x), some (.int s0), some (.int i0), some (.int p0), some (.int b0)]) rfl ?_
  generalize hQx : MQ below (zQc κ _) args s _ _ (zA κ) = Qx
  have hF : zF 1 G G := zF.rf
  refine z_al0 (pc := 0) dX8_correct_0 ?_
  refine z_iconst (pc := 1) (0) (by decide) dX8_correct_1 ?_
  refine z_mp0 (pc := 2) hM rfl dX8_correct_2 (fun G1 hM1 hF1 => ?_)
  have hF := zF.trans hF hF1
  clear hF1
  replace hM := hM1
  clear hM1
  have e16 : sup sc 0 0 16 = nI n := hJ.1
  have e17 : sup sc 0 0 17 = nI c := hJ.2.2.1
  have e18 : sup sc 0 0 18 = nI d := hJ.2.2.2.2.1
  have e19 : sup sc 0 0 19 = nI w := hJ.2.2.2.2.2.2.1
  have hn20 := hJ.2.1
  have hc200 := hJ.2.2.2.1
  have hd60 := hJ.2.2.2.2.2.1
  have hw1000 := hJ.2.2.2.2.2.2.2.1
  refine z_al0 (pc := 5) dX8_correct_5 ?_
  refine z_il1 (pc := 6) dX8_correct_6 ?_
  refine z_callVr (pc := 7) (c_mIsSheet l s0 hM) hM.1 rfl rfl kw_844 zc_X8_isSheet (by decide) (by decide) rfl (Nat.le_of_ble_eq_true rfl) dX8_correct_7 ?_
  rw [e16]
  refine z_ifz_eq (pc := 10) 46 dX8_correct_10 rfl (fun c10 => ?_) (fun c10 => ?_)
  · refine z_iconst (pc := 46) (0) (by decide) dX8_correct_46 ?_
    rw [← hQx]
    refine z_zret (pc := 47) rfl rfl (by decide) dX8_correct_47 (by
      refine ⟨_, rfl, _, _, hM, hF, Or.inr ⟨?_, rfl, rfl, rfl⟩⟩
      first | exact (fun h => absurd h.1 c10) | exact (fun h => absurd h.2.1.1 (Int32.not_le.mpr c14)) | exact (fun h => c24 (by have := h.2.1.2; rwa [iN_nI (by omega)] at this)) | exact (fun h => absurd h.2.1.2 (by rw [iN_nI (by omega)]; exact Int32.not_lt.mpr c24)) | exact (fun h => absurd h.2.2.1 c33) | exact (fun h => h.2.2.2 ((nI_eq (by omega) (by omega)).mp (by rw [show nI 200 = 200 from rfl]; exact c43))))
  · obtain ⟨ha0, ha1⟩ := id c10
    obtain ⟨a, rfl, ha⟩ := ix_in ha0 ha1 (by omega)
    have hla := hJ.2.2.2.2.2.2.2.2.1 a ha
    have hl24 := hla.2
    refine z_il2 (pc := 13) dX8_correct_13 ?_
    refine z_if_lt (pc := 14) 46 dX8_correct_14 rfl (fun c14 => ?_) (fun c14 => ?_)
    · refine z_iconst (pc := 46) (0) (by decide) dX8_correct_46 ?_
      rw [← hQx]
      refine z_zret (pc := 47) rfl rfl (by decide) dX8_correct_47 (by
      refine ⟨_, rfl, _, _, hM, hF, Or.inr ⟨?_, rfl, rfl, rfl⟩⟩
      first | exact (fun h => absurd h.1 c10) | exact (fun h => absurd h.2.1.1 (Int32.not_le.mpr c14)) | exact (fun h => c24 (by have := h.2.1.2; rwa [iN_nI (by omega)] at this)) | exact (fun h => absurd h.2.1.2 (by rw [iN_nI (by omega)]; exact Int32.not_lt.mpr c24)) | exact (fun h => absurd h.2.2.1 c33) | exact (fun h => h.2.2.2 ((nI_eq (by omega) (by omega)).mp (by rw [show nI 200 = 200 from rfl]; exact c43))))
    · refine z_il2 (pc := 17) dX8_correct_17 ?_
      refine z_al0 (pc := 18) dX8_correct_18 ?_
      refine z_mg4 (pc := 19) hM rfl dX8_correct_19 ?_
      refine z_il1 (pc := 22) dX8_correct_22 ?_
      refine z_mld (pc := 23) 4 20 hM rfl (by decide) rfl (by omega) dX8_correct_23 ?_
      rw [hla.1]
      refine z_icmp_ge (pc := 24) 46 dX8_correct_24 rfl (fun c24 => ?_) (fun c24 => ?_)
      · refine z_iconst (pc := 46) (0) (by decide) dX8_correct_46 ?_
        rw [← hQx]
        refine z_zret (pc := 47) rfl rfl (by decide) dX8_correct_47 (by
      refine ⟨_, rfl, _, _, hM, hF, Or.inr ⟨?_, rfl, rfl, rfl⟩⟩
      first | exact (fun h => absurd h.1 c10) | exact (fun h => absurd h.2.1.1 (Int32.not_le.mpr c14)) | exact (fun h => c24 (by have := h.2.1.2; rwa [iN_nI (by omega)] at this)) | exact (fun h => absurd h.2.1.2 (by rw [iN_nI (by omega)]; exact Int32.not_lt.mpr c24)) | exact (fun h => absurd h.2.2.1 c33) | exact (fun h => h.2.2.2 ((nI_eq (by omega) (by omega)).mp (by rw [show nI 200 = 200 from rfl]; exact c43))))
      · refine z_il3 (pc := 27) dX8_correct_27 ?_
        refine z_il4 (pc := 28) dX8_correct_28 ?_
        refine z_callSr (pc := 30) (c_mIsNote l p0 b0) kw_848 zc_X8_isNote (by decide) (by decide) rfl (Nat.le_of_ble_eq_true rfl) dX8_correct_30 ?_
        refine z_ifz_eq (pc := 33) 46 dX8_correct_33 rfl (fun c33 => ?_) (fun c33 => ?_)
        · refine z_iconst (pc := 46) (0) (by decide) dX8_correct_46 ?_
          rw [← hQx]
          refine z_zret (pc := 47) rfl rfl (by decide) dX8_correct_47 (by
      refine ⟨_, rfl, _, _, hM, hF, Or.inr ⟨?_, rfl, rfl, rfl⟩⟩
      first | exact (fun h => absurd h.1 c10) | exact (fun h => absurd h.2.1.1 (Int32.not_le.mpr c14)) | exact (fun h => c24 (by have := h.2.1.2; rwa [iN_nI (by omega)] at this)) | exact (fun h => absurd h.2.1.2 (by rw [iN_nI (by omega)]; exact Int32.not_lt.mpr c24)) | exact (fun h => absurd h.2.2.1 c33) | exact (fun h => h.2.2.2 ((nI_eq (by omega) (by omega)).mp (by rw [show nI 200 = 200 from rfl]; exact c43))))
        · refine z_al0 (pc := 36) dX8_correct_36 ?_
          refine z_mg17 (pc := 37) hM rfl dX8_correct_37 ?_
          rw [e17]
          refine z_sipush (pc := 40) (200) (by decide) dX8_correct_40 ?_
          refine z_icmp_ne (pc := 43) 48 dX8_correct_43 rfl (fun c43 => ?_) (fun c43 => ?_)
          · have hcc : c ≠ 200 := fun q => c43 (by rw [q]; rfl)
            have hok : okCor n c ln (nI a) i0 p0 b0 := ⟨c10, ⟨Int32.not_lt.mp c14, by rw [iN_nI (by omega)]; exact Int32.not_le.mp c24⟩, c33, hcc⟩
            refine z_al0 (pc := 48) dX8_correct_48 ?_
            refine z_mg8 (pc := 49) hM rfl dX8_correct_49 ?_
            refine z_al0 (pc := 52) dX8_correct_52 ?_
            refine z_mg17 (pc := 53) hM rfl dX8_correct_53 ?_
            rw [e17]
            refine z_il1 (pc := 56) dX8_correct_56 ?_
            refine z_mst (pc := 57) 8 200 hM rfl (by decide) rfl (by omega) dX8_correct_57 (fun G1 hM1 hF1 => ?_)
            have hF := zF.trans hF hF1
            clear hF1
            replace hM := hM1
            clear hM1
            refine z_al0 (pc := 58) dX8_correct_58 ?_
            refine z_mg9 (pc := 59) hM rfl dX8_correct_59 ?_
            refine z_al0 (pc := 62) dX8_correct_62 ?_
            refine z_mg17 (pc := 63) hM rfl dX8_correct_63 ?_
            rw [e17]
            refine z_il2 (pc := 66) dX8_correct_66 ?_
            refine z_mst (pc := 67) 9 200 hM rfl (by decide) rfl (by omega) dX8_correct_67 (fun G1 hM1 hF1 => ?_)
            have hF := zF.trans hF hF1
            clear hF1
            replace hM := hM1
            clear hM1
            refine z_al0 (pc := 68) dX8_correct_68 ?_
            refine z_mg10 (pc := 69) hM rfl dX8_correct_69 ?_
            refine z_al0 (pc := 72) dX8_correct_72 ?_
            refine z_mg17 (pc := 73) hM rfl dX8_correct_73 ?_
            rw [e17]
            refine z_il3 (pc := 76) dX8_correct_76 ?_
            refine z_mst (pc := 77) 10 200 hM rfl (by decide) rfl (by omega) dX8_correct_77 (fun G1 hM1 hF1 => ?_)
            have hF := zF.trans hF hF1
            clear hF1
            replace hM := hM1
            clear hM1
            refine z_al0 (pc := 78) dX8_correct_78 ?_
            refine z_mg11 (pc := 79) hM rfl dX8_correct_79 ?_
            refine z_al0 (pc := 82) dX8_correct_82 ?_
            refine z_mg17 (pc := 83) hM rfl dX8_correct_83 ?_
            rw [e17]
            refine z_il3 (pc := 86) dX8_correct_86 ?_
            refine z_iconst (pc := 87) (-1) (by decide) dX8_correct_87 ?_
            refine z_icmp_ne (pc := 88) 95 dX8_correct_88 rfl (fun c88 => ?_) (fun c88 => ?_)
            · refine z_il4 (pc := 95) dX8_correct_95 ?_
              refine z_mst (pc := 97) 11 200 hM rfl (by decide) rfl (by omega) dX8_correct_97 (fun G1 hM1 hF1 => ?_)
              have hF := zF.trans hF hF1
              clear hF1
              replace hM := hM1
              clear hM1
              refine z_al0 (pc := 98) dX8_correct_98 ?_
              refine z_mg12 (pc := 99) hM rfl dX8_correct_99 ?_
              refine z_al0 (pc := 102) dX8_correct_102 ?_
              refine z_mg17 (pc := 103) hM rfl dX8_correct_103 ?_
              rw [e17]
              refine z_al0 (pc := 106) dX8_correct_106 ?_
              refine z_mg19 (pc := 107) hM rfl dX8_correct_107 ?_
              rw [e19]
              refine z_mst (pc := 110) 12 200 hM rfl (by decide) rfl (by omega) dX8_correct_110 (fun G1 hM1 hF1 => ?_)
              have hF := zF.trans hF hF1
              clear hF1
              replace hM := hM1
              clear hM1
              refine z_al0 (pc := 111) dX8_correct_111 ?_
              refine z_dup (pc := 112) rfl dX8_correct_112 ?_
              refine z_mg17 (pc := 113) hM rfl dX8_correct_113 ?_
              refine z_iconst (pc := 116) (1) (by decide) dX8_correct_116 ?_
              refine z_iadd (pc := 117) dX8_correct_117 ?_
              rw [e17, nI_1]
              refine z_mp17 (pc := 118) hM rfl dX8_correct_118 (fun G1 hM1 hF1 => ?_)
              have hF := zF.trans hF hF1
              clear hF1
              replace hM := hM1
              clear hM1
              refine z_iconst (pc := 121) (1) (by decide) dX8_correct_121 ?_
              rw [← hQx]
              refine z_zret (pc := 122) rfl rfl (by decide) dX8_correct_122 (⟨_, rfl, _, _, hM, hF, Or.inl ⟨hok, rfl, rfl, by unfold oCor; rw [if_neg c88]⟩⟩)
            · refine z_iconst (pc := 91) (0) (by decide) dX8_correct_91 ?_
              refine z_goto (pc := 92) 97 dX8_correct_92 rfl ?_
              refine z_mst (pc := 97) 11 200 hM rfl (by decide) rfl (by omega) dX8_correct_97 (fun G1 hM1 hF1 => ?_)
              have hF := zF.trans hF hF1
              clear hF1
              replace hM := hM1
              clear hM1
              refine z_al0 (pc := 98) dX8_correct_98 ?_
              refine z_mg12 (pc := 99) hM rfl dX8_correct_99 ?_
              refine z_al0 (pc := 102) dX8_correct_102 ?_
              refine z_mg17 (pc := 103) hM rfl dX8_correct_103 ?_
              rw [e17]
              refine z_al0 (pc := 106) dX8_correct_106 ?_
              refine z_mg19 (pc := 107) hM rfl dX8_correct_107 ?_
              rw [e19]
              refine z_mst (pc := 110) 12 200 hM rfl (by decide) rfl (by omega) dX8_correct_110 (fun G1 hM1 hF1 => ?_)
              have hF := zF.trans hF hF1
              clear hF1
              replace hM := hM1
              clear hM1
              refine z_al0 (pc := 111) dX8_correct_111 ?_
              refine z_dup (pc := 112) rfl dX8_correct_112 ?_
              refine z_mg17 (pc := 113) hM rfl dX8_correct_113 ?_
              refine z_iconst (pc := 116) (1) (by decide) dX8_correct_116 ?_
              refine z_iadd (pc := 117) dX8_correct_117 ?_
              rw [e17, nI_1]
              refine z_mp17 (pc := 118) hM rfl dX8_correct_118 (fun G1 hM1 hF1 => ?_)
              have hF := zF.trans hF hF1
              clear hF1
              replace hM := hM1
              clear hM1
              refine z_iconst (pc := 121) (1) (by decide) dX8_correct_121 ?_
              rw [← hQx]
              refine z_zret (pc := 122) rfl rfl (by decide) dX8_correct_122 (⟨_, rfl, _, _, hM, hF, Or.inl ⟨hok, rfl, rfl, by unfold oCor; rw [if_pos c88]⟩⟩)
          · refine z_iconst (pc := 46) (0) (by decide) dX8_correct_46 ?_
            rw [← hQx]
            refine z_zret (pc := 47) rfl rfl (by decide) dX8_correct_47 (by
      refine ⟨_, rfl, _, _, hM, hF, Or.inr ⟨?_, rfl, rfl, rfl⟩⟩
      first | exact (fun h => absurd h.1 c10) | exact (fun h => absurd h.2.1.1 (Int32.not_le.mpr c14)) | exact (fun h => c24 (by have := h.2.1.2; rwa [iN_nI (by omega)] at this)) | exact (fun h => absurd h.2.1.2 (by rw [iN_nI (by omega)]; exact Int32.not_lt.mpr c24)) | exact (fun h => absurd h.2.2.1 c33) | exact (fun h => h.2.2.2 ((nI_eq (by omega) (by omega)).mp (by rw [show nI 200 = 200 from rfl]; exact c43))))
abbrev rX8_forge : Room := rmK 1 0 0 21
set_option maxRecDepth 100000 in
set_option maxHeartbeats 400000 in
theorem c_mForge (l : Launch) {κ : zK} {G : zH} {x : Nat} {ad : Nat → Nat} {sc : Nat → Int32} {ar : Nat → Nat → Int32} (n c d w : Nat) (ln : Nat → Nat) (s0 : Int32) (hM : RM κ G x ad sc ar) (hJ : MJ n c d w ln sc ar) : Ct l yX8_forge cX8_forge 2 (some FieldType.boolean) rX8_forge κ [.ref x, .int s0] G (pI (fun r G2 => ∃ sc2 ar2, RM κ G2 x ad sc2 ar2 ∧ zF 1 G G2 ∧ ((okFor n ar s0 ∧ r = 1 ∧ sc2 = sup sc 0 0 ∧ ar2 = aup ar 5 (iN s0) (nI w)) ∨ (¬ okFor n ar s0 ∧ r = 0 ∧ sc2 = sup sc 0 0 ∧ ar2 = ar)))) := by
  refine Ct.of (by decide +kernel) (fun v hv => by
    simp only [List.mem_cons, List.mem_nil_iff, or_false, List.not_mem_nil] at hv
    rcases hv with rfl | rfl <;> rfl) (Nat.le_of_ble_eq_true rfl) ?_
  intro p e s m args below meth cC
  refine z_L (L' := [some (.ref x), some (.int s0)]) rfl ?_
  generalize hQx : MQ below (zQc κ _) args s _ _ (zA κ) = Qx
  have hF : zF 1 G G := zF.rf
  refine z_al0 (pc := 0) dX8_forge_0 ?_
  refine z_iconst (pc := 1) (0) (by decide) dX8_forge_1 ?_
  refine z_mp0 (pc := 2) hM rfl dX8_forge_2 (fun G1 hM1 hF1 => ?_)
  have hF := zF.trans hF hF1
  clear hF1
  replace hM := hM1
  clear hM1
  have e16 : sup sc 0 0 16 = nI n := hJ.1
  have e17 : sup sc 0 0 17 = nI c := hJ.2.2.1
  have e18 : sup sc 0 0 18 = nI d := hJ.2.2.2.2.1
  have e19 : sup sc 0 0 19 = nI w := hJ.2.2.2.2.2.2.1
  have hn20 := hJ.2.1
  have hc200 := hJ.2.2.2.1
  have hd60 := hJ.2.2.2.2.2.1
  have hw1000 := hJ.2.2.2.2.2.2.2.1
  refine z_al0 (pc := 5) dX8_forge_5 ?_
  refine z_il1 (pc := 6) dX8_forge_6 ?_
  refine z_callVr (pc := 7) (c_mIsSheet l s0 hM) hM.1 rfl rfl kw_844 zc_X8_isSheet (by decide) (by decide) rfl (Nat.le_of_ble_eq_true rfl) dX8_forge_7 ?_
  rw [e16]
  refine z_ifz_eq (pc := 10) 23 dX8_forge_10 rfl (fun c10 => ?_) (fun c10 => ?_)
  · refine z_iconst (pc := 23) (0) (by decide) dX8_forge_23 ?_
    rw [← hQx]
    refine z_zret (pc := 24) rfl rfl (by decide) dX8_forge_24 (by
      refine ⟨_, rfl, _, _, hM, hF, Or.inr ⟨?_, rfl, rfl, rfl⟩⟩
      first | exact (fun h => absurd h.1 c10) | exact (fun h => c20 (by have := h.2; rwa [iN_nI (by omega)] at this)))
  · obtain ⟨ha0, ha1⟩ := id c10
    obtain ⟨a, rfl, ha⟩ := ix_in ha0 ha1 (by omega)
    have hla := hJ.2.2.2.2.2.2.2.2.1 a ha
    have hl24 := hla.2
    refine z_al0 (pc := 13) dX8_forge_13 ?_
    refine z_mg5 (pc := 14) hM rfl dX8_forge_14 ?_
    refine z_il1 (pc := 17) dX8_forge_17 ?_
    refine z_mld (pc := 18) 5 20 hM rfl (by decide) rfl (by omega) dX8_forge_18 ?_
    refine z_iconst (pc := 19) (-1) (by decide) dX8_forge_19 ?_
    refine z_icmp_eq (pc := 20) 25 dX8_forge_20 rfl (fun c20 => ?_) (fun c20 => ?_)
    · refine z_al0 (pc := 25) dX8_forge_25 ?_
      refine z_mg5 (pc := 26) hM rfl dX8_forge_26 ?_
      refine z_il1 (pc := 29) dX8_forge_29 ?_
      refine z_al0 (pc := 30) dX8_forge_30 ?_
      refine z_mg19 (pc := 31) hM rfl dX8_forge_31 ?_
      rw [e19]
      refine z_mst (pc := 34) 5 20 hM rfl (by decide) rfl (by omega) dX8_forge_34 (fun G1 hM1 hF1 => ?_)
      have hF := zF.trans hF hF1
      clear hF1
      replace hM := hM1
      clear hM1
      refine z_iconst (pc := 35) (1) (by decide) dX8_forge_35 ?_
      rw [← hQx]
      refine z_zret (pc := 36) rfl rfl (by decide) dX8_forge_36 (⟨_, rfl, _, _, hM, hF, Or.inl ⟨⟨c10, by rw [iN_nI (by omega)]; exact c20⟩, rfl, rfl, by rw [iN_nI (by omega)]⟩⟩)
    · refine z_iconst (pc := 23) (0) (by decide) dX8_forge_23 ?_
      rw [← hQx]
      refine z_zret (pc := 24) rfl rfl (by decide) dX8_forge_24 (by
      refine ⟨_, rfl, _, _, hM, hF, Or.inr ⟨?_, rfl, rfl, rfl⟩⟩
      first | exact (fun h => absurd h.1 c10) | exact (fun h => c20 (by have := h.2; rwa [iN_nI (by omega)] at this)))
abbrev rX8_days : Room := rmK 1 0 0 22
set_option maxRecDepth 100000 in
set_option maxHeartbeats 400000 in
theorem c_mDays (l : Launch) {κ : zK} {G : zH} {x : Nat} {ad : Nat → Nat} {sc : Nat → Int32} {ar : Nat → Nat → Int32} (n c d w : Nat) (ln : Nat → Nat) (m0 : Int32) (hM : RM κ G x ad sc ar) (hJ : MJ n c d w ln sc ar) : Ct l yX8_days cX8_days 2 (some FieldType.int) rX8_days κ [.ref x, .int m0] G (pI (fun r G2 => ∃ sc2 ar2, RM κ G2 x ad sc2 ar2 ∧ zF 1 G G2 ∧ ((okDay w m0 ∧ r = nI w + m0 ∧ sc2 = sup (sup sc 0 0) 19 (nI w + m0) ∧ ar2 = ar) ∨ (¬ okDay w m0 ∧ r = -1 ∧ sc2 = sup sc 0 0 ∧ ar2 = ar)))) := by
  refine Ct.of (by decide +kernel) (fun v hv => by
    simp only [List.mem_cons, List.mem_nil_iff, or_false, List.not_mem_nil] at hv
    rcases hv with rfl | rfl <;> rfl) (Nat.le_of_ble_eq_true rfl) ?_
  intro p e s m args below meth cC
  refine z_L (L' := [some (.ref x), some (.int m0)]) rfl ?_
  generalize hQx : MQ below (zQc κ _) args s _ _ (zA κ) = Qx
  have hF : zF 1 G G := zF.rf
  refine z_al0 (pc := 0) dX8_days_0 ?_
  refine z_iconst (pc := 1) (0) (by decide) dX8_days_1 ?_
  refine z_mp0 (pc := 2) hM rfl dX8_days_2 (fun G1 hM1 hF1 => ?_)
  have hF := zF.trans hF hF1
  clear hF1
  replace hM := hM1
  clear hM1
  have e16 : sup sc 0 0 16 = nI n := hJ.1
  have e17 : sup sc 0 0 17 = nI c := hJ.2.2.1
  have e18 : sup sc 0 0 18 = nI d := hJ.2.2.2.2.1
  have e19 : sup sc 0 0 19 = nI w := hJ.2.2.2.2.2.2.1
  have hn20 := hJ.2.1
  have hc200 := hJ.2.2.2.1
  have hd60 := hJ.2.2.2.2.2.1
  have hw1000 := hJ.2.2.2.2.2.2.2.1
  refine z_il1 (pc := 5) dX8_days_5 ?_
  refine z_iconst (pc := 6) (0) (by decide) dX8_days_6 ?_
  refine z_sipush (pc := 7) (1000) (by decide) dX8_days_7 ?_
  refine z_callSr (pc := 10) (c_mIsIn l m0 0 1000) kw_837 zc_X8_isIn (by decide) (by decide) rfl (Nat.le_of_ble_eq_true rfl) dX8_days_10 ?_
  refine z_ifz_eq (pc := 13) 28 dX8_days_13 rfl (fun c13 => ?_) (fun c13 => ?_)
  · refine z_iconst (pc := 28) (-1) (by decide) dX8_days_28 ?_
    rw [← hQx]
    refine z_iret (pc := 29) rfl (by decide) dX8_days_29 (by
      refine ⟨_, rfl, _, _, hM, hF, Or.inr ⟨?_, rfl, rfl, rfl⟩⟩
      first | exact (fun h => absurd h.1 c13) | exact (fun h => absurd h.2 (Int32.not_le.mpr (Int32.not_le.mp c25))) | exact (fun h => c25 h.2))
  · refine z_al0 (pc := 16) dX8_days_16 ?_
    refine z_mg19 (pc := 17) hM rfl dX8_days_17 ?_
    rw [e19]
    refine z_il1 (pc := 20) dX8_days_20 ?_
    refine z_iadd (pc := 21) dX8_days_21 ?_
    refine z_sipush (pc := 22) (1000) (by decide) dX8_days_22 ?_
    refine z_icmp_le (pc := 25) 30 dX8_days_25 rfl (fun c25 => ?_) (fun c25 => ?_)
    · refine z_al0 (pc := 30) dX8_days_30 ?_
      refine z_dup (pc := 31) rfl dX8_days_31 ?_
      refine z_mg19 (pc := 32) hM rfl dX8_days_32 ?_
      rw [e19]
      refine z_il1 (pc := 35) dX8_days_35 ?_
      refine z_iadd (pc := 36) dX8_days_36 ?_
      refine z_mp19 (pc := 37) hM rfl dX8_days_37 (fun G1 hM1 hF1 => ?_)
      have hF := zF.trans hF hF1
      clear hF1
      replace hM := hM1
      clear hM1
      refine z_al0 (pc := 40) dX8_days_40 ?_
      refine z_mg19 (pc := 41) hM rfl dX8_days_41 ?_
      rw [← hQx]
      refine z_iret (pc := 44) rfl (by decide) dX8_days_44 (⟨_, rfl, _, _, hM, hF, Or.inl ⟨⟨c13, c25⟩, rfl, rfl, rfl⟩⟩)
    · refine z_iconst (pc := 28) (-1) (by decide) dX8_days_28 ?_
      rw [← hQx]
      refine z_iret (pc := 29) rfl (by decide) dX8_days_29 (by
      refine ⟨_, rfl, _, _, hM, hF, Or.inr ⟨?_, rfl, rfl, rfl⟩⟩
      first | exact (fun h => absurd h.1 c13) | exact (fun h => absurd h.2 (Int32.not_le.mpr (Int32.not_le.mp c25))) | exact (fun h => c25 h.2))
abbrev rX8_price : Room := rmK 1 0 0 22
set_option maxRecDepth 100000 in
set_option maxHeartbeats 400000 in
theorem c_mPrice (l : Launch) {κ : zK} {G : zH} {x : Nat} {ad : Nat → Nat} {sc : Nat → Int32} {ar : Nat → Nat → Int32} (n c d w : Nat) (ln : Nat → Nat) (k0 v0 : Int32) (hM : RM κ G x ad sc ar) (hJ : MJ n c d w ln sc ar) : Ct l yX8_price cX8_price 3 (some FieldType.boolean) rX8_price κ [.ref x, .int k0, .int v0] G (pI (fun r G2 => ∃ sc2 ar2, RM κ G2 x ad sc2 ar2 ∧ zF 1 G G2 ∧ ((okPri k0 v0 ∧ r = 1 ∧ sc2 = sup sc 0 0 ∧ ar2 = aup ar 15 (iN k0) v0) ∨ (¬ okPri k0 v0 ∧ r = 0 ∧ sc2 = sup sc 0 0 ∧ ar2 = ar)))) := by
  refine Ct.of (by decide +kernel) (fun v hv => by
    simp only [List.mem_cons, List.mem_nil_iff, or_false, List.not_mem_nil] at hv
    rcases hv with rfl | rfl | rfl <;> rfl) (Nat.le_of_ble_eq_true rfl) ?_
  intro p e s m args below meth cC
  refine z_L (L' := [some (.ref x), some (.int k0), some (.int v0)]) rfl ?_
  generalize hQx : MQ below (zQc κ _) args s _ _ (zA κ) = Qx
  have hF : zF 1 G G := zF.rf
  refine z_al0 (pc := 0) dX8_price_0 ?_
  refine z_iconst (pc := 1) (0) (by decide) dX8_price_1 ?_
  refine z_mp0 (pc := 2) hM rfl dX8_price_2 (fun G1 hM1 hF1 => ?_)
  have hF := zF.trans hF hF1
  clear hF1
  replace hM := hM1
  clear hM1
  have e16 : sup sc 0 0 16 = nI n := hJ.1
  have e17 : sup sc 0 0 17 = nI c := hJ.2.2.1
  have e18 : sup sc 0 0 18 = nI d := hJ.2.2.2.2.1
  have e19 : sup sc 0 0 19 = nI w := hJ.2.2.2.2.2.2.1
  have hn20 := hJ.2.1
  have hc200 := hJ.2.2.2.1
  have hd60 := hJ.2.2.2.2.2.1
  have hw1000 := hJ.2.2.2.2.2.2.2.1
  refine z_il1 (pc := 5) dX8_price_5 ?_
  refine z_iconst (pc := 6) (0) (by decide) dX8_price_6 ?_
  refine z_iconst (pc := 7) (4) (by decide) dX8_price_7 ?_
  refine z_callSr (pc := 8) (c_mIsIn l k0 0 4) kw_837 zc_X8_isIn (by decide) (by decide) rfl (Nat.le_of_ble_eq_true rfl) dX8_price_8 ?_
  refine z_ifz_eq (pc := 11) 50 dX8_price_11 rfl (fun c11 => ?_) (fun c11 => ?_)
  · refine z_iconst (pc := 50) (0) (by decide) dX8_price_50 ?_
    rw [← hQx]
    refine z_zret (pc := 51) rfl rfl (by decide) dX8_price_51 (by
      refine ⟨_, rfl, _, _, hM, hF, Or.inr ⟨?_, rfl, rfl, rfl⟩⟩
      first | exact (fun h => c11 h.1) | exact (fun h => c47 (by have := h.2; simp_all)))
  · refine z_il2 (pc := 14) dX8_price_14 ?_
    refine z_iconst (pc := 15) (0) (by decide) dX8_price_15 ?_
    refine z_il1 (pc := 16) dX8_price_16 ?_
    refine z_iconst (pc := 17) (4) (by decide) dX8_price_17 ?_
    refine z_icmp_ne (pc := 18) 27 dX8_price_18 rfl (fun c18 => ?_) (fun c18 => ?_)
    · refine z_il1 (pc := 27) dX8_price_27 ?_
      refine z_if_eq (pc := 28) 36 dX8_price_28 rfl (fun c28 => ?_) (fun c28 => ?_)
      · refine z_bipush (pc := 36) (20) (by decide) dX8_price_36 ?_
        refine z_goto (pc := 38) 44 dX8_price_38 rfl ?_
        refine z_callSr (pc := 44) (c_mIsIn l v0 0 20) kw_837 zc_X8_isIn (by decide) (by decide) rfl (Nat.le_of_ble_eq_true rfl) dX8_price_44 ?_
        refine z_ifz_ne (pc := 47) 52 dX8_price_47 rfl (fun c47 => ?_) (fun c47 => ?_)
        · refine z_al0 (pc := 52) dX8_price_52 ?_
          refine z_mg15 (pc := 53) hM rfl dX8_price_53 ?_
          refine z_il1 (pc := 56) dX8_price_56 ?_
          refine z_il2 (pc := 57) dX8_price_57 ?_
          obtain ⟨j, rfl, hj⟩ := ix_in c11.1 (show k0 < nI 5 by have := c11.2; rw [show nI 5 = (5 : Int32) from rfl]; simp only [i_lt, i_le, i_n4, i_n5] at *; omega) (by omega)
          refine z_mst (pc := 58) 15 5 hM rfl (by decide) rfl (by omega) dX8_price_58 (fun G1 hM1 hF1 => ?_)
          have hF := zF.trans hF hF1
          clear hF1
          replace hM := hM1
          clear hM1
          refine z_iconst (pc := 59) (1) (by decide) dX8_price_59 ?_
          rw [← hQx]
          refine z_zret (pc := 60) rfl rfl (by decide) dX8_price_60 (⟨_, rfl, _, _, hM, hF, Or.inl ⟨⟨c11, by simp_all⟩, rfl, rfl, by rw [iN_nI (by omega)]⟩⟩)
        · refine z_iconst (pc := 50) (0) (by decide) dX8_price_50 ?_
          rw [← hQx]
          refine z_zret (pc := 51) rfl rfl (by decide) dX8_price_51 (by
      refine ⟨_, rfl, _, _, hM, hF, Or.inr ⟨?_, rfl, rfl, rfl⟩⟩
      first | exact (fun h => c11 h.1) | exact (fun h => c47 (by have := h.2; simp_all)))
      · refine z_il1 (pc := 31) dX8_price_31 ?_
        refine z_iconst (pc := 32) (2) (by decide) dX8_price_32 ?_
        refine z_icmp_ne (pc := 33) 41 dX8_price_33 rfl (fun c33 => ?_) (fun c33 => ?_)
        · refine z_sipush (pc := 41) (200) (by decide) dX8_price_41 ?_
          refine z_callSr (pc := 44) (c_mIsIn l v0 0 200) kw_837 zc_X8_isIn (by decide) (by decide) rfl (Nat.le_of_ble_eq_true rfl) dX8_price_44 ?_
          refine z_ifz_ne (pc := 47) 52 dX8_price_47 rfl (fun c47 => ?_) (fun c47 => ?_)
          · refine z_al0 (pc := 52) dX8_price_52 ?_
            refine z_mg15 (pc := 53) hM rfl dX8_price_53 ?_
            refine z_il1 (pc := 56) dX8_price_56 ?_
            refine z_il2 (pc := 57) dX8_price_57 ?_
            obtain ⟨j, rfl, hj⟩ := ix_in c11.1 (show k0 < nI 5 by have := c11.2; rw [show nI 5 = (5 : Int32) from rfl]; simp only [i_lt, i_le, i_n4, i_n5] at *; omega) (by omega)
            refine z_mst (pc := 58) 15 5 hM rfl (by decide) rfl (by omega) dX8_price_58 (fun G1 hM1 hF1 => ?_)
            have hF := zF.trans hF hF1
            clear hF1
            replace hM := hM1
            clear hM1
            refine z_iconst (pc := 59) (1) (by decide) dX8_price_59 ?_
            rw [← hQx]
            refine z_zret (pc := 60) rfl rfl (by decide) dX8_price_60 (⟨_, rfl, _, _, hM, hF, Or.inl ⟨⟨c11, by simp_all⟩, rfl, rfl, by rw [iN_nI (by omega)]⟩⟩)
          · refine z_iconst (pc := 50) (0) (by decide) dX8_price_50 ?_
            rw [← hQx]
            refine z_zret (pc := 51) rfl rfl (by decide) dX8_price_51 (by
      refine ⟨_, rfl, _, _, hM, hF, Or.inr ⟨?_, rfl, rfl, rfl⟩⟩
      first | exact (fun h => c11 h.1) | exact (fun h => c47 (by have := h.2; simp_all)))
        · refine z_bipush (pc := 36) (20) (by decide) dX8_price_36 ?_
          refine z_goto (pc := 38) 44 dX8_price_38 rfl ?_
          refine z_callSr (pc := 44) (c_mIsIn l v0 0 20) kw_837 zc_X8_isIn (by decide) (by decide) rfl (Nat.le_of_ble_eq_true rfl) dX8_price_44 ?_
          refine z_ifz_ne (pc := 47) 52 dX8_price_47 rfl (fun c47 => ?_) (fun c47 => ?_)
          · refine z_al0 (pc := 52) dX8_price_52 ?_
            refine z_mg15 (pc := 53) hM rfl dX8_price_53 ?_
            refine z_il1 (pc := 56) dX8_price_56 ?_
            refine z_il2 (pc := 57) dX8_price_57 ?_
            obtain ⟨j, rfl, hj⟩ := ix_in c11.1 (show k0 < nI 5 by have := c11.2; rw [show nI 5 = (5 : Int32) from rfl]; simp only [i_lt, i_le, i_n4, i_n5] at *; omega) (by omega)
            refine z_mst (pc := 58) 15 5 hM rfl (by decide) rfl (by omega) dX8_price_58 (fun G1 hM1 hF1 => ?_)
            have hF := zF.trans hF hF1
            clear hF1
            replace hM := hM1
            clear hM1
            refine z_iconst (pc := 59) (1) (by decide) dX8_price_59 ?_
            rw [← hQx]
            refine z_zret (pc := 60) rfl rfl (by decide) dX8_price_60 (⟨_, rfl, _, _, hM, hF, Or.inl ⟨⟨c11, by simp_all⟩, rfl, rfl, by rw [iN_nI (by omega)]⟩⟩)
          · refine z_iconst (pc := 50) (0) (by decide) dX8_price_50 ?_
            rw [← hQx]
            refine z_zret (pc := 51) rfl rfl (by decide) dX8_price_51 (by
      refine ⟨_, rfl, _, _, hM, hF, Or.inr ⟨?_, rfl, rfl, rfl⟩⟩
      first | exact (fun h => c11 h.1) | exact (fun h => c47 (by have := h.2; simp_all)))
    · refine z_sipush (pc := 21) (10000) (by decide) dX8_price_21 ?_
      refine z_goto (pc := 24) 44 dX8_price_24 rfl ?_
      refine z_callSr (pc := 44) (c_mIsIn l v0 0 10000) kw_837 zc_X8_isIn (by decide) (by decide) rfl (Nat.le_of_ble_eq_true rfl) dX8_price_44 ?_
      refine z_ifz_ne (pc := 47) 52 dX8_price_47 rfl (fun c47 => ?_) (fun c47 => ?_)
      · refine z_al0 (pc := 52) dX8_price_52 ?_
        refine z_mg15 (pc := 53) hM rfl dX8_price_53 ?_
        refine z_il1 (pc := 56) dX8_price_56 ?_
        refine z_il2 (pc := 57) dX8_price_57 ?_
        obtain ⟨j, rfl, hj⟩ := ix_in c11.1 (show k0 < nI 5 by have := c11.2; rw [show nI 5 = (5 : Int32) from rfl]; simp only [i_lt, i_le, i_n4, i_n5] at *; omega) (by omega)
        refine z_mst (pc := 58) 15 5 hM rfl (by decide) rfl (by omega) dX8_price_58 (fun G1 hM1 hF1 => ?_)
        have hF := zF.trans hF hF1
        clear hF1
        replace hM := hM1
        clear hM1
        refine z_iconst (pc := 59) (1) (by decide) dX8_price_59 ?_
        rw [← hQx]
        refine z_zret (pc := 60) rfl rfl (by decide) dX8_price_60 (⟨_, rfl, _, _, hM, hF, Or.inl ⟨⟨c11, by simp_all⟩, rfl, rfl, by rw [iN_nI (by omega)]⟩⟩)
      · refine z_iconst (pc := 50) (0) (by decide) dX8_price_50 ?_
        rw [← hQx]
        refine z_zret (pc := 51) rfl rfl (by decide) dX8_price_51 (by
      refine ⟨_, rfl, _, _, hM, hF, Or.inr ⟨?_, rfl, rfl, rfl⟩⟩
      first | exact (fun h => c11 h.1) | exact (fun h => c47 (by have := h.2; simp_all)))
