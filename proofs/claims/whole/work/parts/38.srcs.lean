/-! source, changes, all, doubt as asked -/
theorem csM_2 (ar : Nat → Nat → Int32) (D : Nat → Int32) (a : Nat) (q : Int32) : ∀ k, (∀ b, (csM ar D a q k).1 = some b → (csM ar D a q k).2 = D b) ∧ ((csM ar D a q k).1 = none → (csM ar D a q k).2 = ar 15 4)
  | 0 => ⟨fun b h => (nomatch h), fun _ => rfl⟩
  | k + 1 => by
    have ih := csM_2 ar D a q k
    unfold csM
    split
    · generalize csM ar D a q k = x at ih
      obtain ⟨bo, f⟩ := x
      rcases bo with _ | b
      · simp only
        split
        · exact ⟨fun b h => by injection h with h; rw [h], fun h => nomatch h⟩
        · exact ih
      · simp only
        split
        · exact ⟨fun b h => by injection h with h; rw [h], fun h => nomatch h⟩
        · exact ih
    · exact ih
def nbR (o : Option Nat) : Int32 := match o with
  | none => -1
  | some b => nI b
theorem srcR_cs (ar : Nat → Nat → Int32) (D : Nat → Int32) (a : Nat) (q : Int32) (k : Nat) : srcR ar (srcM ar D a q k) = nbR (csM ar D a q k).1 ∧ chgR ar (srcM ar D a q k) = (csM ar D a q k).2 := by
  rw [csM_src]
  generalize srcM ar D a q k = x
  rcases x with _ | ⟨b, f⟩
  · exact ⟨rfl, rfl⟩
  · unfold srcB srcR chgR
    simp only
    split <;> exact ⟨rfl, rfl⟩
abbrev rX7_changesOf : Room := rmK 5 0 0 141
set_option maxRecDepth 100000 in
set_option maxHeartbeats 400000 in
theorem c_hChgOf (l : Launch) {κ : zK} {G : zH} {B : Nat → Nat → Nat} {n c d w : Nat} {ln kl ep : Nat → Nat} {fo nt : Int32} {ar : Nat → Nat → Int32} {rb : Nat → Int32} {kp kb : Nat → Nat → Int32} {iK sm ky : Nat → Int32} (a : Nat) (q : Int32) (D : Nat → Int32) (hR : RC κ G B n c d w ln fo nt ar rb kl ep kp kb iK sm ky) (hT : TD n c d w ln fo nt ar rb) (hK : KN ar n c ln kl ep kp kb) (hC : CH ar n kl kp kb iK sm ky) (hD : ∀ k, k < n → (KD ar kl kp kb a k).1 = D k) (ha : a < n) : Ct l yX7_changesOf cX7_changesOf 4 (some FieldType.int) rX7_changesOf κ [.ref (B 0 0), .ref (B 15 a), .int q] G (pI (fun r G2 => r = (csM ar D a q n).2 ∧ (∃ iK2 sm2 ky2, RC κ G2 B n c d w ln fo nt ar rb kl ep kp kb iK2 sm2 ky2 ∧ CH ar n kl kp kb iK2 sm2 ky2 ∧ zFP isLk G G2))) := by
  refine Ct.of (by decide +kernel) (fun v hv => by
    simp only [List.mem_cons, List.mem_nil_iff, or_false, List.not_mem_nil] at hv
    rcases hv with rfl | rfl | rfl <;> rfl) (Nat.le_of_ble_eq_true rfl) ?_
  intro p e s m args below meth cC
  refine z_L (L' := [some (.ref (B 0 0)), some (.ref (B 15 a)), some (.int q), none]) rfl ?_
  generalize hQx : MQ below (zQc κ _) args s _ _ (zA κ) = Qx
  have hn20 := hT.1
  obtain ⟨hO, hP, ⟨cols, key, f0, f1, f2, S, hA⟩, hLK, hl0, hl1, ⟨k2, es2, hl2⟩, hS, hCo, hPr⟩ := id hR
  rcases hb : (csM ar D a q n).1 with _ | b
  · refine z_al0 (pc := 0) dX7_changesOf_0 ?_
    refine z_al1 (pc := 1) dX7_changesOf_1 ?_
    refine z_il2 (pc := 2) dX7_changesOf_2 ?_
    refine z_callVa (pc := 3) _ (c_hSrcOf l a q D hR hT hK hC hD ha) rfl hO rfl rfl kw_580 zc_X7_sourceOf (by decide) rfl (Nat.le_of_ble_eq_true rfl) dX7_changesOf_3 (fun v G2 hv => ?_)
    obtain ⟨hv1, iK2, sm2, ky2, hR2, hC2, hF2⟩ := hv
    replace hv1 : v = none := by rw [hv1, hb]; rfl
    subst hv1
    obtain ⟨hO2, hP2_, hA2, hLK2, hl02, -, -, hS2, -, -⟩ := id hR2
    clear hO
    have hO := hO2
    obtain ⟨qp2, hP12, -⟩ := id hP2_
    refine z_as3N (pc := 6) dX7_changesOf_6 (by decide) ?_
    refine z_al3N (pc := 7) dX7_changesOf_7 ?_
    refine z_ifnonnullN (pc := 8) dX7_changesOf_8 ?_
    refine z_al0 (pc := 11) dX7_changesOf_11 ?_
    refine z_get (pc := 12) 0 hO rfl iw_X7 (by decide) kw_118 rfl dX7_changesOf_12 ?_
    refine z_callVr (pc := 15) (c_pAnew l hP2_) hP12 rfl rfl kw_584 zc_X4_anew (by decide) (by decide) rfl (Nat.le_of_ble_eq_true rfl) dX7_changesOf_15 ?_
    refine z_goto (pc := 18) 30 dX7_changesOf_18 rfl ?_
    rw [← hQx]
    refine z_iret (pc := 30) rfl (by decide) dX7_changesOf_30 (⟨_, rfl, ((csM_2 ar D a q n).2 hb).symm, iK2, sm2, ky2, hR2, hC2, hF2⟩)
  · skip
    have hbn : b < n := csM_lt ar D a q hb
    refine z_al0 (pc := 0) dX7_changesOf_0 ?_
    refine z_al1 (pc := 1) dX7_changesOf_1 ?_
    refine z_il2 (pc := 2) dX7_changesOf_2 ?_
    refine z_callVa (pc := 3) _ (c_hSrcOf l a q D hR hT hK hC hD ha) rfl hO rfl rfl kw_580 zc_X7_sourceOf (by decide) rfl (Nat.le_of_ble_eq_true rfl) dX7_changesOf_3 (fun v G2 hv => ?_)
    obtain ⟨hv1, iK2, sm2, ky2, hR2, hC2, hF2⟩ := hv
    replace hv1 : v = some (B 15 b) := by rw [hv1, hb]; rfl
    subst hv1
    obtain ⟨hO2, hP2_, hA2, hLK2, hl02, -, -, hS2, -, -⟩ := id hR2
    clear hO
    have hO := hO2
    obtain ⟨qp2, hP12, -⟩ := id hP2_
    have hsb2 := (hS2 b hbn).1
    refine z_as3 (pc := 6) dX7_changesOf_6 (by decide) ?_
    refine z_al3 (pc := 7) dX7_changesOf_7 ?_
    refine z_ifnonnullR (pc := 8) 21 dX7_changesOf_8 rfl ?_
    refine z_al0 (pc := 21) dX7_changesOf_21 ?_
    refine z_get (pc := 22) 2 hO rfl iw_X7 (by decide) kw_120 rfl dX7_changesOf_22 ?_
    refine z_al1 (pc := 25) dX7_changesOf_25 ?_
    refine z_al3 (pc := 26) dX7_changesOf_26 ?_
    refine z_callVi (pc := 27) _ (c_Apart l a b hR2 hT hK hC2 ha hbn) rfl hLK2.1 rfl rfl kw_461 zc_X2_apart (by decide) rfl (Nat.le_of_ble_eq_true rfl) dX7_changesOf_27 (fun v G4 hv => ?_)
    obtain ⟨hr, iK4, sm4, ky4, hR4, hC4, hF4⟩ := hv
    rw [hD b hbn] at hr
    rw [← hQx]
    refine z_iret (pc := 30) rfl (by decide) dX7_changesOf_30 (⟨_, rfl, hr.trans ((csM_2 ar D a q n).1 b hb).symm, iK4, sm4, ky4, hR4, hC4, hF2.trans hF4⟩)
abbrev rX7_source : Room := rmK 6 0 0 141
set_option maxRecDepth 100000 in
set_option maxHeartbeats 400000 in
theorem c_hSource (l : Launch) {κ : zK} {G : zH} {B : Nat → Nat → Nat} {n c d w : Nat} {ln kl ep : Nat → Nat} {fo nt : Int32} {ar : Nat → Nat → Int32} {rb : Nat → Int32} {kp kb : Nat → Nat → Int32} {iK sm ky : Nat → Int32} (a0 q : Int32) (D : Nat → Int32) (hR : RC κ G B n c d w ln fo nt ar rb kl ep kp kb iK sm ky) (hT : TD n c d w ln fo nt ar rb) (hK : KN ar n c ln kl ep kp kb) (hC : CH ar n kl kp kb iK sm ky) (hDD : ∀ k, k < n → sD ar c ln q (iN a0) k = D k) : Ct l yX7_source cX7_source 5 (some FieldType.int) rX7_source κ [.ref (B 0 0), .int a0, .int q] G (pI (fun r G2 => r = (if okA n w ar a0 q then srcR ar (srcM ar D (iN a0) q n) else -1) ∧ HQ κ G G2 B n c d w ln fo nt ar rb)) := by
  refine Ct.of (by decide +kernel) (fun v hv => by
    simp only [List.mem_cons, List.mem_nil_iff, or_false, List.not_mem_nil] at hv
    rcases hv with rfl | rfl | rfl <;> rfl) (Nat.le_of_ble_eq_true rfl) ?_
  intro p e s m args below meth cC
  refine z_L (L' := [some (.ref (B 0 0)), some (.int a0), some (.int q), none, none]) rfl ?_
  generalize hQx : MQ below (zQc κ _) args s _ _ (zA κ) = Qx
  have hn20 := hT.1
  obtain ⟨hO, hP, ⟨cols, key, f0, f1, f2, S, hA⟩, hLK, hl0, hl1, ⟨k2, es2, hl2⟩, hS, hCo, hPr⟩ := id hR
  by_cases hk : okA n w ar a0 q
  · skip
    have hla := iN_lt hk.1 (show n < 2 ^ 31 by omega)
    rcases hb : (csM ar D (iN a0) q n).1 with _ | b
    · refine z_al0 (pc := 0) dX7_source_0 ?_
      refine z_il1 (pc := 1) dX7_source_1 ?_
      refine z_il2 (pc := 2) dX7_source_2 ?_
      refine z_callVrq (pc := 3) (c_ftY l a0 q hR hn20 hk) hO rfl rfl kw_555 zc_X7_findTrue (by decide) (by decide) rfl (Nat.le_of_ble_eq_true rfl) dX7_source_3 ?_
      refine z_as3 (pc := 6) dX7_source_6 (by decide) ?_
      refine z_al3 (pc := 7) dX7_source_7 ?_
      refine z_ifnonnullR (pc := 8) 13 dX7_source_8 rfl ?_
      refine z_al0 (pc := 13) dX7_source_13 ?_
      refine z_il2 (pc := 14) dX7_source_14 ?_
      refine z_callVv (pc := 15) _ (c_hTurn l q hR hT hK hC) rfl hO rfl rfl kw_437 zc_X7_turnTo (by decide) rfl (Nat.le_of_ble_eq_true rfl) dX7_source_15 (fun G2 hv => ?_)
      obtain ⟨kl2, ep2, kp2, kb2, iK2, hR2, hK2, hC2, hq2, hF2⟩ := hv
      have hDa : ∀ k, k < n → (KD ar kl2 kp2 kb2 (iN a0) k).1 = D k := fun k hk => by
        rw [KDq hK2 hT hq2 hla hk]; exact hDD k hk
      obtain ⟨hO2, hP2, -, hLK2, -, -, -, hS2, -, -⟩ := id hR2
      clear hO
      have hO := hO2
      refine z_al0 (pc := 18) dX7_source_18 ?_
      refine z_al3 (pc := 19) dX7_source_19 ?_
      refine z_il2 (pc := 20) dX7_source_20 ?_
      refine z_callVa (pc := 21) _ (c_hSrcOf l (iN a0) q D hR2 hT hK2 hC2 hDa hla) rfl hO2 rfl rfl kw_580 zc_X7_sourceOf (by decide) rfl (Nat.le_of_ble_eq_true rfl) dX7_source_21 (fun v G4 hv => ?_)
      obtain ⟨hv1, iK4, sm4, ky4, hR4, hC4, hF4⟩ := hv
      replace hv1 : v = none := by rw [hv1, hb]; rfl
      subst hv1
      refine z_as4N (pc := 24) dX7_source_24 (by decide) ?_
      refine z_al4N (pc := 26) dX7_source_26 ?_
      refine z_ifnonnullN (pc := 28) dX7_source_28 ?_
      refine z_iconst (pc := 31) (-1) (by decide) dX7_source_31 ?_
      refine z_goto (pc := 32) 40 dX7_source_32 rfl ?_
      rw [← hQx]
      refine z_iret (pc := 40) rfl (by decide) dX7_source_40 (⟨_, rfl, ((if_pos hk).trans ((srcR_cs ar D (iN a0) q n).1.trans (by rw [hb]; rfl))).symm, kl2, ep2, kp2, kb2, iK4, sm4, ky4, hR4, hK2, hC4, (tn_2 hF2).trans (lk_2 hF4)⟩)
    · skip
      have hbn : b < n := csM_lt ar D (iN a0) q hb
      refine z_al0 (pc := 0) dX7_source_0 ?_
      refine z_il1 (pc := 1) dX7_source_1 ?_
      refine z_il2 (pc := 2) dX7_source_2 ?_
      refine z_callVrq (pc := 3) (c_ftY l a0 q hR hn20 hk) hO rfl rfl kw_555 zc_X7_findTrue (by decide) (by decide) rfl (Nat.le_of_ble_eq_true rfl) dX7_source_3 ?_
      refine z_as3 (pc := 6) dX7_source_6 (by decide) ?_
      refine z_al3 (pc := 7) dX7_source_7 ?_
      refine z_ifnonnullR (pc := 8) 13 dX7_source_8 rfl ?_
      refine z_al0 (pc := 13) dX7_source_13 ?_
      refine z_il2 (pc := 14) dX7_source_14 ?_
      refine z_callVv (pc := 15) _ (c_hTurn l q hR hT hK hC) rfl hO rfl rfl kw_437 zc_X7_turnTo (by decide) rfl (Nat.le_of_ble_eq_true rfl) dX7_source_15 (fun G2 hv => ?_)
      obtain ⟨kl2, ep2, kp2, kb2, iK2, hR2, hK2, hC2, hq2, hF2⟩ := hv
      have hDa : ∀ k, k < n → (KD ar kl2 kp2 kb2 (iN a0) k).1 = D k := fun k hk => by
        rw [KDq hK2 hT hq2 hla hk]; exact hDD k hk
      obtain ⟨hO2, hP2, -, hLK2, -, -, -, hS2, -, -⟩ := id hR2
      clear hO
      have hO := hO2
      refine z_al0 (pc := 18) dX7_source_18 ?_
      refine z_al3 (pc := 19) dX7_source_19 ?_
      refine z_il2 (pc := 20) dX7_source_20 ?_
      refine z_callVa (pc := 21) _ (c_hSrcOf l (iN a0) q D hR2 hT hK2 hC2 hDa hla) rfl hO2 rfl rfl kw_580 zc_X7_sourceOf (by decide) rfl (Nat.le_of_ble_eq_true rfl) dX7_source_21 (fun v G4 hv => ?_)
      obtain ⟨hv1, iK4, sm4, ky4, hR4, hC4, hF4⟩ := hv
      replace hv1 : v = some (B 15 b) := by rw [hv1, hb]; rfl
      subst hv1
      have hsb2 := (hR4.2.2.2.2.2.2.2.1 b hbn).1
      refine z_as4 (pc := 24) dX7_source_24 (by decide) ?_
      refine z_al4 (pc := 26) dX7_source_26 ?_
      refine z_ifnonnullR (pc := 28) 35 dX7_source_28 rfl ?_
      refine z_al4 (pc := 35) dX7_source_35 ?_
      refine z_get (pc := 37) 0 hsb2 rfl iw_X5 (by decide) kw_195 rfl dX7_source_37 ?_
      rw [← hQx]
      refine z_iret (pc := 40) rfl (by decide) dX7_source_40 (⟨_, rfl, ((if_pos hk).trans ((srcR_cs ar D (iN a0) q n).1.trans (by rw [hb]; rfl))).symm, kl2, ep2, kp2, kb2, iK4, sm4, ky4, hR4, hK2, hC4, (tn_2 hF2).trans (lk_2 hF4)⟩)
  · refine z_al0 (pc := 0) dX7_source_0 ?_
    refine z_il1 (pc := 1) dX7_source_1 ?_
    refine z_il2 (pc := 2) dX7_source_2 ?_
    refine z_callVrq (pc := 3) (c_ftN l a0 q hR hn20 hk) hO rfl rfl kw_555 zc_X7_findTrue (by decide) (by decide) rfl (Nat.le_of_ble_eq_true rfl) dX7_source_3 ?_
    refine z_as3N (pc := 6) dX7_source_6 (by decide) ?_
    refine z_al3N (pc := 7) dX7_source_7 ?_
    refine z_ifnonnullN (pc := 8) dX7_source_8 ?_
    refine z_iconst (pc := 11) (-1) (by decide) dX7_source_11 ?_
    rw [← hQx]
    refine z_iret (pc := 12) rfl (by decide) dX7_source_12 (⟨_, rfl, (if_neg hk).symm, HQ.rf hR hT hK hC⟩)
abbrev rX7_changes : Room := rmK 6 0 0 164
set_option maxRecDepth 100000 in
set_option maxHeartbeats 400000 in
theorem c_hChanges (l : Launch) {κ : zK} {G : zH} {B : Nat → Nat → Nat} {n c d w : Nat} {ln kl ep : Nat → Nat} {fo nt : Int32} {ar : Nat → Nat → Int32} {rb : Nat → Int32} {kp kb : Nat → Nat → Int32} {iK sm ky : Nat → Int32} (a0 q : Int32) (D : Nat → Int32) (hR : RC κ G B n c d w ln fo nt ar rb kl ep kp kb iK sm ky) (hT : TD n c d w ln fo nt ar rb) (hK : KN ar n c ln kl ep kp kb) (hC : CH ar n kl kp kb iK sm ky) (hDD : ∀ k, k < n → sD ar c ln q (iN a0) k = D k) : Ct l yX7_changes cX7_changes 4 (some FieldType.int) rX7_changes κ [.ref (B 0 0), .int a0, .int q] G (pI (fun r G2 => r = (if okA n w ar a0 q then chgR ar (srcM ar D (iN a0) q n) else -1) ∧ HQ κ G G2 B n c d w ln fo nt ar rb)) := by
  refine Ct.of (by decide +kernel) (fun v hv => by
    simp only [List.mem_cons, List.mem_nil_iff, or_false, List.not_mem_nil] at hv
    rcases hv with rfl | rfl | rfl <;> rfl) (Nat.le_of_ble_eq_true rfl) ?_
  intro p e s m args below meth cC
  refine z_L (L' := [some (.ref (B 0 0)), some (.int a0), some (.int q), none]) rfl ?_
  generalize hQx : MQ below (zQc κ _) args s _ _ (zA κ) = Qx
  have hn20 := hT.1
  obtain ⟨hO, hP, ⟨cols, key, f0, f1, f2, S, hA⟩, hLK, hl0, hl1, ⟨k2, es2, hl2⟩, hS, hCo, hPr⟩ := id hR
  by_cases hk : okA n w ar a0 q
  · skip
    have hla := iN_lt hk.1 (show n < 2 ^ 31 by omega)
    refine z_al0 (pc := 0) dX7_changes_0 ?_
    refine z_il1 (pc := 1) dX7_changes_1 ?_
    refine z_il2 (pc := 2) dX7_changes_2 ?_
    refine z_callVrq (pc := 3) (c_ftY l a0 q hR hn20 hk) hO rfl rfl kw_555 zc_X7_findTrue (by decide) (by decide) rfl (Nat.le_of_ble_eq_true rfl) dX7_changes_3 ?_
    refine z_as3 (pc := 6) dX7_changes_6 (by decide) ?_
    refine z_al3 (pc := 7) dX7_changes_7 ?_
    refine z_ifnonnullR (pc := 8) 13 dX7_changes_8 rfl ?_
    refine z_al0 (pc := 13) dX7_changes_13 ?_
    refine z_il2 (pc := 14) dX7_changes_14 ?_
    refine z_callVv (pc := 15) _ (c_hTurn l q hR hT hK hC) rfl hO rfl rfl kw_437 zc_X7_turnTo (by decide) rfl (Nat.le_of_ble_eq_true rfl) dX7_changes_15 (fun G2 hv => ?_)
    obtain ⟨kl2, ep2, kp2, kb2, iK2, hR2, hK2, hC2, hq2, hF2⟩ := hv
    have hDa : ∀ k, k < n → (KD ar kl2 kp2 kb2 (iN a0) k).1 = D k := fun k hk => by
      rw [KDq hK2 hT hq2 hla hk]; exact hDD k hk
    obtain ⟨hO2, hP2, -, hLK2, -, -, -, hS2, -, -⟩ := id hR2
    clear hO
    have hO := hO2
    refine z_al0 (pc := 18) dX7_changes_18 ?_
    refine z_al3 (pc := 19) dX7_changes_19 ?_
    refine z_il2 (pc := 20) dX7_changes_20 ?_
    refine z_callVi (pc := 21) _ (c_hChgOf l (iN a0) q D hR2 hT hK2 hC2 hDa hla) rfl hO2 rfl rfl kw_596 zc_X7_changesOf (by decide) rfl (Nat.le_of_ble_eq_true rfl) dX7_changes_21 (fun v G4 hv => ?_)
    obtain ⟨hr, iK4, sm4, ky4, hR4, hC4, hF4⟩ := hv
    rw [← hQx]
    refine z_iret (pc := 24) rfl (by decide) dX7_changes_24 (⟨_, rfl, hr.trans ((if_pos hk).trans (srcR_cs ar D (iN a0) q n).2).symm, kl2, ep2, kp2, kb2, iK4, sm4, ky4, hR4, hK2, hC4, (tn_2 hF2).trans (lk_2 hF4)⟩)
  · refine z_al0 (pc := 0) dX7_changes_0 ?_
    refine z_il1 (pc := 1) dX7_changes_1 ?_
    refine z_il2 (pc := 2) dX7_changes_2 ?_
    refine z_callVrq (pc := 3) (c_ftN l a0 q hR hn20 hk) hO rfl rfl kw_555 zc_X7_findTrue (by decide) (by decide) rfl (Nat.le_of_ble_eq_true rfl) dX7_changes_3 ?_
    refine z_as3N (pc := 6) dX7_changes_6 (by decide) ?_
    refine z_al3N (pc := 7) dX7_changes_7 ?_
    refine z_ifnonnullN (pc := 8) dX7_changes_8 ?_
    refine z_iconst (pc := 11) (-1) (by decide) dX7_changes_11 ?_
    rw [← hQx]
    refine z_iret (pc := 12) rfl (by decide) dX7_changes_12 (⟨_, rfl, (if_neg hk).symm, HQ.rf hR hT hK hC⟩)
abbrev rX7_all : Room := rmK 6 0 0 164
def cAll (ar : Nat → Nat → Int32) (D : Nat → Nat → Int32) (n : Nat) (q : Int32) : Nat → Int32
  | 0 => 0
  | k + 1 => cAll ar D n q k + (if frg ar k q then 0 else (csM ar (D k) k q n).2)
set_option maxRecDepth 100000 in
set_option maxHeartbeats 400000 in
theorem c_hAll (l : Launch) {κ : zK} {G : zH} {B : Nat → Nat → Nat} {n c d w : Nat} {ln kl ep : Nat → Nat} {fo nt : Int32} {ar : Nat → Nat → Int32} {rb : Nat → Int32} {kp kb : Nat → Nat → Int32} {iK sm ky : Nat → Int32} (q : Int32) (D : Nat → Nat → Int32) (hR : RC κ G B n c d w ln fo nt ar rb kl ep kp kb iK sm ky) (hT : TD n c d w ln fo nt ar rb) (hK : KN ar n c ln kl ep kp kb) (hC : CH ar n kl kp kb iK sm ky) (hDD : ∀ a b, a < n → b < n → sD ar c ln q a b = D a b) : Ct l yX7_all cX7_all 5 (some FieldType.int) rX7_all κ [.ref (B 0 0), .int q] G (pI (fun r G2 => r = (if 0 ≤ q ∧ q ≤ nI w then cAll ar D n q n else -1) ∧ HQ κ G G2 B n c d w ln fo nt ar rb)) := by
  refine Ct.of (by decide +kernel) (fun v hv => by
    simp only [List.mem_cons, List.mem_nil_iff, or_false, List.not_mem_nil] at hv
    rcases hv with rfl | rfl <;> rfl) (Nat.le_of_ble_eq_true rfl) ?_
  intro p e s m args below meth cC
  refine z_L (L' := [some (.ref (B 0 0)), some (.int q), none, none, none]) rfl ?_
  generalize hQx : MQ below (zQc κ _) args s _ _ (zA κ) = Qx
  have hn20 := hT.1
  obtain ⟨hO, hP, ⟨cols, key, f0, f1, f2, S, hA⟩, hLK, hl0, hl1, ⟨k2, es2, hl2⟩, hS, hCo, hPr⟩ := id hR
  by_cases hqd : 0 ≤ q ∧ q ≤ nI w
  · skip
    refine z_al0 (pc := 0) dX7_all_0 ?_
    refine z_il1 (pc := 1) dX7_all_1 ?_
    refine z_callVr (pc := 2) (c_isDay l q hR) hO rfl rfl kw_433 zc_X7_isDay (by decide) (by decide) rfl (Nat.le_of_ble_eq_true rfl) dX7_all_2 ?_
    refine z_ifz_ne (pc := 5) 10 dX7_all_5 rfl (fun c5 => ?_) (fun c5 => absurd (hqd) c5)
    refine z_al0 (pc := 10) dX7_all_10 ?_
    refine z_il1 (pc := 11) dX7_all_11 ?_
    refine z_callVv (pc := 12) _ (c_hTurn l q hR hT hK hC) rfl hO rfl rfl kw_437 zc_X7_turnTo (by decide) rfl (Nat.le_of_ble_eq_true rfl) dX7_all_12 (fun G2 hv => ?_)
    obtain ⟨kl2, ep2, kp2, kb2, iK2, hR2, hK2, hC2, hq2, hF2⟩ := hv
    have lp : ∀ (fu k : Nat) (G3 : zH) (iK3 sm3 ky3 : Nat → Int32) (q4 : Option Value), k + fu = n → RC κ G3 B n c d w ln fo nt ar rb kl2 ep2 kp2 kb2 iK3 sm3 ky3 → CH ar n kl2 kp2 kb2 iK3 sm3 ky3 → zFP isLk G2 G3 → Z p l e rX7_all s m args below meth cC yX7_all cX7_all 5 (some FieldType.int) κ Qx 0 0 G3 [some (.ref (B 0 0)), some (.int q), some (.int (cAll ar D n q k)), some (.int (nI k)), q4] 19 [] := by
      intro fu
      induction fu with
      | zero =>
        intro k G3 iK3 sm3 ky3 q4 hkk hR3 hC3 hF3
        obtain ⟨hO, hP, hA, hLK, hl0, -, -, hS, hCo, hPr⟩ := id hR3
        obtain ⟨mc0, ea0, hm0, -⟩ := id hl0
        refine z_il3 (pc := 19) dX7_all_19 ?_
        refine z_al0 (pc := 20) dX7_all_20 ?_
        refine z_get (pc := 21) 3 hO rfl iw_X7 (by decide) kw_121 rfl dX7_all_21 ?_
        refine z_callVr (pc := 24) (c_jSize l 0 (B 13 0) 29 n hl0) hm0 rfl rfl kw_153 zc_Jx4a65c_size_8abf5 (by decide) (by decide) rfl (Nat.le_of_ble_eq_true rfl) dX7_all_24 ?_
        refine z_icmp_ge (pc := 27) 72 dX7_all_27 rfl (fun c27 => ?_) (fun c27 => absurd (by rw [nI_leI (by omega) (by omega)]; omega) c27)
        refine z_il2 (pc := 72) dX7_all_72 ?_
        rw [← hQx]
        refine z_iret (pc := 73) rfl (by decide) dX7_all_73 (⟨_, rfl, (by rw [show n = k by omega]; exact (if_pos hqd).symm), kl2, ep2, kp2, kb2, iK3, sm3, ky3, hR3, hK2, hC3, (tn_2 hF2).trans (lk_2 hF3)⟩)
      | succ fu ih =>
        intro k G3 iK3 sm3 ky3 q4 hkk hR3 hC3 hF3
        obtain ⟨hO, hP, hA, hLK, hl0, -, -, hS, hCo, hPr⟩ := id hR3
        obtain ⟨mc0, ea0, hm0, -⟩ := id hl0
        have hkn : k < n := by omega
        refine z_il3 (pc := 19) dX7_all_19 ?_
        refine z_al0 (pc := 20) dX7_all_20 ?_
        refine z_get (pc := 21) 3 hO rfl iw_X7 (by decide) kw_121 rfl dX7_all_21 ?_
        refine z_callVr (pc := 24) (c_jSize l 0 (B 13 0) 29 n hl0) hm0 rfl rfl kw_153 zc_Jx4a65c_size_8abf5 (by decide) (by decide) rfl (Nat.le_of_ble_eq_true rfl) dX7_all_24 ?_
        refine z_icmp_ge (pc := 27) 72 dX7_all_27 rfl (fun c27 => absurd c27 (by rw [nI_leI (by omega) (by omega)]; omega)) (fun c27 => ?_)
        refine z_al0 (pc := 30) dX7_all_30 ?_
        refine z_get (pc := 31) 3 hO rfl iw_X7 (by decide) kw_121 rfl dX7_all_31 ?_
        refine z_il3 (pc := 34) dX7_all_34 ?_
        skip
        refine z_callVrq (pc := 35) (c_jGet l 0 (B 13 0) 29 n k hl0 hkn (by omega)) hm0 rfl rfl kw_295 zc_Jx4a65c_get_915e3 (by decide) (by decide) rfl (Nat.le_of_ble_eq_true rfl) dX7_all_35 ?_
        refine z_castS (pc := 38) (hS k hkn).1 rfl kw_166 dX7_all_38 ?_
        refine z_as4 (pc := 41) dX7_all_41 (by decide) ?_
        refine z_il2 (pc := 43) dX7_all_43 ?_
        refine z_al4 (pc := 44) dX7_all_44 ?_
        refine z_il1 (pc := 46) dX7_all_46 ?_
        refine z_callVr (pc := 47) (c_sForged l k q (hS k hkn).1) (hS k hkn).1 rfl rfl kw_377 zc_X5_isForgedBy (by decide) (by decide) rfl (Nat.le_of_ble_eq_true rfl) dX7_all_47 ?_
        refine z_ifz_eq (pc := 50) 57 dX7_all_50 rfl (fun c50 => ?_) (fun c50 => ?_)
        · refine z_al0 (pc := 57) dX7_all_57 ?_
          refine z_al4 (pc := 58) dX7_all_58 ?_
          refine z_il1 (pc := 60) dX7_all_60 ?_
          refine z_callVi (pc := 61) _ (c_hChgOf l k q (D k) hR3 hT hK2 hC3 (fun b hb => by rw [KDq hK2 hT hq2 hkn hb]; exact hDD k b hkn hb) hkn) rfl hO rfl rfl kw_596 zc_X7_changesOf (by decide) rfl (Nat.le_of_ble_eq_true rfl) dX7_all_61 (fun v G4 hv => ?_)
          obtain ⟨hr, iK4, sm4, ky4, hR4, hC4, hF4⟩ := hv
          refine z_iadd (pc := 64) dX7_all_64 ?_
          refine z_is2 (pc := 65) dX7_all_65 (by decide) ?_
          refine z_ii3 (pc := 66) (nI (k + 1)) dX7_all_66 (nI_1 _) (by decide) ?_
          refine z_goto (pc := 69) 19 dX7_all_69 rfl ?_
          refine z_L (L' := [some (.ref (B 0 0)), some (.int q), some (.int (cAll ar D n q (k + 1))), some (.int (nI (k + 1))), _]) (by rw [show cAll ar D n q (k + 1) = cAll ar D n q k + v from congrArg (cAll ar D n q k + ·) ((if_neg c50).trans hr.symm)]) ?_
          exact ih (k + 1) G4 iK4 sm4 ky4 _ (by omega) hR4 hC4 (hF3.trans hF4)
        · refine z_iconst (pc := 53) (0) (by decide) dX7_all_53 ?_
          refine z_goto (pc := 54) 64 dX7_all_54 rfl ?_
          refine z_iadd (pc := 64) dX7_all_64 ?_
          refine z_is2 (pc := 65) dX7_all_65 (by decide) ?_
          refine z_ii3 (pc := 66) (nI (k + 1)) dX7_all_66 (nI_1 _) (by decide) ?_
          refine z_goto (pc := 69) 19 dX7_all_69 rfl ?_
          refine z_L (L' := [some (.ref (B 0 0)), some (.int q), some (.int (cAll ar D n q (k + 1))), some (.int (nI (k + 1))), _]) (by rw [show cAll ar D n q (k + 1) = cAll ar D n q k + 0 from congrArg (cAll ar D n q k + ·) (if_pos c50)]) ?_
          exact ih (k + 1) G3 iK3 sm3 ky3 _ (by omega) hR3 hC3 hF3
    refine z_iconst (pc := 15) (0) (by decide) dX7_all_15 ?_
    refine z_is2 (pc := 16) dX7_all_16 (by decide) ?_
    refine z_iconst (pc := 17) (0) (by decide) dX7_all_17 ?_
    refine z_is3 (pc := 18) dX7_all_18 (by decide) ?_
    refine z_L (L' := [some (.ref (B 0 0)), some (.int q), some (.int (cAll ar D n q 0)), some (.int (nI 0)), none]) rfl ?_
    exact lp n 0 G2 iK2 sm ky _ (by omega) hR2 hC2 zFP.rf
  · refine z_al0 (pc := 0) dX7_all_0 ?_
    refine z_il1 (pc := 1) dX7_all_1 ?_
    refine z_callVr (pc := 2) (c_isDay l q hR) hO rfl rfl kw_433 zc_X7_isDay (by decide) (by decide) rfl (Nat.le_of_ble_eq_true rfl) dX7_all_2 ?_
    refine z_ifz_ne (pc := 5) 10 dX7_all_5 rfl (fun c5 => absurd c5 (hqd)) (fun c5 => ?_)
    refine z_iconst (pc := 8) (-1) (by decide) dX7_all_8 ?_
    rw [← hQx]
    refine z_iret (pc := 9) rfl (by decide) dX7_all_9 (⟨_, rfl, (if_neg hqd).symm, HQ.rf hR hT hK hC⟩)
