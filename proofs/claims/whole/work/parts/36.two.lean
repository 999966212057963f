/-! distance, key, column, as asked -/
def HQ (κ : zK) (G G2 : zH) (B : Nat → Nat → Nat) (n c d w : Nat) (ln : Nat → Nat) (fo nt : Int32) (ar : Nat → Nat → Int32) (rb : Nat → Int32) : Prop := ∃ (kl2 ep2 : Nat → Nat) (kp2 kb2 : Nat → Nat → Int32) (iK2 sm2 ky2 : Nat → Int32), RC κ G2 B n c d w ln fo nt ar rb kl2 ep2 kp2 kb2 iK2 sm2 ky2 ∧ KN ar n c ln kl2 ep2 kp2 kb2 ∧ CH ar n kl2 kp2 kb2 iK2 sm2 ky2 ∧ zFP is2 G G2
theorem KDq {n c d w : Nat} {ln kl ep : Nat → Nat} {fo nt : Int32} {ar : Nat → Nat → Int32} {rb : Nat → Int32} {kp kb : Nat → Nat → Int32} (hK : KN ar n c ln kl ep kp kb) (hT : TD n c d w ln fo nt ar rb) {q : Int32} (hq : ∀ i, i < n → kl i = ln i ∧ ep i = Eq' ar q c) {a b : Nat} (ha : a < n) (hb : b < n) : KD ar kl kp kb a b = sTL ar c ln q a b 0 := by
  unfold KD sTL
  congr 1
  funext N
  unfold dK
  have na := hT.2.2.2.2.1 a ha
  have nb := hT.2.2.2.2.1 b hb
  rw [(hq a ha).1, (hq b hb).1]
  have e : ∀ i, i < n → ∀ g, g < ln i → kp i g = kn ar i g q false c ∧ kb i g = kn ar i g q true c := fun i hi g hg => by
    obtain ⟨h1, h2, h3⟩ := hK i hi
    rw [kn_ks hT.2.2.2.2.2.1, kn_ks hT.2.2.2.2.2.1, ← (hq i hi).2]
    exact h3 g (by rw [(hq i hi).1]; exact hg)
  exact dp_congr rfl (e a ha) (e b hb) _ _ (Nat.le_refl _) (Nat.le_refl _)
theorem kp_kn {n c d w : Nat} {ln kl ep : Nat → Nat} {fo nt : Int32} {ar : Nat → Nat → Int32} {rb : Nat → Int32} {kp kb : Nat → Nat → Int32} (hK : KN ar n c ln kl ep kp kb) (hT : TD n c d w ln fo nt ar rb) {q : Int32} (hq : ∀ i, i < n → kl i = ln i ∧ ep i = Eq' ar q c) {i g : Nat} (hi : i < n) (hg : g < ln i) : kp i g = kn ar i g q false c ∧ kb i g = kn ar i g q true c := by
  obtain ⟨h1, h2, h3⟩ := hK i hi
  rw [kn_ks hT.2.2.2.2.2.1, kn_ks hT.2.2.2.2.2.1, ← (hq i hi).2]
  exact h3 g (by rw [(hq i hi).1]; exact hg)
theorem HQ.rf {κ : zK} {G : zH} {B : Nat → Nat → Nat} {n c d w : Nat} {ln kl ep : Nat → Nat} {fo nt : Int32} {ar : Nat → Nat → Int32} {rb : Nat → Int32} {kp kb : Nat → Nat → Int32} {iK sm ky : Nat → Int32} (hR : RC κ G B n c d w ln fo nt ar rb kl ep kp kb iK sm ky) (hT : TD n c d w ln fo nt ar rb) (hK : KN ar n c ln kl ep kp kb) (hC : CH ar n kl kp kb iK sm ky) : HQ κ G G B n c d w ln fo nt ar rb := ⟨kl, ep, kp, kb, iK, sm, ky, hR, hK, hC, zFP.rf⟩
theorem lk_2 {G G2 : zH} (h : zFP isLk G G2) : zFP is2 G G2 := h.mono (fun r q => q.1)
theorem tn_2 {G G2 : zH} (h : zFP isTn G G2) : zFP is2 G G2 := h.mono (fun r q => q.1)
abbrev rX7_distance : Room := rmK 6 0 0 133
set_option maxRecDepth 100000 in
set_option maxHeartbeats 400000 in
theorem c_hDist (l : Launch) {κ : zK} {G : zH} {B : Nat → Nat → Nat} {n c d w : Nat} {ln kl ep : Nat → Nat} {fo nt : Int32} {ar : Nat → Nat → Int32} {rb : Nat → Int32} {kp kb : Nat → Nat → Int32} {iK sm ky : Nat → Int32} (a0 b0 q : Int32) (hR : RC κ G B n c d w ln fo nt ar rb kl ep kp kb iK sm ky) (hT : TD n c d w ln fo nt ar rb) (hK : KN ar n c ln kl ep kp kb) (hC : CH ar n kl kp kb iK sm ky) : Ct l yX7_distance cX7_distance 6 (some FieldType.int) rX7_distance κ [.ref (B 0 0), .int a0, .int b0, .int q] G (pI (fun r G2 => r = (if ok2 n w a0 b0 q then sD ar c ln q (iN a0) (iN b0) else -1) ∧ HQ κ G G2 B n c d w ln fo nt ar rb)) := by
  refine Ct.of (by decide +kernel) (fun v hv => by
    simp only [List.mem_cons, List.mem_nil_iff, or_false, List.not_mem_nil] at hv
    rcases hv with rfl | rfl | rfl | rfl <;> rfl) (Nat.le_of_ble_eq_true rfl) ?_
  intro p e s m args below meth cC
  refine z_L (L' := [some (.ref (B 0 0)), some (.int a0), some (.int b0), some (.int q), none, none]) rfl ?_
  generalize hQx : MQ below (zQc κ _) args s _ _ (zA κ) = Qx
  obtain ⟨hO, hP, ⟨cols, key, f0, f1, f2, S, hA⟩, hLK, hl0, hl1, ⟨k2, es2, hl2⟩, hS, hCo, hPr⟩ := id hR
  have hn : n ≤ 20 := hT.1
  by_cases ha : okS n a0
  · have hla := iN_lt ha (show n < 2 ^ 31 by have := hT.1; omega)
    have hsa := (hS _ hla).1
    by_cases hb : okS n b0
    · have hlb := iN_lt hb (show n < 2 ^ 31 by have := hT.1; omega)
      have hsb := (hS _ hlb).1
      by_cases hq : 0 ≤ q ∧ q ≤ nI w
      · refine z_al0 (pc := 0) dX7_distance_0 ?_
        refine z_il1 (pc := 1) dX7_distance_1 ?_
        refine z_callVrq (pc := 2) (c_findY l a0 hR hn ha) hO rfl rfl kw_291 zc_X7_find (by decide) (by decide) rfl (Nat.le_of_ble_eq_true rfl) dX7_distance_2 ?_
        refine z_as4 (pc := 5) dX7_distance_5 (by decide) ?_
        refine z_al0 (pc := 7) dX7_distance_7 ?_
        refine z_il2 (pc := 8) dX7_distance_8 ?_
        refine z_callVrq (pc := 9) (c_findY l b0 hR hn hb) hO rfl rfl kw_291 zc_X7_find (by decide) (by decide) rfl (Nat.le_of_ble_eq_true rfl) dX7_distance_9 ?_
        refine z_as5 (pc := 12) dX7_distance_12 (by decide) ?_
        refine z_al4 (pc := 14) dX7_distance_14 ?_
        refine z_ifnullR (pc := 16) dX7_distance_16 ?_
        refine z_al5 (pc := 19) dX7_distance_19 ?_
        refine z_ifnullR (pc := 21) dX7_distance_21 ?_
        refine z_al0 (pc := 24) dX7_distance_24 ?_
        refine z_il3 (pc := 25) dX7_distance_25 ?_
        refine z_callVr (pc := 26) (c_isDay l q hR) hO rfl rfl kw_433 zc_X7_isDay (by decide) (by decide) rfl (Nat.le_of_ble_eq_true rfl) dX7_distance_26 ?_
        refine z_ifz_ne (pc := 29) 34 dX7_distance_29 rfl (fun c29 => ?_) (fun c29 => absurd (hq) c29)
        refine z_al0 (pc := 34) dX7_distance_34 ?_
        refine z_il3 (pc := 35) dX7_distance_35 ?_
        refine z_callVv (pc := 36) _ (c_hTurn l q hR hT hK hC) rfl hO rfl rfl kw_437 zc_X7_turnTo (by decide) rfl (Nat.le_of_ble_eq_true rfl) dX7_distance_36 (fun G2 hv => ?_)
        obtain ⟨kl2, ep2, kp2, kb2, iK2, hR2, hK2, hC2, hq2, hF2⟩ := hv
        obtain ⟨hO2, hP2, ⟨cols2, key2, g0, g1, g2, S2, hA2⟩, hLK2, -, -, -, hS2, -, -⟩ := id hR2
        obtain ⟨sa, o1, o2, o3, rw_, hG, -⟩ := id hA2
        have hDq := KDq hK2 hT hq2 hla hlb
        clear hO
        have hO := hO2
        refine z_al0 (pc := 39) dX7_distance_39 ?_
        refine z_get (pc := 40) 2 hO rfl iw_X7 (by decide) kw_120 rfl dX7_distance_40 ?_
        refine z_al4 (pc := 43) dX7_distance_43 ?_
        refine z_al5 (pc := 45) dX7_distance_45 ?_
        refine z_callVi (pc := 47) _ (c_Apart l (iN a0) (iN b0) hR2 hT hK2 hC2 hla hlb) rfl hLK2.1 rfl rfl kw_461 zc_X2_apart (by decide) rfl (Nat.le_of_ble_eq_true rfl) dX7_distance_47 (fun v G4 hv => ?_)
        obtain ⟨hr, iK4, sm4, ky4, hR4, hC4, hF4⟩ := hv
        rw [hDq] at hr
        rw [← hQx]
        refine z_iret (pc := 50) rfl (by decide) dX7_distance_50 (⟨_, rfl, hr.trans (if_pos ⟨ha, hb, hq⟩).symm, kl2, ep2, kp2, kb2, iK4, sm4, ky4, hR4, hK2, hC4, (tn_2 hF2).trans (lk_2 hF4)⟩)
      · refine z_al0 (pc := 0) dX7_distance_0 ?_
        refine z_il1 (pc := 1) dX7_distance_1 ?_
        refine z_callVrq (pc := 2) (c_findY l a0 hR hn ha) hO rfl rfl kw_291 zc_X7_find (by decide) (by decide) rfl (Nat.le_of_ble_eq_true rfl) dX7_distance_2 ?_
        refine z_as4 (pc := 5) dX7_distance_5 (by decide) ?_
        refine z_al0 (pc := 7) dX7_distance_7 ?_
        refine z_il2 (pc := 8) dX7_distance_8 ?_
        refine z_callVrq (pc := 9) (c_findY l b0 hR hn hb) hO rfl rfl kw_291 zc_X7_find (by decide) (by decide) rfl (Nat.le_of_ble_eq_true rfl) dX7_distance_9 ?_
        refine z_as5 (pc := 12) dX7_distance_12 (by decide) ?_
        refine z_al4 (pc := 14) dX7_distance_14 ?_
        refine z_ifnullR (pc := 16) dX7_distance_16 ?_
        refine z_al5 (pc := 19) dX7_distance_19 ?_
        refine z_ifnullR (pc := 21) dX7_distance_21 ?_
        refine z_al0 (pc := 24) dX7_distance_24 ?_
        refine z_il3 (pc := 25) dX7_distance_25 ?_
        refine z_callVr (pc := 26) (c_isDay l q hR) hO rfl rfl kw_433 zc_X7_isDay (by decide) (by decide) rfl (Nat.le_of_ble_eq_true rfl) dX7_distance_26 ?_
        refine z_ifz_ne (pc := 29) 34 dX7_distance_29 rfl (fun c29 => absurd c29 (hq)) (fun c29 => ?_)
        refine z_iconst (pc := 32) (-1) (by decide) dX7_distance_32 ?_
        rw [← hQx]
        refine z_iret (pc := 33) rfl (by decide) dX7_distance_33 (⟨_, rfl, (if_neg (fun h => hq h.2.2)).symm, HQ.rf hR hT hK hC⟩)
    · refine z_al0 (pc := 0) dX7_distance_0 ?_
      refine z_il1 (pc := 1) dX7_distance_1 ?_
      refine z_callVrq (pc := 2) (c_findY l a0 hR hn ha) hO rfl rfl kw_291 zc_X7_find (by decide) (by decide) rfl (Nat.le_of_ble_eq_true rfl) dX7_distance_2 ?_
      refine z_as4 (pc := 5) dX7_distance_5 (by decide) ?_
      refine z_al0 (pc := 7) dX7_distance_7 ?_
      refine z_il2 (pc := 8) dX7_distance_8 ?_
      refine z_callVrq (pc := 9) (c_findN l b0 hR hb) hO rfl rfl kw_291 zc_X7_find (by decide) (by decide) rfl (Nat.le_of_ble_eq_true rfl) dX7_distance_9 ?_
      refine z_as5N (pc := 12) dX7_distance_12 (by decide) ?_
      refine z_al4 (pc := 14) dX7_distance_14 ?_
      refine z_ifnullR (pc := 16) dX7_distance_16 ?_
      refine z_al5N (pc := 19) dX7_distance_19 ?_
      refine z_ifnullN (pc := 21) 32 dX7_distance_21 rfl ?_
      refine z_iconst (pc := 32) (-1) (by decide) dX7_distance_32 ?_
      rw [← hQx]
      refine z_iret (pc := 33) rfl (by decide) dX7_distance_33 (⟨_, rfl, (if_neg (fun h => hb h.2.1)).symm, HQ.rf hR hT hK hC⟩)
  · by_cases hb : okS n b0
    · have hlb := iN_lt hb (show n < 2 ^ 31 by have := hT.1; omega)
      have hsb := (hS _ hlb).1
      refine z_al0 (pc := 0) dX7_distance_0 ?_
      refine z_il1 (pc := 1) dX7_distance_1 ?_
      refine z_callVrq (pc := 2) (c_findN l a0 hR ha) hO rfl rfl kw_291 zc_X7_find (by decide) (by decide) rfl (Nat.le_of_ble_eq_true rfl) dX7_distance_2 ?_
      refine z_as4N (pc := 5) dX7_distance_5 (by decide) ?_
      refine z_al0 (pc := 7) dX7_distance_7 ?_
      refine z_il2 (pc := 8) dX7_distance_8 ?_
      refine z_callVrq (pc := 9) (c_findY l b0 hR hn hb) hO rfl rfl kw_291 zc_X7_find (by decide) (by decide) rfl (Nat.le_of_ble_eq_true rfl) dX7_distance_9 ?_
      refine z_as5 (pc := 12) dX7_distance_12 (by decide) ?_
      refine z_al4N (pc := 14) dX7_distance_14 ?_
      refine z_ifnullN (pc := 16) 32 dX7_distance_16 rfl ?_
      refine z_iconst (pc := 32) (-1) (by decide) dX7_distance_32 ?_
      rw [← hQx]
      refine z_iret (pc := 33) rfl (by decide) dX7_distance_33 (⟨_, rfl, (if_neg (fun h => ha h.1)).symm, HQ.rf hR hT hK hC⟩)
    · refine z_al0 (pc := 0) dX7_distance_0 ?_
      refine z_il1 (pc := 1) dX7_distance_1 ?_
      refine z_callVrq (pc := 2) (c_findN l a0 hR ha) hO rfl rfl kw_291 zc_X7_find (by decide) (by decide) rfl (Nat.le_of_ble_eq_true rfl) dX7_distance_2 ?_
      refine z_as4N (pc := 5) dX7_distance_5 (by decide) ?_
      refine z_al0 (pc := 7) dX7_distance_7 ?_
      refine z_il2 (pc := 8) dX7_distance_8 ?_
      refine z_callVrq (pc := 9) (c_findN l b0 hR hb) hO rfl rfl kw_291 zc_X7_find (by decide) (by decide) rfl (Nat.le_of_ble_eq_true rfl) dX7_distance_9 ?_
      refine z_as5N (pc := 12) dX7_distance_12 (by decide) ?_
      refine z_al4N (pc := 14) dX7_distance_14 ?_
      refine z_ifnullN (pc := 16) 32 dX7_distance_16 rfl ?_
      refine z_iconst (pc := 32) (-1) (by decide) dX7_distance_32 ?_
      rw [← hQx]
      refine z_iret (pc := 33) rfl (by decide) dX7_distance_33 (⟨_, rfl, (if_neg (fun h => ha h.1)).symm, HQ.rf hR hT hK hC⟩)
abbrev rX7_key : Room := rmK 6 0 0 133
set_option maxRecDepth 100000 in
set_option maxHeartbeats 400000 in
theorem c_hKey (l : Launch) {κ : zK} {G : zH} {B : Nat → Nat → Nat} {n c d w : Nat} {ln kl ep : Nat → Nat} {fo nt : Int32} {ar : Nat → Nat → Int32} {rb : Nat → Int32} {kp kb : Nat → Nat → Int32} {iK sm ky : Nat → Int32} (a0 b0 q : Int32) (hR : RC κ G B n c d w ln fo nt ar rb kl ep kp kb iK sm ky) (hT : TD n c d w ln fo nt ar rb) (hK : KN ar n c ln kl ep kp kb) (hC : CH ar n kl kp kb iK sm ky) : Ct l yX7_key cX7_key 6 (some FieldType.int) rX7_key κ [.ref (B 0 0), .int a0, .int b0, .int q] G (pI (fun r G2 => r = (if ok2 n w a0 b0 q then sK ar c ln q (iN a0) (iN b0) else 100) ∧ HQ κ G G2 B n c d w ln fo nt ar rb)) := by
  refine Ct.of (by decide +kernel) (fun v hv => by
    simp only [List.mem_cons, List.mem_nil_iff, or_false, List.not_mem_nil] at hv
    rcases hv with rfl | rfl | rfl | rfl <;> rfl) (Nat.le_of_ble_eq_true rfl) ?_
  intro p e s m args below meth cC
  refine z_L (L' := [some (.ref (B 0 0)), some (.int a0), some (.int b0), some (.int q), none, none]) rfl ?_
  generalize hQx : MQ below (zQc κ _) args s _ _ (zA κ) = Qx
  obtain ⟨hO, hP, ⟨cols, key, f0, f1, f2, S, hA⟩, hLK, hl0, hl1, ⟨k2, es2, hl2⟩, hS, hCo, hPr⟩ := id hR
  have hn : n ≤ 20 := hT.1
  by_cases ha : okS n a0
  · have hla := iN_lt ha (show n < 2 ^ 31 by have := hT.1; omega)
    have hsa := (hS _ hla).1
    by_cases hb : okS n b0
    · have hlb := iN_lt hb (show n < 2 ^ 31 by have := hT.1; omega)
      have hsb := (hS _ hlb).1
      by_cases hq : 0 ≤ q ∧ q ≤ nI w
      · refine z_al0 (pc := 0) dX7_key_0 ?_
        refine z_il1 (pc := 1) dX7_key_1 ?_
        refine z_callVrq (pc := 2) (c_findY l a0 hR hn ha) hO rfl rfl kw_291 zc_X7_find (by decide) (by decide) rfl (Nat.le_of_ble_eq_true rfl) dX7_key_2 ?_
        refine z_as4 (pc := 5) dX7_key_5 (by decide) ?_
        refine z_al0 (pc := 7) dX7_key_7 ?_
        refine z_il2 (pc := 8) dX7_key_8 ?_
        refine z_callVrq (pc := 9) (c_findY l b0 hR hn hb) hO rfl rfl kw_291 zc_X7_find (by decide) (by decide) rfl (Nat.le_of_ble_eq_true rfl) dX7_key_9 ?_
        refine z_as5 (pc := 12) dX7_key_12 (by decide) ?_
        refine z_al4 (pc := 14) dX7_key_14 ?_
        refine z_ifnullR (pc := 16) dX7_key_16 ?_
        refine z_al5 (pc := 19) dX7_key_19 ?_
        refine z_ifnullR (pc := 21) dX7_key_21 ?_
        refine z_al0 (pc := 24) dX7_key_24 ?_
        refine z_il3 (pc := 25) dX7_key_25 ?_
        refine z_callVr (pc := 26) (c_isDay l q hR) hO rfl rfl kw_433 zc_X7_isDay (by decide) (by decide) rfl (Nat.le_of_ble_eq_true rfl) dX7_key_26 ?_
        refine z_ifz_ne (pc := 29) 35 dX7_key_29 rfl (fun c29 => ?_) (fun c29 => absurd (hq) c29)
        refine z_al0 (pc := 35) dX7_key_35 ?_
        refine z_il3 (pc := 36) dX7_key_36 ?_
        refine z_callVv (pc := 37) _ (c_hTurn l q hR hT hK hC) rfl hO rfl rfl kw_437 zc_X7_turnTo (by decide) rfl (Nat.le_of_ble_eq_true rfl) dX7_key_37 (fun G2 hv => ?_)
        obtain ⟨kl2, ep2, kp2, kb2, iK2, hR2, hK2, hC2, hq2, hF2⟩ := hv
        obtain ⟨hO2, hP2, ⟨cols2, key2, g0, g1, g2, S2, hA2⟩, hLK2, -, -, -, hS2, -, -⟩ := id hR2
        obtain ⟨sa, o1, o2, o3, rw_, hG, -⟩ := id hA2
        have hDq := KDq hK2 hT hq2 hla hlb
        clear hO
        have hO := hO2
        refine z_al0 (pc := 40) dX7_key_40 ?_
        refine z_get (pc := 41) 2 hO rfl iw_X7 (by decide) kw_120 rfl dX7_key_41 ?_
        refine z_al4 (pc := 44) dX7_key_44 ?_
        refine z_al5 (pc := 46) dX7_key_46 ?_
        refine z_callVi (pc := 48) _ (c_Told l (iN a0) (iN b0) hR2 hT hK2 hC2 hla hlb) rfl hLK2.1 rfl rfl kw_491 zc_X2_toldKey (by decide) rfl (Nat.le_of_ble_eq_true rfl) dX7_key_48 (fun v G4 hv => ?_)
        obtain ⟨hr, iK4, sm4, ky4, hR4, hC4, hF4⟩ := hv
        rw [hDq] at hr
        rw [← hQx]
        refine z_iret (pc := 51) rfl (by decide) dX7_key_51 (⟨_, rfl, hr.trans (if_pos ⟨ha, hb, hq⟩).symm, kl2, ep2, kp2, kb2, iK4, sm4, ky4, hR4, hK2, hC4, (tn_2 hF2).trans (lk_2 hF4)⟩)
      · refine z_al0 (pc := 0) dX7_key_0 ?_
        refine z_il1 (pc := 1) dX7_key_1 ?_
        refine z_callVrq (pc := 2) (c_findY l a0 hR hn ha) hO rfl rfl kw_291 zc_X7_find (by decide) (by decide) rfl (Nat.le_of_ble_eq_true rfl) dX7_key_2 ?_
        refine z_as4 (pc := 5) dX7_key_5 (by decide) ?_
        refine z_al0 (pc := 7) dX7_key_7 ?_
        refine z_il2 (pc := 8) dX7_key_8 ?_
        refine z_callVrq (pc := 9) (c_findY l b0 hR hn hb) hO rfl rfl kw_291 zc_X7_find (by decide) (by decide) rfl (Nat.le_of_ble_eq_true rfl) dX7_key_9 ?_
        refine z_as5 (pc := 12) dX7_key_12 (by decide) ?_
        refine z_al4 (pc := 14) dX7_key_14 ?_
        refine z_ifnullR (pc := 16) dX7_key_16 ?_
        refine z_al5 (pc := 19) dX7_key_19 ?_
        refine z_ifnullR (pc := 21) dX7_key_21 ?_
        refine z_al0 (pc := 24) dX7_key_24 ?_
        refine z_il3 (pc := 25) dX7_key_25 ?_
        refine z_callVr (pc := 26) (c_isDay l q hR) hO rfl rfl kw_433 zc_X7_isDay (by decide) (by decide) rfl (Nat.le_of_ble_eq_true rfl) dX7_key_26 ?_
        refine z_ifz_ne (pc := 29) 35 dX7_key_29 rfl (fun c29 => absurd c29 (hq)) (fun c29 => ?_)
        refine z_bipush (pc := 32) (100) (by decide) dX7_key_32 ?_
        rw [← hQx]
        refine z_iret (pc := 34) rfl (by decide) dX7_key_34 (⟨_, rfl, (if_neg (fun h => hq h.2.2)).symm, HQ.rf hR hT hK hC⟩)
    · refine z_al0 (pc := 0) dX7_key_0 ?_
      refine z_il1 (pc := 1) dX7_key_1 ?_
      refine z_callVrq (pc := 2) (c_findY l a0 hR hn ha) hO rfl rfl kw_291 zc_X7_find (by decide) (by decide) rfl (Nat.le_of_ble_eq_true rfl) dX7_key_2 ?_
      refine z_as4 (pc := 5) dX7_key_5 (by decide) ?_
      refine z_al0 (pc := 7) dX7_key_7 ?_
      refine z_il2 (pc := 8) dX7_key_8 ?_
      refine z_callVrq (pc := 9) (c_findN l b0 hR hb) hO rfl rfl kw_291 zc_X7_find (by decide) (by decide) rfl (Nat.le_of_ble_eq_true rfl) dX7_key_9 ?_
      refine z_as5N (pc := 12) dX7_key_12 (by decide) ?_
      refine z_al4 (pc := 14) dX7_key_14 ?_
      refine z_ifnullR (pc := 16) dX7_key_16 ?_
      refine z_al5N (pc := 19) dX7_key_19 ?_
      refine z_ifnullN (pc := 21) 32 dX7_key_21 rfl ?_
      refine z_bipush (pc := 32) (100) (by decide) dX7_key_32 ?_
      rw [← hQx]
      refine z_iret (pc := 34) rfl (by decide) dX7_key_34 (⟨_, rfl, (if_neg (fun h => hb h.2.1)).symm, HQ.rf hR hT hK hC⟩)
  · by_cases hb : okS n b0
    · have hlb := iN_lt hb (show n < 2 ^ 31 by have := hT.1; omega)
      have hsb := (hS _ hlb).1
      refine z_al0 (pc := 0) dX7_key_0 ?_
      refine z_il1 (pc := 1) dX7_key_1 ?_
      refine z_callVrq (pc := 2) (c_findN l a0 hR ha) hO rfl rfl kw_291 zc_X7_find (by decide) (by decide) rfl (Nat.le_of_ble_eq_true rfl) dX7_key_2 ?_
      refine z_as4N (pc := 5) dX7_key_5 (by decide) ?_
      refine z_al0 (pc := 7) dX7_key_7 ?_
      refine z_il2 (pc := 8) dX7_key_8 ?_
      refine z_callVrq (pc := 9) (c_findY l b0 hR hn hb) hO rfl rfl kw_291 zc_X7_find (by decide) (by decide) rfl (Nat.le_of_ble_eq_true rfl) dX7_key_9 ?_
      refine z_as5 (pc := 12) dX7_key_12 (by decide) ?_
      refine z_al4N (pc := 14) dX7_key_14 ?_
      refine z_ifnullN (pc := 16) 32 dX7_key_16 rfl ?_
      refine z_bipush (pc := 32) (100) (by decide) dX7_key_32 ?_
      rw [← hQx]
      refine z_iret (pc := 34) rfl (by decide) dX7_key_34 (⟨_, rfl, (if_neg (fun h => ha h.1)).symm, HQ.rf hR hT hK hC⟩)
    · refine z_al0 (pc := 0) dX7_key_0 ?_
      refine z_il1 (pc := 1) dX7_key_1 ?_
      refine z_callVrq (pc := 2) (c_findN l a0 hR ha) hO rfl rfl kw_291 zc_X7_find (by decide) (by decide) rfl (Nat.le_of_ble_eq_true rfl) dX7_key_2 ?_
      refine z_as4N (pc := 5) dX7_key_5 (by decide) ?_
      refine z_al0 (pc := 7) dX7_key_7 ?_
      refine z_il2 (pc := 8) dX7_key_8 ?_
      refine z_callVrq (pc := 9) (c_findN l b0 hR hb) hO rfl rfl kw_291 zc_X7_find (by decide) (by decide) rfl (Nat.le_of_ble_eq_true rfl) dX7_key_9 ?_
      refine z_as5N (pc := 12) dX7_key_12 (by decide) ?_
      refine z_al4N (pc := 14) dX7_key_14 ?_
      refine z_ifnullN (pc := 16) 32 dX7_key_16 rfl ?_
      refine z_bipush (pc := 32) (100) (by decide) dX7_key_32 ?_
      rw [← hQx]
      refine z_iret (pc := 34) rfl (by decide) dX7_key_34 (⟨_, rfl, (if_neg (fun h => ha h.1)).symm, HQ.rf hR hT hK hC⟩)
abbrev rX7_column : Room := rmK 6 0 0 135
section PCG
variable {D D2 c2 c3 : Nat → Nat → Int32} {a1 a2 b1 b2 : Nat → Int32} {nt nu : Nat}
theorem tw_c (hD : ∀ i j, i ≤ nt → j ≤ nu → D2 i j = D i j) (hc : ∀ i j, i < nt → j < nu → c3 i j = c2 i j) {i j : Nat} (hi : i ≤ nt) (hj : j ≤ nu) : tw D2 c3 i j ↔ tw D c2 i j := by
  constructor
  · intro h
    have h1 := h.1
    have h2 := h.2.1
    have h3 := h.2.2
    rw [hD _ _ (by omega) (by omega), hD _ _ hi hj, hc _ _ (by omega) (by omega)] at h3
    exact ⟨h1, h2, h3⟩
  · intro h
    have h1 := h.1
    have h2 := h.2.1
    refine ⟨h1, h2, ?_⟩
    rw [hD _ _ (by omega) (by omega), hD _ _ hi hj, hc _ _ (by omega) (by omega)]
    exact h.2.2
theorem fi_c (hD : ∀ i j, i ≤ nt → j ≤ nu → D2 i j = D i j) (hc : ∀ i j, i < nt → j < nu → c3 i j = c2 i j) (ha : ∀ i, i < nt → a2 i = a1 i) {i j : Nat} (hi : i ≤ nt) (hj : j ≤ nu) : fi D2 c3 a2 i j ↔ fi D c2 a1 i j := by
  have ht := tw_c hD hc hi hj
  constructor
  · intro h
    have h1 := h.2.1
    have h3 := h.2.2
    rw [hD _ _ (by omega) (by omega), hD _ _ hi hj, ha _ (by omega)] at h3
    exact ⟨fun q => h.1 (ht.mpr q), h1, h3⟩
  · intro h
    have h1 := h.2.1
    refine ⟨fun q => h.1 (ht.mp q), h1, ?_⟩
    rw [hD _ _ (by omega) (by omega), hD _ _ hi hj, ha _ (by omega)]
    exact h.2.2
theorem pst_c (hD : ∀ i j, i ≤ nt → j ≤ nu → D2 i j = D i j) (hc : ∀ i j, i < nt → j < nu → c3 i j = c2 i j) (ha : ∀ i, i < nt → a2 i = a1 i) : ∀ s, pst D2 c3 a2 (nt, nu) s = pst D c2 a1 (nt, nu) s
  | 0 => rfl
  | s + 1 => by
    show nxt D2 c3 a2 (pst D2 c3 a2 (nt, nu) s) = nxt D c2 a1 (pst D c2 a1 (nt, nu) s)
    rw [pst_c hD hc ha s]
    have hle := pst_le (D := D) (c2 := c2) (a1 := a1) (nt := nt) (nu := nu) s
    unfold nxt
    simp only [tw_c hD hc hle.1 hle.2, fi_c hD hc ha hle.1 hle.2]
theorem eX_c (hD : ∀ i j, i ≤ nt → j ≤ nu → D2 i j = D i j) (hc : ∀ i j, i < nt → j < nu → c3 i j = c2 i j) (ha : ∀ i, i < nt → a2 i = a1 i) (hb : ∀ j, j < nu → b2 j = b1 j) {x : Nat × Nat} (h1 : x.1 ≤ nt) (h2 : x.2 ≤ nu) (h0 : x ≠ (0, 0)) (hz : x.2 = 0 → fi D c2 a1 x.1 x.2) : eT D2 c3 a2 x = eT D c2 a1 x ∧ eU D2 c3 a2 x = eU D c2 a1 x ∧ eC D2 c3 a2 b2 x = eC D c2 a1 b1 x := by
  unfold eT eU eC
  simp only [tw_c hD hc h1 h2, fi_c hD hc ha h1 h2]
  refine ⟨trivial, trivial, ?_⟩
  by_cases q : tw D c2 x.1 x.2
  · rw [if_pos q, if_pos q]
    have := q.1; have := q.2.1
    exact hc _ _ (by omega) (by omega)
  · rw [if_neg q, if_neg q]
    by_cases q2 : fi D c2 a1 x.1 x.2
    · rw [if_pos q2, if_pos q2]
      have := q2.2.1
      exact ha _ (by omega)
    · rw [if_neg q2, if_neg q2]
      have : x.2 ≠ 0 := fun e => q2 (hz e)
      exact hb _ (by omega)
end PCG
/-- the columns of the class are the model's -/
theorem CV_cols {n c d w : Nat} {ln kl ep : Nat → Nat} {fo nt : Int32} {ar : Nat → Nat → Int32} {rb : Nat → Int32} {kp kb : Nat → Nat → Int32} (hK : KN ar n c ln kl ep kp kb) (hT : TD n c d w ln fo nt ar rb) {q : Int32} (hq : ∀ i, i < n → kl i = ln i ∧ ep i = Eq' ar q c) {i j s0 : Nat} {key : Int32} {f0 f1 f2 : Nat → Int32} (hi : i < n) (hj : j < n) (hkey : key = sK ar c ln q i j)
    (h : CV (dp (ar 15) (kp i) (kb i) (kp j) (kb j) key) (fun g h => co2 (ar 15) (kp i g) (kb i g) (kp j h) (kb j h) key) (fun g => co1 (ar 15) (kp i g)) (fun h => co1 (ar 15) (kp j h)) (kl i) (kl j) f0 f1 f2 s0 0 0) : isCols ar c ln q i j s0 ∧ ∀ k, k < s0 → f0 k = colT ar c ln q i j k ∧ f1 k = colU ar c ln q i j k ∧ f2 k = colC ar c ln q i j k := by
  obtain ⟨h1, h2, -, -, h5⟩ := h
  have ni := hT.2.2.2.2.1 i hi
  have nj := hT.2.2.2.2.1 j hj
  rw [(hq i hi).1, (hq j hj).1] at *
  have hD : ∀ g h, g ≤ ln i → h ≤ ln j → dp (ar 15) (kp i) (kb i) (kp j) (kb j) key g h = dD ar c q i j key g h := fun g h hg hh => dp_congr rfl (fun a ha => kp_kn hK hT hq hi ha) (fun a ha => kp_kn hK hT hq hj ha) g h hg hh
  have hc : ∀ g h, g < ln i → h < ln j → co2 (ar 15) (kp i g) (kb i g) (kp j h) (kb j h) key = dC ar c q i j key g h := fun g h hg hh => by
    unfold dC
    rw [(kp_kn hK hT hq hi hg).1, (kp_kn hK hT hq hi hg).2, (kp_kn hK hT hq hj hh).1, (kp_kn hK hT hq hj hh).2]
  have ha : ∀ g, g < ln i → co1 (ar 15) (kp i g) = dA ar c q i g := fun g hg => by
    unfold dA
    rw [(kp_kn hK hT hq hi hg).1]
  have hb : ∀ g, g < ln j → co1 (ar 15) (kp j g) = dA ar c q j g := fun g hg => by
    unfold dA
    rw [(kp_kn hK hT hq hj hg).1]
  have hp := pst_c (D2 := dp (ar 15) (kp i) (kb i) (kp j) (kb j) key) (c3 := fun g h => co2 (ar 15) (kp i g) (kb i g) (kp j h) (kb j h) key) (a2 := fun g => co1 (ar 15) (kp i g)) hD hc ha
  have hx : ∀ k, k < s0 → PT ar c ln q i j k ≠ (0, 0) ∧ f0 k = colT ar c ln q i j k ∧ f1 k = colU ar c ln q i j k ∧ f2 k = colC ar c ln q i j k := fun k hk => by
    obtain ⟨g1, g2, g3, g4⟩ := h5 k hk
    rw [hp] at g1 g2 g3 g4
    unfold PT colT colU colC PT
    rw [← hkey]
    have hle := pst_le (D := dD ar c q i j key) (c2 := dC ar c q i j key) (a1 := dA ar c q i) (nt := ln i) (nu := ln j) k
    have e := eX_c (D2 := dp (ar 15) (kp i) (kb i) (kp j) (kb j) key) (c3 := fun g h => co2 (ar 15) (kp i g) (kb i g) (kp j h) (kb j h) key) (a2 := fun g => co1 (ar 15) (kp i g)) (b2 := fun g => co1 (ar 15) (kp j g)) hD hc ha hb hle.1 hle.2 g1 (fun z => by
      generalize hx0 : pst (dD ar c q i j key) (dC ar c q i j key) (dA ar c q i) (ln i, ln j) k = x0 at *
      obtain ⟨x1, x2⟩ := x0
      simp only at z
      subst z
      rcases x1 with _ | x1
      · exact absurd rfl g1
      · exact ⟨fun g => absurd g.2.1 (by omega), by show 0 < x1 + 1; omega, dD_00 ar c q i j key x1⟩)
    exact ⟨g1, g2.trans e.1, g3.trans e.2.1, g4.trans e.2.2⟩
  refine ⟨⟨?_, by omega, fun k hk => (hx k hk).1⟩, fun k hk => (hx k hk).2⟩
  unfold PT
  rw [← hkey, ← hp]
  exact h1.symm
set_option maxRecDepth 100000 in
set_option maxHeartbeats 400000 in
theorem c_hCol (l : Launch) {κ : zK} {G : zH} {B : Nat → Nat → Nat} {n c d w : Nat} {ln kl ep : Nat → Nat} {fo nt : Int32} {ar : Nat → Nat → Int32} {rb : Nat → Int32} {kp kb : Nat → Nat → Int32} {iK sm ky : Nat → Int32} (a0 b0 q : Int32) (i0 what : Int32) (hR : RC κ G B n c d w ln fo nt ar rb kl ep kp kb iK sm ky) (hT : TD n c d w ln fo nt ar rb) (hK : KN ar n c ln kl ep kp kb) (hC : CH ar n kl kp kb iK sm ky) : Ct l yX7_column cX7_column 8 (some FieldType.int) rX7_column κ [.ref (B 0 0), .int a0, .int b0, .int q, .int i0, .int what] G (pI (fun r G2 => (ok2 n w a0 b0 q → ∃ s0, isCols ar c ln q (iN a0) (iN b0) s0 ∧ r = sCol ar c ln q (iN a0) (iN b0) s0 i0 what) ∧ (¬ ok2 n w a0 b0 q → r = -1) ∧ HQ κ G G2 B n c d w ln fo nt ar rb)) := by
  refine Ct.of (by decide +kernel) (fun v hv => by
    simp only [List.mem_cons, List.mem_nil_iff, or_false, List.not_mem_nil] at hv
    rcases hv with rfl | rfl | rfl | rfl | rfl | rfl <;> rfl) (Nat.le_of_ble_eq_true rfl) ?_
  intro p e s m args below meth cC
  refine z_L (L' := [some (.ref (B 0 0)), some (.int a0), some (.int b0), some (.int q), some (.int i0), some (.int what), none, none]) rfl ?_
  generalize hQx : MQ below (zQc κ _) args s _ _ (zA κ) = Qx
  obtain ⟨hO, hP, ⟨cols, key, f0, f1, f2, S, hA⟩, hLK, hl0, hl1, ⟨k2, es2, hl2⟩, hS, hCo, hPr⟩ := id hR
  have hn : n ≤ 20 := hT.1
  by_cases ha : okS n a0
  · have hla := iN_lt ha (show n < 2 ^ 31 by have := hT.1; omega)
    have hsa := (hS _ hla).1
    by_cases hb : okS n b0
    · have hlb := iN_lt hb (show n < 2 ^ 31 by have := hT.1; omega)
      have hsb := (hS _ hlb).1
      by_cases hq : 0 ≤ q ∧ q ≤ nI w
      · refine z_al0 (pc := 0) dX7_column_0 ?_
        refine z_il1 (pc := 1) dX7_column_1 ?_
        refine z_callVrq (pc := 2) (c_findY l a0 hR hn ha) hO rfl rfl kw_291 zc_X7_find (by decide) (by decide) rfl (Nat.le_of_ble_eq_true rfl) dX7_column_2 ?_
        refine z_as6 (pc := 5) dX7_column_5 (by decide) ?_
        refine z_al0 (pc := 7) dX7_column_7 ?_
        refine z_il2 (pc := 8) dX7_column_8 ?_
        refine z_callVrq (pc := 9) (c_findY l b0 hR hn hb) hO rfl rfl kw_291 zc_X7_find (by decide) (by decide) rfl (Nat.le_of_ble_eq_true rfl) dX7_column_9 ?_
        refine z_as7 (pc := 12) dX7_column_12 (by decide) ?_
        refine z_al6 (pc := 14) dX7_column_14 ?_
        refine z_ifnullR (pc := 16) dX7_column_16 ?_
        refine z_al7 (pc := 19) dX7_column_19 ?_
        refine z_ifnullR (pc := 21) dX7_column_21 ?_
        refine z_al0 (pc := 24) dX7_column_24 ?_
        refine z_il3 (pc := 25) dX7_column_25 ?_
        refine z_callVr (pc := 26) (c_isDay l q hR) hO rfl rfl kw_433 zc_X7_isDay (by decide) (by decide) rfl (Nat.le_of_ble_eq_true rfl) dX7_column_26 ?_
        refine z_ifz_ne (pc := 29) 34 dX7_column_29 rfl (fun c29 => ?_) (fun c29 => absurd (hq) c29)
        refine z_al0 (pc := 34) dX7_column_34 ?_
        refine z_il3 (pc := 35) dX7_column_35 ?_
        refine z_callVv (pc := 36) _ (c_hTurn l q hR hT hK hC) rfl hO rfl rfl kw_437 zc_X7_turnTo (by decide) rfl (Nat.le_of_ble_eq_true rfl) dX7_column_36 (fun G2 hv => ?_)
        obtain ⟨kl2, ep2, kp2, kb2, iK2, hR2, hK2, hC2, hq2, hF2⟩ := hv
        obtain ⟨hO2, hP2, ⟨cols2, key2, g0, g1, g2, S2, hA2⟩, hLK2, -, -, -, hS2, -, -⟩ := id hR2
        obtain ⟨sa, o1, o2, o3, rw_, hG, -⟩ := id hA2
        have hDq := KDq hK2 hT hq2 hla hlb
        clear hO
        have hO := hO2
        refine z_al0 (pc := 39) dX7_column_39 ?_
        refine z_al6 (pc := 40) dX7_column_40 ?_
        refine z_al7 (pc := 42) dX7_column_42 ?_
        refine z_callVv (pc := 44) _ (c_hLay l (iN a0) (iN b0) hR2 hT hK2 hC2 hla hlb) rfl hO2 rfl rfl kw_499 zc_X7_layOut (by decide) rfl (Nat.le_of_ble_eq_true rfl) dX7_column_44 (fun G4 hv => ?_)
        obtain ⟨iK4, sm4, ky4, S4, f0b, f1b, f2b, s0, hR4, hC4, hF4, hA4, hCV⟩ := hv
        obtain ⟨sa4, o14, o24, o34, rw4, hG4, -⟩ := id hA4
        obtain ⟨hO4, -⟩ := id hR4
        clear hG
        have hG := hG4
        rw [hDq] at hCV hA4
        have hcc := CV_cols hK2 hT hq2 hla hlb rfl hCV
        clear hO
        have hO := hO4
        refine z_al0 (pc := 47) dX7_column_47 ?_
        refine z_get (pc := 48) 1 hO rfl iw_X7 (by decide) kw_119 rfl dX7_column_48 ?_
        refine z_il4 (pc := 51) dX7_column_51 ?_
        refine z_il5 (pc := 53) dX7_column_53 ?_
        refine z_callVr (pc := 55) (c_aTold l i0 what hA4) hG4 rfl rfl kw_539 zc_X0_toldOf (by decide) (by decide) rfl (Nat.le_of_ble_eq_true rfl) dX7_column_55 ?_
        rw [← hQx]
        refine z_iret (pc := 58) rfl (by decide) dX7_column_58 (⟨_, rfl, (fun _ => ⟨s0, hcc.1, (by
  unfold tOf sCol
  by_cases hin : 0 ≤ i0 ∧ i0 < nI s0
  · rw [if_pos hin, if_pos hin]
    have hh := hcc.2 (s0 - 1 - iN i0) (by have := iN_lt hin (by have := hcc.1.2.1; omega); omega)
    rw [hh.1, hh.2.1, hh.2.2]
  · rw [if_neg hin, if_neg hin])⟩), (fun h => absurd ⟨ha, hb, hq⟩ h), kl2, ep2, kp2, kb2, iK4, sm4, ky4, hR4, hK2, hC4, (tn_2 hF2).trans (lk_2 hF4)⟩)
      · refine z_al0 (pc := 0) dX7_column_0 ?_
        refine z_il1 (pc := 1) dX7_column_1 ?_
        refine z_callVrq (pc := 2) (c_findY l a0 hR hn ha) hO rfl rfl kw_291 zc_X7_find (by decide) (by decide) rfl (Nat.le_of_ble_eq_true rfl) dX7_column_2 ?_
        refine z_as6 (pc := 5) dX7_column_5 (by decide) ?_
        refine z_al0 (pc := 7) dX7_column_7 ?_
        refine z_il2 (pc := 8) dX7_column_8 ?_
        refine z_callVrq (pc := 9) (c_findY l b0 hR hn hb) hO rfl rfl kw_291 zc_X7_find (by decide) (by decide) rfl (Nat.le_of_ble_eq_true rfl) dX7_column_9 ?_
        refine z_as7 (pc := 12) dX7_column_12 (by decide) ?_
        refine z_al6 (pc := 14) dX7_column_14 ?_
        refine z_ifnullR (pc := 16) dX7_column_16 ?_
        refine z_al7 (pc := 19) dX7_column_19 ?_
        refine z_ifnullR (pc := 21) dX7_column_21 ?_
        refine z_al0 (pc := 24) dX7_column_24 ?_
        refine z_il3 (pc := 25) dX7_column_25 ?_
        refine z_callVr (pc := 26) (c_isDay l q hR) hO rfl rfl kw_433 zc_X7_isDay (by decide) (by decide) rfl (Nat.le_of_ble_eq_true rfl) dX7_column_26 ?_
        refine z_ifz_ne (pc := 29) 34 dX7_column_29 rfl (fun c29 => absurd c29 (hq)) (fun c29 => ?_)
        refine z_iconst (pc := 32) (-1) (by decide) dX7_column_32 ?_
        rw [← hQx]
        refine z_iret (pc := 33) rfl (by decide) dX7_column_33 (⟨_, rfl, (fun h => absurd h (fun h => hq h.2.2)), (fun _ => rfl), HQ.rf hR hT hK hC⟩)
    · refine z_al0 (pc := 0) dX7_column_0 ?_
      refine z_il1 (pc := 1) dX7_column_1 ?_
      refine z_callVrq (pc := 2) (c_findY l a0 hR hn ha) hO rfl rfl kw_291 zc_X7_find (by decide) (by decide) rfl (Nat.le_of_ble_eq_true rfl) dX7_column_2 ?_
      refine z_as6 (pc := 5) dX7_column_5 (by decide) ?_
      refine z_al0 (pc := 7) dX7_column_7 ?_
      refine z_il2 (pc := 8) dX7_column_8 ?_
      refine z_callVrq (pc := 9) (c_findN l b0 hR hb) hO rfl rfl kw_291 zc_X7_find (by decide) (by decide) rfl (Nat.le_of_ble_eq_true rfl) dX7_column_9 ?_
      refine z_as7N (pc := 12) dX7_column_12 (by decide) ?_
      refine z_al6 (pc := 14) dX7_column_14 ?_
      refine z_ifnullR (pc := 16) dX7_column_16 ?_
      refine z_al7N (pc := 19) dX7_column_19 ?_
      refine z_ifnullN (pc := 21) 32 dX7_column_21 rfl ?_
      refine z_iconst (pc := 32) (-1) (by decide) dX7_column_32 ?_
      rw [← hQx]
      refine z_iret (pc := 33) rfl (by decide) dX7_column_33 (⟨_, rfl, (fun h => absurd h (fun h => hb h.2.1)), (fun _ => rfl), HQ.rf hR hT hK hC⟩)
  · by_cases hb : okS n b0
    · have hlb := iN_lt hb (show n < 2 ^ 31 by have := hT.1; omega)
      have hsb := (hS _ hlb).1
      refine z_al0 (pc := 0) dX7_column_0 ?_
      refine z_il1 (pc := 1) dX7_column_1 ?_
      refine z_callVrq (pc := 2) (c_findN l a0 hR ha) hO rfl rfl kw_291 zc_X7_find (by decide) (by decide) rfl (Nat.le_of_ble_eq_true rfl) dX7_column_2 ?_
      refine z_as6N (pc := 5) dX7_column_5 (by decide) ?_
      refine z_al0 (pc := 7) dX7_column_7 ?_
      refine z_il2 (pc := 8) dX7_column_8 ?_
      refine z_callVrq (pc := 9) (c_findY l b0 hR hn hb) hO rfl rfl kw_291 zc_X7_find (by decide) (by decide) rfl (Nat.le_of_ble_eq_true rfl) dX7_column_9 ?_
      refine z_as7 (pc := 12) dX7_column_12 (by decide) ?_
      refine z_al6N (pc := 14) dX7_column_14 ?_
      refine z_ifnullN (pc := 16) 32 dX7_column_16 rfl ?_
      refine z_iconst (pc := 32) (-1) (by decide) dX7_column_32 ?_
      rw [← hQx]
      refine z_iret (pc := 33) rfl (by decide) dX7_column_33 (⟨_, rfl, (fun h => absurd h (fun h => ha h.1)), (fun _ => rfl), HQ.rf hR hT hK hC⟩)
    · refine z_al0 (pc := 0) dX7_column_0 ?_
      refine z_il1 (pc := 1) dX7_column_1 ?_
      refine z_callVrq (pc := 2) (c_findN l a0 hR ha) hO rfl rfl kw_291 zc_X7_find (by decide) (by decide) rfl (Nat.le_of_ble_eq_true rfl) dX7_column_2 ?_
      refine z_as6N (pc := 5) dX7_column_5 (by decide) ?_
      refine z_al0 (pc := 7) dX7_column_7 ?_
      refine z_il2 (pc := 8) dX7_column_8 ?_
      refine z_callVrq (pc := 9) (c_findN l b0 hR hb) hO rfl rfl kw_291 zc_X7_find (by decide) (by decide) rfl (Nat.le_of_ble_eq_true rfl) dX7_column_9 ?_
      refine z_as7N (pc := 12) dX7_column_12 (by decide) ?_
      refine z_al6N (pc := 14) dX7_column_14 ?_
      refine z_ifnullN (pc := 16) 32 dX7_column_16 rfl ?_
      refine z_iconst (pc := 32) (-1) (by decide) dX7_column_32 ?_
      rw [← hQx]
      refine z_iret (pc := 33) rfl (by decide) dX7_column_33 (⟨_, rfl, (fun h => absurd h (fun h => ha h.1)), (fun _ => rfl), HQ.rf hR hT hK hC⟩)
