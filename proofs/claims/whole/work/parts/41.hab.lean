/-! what two sheets add to a habit -/
section HAB
variable {n c d w : Nat} {ln kl ep : Nat → Nat} {fo nt : Int32} {ar : Nat → Nat → Int32} {rb : Nat → Int32} {kp kb : Nat → Nat → Int32} {q : Int32} {i j s0 : Nat} {f0 f1 f2 : Nat → Int32}
theorem pT_c (hK : KN ar n c ln kl ep kp kb) (hT : TD n c d w ln fo nt ar rb) (hq : ∀ i, i < n → kl i = ln i ∧ ep i = Eq' ar q c) (hi : i < n) {v : Int32} (hv : v = -1 ∨ ∃ g, v = nI g ∧ g < ln i) : pAt (kl i) (kp i) (-1) v = if v = -1 then -1 else kn ar i (iN v) q false c := by
  have h24 := hT.2.2.2.2.1 i hi
  rcases hv with rfl | ⟨g, rfl, hg⟩
  · rw [if_pos rfl]; exact pAt_m
  · rw [if_neg (nI_m1 (by omega)), (hq i hi).1, pAt_n hg h24, iN_nI (by omega)]
    exact (kp_kn hK hT hq hi hg).1
theorem mt_met (hK : KN ar n c ln kl ep kp kb) (hT : TD n c d w ln fo nt ar rb) (hq : ∀ i, i < n → kl i = ln i ∧ ep i = Eq' ar q c) (hi : i < n) (hj : j < n) {k : Nat} (h0 : f0 k = colT ar c ln q i j k) (h1 : f1 k = colU ar c ln q i j k) (hP : PT ar c ln q i j k ≠ (0, 0)) :
    (mtC (kl i) (kl j) (kp i) (kp j) f0 f1 k ↔ met ar c ln q i j k) ∧ (met ar c ln q i j k → pAt (kl i) (kp i) (-1) (f0 k) = kn ar i (iN (colT ar c ln q i j k)) q false c ∧ pAt (kl j) (kp j) (-1) (f1 k) = kn ar j (iN (colU ar c ln q i j k)) q false c) := by
  have e0 := pT_c hK hT hq hi (colT_in ar c ln q i j k)
  have e1 := pT_c hK hT hq hj (colU_in ar c ln q i j k hP)
  unfold mtC met
  rw [h0, h1, e0, e1]
  by_cases a0 : colT ar c ln q i j k = -1
  · rw [if_pos a0]
    exact ⟨⟨fun h => absurd rfl h.1, fun h => absurd a0 h.1⟩, fun h => absurd a0 h.1⟩
  · by_cases a1 : colU ar c ln q i j k = -1
    · rw [if_pos a1]
      exact ⟨⟨fun h => absurd rfl h.2, fun h => absurd a1 h.2.1⟩, fun h => absurd a1 h.2.1⟩
    · rw [if_neg a0, if_neg a1]
      exact ⟨⟨fun h => ⟨a0, a1, h⟩, fun h => h.2.2⟩, fun _ => ⟨rfl, rfl⟩⟩
theorem ri_cS (hK : KN ar n c ln kl ep kp kb) (hT : TD n c d w ln fo nt ar rb) (hq : ∀ i, i < n → kl i = ln i ∧ ep i = Eq' ar q c) (hi : i < n) (hj : j < n) (hc : isCols ar c ln q i j s0 ∧ ∀ k, k < s0 → f0 k = colT ar c ln q i j k ∧ f1 k = colU ar c ln q i j k ∧ f2 k = colC ar c ln q i j k) : ∀ k, k ≤ s0 → riC (kl i) (kl j) (kp i) (kp j) f0 f1 (sK ar c ln q i j) k = cS ar c ln q i j 0 k ∧ meC (kl i) (kl j) (kp i) (kp j) f0 f1 k = cN ar c ln q i j 0 k
  | 0, _ => ⟨rfl, rfl⟩
  | k + 1, h => by
    have ih := ri_cS hK hT hq hi hj hc k (by omega)
    have hm := mt_met hK hT hq hi hj (hc.2 k (by omega)).1 (hc.2 k (by omega)).2.1 (hc.1.2.2 k (by omega))
    unfold riC meC cS cN mterm
    rw [ih.1, ih.2]
    by_cases q1 : met ar c ln q i j k
    · rw [if_pos q1, if_pos (hm.1.mpr q1), if_pos q1, if_pos (hm.1.mpr q1), (hm.2 q1).1, (hm.2 q1).2]
      exact ⟨rfl, rfl⟩
    · rw [if_neg q1, if_neg (fun z => q1 (hm.1.mp z)), if_neg q1, if_neg (fun z => q1 (hm.1.mp z))]
      exact ⟨rfl, rfl⟩
theorem cS_acc (a b : Nat) (acc : Int32) : ∀ k, cS ar c ln q a b acc k = acc + cS ar c ln q a b 0 k ∧ cN ar c ln q a b acc k = acc + cN ar c ln q a b 0 k
  | 0 => ⟨(Int32.add_zero acc).symm, (Int32.add_zero acc).symm⟩
  | k + 1 => by
    have ih := cS_acc a b acc k
    unfold cS cN
    rw [ih.1, ih.2]
    split
    · exact ⟨Int32.add_assoc .., Int32.add_assoc ..⟩
    · exact ⟨rfl, rfl⟩
end HAB
abbrev rX7_habitIn : Room := rmK 5 0 0 135
set_option maxRecDepth 100000 in
set_option maxHeartbeats 400000 in
theorem c_hHabIn (l : Launch) {κ : zK} {G : zH} {B : Nat → Nat → Nat} {n c d w : Nat} {ln kl ep : Nat → Nat} {fo nt : Int32} {ar : Nat → Nat → Int32} {rb : Nat → Int32} {kp kb : Nat → Nat → Int32} {iK sm ky : Nat → Int32} (i j : Nat) (q what : Int32) (hR : RC κ G B n c d w ln fo nt ar rb kl ep kp kb iK sm ky) (hT : TD n c d w ln fo nt ar rb) (hK : KN ar n c ln kl ep kp kb) (hC : CH ar n kl kp kb iK sm ky) (hq : ∀ i, i < n → kl i = ln i ∧ ep i = Eq' ar q c) (hi : i < n) (hj : j < n) : Ct l yX7_habitIn cX7_habitIn 4 (some FieldType.int) rX7_habitIn κ [.ref (B 0 0), .ref (B 15 i), .ref (B 15 j), .int what] G (pI (fun r G2 => (∃ s0, isCols ar c ln q i j s0 ∧ r = if what = 0 then cS ar c ln q i j 0 s0 else cN ar c ln q i j 0 s0) ∧ (∃ iK2 sm2 ky2, RC κ G2 B n c d w ln fo nt ar rb kl ep kp kb iK2 sm2 ky2 ∧ CH ar n kl kp kb iK2 sm2 ky2 ∧ zFP isLk G G2))) := by
  refine Ct.of (by decide +kernel) (fun v hv => by
    simp only [List.mem_cons, List.mem_nil_iff, or_false, List.not_mem_nil] at hv
    rcases hv with rfl | rfl | rfl | rfl <;> rfl) (Nat.le_of_ble_eq_true rfl) ?_
  intro p e s m args below meth cC
  refine z_L (L' := [some (.ref (B 0 0)), some (.ref (B 15 i)), some (.ref (B 15 j)), some (.int what)]) rfl ?_
  generalize hQx : MQ below (zQc κ _) args s _ _ (zA κ) = Qx
  have hn20 := hT.1
  obtain ⟨hO, hP, ⟨cols, key, f0, f1, f2, S, hA⟩, hLK, hl0, hl1, ⟨k2, es2, hl2⟩, hS, hCo, hPr⟩ := id hR
  refine z_al0 (pc := 0) dX7_habitIn_0 ?_
  refine z_al1 (pc := 1) dX7_habitIn_1 ?_
  refine z_al2 (pc := 2) dX7_habitIn_2 ?_
  refine z_callVv (pc := 3) _ (c_hLay l i j hR hT hK hC hi hj) rfl hO rfl rfl kw_499 zc_X7_layOut (by decide) rfl (Nat.le_of_ble_eq_true rfl) dX7_habitIn_3 (fun G4 hv => ?_)
  obtain ⟨iK4, sm4, ky4, S4, f0b, f1b, f2b, s0, hR4, hC4, hF4, hA4, hCV⟩ := hv
  rw [KDq hK hT hq hi hj] at hCV hA4
  have hcc := CV_cols hK hT hq hi hj rfl hCV
  obtain ⟨sa4, o14, o24, o34, rw4, hG4, -⟩ := id hA4
  obtain ⟨hO4, -, -, -, -, -, -, hS4, -, -⟩ := id hR4
  clear hO
  have hO := hO4
  have hi4 := (hS4 i hi)
  have hj4 := (hS4 j hj)
  have hrc := ri_cS hK hT hq hi hj hcc s0 (Nat.le_refl _)
  refine z_il3 (pc := 6) dX7_habitIn_6 ?_
  refine z_if_ne (pc := 7) 28 dX7_habitIn_7 rfl (fun c7 => ?_) (fun c7 => ?_)
  · refine z_al0 (pc := 28) dX7_habitIn_28 ?_
    refine z_get (pc := 29) 1 hO rfl iw_X7 (by decide) kw_119 rfl dX7_habitIn_29 ?_
    refine z_al1 (pc := 32) dX7_habitIn_32 ?_
    refine z_get (pc := 33) 4 hi4.1 rfl iw_X5 (by decide) kw_205 rfl dX7_habitIn_33 ?_
    refine z_al2 (pc := 36) dX7_habitIn_36 ?_
    refine z_get (pc := 37) 4 hj4.1 rfl iw_X5 (by decide) kw_205 rfl dX7_habitIn_37 ?_
    refine z_callVr (pc := 40) (c_aMet l (2 * i) (kl i) (2 * j) (kl j) hA4 hi4.2.1 hj4.2.1) hG4 rfl rfl kw_634 zc_X0_met (by decide) (by decide) rfl (Nat.le_of_ble_eq_true rfl) dX7_habitIn_40 ?_
    rw [← hQx]
    refine z_iret (pc := 43) rfl (by decide) dX7_habitIn_43 (⟨_, rfl, ⟨s0, hcc.1, by rw [if_neg c7]; exact hrc.2⟩, iK4, sm4, ky4, hR4, hC4, hF4⟩)
  · refine z_al0 (pc := 10) dX7_habitIn_10 ?_
    refine z_get (pc := 11) 1 hO rfl iw_X7 (by decide) kw_119 rfl dX7_habitIn_11 ?_
    refine z_al1 (pc := 14) dX7_habitIn_14 ?_
    refine z_get (pc := 15) 4 hi4.1 rfl iw_X5 (by decide) kw_205 rfl dX7_habitIn_15 ?_
    refine z_al2 (pc := 18) dX7_habitIn_18 ?_
    refine z_get (pc := 19) 4 hj4.1 rfl iw_X5 (by decide) kw_205 rfl dX7_habitIn_19 ?_
    refine z_callVr (pc := 22) (c_aRise l (2 * i) (kl i) (2 * j) (kl j) hA4 hi4.2.1 hj4.2.1) hG4 rfl rfl kw_625 zc_X0_rise (by decide) (by decide) rfl (Nat.le_of_ble_eq_true rfl) dX7_habitIn_22 ?_
    refine z_goto (pc := 25) 43 dX7_habitIn_25 rfl ?_
    rw [← hQx]
    refine z_iret (pc := 43) rfl (by decide) dX7_habitIn_43 (⟨_, rfl, ⟨s0, hcc.1, by rw [if_pos c7]; exact hrc.1⟩, iK4, sm4, ky4, hR4, hC4, hF4⟩)
