/-! the house -/
abbrev is2 (r : zR) : Prop := r.1 = 2
abbrev rX7_find : Room := rmK 3 0 0 64
set_option maxRecDepth 100000 in
set_option maxHeartbeats 400000 in
theorem c_findY (l : Launch) {κ : zK} {G : zH} {B : Nat → Nat → Nat} {n c d w : Nat} {ln kl ep : Nat → Nat} {fo nt : Int32} {ar : Nat → Nat → Int32} {rb : Nat → Int32} {kp kb : Nat → Nat → Int32} {iK sm ky : Nat → Int32} (v : Int32) (hR : RC κ G B n c d w ln fo nt ar rb kl ep kp kb iK sm ky) (hn : n ≤ 20) (hv : 0 ≤ v ∧ v < nI n) : Ct l yX7_find cX7_find 2 (some (FieldType.object "TuneHouse$Sheet")) rX7_find κ [.ref (B 0 0), .int v] G (zPq (some (B 15 (iN v))) G) := by
  refine Ct.of (by decide +kernel) (fun v hv => by
    simp only [List.mem_cons, List.mem_nil_iff, or_false, List.not_mem_nil] at hv
    rcases hv with rfl | rfl <;> rfl) (Nat.le_of_ble_eq_true rfl) ?_
  intro p e s m args below meth cC
  refine z_L (L' := [some (.ref (B 0 0)), some (.int v)]) rfl ?_
  generalize hQx : MQ below (zQc κ _) args s _ _ (zA κ) = Qx
  obtain ⟨hO, hP, ⟨cols, key, f0, f1, f2, S, hA⟩, hLK, hl0, hl1, ⟨k2, es2, hl2⟩, hS, hCo, hPr⟩ := id hR
  obtain ⟨mc0, ea0, hm0, -⟩ := id hl0
  obtain ⟨i, rfl, hi⟩ := ix_in hv.1 hv.2 (by omega)
  refine z_il1 (pc := 0) dX7_find_0 ?_
  refine z_if_lt (pc := 1) 29 dX7_find_1 rfl (fun c1 => absurd c1 (Int32.not_lt.mpr hv.1)) (fun c1 => ?_)
  refine z_il1 (pc := 4) dX7_find_4 ?_
  refine z_al0 (pc := 5) dX7_find_5 ?_
  refine z_get (pc := 6) 3 hO rfl iw_X7 (by decide) kw_121 rfl dX7_find_6 ?_
  refine z_callVr (pc := 9) (c_jSize l 0 (B 13 0) 29 n hl0) hm0 rfl rfl kw_153 zc_Jx4a65c_size_8abf5 (by decide) (by decide) rfl (Nat.le_of_ble_eq_true rfl) dX7_find_9 ?_
  refine z_icmp_ge (pc := 12) 29 dX7_find_12 rfl (fun c12 => absurd c12 (by rw [nI_leI (by omega) (by omega)]; omega)) (fun c12 => ?_)
  refine z_al0 (pc := 15) dX7_find_15 ?_
  refine z_get (pc := 16) 3 hO rfl iw_X7 (by decide) kw_121 rfl dX7_find_16 ?_
  refine z_il1 (pc := 19) dX7_find_19 ?_
  skip
  refine z_callVrq (pc := 20) (c_jGet l 0 (B 13 0) 29 n i hl0 hi (by omega)) hm0 rfl rfl kw_295 zc_Jx4a65c_get_915e3 (by decide) (by decide) rfl (Nat.le_of_ble_eq_true rfl) dX7_find_20 ?_
  refine z_castS (pc := 23) (hS i hi).1 rfl kw_166 dX7_find_23 ?_
  refine z_goto (pc := 26) 30 dX7_find_26 rfl ?_
  rw [← hQx]
  refine z_aret (pc := 30) (some _) rfl rfl (Or.inl ⟨_, rfl⟩) (by decide) dX7_find_30 (⟨some (B 15 i), rfl, by rw [iN_nI (by omega)], rfl⟩)
set_option maxRecDepth 100000 in
set_option maxHeartbeats 400000 in
theorem c_findN (l : Launch) {κ : zK} {G : zH} {B : Nat → Nat → Nat} {n c d w : Nat} {ln kl ep : Nat → Nat} {fo nt : Int32} {ar : Nat → Nat → Int32} {rb : Nat → Int32} {kp kb : Nat → Nat → Int32} {iK sm ky : Nat → Int32} (v : Int32) (hR : RC κ G B n c d w ln fo nt ar rb kl ep kp kb iK sm ky) (hv : ¬ (0 ≤ v ∧ v < nI n)) : Ct l yX7_find cX7_find 2 (some (FieldType.object "TuneHouse$Sheet")) rX7_find κ [.ref (B 0 0), .int v] G (zPq none G) := by
  refine Ct.of (by decide +kernel) (fun v hv => by
    simp only [List.mem_cons, List.mem_nil_iff, or_false, List.not_mem_nil] at hv
    rcases hv with rfl | rfl <;> rfl) (Nat.le_of_ble_eq_true rfl) ?_
  intro p e s m args below meth cC
  refine z_L (L' := [some (.ref (B 0 0)), some (.int v)]) rfl ?_
  generalize hQx : MQ below (zQc κ _) args s _ _ (zA κ) = Qx
  obtain ⟨hO, hP, ⟨cols, key, f0, f1, f2, S, hA⟩, hLK, hl0, hl1, ⟨k2, es2, hl2⟩, hS, hCo, hPr⟩ := id hR
  obtain ⟨mc0, ea0, hm0, -⟩ := id hl0
  by_cases hv0 : v < 0
  · refine z_il1 (pc := 0) dX7_find_0 ?_
    refine z_if_lt (pc := 1) 29 dX7_find_1 rfl (fun c1 => ?_) (fun c1 => absurd (hv0) c1)
    refine z_null (pc := 29) dX7_find_29 ?_
    rw [← hQx]
    refine z_aret (pc := 30) none rfl rfl (Or.inl ⟨_, rfl⟩) (by decide) dX7_find_30 (⟨none, rfl, rfl, rfl⟩)
  · refine z_il1 (pc := 0) dX7_find_0 ?_
    refine z_if_lt (pc := 1) 29 dX7_find_1 rfl (fun c1 => absurd c1 (hv0)) (fun c1 => ?_)
    refine z_il1 (pc := 4) dX7_find_4 ?_
    refine z_al0 (pc := 5) dX7_find_5 ?_
    refine z_get (pc := 6) 3 hO rfl iw_X7 (by decide) kw_121 rfl dX7_find_6 ?_
    refine z_callVr (pc := 9) (c_jSize l 0 (B 13 0) 29 n hl0) hm0 rfl rfl kw_153 zc_Jx4a65c_size_8abf5 (by decide) (by decide) rfl (Nat.le_of_ble_eq_true rfl) dX7_find_9 ?_
    refine z_icmp_ge (pc := 12) 29 dX7_find_12 rfl (fun c12 => ?_) (fun c12 => absurd (Int32.not_lt.mp (fun q => hv ⟨Int32.not_lt.mp hv0, q⟩)) c12)
    refine z_null (pc := 29) dX7_find_29 ?_
    rw [← hQx]
    refine z_aret (pc := 30) none rfl rfl (Or.inl ⟨_, rfl⟩) (by decide) dX7_find_30 (⟨none, rfl, rfl, rfl⟩)
abbrev rX7_isDay : Room := rmK 1 0 0 21
set_option maxRecDepth 100000 in
set_option maxHeartbeats 400000 in
theorem c_isDay (l : Launch) {κ : zK} {G : zH} {B : Nat → Nat → Nat} {n c d w : Nat} {ln kl ep : Nat → Nat} {fo nt : Int32} {ar : Nat → Nat → Int32} {rb : Nat → Int32} {kp kb : Nat → Nat → Int32} {iK sm ky : Nat → Int32} (q : Int32) (hR : RC κ G B n c d w ln fo nt ar rb kl ep kp kb iK sm ky) : Ct l yX7_isDay cX7_isDay 2 (some FieldType.boolean) rX7_isDay κ [.ref (B 0 0), .int q] G (zP (zb (0 ≤ q ∧ q ≤ nI w)) G) := by
  refine Ct.of (by decide +kernel) (fun v hv => by
    simp only [List.mem_cons, List.mem_nil_iff, or_false, List.not_mem_nil] at hv
    rcases hv with rfl | rfl <;> rfl) (Nat.le_of_ble_eq_true rfl) ?_
  intro p e s m args below meth cC
  refine z_L (L' := [some (.ref (B 0 0)), some (.int q)]) rfl ?_
  generalize hQx : MQ below (zQc κ _) args s _ _ (zA κ) = Qx
  obtain ⟨hO, hP, ⟨cols, key, f0, f1, f2, S, hA⟩, hLK, hl0, hl1, ⟨k2, es2, hl2⟩, hS, hCo, hPr⟩ := id hR
  refine z_il1 (pc := 0) dX7_isDay_0 ?_
  refine z_al0 (pc := 1) dX7_isDay_1 ?_
  refine z_get (pc := 2) 6 hO rfl iw_X7 (by decide) kw_124 rfl dX7_isDay_2 ?_
  refine z_callSr (pc := 5) (c_isWithin l q (nI w)) kw_160 zc_X7_isWithin (by decide) (by decide) rfl (Nat.le_of_ble_eq_true rfl) dX7_isDay_5 ?_
  rw [← hQx]
  refine z_zret (pc := 8) rfl zb_n (by decide) dX7_isDay_8 (⟨_, rfl, rfl, rfl⟩)
abbrev rX7_findTrue : Room := rmK 4 0 0 85
theorem iN_lt {v : Int32} {n : Nat} (h : 0 ≤ v ∧ v < nI n) (hn : n < 2 ^ 31) : iN v < n := by
  obtain ⟨j, rfl, hj⟩ := ix_in h.1 h.2 hn
  rwa [iN_nI (by omega)]
theorem nI_iN {v : Int32} {n : Nat} (h : 0 ≤ v ∧ v < nI n) (hn : n < 2 ^ 31) : nI (iN v) = v := by
  obtain ⟨j, rfl, hj⟩ := ix_in h.1 h.2 hn
  rw [iN_nI (by omega)]
abbrev rX7_days : Room := rmK 1 0 0 21
set_option maxRecDepth 100000 in
set_option maxHeartbeats 400000 in
theorem c_hDays (l : Launch) {κ : zK} {G : zH} {B : Nat → Nat → Nat} {n c d w : Nat} {ln kl ep : Nat → Nat} {fo nt : Int32} {ar : Nat → Nat → Int32} {rb : Nat → Int32} {kp kb : Nat → Nat → Int32} {iK sm ky : Nat → Int32} (m0 : Int32) (hR : RC κ G B n c d w ln fo nt ar rb kl ep kp kb iK sm ky) : Ct l yX7_days cX7_days 2 (some FieldType.int) rX7_days κ [.ref (B 0 0), .int m0] G (pI (fun r G2 => (okDay w m0 ∧ r = nI w + m0 ∧ G2 (B 0 0) = some ((2, 0, 0), .inr (8, [.ref (B 1 0), .ref (B 3 0), .ref (B 9 0), .ref (B 13 0), .ref (B 13 1), .ref (B 13 2), .int (nI w + m0), .int fo, .int nt, .int (nI c)])) ∧ zFP (fun r => r = (2, 0, 0)) G G2) ∨ (¬ okDay w m0 ∧ r = -1 ∧ G2 = G))) := by
  refine Ct.of (by decide +kernel) (fun v hv => by
    simp only [List.mem_cons, List.mem_nil_iff, or_false, List.not_mem_nil] at hv
    rcases hv with rfl | rfl <;> rfl) (Nat.le_of_ble_eq_true rfl) ?_
  intro p e s m args below meth cC
  refine z_L (L' := [some (.ref (B 0 0)), some (.int m0)]) rfl ?_
  generalize hQx : MQ below (zQc κ _) args s _ _ (zA κ) = Qx
  obtain ⟨hO, hP, ⟨cols, key, f0, f1, f2, S, hA⟩, hLK, hl0, hl1, ⟨k2, es2, hl2⟩, hS, hCo, hPr⟩ := id hR
  refine z_il1 (pc := 0) dX7_days_0 ?_
  refine z_sipush (pc := 1) (1000) (by decide) dX7_days_1 ?_
  refine z_callSr (pc := 4) (c_isWithin l m0 1000) kw_160 zc_X7_isWithin (by decide) (by decide) rfl (Nat.le_of_ble_eq_true rfl) dX7_days_4 ?_
  refine z_ifz_eq (pc := 7) 22 dX7_days_7 rfl (fun c7 => ?_) (fun c7 => ?_)
  · refine z_iconst (pc := 22) (-1) (by decide) dX7_days_22 ?_
    rw [← hQx]
    refine z_iret (pc := 23) rfl (by decide) dX7_days_23 (⟨_, rfl, Or.inr ⟨fun h => c7 h.1, rfl, rfl⟩⟩)
  · refine z_al0 (pc := 10) dX7_days_10 ?_
    refine z_get (pc := 11) 6 hO rfl iw_X7 (by decide) kw_124 rfl dX7_days_11 ?_
    refine z_il1 (pc := 14) dX7_days_14 ?_
    refine z_iadd (pc := 15) dX7_days_15 ?_
    refine z_sipush (pc := 16) (1000) (by decide) dX7_days_16 ?_
    refine z_icmp_le (pc := 19) 24 dX7_days_19 rfl (fun c19 => ?_) (fun c19 => ?_)
    · refine z_al0 (pc := 24) dX7_days_24 ?_
      refine z_dup (pc := 25) rfl dX7_days_25 ?_
      refine z_get (pc := 26) 6 hO rfl iw_X7 (by decide) kw_124 rfl dX7_days_26 ?_
      refine z_il1 (pc := 29) dX7_days_29 ?_
      refine z_iadd (pc := 30) dX7_days_30 ?_
      skip
      refine z_putg (pc := 31) 6 hO rfl iw_X7 tyX7 tyX7_ok nmX7 (by decide) kw_124 rfl rfl rfl rfl (Nat.le_of_ble_eq_true rfl) dX7_days_31 (fun G4 h4x hF4 => ?_)
      replace hO := h4x
      refine z_al0 (pc := 34) dX7_days_34 ?_
      refine z_get (pc := 35) 6 hO rfl iw_X7 (by decide) kw_124 rfl dX7_days_35 ?_
      rw [← hQx]
      refine z_iret (pc := 38) rfl (by decide) dX7_days_38 (⟨_, rfl, Or.inl ⟨⟨c7, c19⟩, rfl, h4x, hF4⟩⟩)
    · refine z_iconst (pc := 22) (-1) (by decide) dX7_days_22 ?_
      rw [← hQx]
      refine z_iret (pc := 23) rfl (by decide) dX7_days_23 (⟨_, rfl, Or.inr ⟨fun h => c19 h.2, rfl, rfl⟩⟩)
