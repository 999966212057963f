/-! the house -/
abbrev is2 (r : zR) : Prop := r.1 = 2
abbrev rX7_find : Room := rmK 3 0 0 64
set_option maxRecDepth 100000 in
set_option maxHeartbeats 400000 in
theorem c_findY (l : Launch) {κ : zK} {G : zH} {B : Nat → Nat → Nat} {n c d w : Nat} {ln kl ep : Nat → Nat} {fo nt : Int32} {ar : Nat → Nat → Int32} {rb : Nat → Int32} {kp kb : Nat → Nat → Int32} {iK sm ky : Nat → Int32} (v : Int32) (hR : RC κ G B n c d w ln fo nt ar rb kl ep kp kb iK sm ky) (hn : n ≤ 20) (hv : 0 ≤ v ∧ v < nI n) : Ct l yX7_find cX7_find 2 (some (FieldType.object "TuneHouse$Sheet")) rX7_find κ [.ref (B 0 0), .int v] G (zPq (some (B 15 (iN v))) G) := by
  refine Ct.of (by decide +kernel) (fun v hv => by
    simp only [List.mem_cons, List.mem_nil_iff, or_false, List.not_mem_nil] at hv
    rcases hv with rfl | rfl <;> rfl) (Nat.le_of_ble_eq_true rfl) ?_
  intro p e s m args below meth cC
  refine z_L (L' := [some (.ref (B 0 0)), some (.int v)]) rfl ?_
  generalize hQx : MQ below (zQc κ _) args s _ _ (zA κ) = Qx
  obtain ⟨hO, hP, ⟨cols, key, f0, f1, f2, S, hA⟩, hLK, hl0, hl1, ⟨k2, es2, hl2⟩, hS, hCo, hPr⟩ := id hR
  obtain ⟨mc0, ea0, hm0, -⟩ := id hl0
  obtain ⟨i, rfl, hi⟩ := ix_in hv.1 hv.2 (by omega)
  refine z_il1 (pc := 0) dX7_find_0 ?_
  refine z_if_lt (pc := 1) 29 dX7_find_1 rfl (fun c1 => absurd c1 (Int32.not_lt.mpr hv.1)) (fun c1 => ?_)
  refine z_il1 (pc := 4) dX7_find_4 ?_
  refine z_al0 (pc := 5) dX7_find_5 ?_
  refine z_get (pc := 6) 3 hO rfl iw_X7 (by decide) kw_121 rfl dX7_find_6 ?_
  refine z_callVr (pc := 9) (c_jSize l 0 (B 13 0) 29 n hl0) hm0 rfl rfl kw_153 zc_Jx4a65c_size_8abf5 (by decide) (by decide) rfl (Nat.le_of_ble_eq_true rfl) dX7_find_9 ?_
  refine z_icmp_ge (pc := 12) 29 dX7_find_12 rfl (fun c12 => absurd c12 (by rw [nI_leI (by omega) (by omega)]; omega)) (fun c12 => ?_)
  refine z_al0 (pc := 15) dX7_find_15 ?_
  refine z_get (pc := 16) 3 hO rfl iw_X7 (by decide) kw_121 rfl dX7_find_16 ?_
  refine z_il1 (pc := 19) dX7_find_19 ?_
  skip
  refine z_callVrq (pc := 20) (c_jGet l 0 (B 13 0) 29 n i hl0 hi (by omega)) hm0 rfl rfl kw_295 zc_Jx4a65c_get_915e3 (by decide) (by decide) rfl (Nat.le_of_ble_eq_true rfl) dX7_find_20 ?_
  refine z_castS (pc := 23) (hS i hi).1 rfl kw_166 dX7_find_23 ?_
  refine z_goto (pc := 26) 30 dX7_find_26 rfl ?_
  rw [← hQx]
  refine z_aret (pc := 30) (some _) rfl rfl (Or.inl ⟨_, rfl⟩) (by decide) dX7_find_30 (⟨some (B 15 i), rfl, by rw [iN_nI (by omega)], rfl⟩)
set_option maxRecDepth 100000 in
set_option maxHeartbeats 400000 in
theorem c_findN (l : Launch) {κ : zK} {G : zH} {B : Nat → Nat → Nat} {n c d w : Nat} {ln kl ep : Nat → Nat} {fo nt : Int32} {ar : Nat → Nat → Int32} {rb : Nat → Int32} {kp kb : Nat → Nat → Int32} {iK sm ky : Nat → Int32} (v : Int32) (hR : RC κ G B n c d w ln fo nt ar rb kl ep kp kb iK sm ky) (hv : ¬ (0 ≤ v ∧ v < nI n)) : Ct l yX7_find cX7_find 2 (some (FieldType.object "TuneHouse$Sheet")) rX7_find κ [.ref (B 0 0), .int v] G (zPq none G) := by
  refine Ct.of (by decide +kernel) (fun v hv => by
    simp only [List.mem_cons, List.mem_nil_iff, or_false, List.not_mem_nil] at hv
    rcases hv with rfl | rfl <;> rfl) (Nat.le_of_ble_eq_true rfl) ?_
  intro p e s m args below meth cC
  refine z_L (L' := [some (.ref (B 0 0)), some (.int v)]) rfl ?_
  generalize hQx : MQ below (zQc κ _) args s _ _ (zA κ) = Qx
  obtain ⟨hO, hP, ⟨cols, key, f0, f1, f2, S, hA⟩, hLK, hl0, hl1, ⟨k2, es2, hl2⟩, hS, hCo, hPr⟩ := id hR
  obtain ⟨mc0, ea0, hm0, -⟩ := id hl0
  by_cases hv0 : v < 0
  · refine z_il1 (pc := 0) dX7_find_0 ?_
    refine z_if_lt (pc := 1) 29 dX7_find_1 rfl (fun c1 => ?_) (fun c1 => absurd (hv0) c1)
    refine z_null (pc := 29) dX7_find_29 ?_
    rw [← hQx]
    refine z_aret (pc := 30) none rfl rfl (Or.inl ⟨_, rfl⟩) (by decide) dX7_find_30 (⟨none, rfl, rfl, rfl⟩)
  · refine z_il1 (pc := 0) dX7_find_0 ?_
    refine z_if_lt (pc := 1) 29 dX7_find_1 rfl (fun c1 => absurd c1 (hv0)) (fun c1 => ?_)
    refine z_il1 (pc := 4) dX7_find_4 ?_
    refine z_al0 (pc := 5) dX7_find_5 ?_
    refine z_get (pc := 6) 3 hO rfl iw_X7 (by decide) kw_121 rfl dX7_find_6 ?_
    refine z_callVr (pc := 9) (c_jSize l 0 (B 13 0) 29 n hl0) hm0 rfl rfl kw_153 zc_Jx4a65c_size_8abf5 (by decide) (by decide) rfl (Nat.le_of_ble_eq_true rfl) dX7_find_9 ?_
    refine z_icmp_ge (pc := 12) 29 dX7_find_12 rfl (fun c12 => ?_) (fun c12 => absurd (Int32.not_lt.mp (fun q => hv ⟨Int32.not_lt.mp hv0, q⟩)) c12)
    refine z_null (pc := 29) dX7_find_29 ?_
    rw [← hQx]
    refine z_aret (pc := 30) none rfl rfl (Or.inl ⟨_, rfl⟩) (by decide) dX7_find_30 (⟨none, rfl, rfl, rfl⟩)
abbrev rX7_isDay : Room := rmK 1 0 0 21
set_option maxRecDepth 100000 in
set_option maxHeartbeats 400000 in
theorem c_isDay (l : Launch) {κ : zK} {G : zH} {B : Nat → Nat → Nat} {n c d w : Nat} {ln kl ep : Nat → Nat} {fo nt : Int32} {ar : Nat → Nat → Int32} {rb : Nat → Int32} {kp kb : Nat → Nat → Int32} {iK sm ky : Nat → Int32} (q : Int32) (hR : RC κ G B n c d w ln fo nt ar rb kl ep kp kb iK sm ky) : Ct l yX7_isDay cX7_isDay 2 (some FieldType.boolean) rX7_isDay κ [.ref (B 0 0), .int q] G (zP (zb (0 ≤ q ∧ q ≤ nI w)) G) := by
  refine Ct.of (by decide +kernel) (fun v hv => by
    simp only [List.mem_cons, List.mem_nil_iff, or_false, List.not_mem_nil] at hv
    rcases hv with rfl | rfl <;> rfl) (Nat.le_of_ble_eq_true rfl) ?_
  intro p e s m args below meth cC
  refine z_L (L' := [some (.ref (B 0 0)), some (.int q)]) rfl ?_
  generalize hQx : MQ below (zQc κ _) args s _ _ (zA κ) = Qx
  obtain ⟨hO, hP, ⟨cols, key, f0, f1, f2, S, hA⟩, hLK, hl0, hl1, ⟨k2, es2, hl2⟩, hS, hCo, hPr⟩ := id hR
  refine z_il1 (pc := 0) dX7_isDay_0 ?_
  refine z_al0 (pc := 1) dX7_isDay_1 ?_
  refine z_get (pc := 2) 6 hO rfl iw_X7 (by decide) kw_124 rfl dX7_isDay_2 ?_
  refine z_callSr (pc := 5) (c_isWithin l q (nI w)) kw_160 zc_X7_isWithin (by decide) (by decide) rfl (Nat.le_of_ble_eq_true rfl) dX7_isDay_5 ?_
  rw [← hQx]
  refine z_zret (pc := 8) rfl zb_n (by decide) dX7_isDay_8 (⟨_, rfl, rfl, rfl⟩)
abbrev rX7_findTrue : Room := rmK 4 0 0 85
theorem iN_lt {v : Int32} {n : Nat} (h : 0 ≤ v ∧ v < nI n) (hn : n < 2 ^ 31) : iN v < n := by
  obtain ⟨j, rfl, hj⟩ := ix_in h.1 h.2 hn
  rwa [iN_nI (by omega)]
theorem nI_iN {v : Int32} {n : Nat} (h : 0 ≤ v ∧ v < nI n) (hn : n < 2 ^ 31) : nI (iN v) = v := by
  obtain ⟨j, rfl, hj⟩ := ix_in h.1 h.2 hn
  rw [iN_nI (by omega)]
set_option maxRecDepth 100000 in
set_option maxHeartbeats 400000 in
theorem c_ftY (l : Launch) {κ : zK} {G : zH} {B : Nat → Nat → Nat} {n c d w : Nat} {ln kl ep : Nat → Nat} {fo nt : Int32} {ar : Nat → Nat → Int32} {rb : Nat → Int32} {kp kb : Nat → Nat → Int32} {iK sm ky : Nat → Int32} (v q : Int32) (hR : RC κ G B n c d w ln fo nt ar rb kl ep kp kb iK sm ky) (hn : n ≤ 20) (hk : okA n w ar v q) : Ct l yX7_findTrue cX7_findTrue 4 (some (FieldType.object "TuneHouse$Sheet")) rX7_findTrue κ [.ref (B 0 0), .int v, .int q] G (zPq (some (B 15 (iN v))) G) := by
  refine Ct.of (by decide +kernel) (fun v hv => by
    simp only [List.mem_cons, List.mem_nil_iff, or_false, List.not_mem_nil] at hv
    rcases hv with rfl | rfl | rfl <;> rfl) (Nat.le_of_ble_eq_true rfl) ?_
  intro p e s m args below meth cC
  refine z_L (L' := [some (.ref (B 0 0)), some (.int v), some (.int q), none]) rfl ?_
  generalize hQx : MQ below (zQc κ _) args s _ _ (zA κ) = Qx
  obtain ⟨hO, hP, ⟨cols, key, f0, f1, f2, S, hA⟩, hLK, hl0, hl1, ⟨k2, es2, hl2⟩, hS, hCo, hPr⟩ := id hR
  obtain ⟨hs, hq, hf⟩ := hk
  have hlt_ := iN_lt hs (by omega)
  have hsh := (hS _ hlt_).1
  refine z_al0 (pc := 0) dX7_findTrue_0 ?_
  refine z_il1 (pc := 1) dX7_findTrue_1 ?_
  refine z_callVrq (pc := 2) (c_findY l v hR hn hs) hO rfl rfl kw_291 zc_X7_find (by decide) (by decide) rfl (Nat.le_of_ble_eq_true rfl) dX7_findTrue_2 ?_
  refine z_as3 (pc := 5) dX7_findTrue_5 (by decide) ?_
  refine z_al3 (pc := 6) dX7_findTrue_6 ?_
  refine z_ifnullR (pc := 7) dX7_findTrue_7 ?_
  refine z_al0 (pc := 10) dX7_findTrue_10 ?_
  refine z_il2 (pc := 11) dX7_findTrue_11 ?_
  refine z_callVr (pc := 12) (c_isDay l q hR) hO rfl rfl kw_433 zc_X7_isDay (by decide) (by decide) rfl (Nat.le_of_ble_eq_true rfl) dX7_findTrue_12 ?_
  refine z_ifz_eq (pc := 15) 26 dX7_findTrue_15 rfl (fun c15 => absurd (hq) c15) (fun c15 => ?_)
  refine z_al3 (pc := 18) dX7_findTrue_18 ?_
  refine z_il2 (pc := 19) dX7_findTrue_19 ?_
  refine z_callVr (pc := 20) (c_sForged l (iN v) q hsh) hsh rfl rfl kw_377 zc_X5_isForgedBy (by decide) (by decide) rfl (Nat.le_of_ble_eq_true rfl) dX7_findTrue_20 ?_
  refine z_ifz_eq (pc := 23) 30 dX7_findTrue_23 rfl (fun c23 => ?_) (fun c23 => absurd c23 (hf))
  refine z_al3 (pc := 30) dX7_findTrue_30 ?_
  rw [← hQx]
  refine z_aret (pc := 31) (some _) rfl rfl (Or.inl ⟨_, rfl⟩) (by decide) dX7_findTrue_31 (⟨some (B 15 (iN v)), rfl, rfl, rfl⟩)
set_option maxRecDepth 100000 in
set_option maxHeartbeats 400000 in
theorem c_ftN (l : Launch) {κ : zK} {G : zH} {B : Nat → Nat → Nat} {n c d w : Nat} {ln kl ep : Nat → Nat} {fo nt : Int32} {ar : Nat → Nat → Int32} {rb : Nat → Int32} {kp kb : Nat → Nat → Int32} {iK sm ky : Nat → Int32} (v q : Int32) (hR : RC κ G B n c d w ln fo nt ar rb kl ep kp kb iK sm ky) (hn : n ≤ 20) (hk : ¬ okA n w ar v q) : Ct l yX7_findTrue cX7_findTrue 4 (some (FieldType.object "TuneHouse$Sheet")) rX7_findTrue κ [.ref (B 0 0), .int v, .int q] G (zPq none G) := by
  refine Ct.of (by decide +kernel) (fun v hv => by
    simp only [List.mem_cons, List.mem_nil_iff, or_false, List.not_mem_nil] at hv
    rcases hv with rfl | rfl | rfl <;> rfl) (Nat.le_of_ble_eq_true rfl) ?_
  intro p e s m args below meth cC
  refine z_L (L' := [some (.ref (B 0 0)), some (.int v), some (.int q), none]) rfl ?_
  generalize hQx : MQ below (zQc κ _) args s _ _ (zA κ) = Qx
  obtain ⟨hO, hP, ⟨cols, key, f0, f1, f2, S, hA⟩, hLK, hl0, hl1, ⟨k2, es2, hl2⟩, hS, hCo, hPr⟩ := id hR
  by_cases hs : 0 ≤ v ∧ v < nI n
  · have hlt_ := iN_lt hs (by omega)
    have hsh := (hS _ hlt_).1
    by_cases hq : 0 ≤ q ∧ q ≤ nI w
    · refine z_al0 (pc := 0) dX7_findTrue_0 ?_
      refine z_il1 (pc := 1) dX7_findTrue_1 ?_
      refine z_callVrq (pc := 2) (c_findY l v hR hn hs) hO rfl rfl kw_291 zc_X7_find (by decide) (by decide) rfl (Nat.le_of_ble_eq_true rfl) dX7_findTrue_2 ?_
      refine z_as3 (pc := 5) dX7_findTrue_5 (by decide) ?_
      refine z_al3 (pc := 6) dX7_findTrue_6 ?_
      refine z_ifnullR (pc := 7) dX7_findTrue_7 ?_
      refine z_al0 (pc := 10) dX7_findTrue_10 ?_
      refine z_il2 (pc := 11) dX7_findTrue_11 ?_
      refine z_callVr (pc := 12) (c_isDay l q hR) hO rfl rfl kw_433 zc_X7_isDay (by decide) (by decide) rfl (Nat.le_of_ble_eq_true rfl) dX7_findTrue_12 ?_
      refine z_ifz_eq (pc := 15) 26 dX7_findTrue_15 rfl (fun c15 => absurd (hq) c15) (fun c15 => ?_)
      refine z_al3 (pc := 18) dX7_findTrue_18 ?_
      refine z_il2 (pc := 19) dX7_findTrue_19 ?_
      refine z_callVr (pc := 20) (c_sForged l (iN v) q hsh) hsh rfl rfl kw_377 zc_X5_isForgedBy (by decide) (by decide) rfl (Nat.le_of_ble_eq_true rfl) dX7_findTrue_20 ?_
      refine z_ifz_eq (pc := 23) 30 dX7_findTrue_23 rfl (fun c23 => absurd (Decidable.of_not_not (fun q2 => hk ⟨hs, hq, q2⟩)) c23) (fun c23 => ?_)
      refine z_null (pc := 26) dX7_findTrue_26 ?_
      refine z_goto (pc := 27) 31 dX7_findTrue_27 rfl ?_
      rw [← hQx]
      refine z_aret (pc := 31) none rfl rfl (Or.inl ⟨_, rfl⟩) (by decide) dX7_findTrue_31 (⟨none, rfl, rfl, rfl⟩)
    · refine z_al0 (pc := 0) dX7_findTrue_0 ?_
      refine z_il1 (pc := 1) dX7_findTrue_1 ?_
      refine z_callVrq (pc := 2) (c_findY l v hR hn hs) hO rfl rfl kw_291 zc_X7_find (by decide) (by decide) rfl (Nat.le_of_ble_eq_true rfl) dX7_findTrue_2 ?_
      refine z_as3 (pc := 5) dX7_findTrue_5 (by decide) ?_
      refine z_al3 (pc := 6) dX7_findTrue_6 ?_
      refine z_ifnullR (pc := 7) dX7_findTrue_7 ?_
      refine z_al0 (pc := 10) dX7_findTrue_10 ?_
      refine z_il2 (pc := 11) dX7_findTrue_11 ?_
      refine z_callVr (pc := 12) (c_isDay l q hR) hO rfl rfl kw_433 zc_X7_isDay (by decide) (by decide) rfl (Nat.le_of_ble_eq_true rfl) dX7_findTrue_12 ?_
      refine z_ifz_eq (pc := 15) 26 dX7_findTrue_15 rfl (fun c15 => ?_) (fun c15 => absurd c15 (hq))
      refine z_null (pc := 26) dX7_findTrue_26 ?_
      refine z_goto (pc := 27) 31 dX7_findTrue_27 rfl ?_
      rw [← hQx]
      refine z_aret (pc := 31) none rfl rfl (Or.inl ⟨_, rfl⟩) (by decide) dX7_findTrue_31 (⟨none, rfl, rfl, rfl⟩)
  · refine z_al0 (pc := 0) dX7_findTrue_0 ?_
    refine z_il1 (pc := 1) dX7_findTrue_1 ?_
    refine z_callVrq (pc := 2) (c_findN l v hR hs) hO rfl rfl kw_291 zc_X7_find (by decide) (by decide) rfl (Nat.le_of_ble_eq_true rfl) dX7_findTrue_2 ?_
    refine z_as3N (pc := 5) dX7_findTrue_5 (by decide) ?_
    refine z_al3N (pc := 6) dX7_findTrue_6 ?_
    refine z_ifnullN (pc := 7) 26 dX7_findTrue_7 rfl ?_
    refine z_null (pc := 26) dX7_findTrue_26 ?_
    refine z_goto (pc := 27) 31 dX7_findTrue_27 rfl ?_
    rw [← hQx]
    refine z_aret (pc := 31) none rfl rfl (Or.inl ⟨_, rfl⟩) (by decide) dX7_findTrue_31 (⟨none, rfl, rfl, rfl⟩)
abbrev rX7_days : Room := rmK 1 0 0 21
set_option maxRecDepth 100000 in
set_option maxHeartbeats 400000 in
theorem c_hDays (l : Launch) {κ : zK} {G : zH} {B : Nat → Nat → Nat} {n c d w : Nat} {ln kl ep : Nat → Nat} {fo nt : Int32} {ar : Nat → Nat → Int32} {rb : Nat → Int32} {kp kb : Nat → Nat → Int32} {iK sm ky : Nat → Int32} (m0 : Int32) (hR : RC κ G B n c d w ln fo nt ar rb kl ep kp kb iK sm ky) : Ct l yX7_days cX7_days 2 (some FieldType.int) rX7_days κ [.ref (B 0 0), .int m0] G (pI (fun r G2 => (okDay w m0 ∧ r = nI w + m0 ∧ G2 (B 0 0) = some ((2, 0, 0), .inr (8, [.ref (B 1 0), .ref (B 3 0), .ref (B 9 0), .ref (B 13 0), .ref (B 13 1), .ref (B 13 2), .int (nI w + m0), .int fo, .int nt, .int (nI c)])) ∧ zFP (fun r => r = (2, 0, 0)) G G2) ∨ (¬ okDay w m0 ∧ r = -1 ∧ G2 = G))) := by
  refine Ct.of (by decide +kernel) (fun v hv => by
    simp only [List.mem_cons, List.mem_nil_iff, or_false, List.not_mem_nil] at hv
    rcases hv with rfl | rfl <;> rfl) (Nat.le_of_ble_eq_true rfl) ?_
  intro p e s m args below meth cC
  refine z_L (L' := [some (.ref (B 0 0)), some (.int m0)]) rfl ?_
  generalize hQx : MQ below (zQc κ _) args s _ _ (zA κ) = Qx
  obtain ⟨hO, hP, ⟨cols, key, f0, f1, f2, S, hA⟩, hLK, hl0, hl1, ⟨k2, es2, hl2⟩, hS, hCo, hPr⟩ := id hR
  refine z_il1 (pc := 0) dX7_days_0 ?_
  refine z_sipush (pc := 1) (1000) (by decide) dX7_days_1 ?_
  refine z_callSr (pc := 4) (c_isWithin l m0 1000) kw_160 zc_X7_isWithin (by decide) (by decide) rfl (Nat.le_of_ble_eq_true rfl) dX7_days_4 ?_
  refine z_ifz_eq (pc := 7) 22 dX7_days_7 rfl (fun c7 => ?_) (fun c7 => ?_)
  · refine z_iconst (pc := 22) (-1) (by decide) dX7_days_22 ?_
    rw [← hQx]
    refine z_iret (pc := 23) rfl (by decide) dX7_days_23 (⟨_, rfl, Or.inr ⟨fun h => c7 h.1, rfl, rfl⟩⟩)
  · refine z_al0 (pc := 10) dX7_days_10 ?_
    refine z_get (pc := 11) 6 hO rfl iw_X7 (by decide) kw_124 rfl dX7_days_11 ?_
    refine z_il1 (pc := 14) dX7_days_14 ?_
    refine z_iadd (pc := 15) dX7_days_15 ?_
    refine z_sipush (pc := 16) (1000) (by decide) dX7_days_16 ?_
    refine z_icmp_le (pc := 19) 24 dX7_days_19 rfl (fun c19 => ?_) (fun c19 => ?_)
    · refine z_al0 (pc := 24) dX7_days_24 ?_
      refine z_dup (pc := 25) rfl dX7_days_25 ?_
      refine z_get (pc := 26) 6 hO rfl iw_X7 (by decide) kw_124 rfl dX7_days_26 ?_
      refine z_il1 (pc := 29) dX7_days_29 ?_
      refine z_iadd (pc := 30) dX7_days_30 ?_
      skip
      refine z_putg (pc := 31) 6 hO rfl iw_X7 tyX7 tyX7_ok nmX7 (by decide) kw_124 rfl rfl rfl rfl (Nat.le_of_ble_eq_true rfl) dX7_days_31 (fun G4 h4x hF4 => ?_)
      replace hO := h4x
      refine z_al0 (pc := 34) dX7_days_34 ?_
      refine z_get (pc := 35) 6 hO rfl iw_X7 (by decide) kw_124 rfl dX7_days_35 ?_
      rw [← hQx]
      refine z_iret (pc := 38) rfl (by decide) dX7_days_38 (⟨_, rfl, Or.inl ⟨⟨c7, c19⟩, rfl, h4x, hF4⟩⟩)
    · refine z_iconst (pc := 22) (-1) (by decide) dX7_days_22 ?_
      rw [← hQx]
      refine z_iret (pc := 23) rfl (by decide) dX7_days_23 (⟨_, rfl, Or.inr ⟨fun h => c19 h.2, rfl, rfl⟩⟩)
abbrev rX7_forge : Room := rmK 4 0 0 85
set_option maxRecDepth 100000 in
set_option maxHeartbeats 400000 in
theorem c_hForge (l : Launch) {κ : zK} {G : zH} {B : Nat → Nat → Nat} {n c d w : Nat} {ln kl ep : Nat → Nat} {fo nt : Int32} {ar : Nat → Nat → Int32} {rb : Nat → Int32} {kp kb : Nat → Nat → Int32} {iK sm ky : Nat → Int32} (s0 : Int32) (hR : RC κ G B n c d w ln fo nt ar rb kl ep kp kb iK sm ky) (hn : n ≤ 20) (hfo : ∀ i, i < n → ar 5 i = -1 ∨ (0 ≤ ar 5 i ∧ ar 5 i ≤ nI w)) : Ct l yX7_forge cX7_forge 3 (some FieldType.boolean) rX7_forge κ [.ref (B 0 0), .int s0] G (pI (fun r G2 => (okFor n ar s0 ∧ r = 1 ∧ zSH G2 (B 15 (iN s0)) (iN s0) (ar 1 (iN s0)) (ar 2 (iN s0)) (ar 3 (iN s0)) (B 16 (2 * iN s0)) (B 16 (2 * iN s0 + 1)) (B 13 (3 + iN s0)) (nI (cntS ar (iN s0) (ep (iN s0)))) (nI w) ∧ G2 (B 0 0) = some ((2, 0, 0), .inr (8, [.ref (B 1 0), .ref (B 3 0), .ref (B 9 0), .ref (B 13 0), .ref (B 13 1), .ref (B 13 2), .int (nI w), .int (fo + 1), .int (nt), .int (nI c)])) ∧ zFP (fun r => r = (2, 0, 0) ∨ r = (2, 15, iN s0)) G G2) ∨ (¬ okFor n ar s0 ∧ r = 0 ∧ G2 = G))) := by
  refine Ct.of (by decide +kernel) (fun v hv => by
    simp only [List.mem_cons, List.mem_nil_iff, or_false, List.not_mem_nil] at hv
    rcases hv with rfl | rfl <;> rfl) (Nat.le_of_ble_eq_true rfl) ?_
  intro p e s m args below meth cC
  refine z_L (L' := [some (.ref (B 0 0)), some (.int s0), none]) rfl ?_
  generalize hQx : MQ below (zQc κ _) args s _ _ (zA κ) = Qx
  obtain ⟨hO, hP, ⟨cols, key, f0, f1, f2, S, hA⟩, hLK, hl0, hl1, ⟨k2, es2, hl2⟩, hS, hCo, hPr⟩ := id hR
  by_cases hs : 0 ≤ s0 ∧ s0 < nI n
  · have hlt_ := iN_lt hs (by omega)
    have hsh := (hS _ hlt_).1
    by_cases hf : ar 5 (iN s0) = -1
    · refine z_al0 (pc := 0) dX7_forge_0 ?_
      refine z_il1 (pc := 1) dX7_forge_1 ?_
      refine z_callVrq (pc := 2) (c_findY l s0 hR hn hs) hO rfl rfl kw_291 zc_X7_find (by decide) (by decide) rfl (Nat.le_of_ble_eq_true rfl) dX7_forge_2 ?_
      refine z_as2 (pc := 5) dX7_forge_5 (by decide) ?_
      refine z_al2 (pc := 6) dX7_forge_6 ?_
      refine z_ifnullR (pc := 7) dX7_forge_7 ?_
      refine z_al2 (pc := 10) dX7_forge_10 ?_
      refine z_al0 (pc := 11) dX7_forge_11 ?_
      refine z_get (pc := 12) 6 hO rfl iw_X7 (by decide) kw_124 rfl dX7_forge_12 ?_
      refine z_callVr (pc := 15) (c_sForged l (iN s0) (nI w) hsh) hsh rfl rfl kw_377 zc_X5_isForgedBy (by decide) (by decide) rfl (Nat.le_of_ble_eq_true rfl) dX7_forge_15 ?_
      refine z_ifz_eq (pc := 18) 23 dX7_forge_18 rfl (fun c18 => ?_) (fun c18 => absurd c18 (fun h => h.1 hf))
      refine z_al2 (pc := 23) dX7_forge_23 ?_
      refine z_al0 (pc := 24) dX7_forge_24 ?_
      refine z_get (pc := 25) 6 hO rfl iw_X7 (by decide) kw_124 rfl dX7_forge_25 ?_
      refine z_callVv (pc := 28) _ (c_sMark l (iN s0) (nI w) hsh) rfl hsh rfl rfl kw_381 zc_X5_markForged (by decide) rfl (Nat.le_of_ble_eq_true rfl) dX7_forge_28 (fun G4 hv => ?_)
      replace hO := hv.2.1 _ _ _ (fun h => by cases h) hO
      replace hsh := hv.1
      refine z_al0 (pc := 31) dX7_forge_31 ?_
      refine z_dup (pc := 32) rfl dX7_forge_32 ?_
      refine z_get (pc := 33) 7 hO rfl iw_X7 (by decide) kw_125 rfl dX7_forge_33 ?_
      refine z_iconst (pc := 36) (1) (by decide) dX7_forge_36 ?_
      refine z_iadd (pc := 37) dX7_forge_37 ?_
      skip
      refine z_putg (pc := 38) 7 hO rfl iw_X7 tyX7 tyX7_ok nmX7 (by decide) kw_125 rfl rfl rfl rfl (Nat.le_of_ble_eq_true rfl) dX7_forge_38 (fun G5 h5x hF5 => ?_)
      refine z_iconst (pc := 41) (1) (by decide) dX7_forge_41 ?_
      rw [← hQx]
      refine z_zret (pc := 42) rfl rfl (by decide) dX7_forge_42 (⟨_, rfl, Or.inl ⟨⟨hs, hf⟩, rfl, hF5.1 _ _ _ (fun h => by cases h) hsh, h5x, (hv.2.mono (fun r h => Or.inr h)).trans (hF5.mono (fun r h => Or.inl h))⟩⟩)
    · refine z_al0 (pc := 0) dX7_forge_0 ?_
      refine z_il1 (pc := 1) dX7_forge_1 ?_
      refine z_callVrq (pc := 2) (c_findY l s0 hR hn hs) hO rfl rfl kw_291 zc_X7_find (by decide) (by decide) rfl (Nat.le_of_ble_eq_true rfl) dX7_forge_2 ?_
      refine z_as2 (pc := 5) dX7_forge_5 (by decide) ?_
      refine z_al2 (pc := 6) dX7_forge_6 ?_
      refine z_ifnullR (pc := 7) dX7_forge_7 ?_
      refine z_al2 (pc := 10) dX7_forge_10 ?_
      refine z_al0 (pc := 11) dX7_forge_11 ?_
      refine z_get (pc := 12) 6 hO rfl iw_X7 (by decide) kw_124 rfl dX7_forge_12 ?_
      refine z_callVr (pc := 15) (c_sForged l (iN s0) (nI w) hsh) hsh rfl rfl kw_377 zc_X5_isForgedBy (by decide) (by decide) rfl (Nat.le_of_ble_eq_true rfl) dX7_forge_15 ?_
      refine z_ifz_eq (pc := 18) 23 dX7_forge_18 rfl (fun c18 => absurd (⟨hf, ((hfo _ hlt_).resolve_left hf).2⟩) c18) (fun c18 => ?_)
      refine z_iconst (pc := 21) (0) (by decide) dX7_forge_21 ?_
      rw [← hQx]
      refine z_zret (pc := 22) rfl rfl (by decide) dX7_forge_22 (⟨_, rfl, Or.inr ⟨fun h => hf h.2, rfl, rfl⟩⟩)
  · refine z_al0 (pc := 0) dX7_forge_0 ?_
    refine z_il1 (pc := 1) dX7_forge_1 ?_
    refine z_callVrq (pc := 2) (c_findN l s0 hR hs) hO rfl rfl kw_291 zc_X7_find (by decide) (by decide) rfl (Nat.le_of_ble_eq_true rfl) dX7_forge_2 ?_
    refine z_as2N (pc := 5) dX7_forge_5 (by decide) ?_
    refine z_al2N (pc := 6) dX7_forge_6 ?_
    refine z_ifnullN (pc := 7) 21 dX7_forge_7 rfl ?_
    refine z_iconst (pc := 21) (0) (by decide) dX7_forge_21 ?_
    rw [← hQx]
    refine z_zret (pc := 22) rfl rfl (by decide) dX7_forge_22 (⟨_, rfl, Or.inr ⟨fun h => hs h.1, rfl, rfl⟩⟩)
abbrev rX7_price : Room := rmK 2 0 0 43
set_option maxRecDepth 100000 in
set_option maxHeartbeats 400000 in
theorem c_hPrice (l : Launch) {κ : zK} {G : zH} {B : Nat → Nat → Nat} {n c d w : Nat} {ln kl ep : Nat → Nat} {fo nt : Int32} {ar : Nat → Nat → Int32} {rb : Nat → Int32} {kp kb : Nat → Nat → Int32} {iK sm ky : Nat → Int32} (k0 v0 : Int32) (hR : RC κ G B n c d w ln fo nt ar rb kl ep kp kb iK sm ky) : Ct l yX7_price cX7_price 3 (some FieldType.boolean) rX7_price κ [.ref (B 0 0), .int k0, .int v0] G (pI (fun r G2 => (((0 ≤ k0 ∧ k0 ≤ 4) ∧ 0 ≤ v0 ∧ v0 ≤ zTops (iN k0)) ∧ r = 1 ∧ zPR κ G2 (B 1 0) (upd (ar 15) (iN k0) v0) ∧ (∃ iK2, zLK κ G2 (B 9 0) (B 3 0) (B 10 0) (B 11 0) (B 12 0) iK2 sm ky ∧ (∀ q, q < 400 → iK2 q = 0) ∧ zFP (fun r => r = (2, 2, 0) ∨ r = (2, 10, 0)) G G2)) ∨ (¬ ((0 ≤ k0 ∧ k0 ≤ 4) ∧ 0 ≤ v0 ∧ v0 ≤ zTops (iN k0)) ∧ r = 0 ∧ G2 = G))) := by
  refine Ct.of (by decide +kernel) (fun v hv => by
    simp only [List.mem_cons, List.mem_nil_iff, or_false, List.not_mem_nil] at hv
    rcases hv with rfl | rfl | rfl <;> rfl) (Nat.le_of_ble_eq_true rfl) ?_
  intro p e s m args below meth cC
  refine z_L (L' := [some (.ref (B 0 0)), some (.int k0), some (.int v0)]) rfl ?_
  generalize hQx : MQ below (zQc κ _) args s _ _ (zA κ) = Qx
  obtain ⟨hO, hP, ⟨cols, key, f0, f1, f2, S, hA⟩, hLK, hl0, hl1, ⟨k2, es2, hl2⟩, hS, hCo, hPr⟩ := id hR
  obtain ⟨qp, hP1, hP2⟩ := id hP
  refine z_al0 (pc := 0) dX7_price_0 ?_
  refine z_get (pc := 1) 0 hO rfl iw_X7 (by decide) kw_118 rfl dX7_price_1 ?_
  refine z_il1 (pc := 4) dX7_price_4 ?_
  refine z_il2 (pc := 5) dX7_price_5 ?_
  refine z_callVi (pc := 6) _ (c_pSet l k0 v0 hP) rfl hP1 rfl rfl kw_418 zc_X4_set (by decide) rfl (Nat.le_of_ble_eq_true rfl) dX7_price_6 (fun v G4 hv => ?_)
  rcases hv with ⟨hok, rfl, hP4, hF4⟩ | ⟨hok, rfl, rfl⟩
  · refine z_if_ne (pc := 9) 14 dX7_price_9 rfl (fun _ => ?_) (fun h => absurd h (by decide))
    refine z_al0 (pc := 14) dX7_price_14 ?_
    refine z_get (pc := 15) 2 (hF4.1 _ _ _ (fun h => by cases h) hO) rfl iw_X7 (by decide) kw_120 rfl dX7_price_15 ?_
    refine z_callVv (pc := 18) _ (c_kForgetAll l (hLK.keep hF4 (fun k h q => by cases q; omega))) rfl (hF4.1 _ _ _ (fun h => by cases h) hLK.1) rfl rfl kw_425 zc_X2_forgetAll (by decide) rfl (Nat.le_of_ble_eq_true rfl) dX7_price_18 (fun G5 hv => ?_)
    obtain ⟨iK2, hL5, hF5, hz5⟩ := hv
    refine z_iconst (pc := 21) (1) (by decide) dX7_price_21 ?_
    rw [← hQx]
    refine z_zret (pc := 22) rfl rfl (by decide) dX7_price_22 (⟨_, rfl, Or.inl ⟨hok, rfl, hP4.keep hF5 (fun h => by cases h) (fun h => by cases h), iK2, hL5, hz5, (hF4.mono (fun r h => Or.inl h)).trans (hF5.mono (fun r h => Or.inr h))⟩⟩)
  · refine z_if_ne (pc := 9) 14 dX7_price_9 rfl (fun h => absurd h (by decide)) (fun _ => ?_)
    refine z_iconst (pc := 12) (0) (by decide) dX7_price_12 ?_
    rw [← hQx]
    refine z_zret (pc := 13) rfl rfl (by decide) dX7_price_13 (⟨_, rfl, Or.inr ⟨hok, rfl, rfl⟩⟩)
abbrev rX7_note : Room := rmK 4 0 0 88
set_option maxRecDepth 100000 in
set_option maxHeartbeats 400000 in
theorem c_hNote (l : Launch) {κ : zK} {G : zH} {B : Nat → Nat → Nat} {n c d w : Nat} {ln kl ep : Nat → Nat} {fo nt : Int32} {ar : Nat → Nat → Int32} {rb : Nat → Int32} {kp kb : Nat → Nat → Int32} {iK sm ky : Nat → Int32} (s0 p0 b0 : Int32) (hR : RC κ G B n c d w ln fo nt ar rb kl ep kp kb iK sm ky) (hn : n ≤ 20) (hln : ∀ i, i < n → ln i ≤ 24) : Ct l yX7_note cX7_note 5 (some FieldType.int) rX7_note κ [.ref (B 0 0), .int s0, .int p0, .int b0] G (pI (fun r G2 => (okNote n ln s0 p0 b0 ∧ r = nI (ln (iN s0) + 1) ∧ G2 (B 0 0) = some ((2, 0, 0), .inr (8, [.ref (B 1 0), .ref (B 3 0), .ref (B 9 0), .ref (B 13 0), .ref (B 13 1), .ref (B 13 2), .int (nI w), .int (fo), .int (nt + 1), .int (nI c)])) ∧ ∃ tp tb, (∀ k, k < ln (iN s0) → tp k = ar 6 (24 * iN s0 + k) ∧ tb k = ar 7 (24 * iN s0 + k)) ∧ zTU κ G2 (B 16 (2 * iN s0 + 1)) (2 * iN s0 + 1) (ln (iN s0) + 1) (upd tp (ln (iN s0)) p0) (upd tb (ln (iN s0)) (if p0 = -1 then 0 else b0)) ∧ zFP (fun r => r = (2, 0, 0) ∨ isTU (2 * iN s0 + 1) r) G G2) ∨ (¬ okNote n ln s0 p0 b0 ∧ r = -1 ∧ G2 = G))) := by
  refine Ct.of (by decide +kernel) (fun v hv => by
    simp only [List.mem_cons, List.mem_nil_iff, or_false, List.not_mem_nil] at hv
    rcases hv with rfl | rfl | rfl | rfl <;> rfl) (Nat.le_of_ble_eq_true rfl) ?_
  intro p e s m args below meth cC
  refine z_L (L' := [some (.ref (B 0 0)), some (.int s0), some (.int p0), some (.int b0), none]) rfl ?_
  generalize hQx : MQ below (zQc κ _) args s _ _ (zA κ) = Qx
  obtain ⟨hO, hP, ⟨cols, key, f0, f1, f2, S, hA⟩, hLK, hl0, hl1, ⟨k2, es2, hl2⟩, hS, hCo, hPr⟩ := id hR
  by_cases hs : 0 ≤ s0 ∧ s0 < nI n
  · have hlt_ := iN_lt hs (by omega)
    have hsh := (hS _ hlt_).1
    obtain ⟨tp, tb, hd, htd⟩ := (hS _ hlt_).2.2.1
    by_cases hp : isNt p0 b0
    · skip
      refine z_al0 (pc := 0) dX7_note_0 ?_
      refine z_il1 (pc := 1) dX7_note_1 ?_
      refine z_callVrq (pc := 2) (c_findY l s0 hR hn hs) hO rfl rfl kw_291 zc_X7_find (by decide) (by decide) rfl (Nat.le_of_ble_eq_true rfl) dX7_note_2 ?_
      refine z_as4 (pc := 5) dX7_note_5 (by decide) ?_
      refine z_al4 (pc := 7) dX7_note_7 ?_
      refine z_ifnullR (pc := 9) dX7_note_9 ?_
      refine z_il2 (pc := 12) dX7_note_12 ?_
      refine z_il3 (pc := 13) dX7_note_13 ?_
      refine z_callSr (pc := 14) (c_isNote l p0 b0) kw_309 zc_X7_isNote (by decide) (by decide) rfl (Nat.le_of_ble_eq_true rfl) dX7_note_14 ?_
      refine z_ifz_eq (pc := 17) 30 dX7_note_17 rfl (fun c17 => absurd (hp) c17) (fun c17 => ?_)
      refine z_al4 (pc := 20) dX7_note_20 ?_
      refine z_il2 (pc := 22) dX7_note_22 ?_
      refine z_il3 (pc := 23) dX7_note_23 ?_
      refine z_callVi (pc := 24) _ (c_sAppend l (iN s0) (ln (iN s0)) p0 b0 hsh hd) rfl hsh rfl rfl kw_312 zc_X5_append (by decide) rfl (Nat.le_of_ble_eq_true rfl) dX7_note_24 (fun v G4 hv => ?_)
      rcases hv with ⟨hlt, rfl, hd4, hF4⟩ | ⟨hlt, rfl, rfl⟩
      · refine z_if_ne (pc := 27) 32 dX7_note_27 rfl (fun _ => ?_) (fun h => absurd h (by decide))
        refine z_al0 (pc := 32) dX7_note_32 ?_
        refine z_dup (pc := 33) rfl dX7_note_33 ?_
        refine z_get (pc := 34) 8 (hF4.1 _ _ _ (fun h => by rcases h with h | h | h <;> cases h) hO) rfl iw_X7 (by decide) kw_126 rfl dX7_note_34 ?_
        refine z_iconst (pc := 37) (1) (by decide) dX7_note_37 ?_
        refine z_iadd (pc := 38) dX7_note_38 ?_
        skip
        refine z_putg (pc := 39) 8 (hF4.1 _ _ _ (fun h => by rcases h with h | h | h <;> cases h) hO) rfl iw_X7 tyX7 tyX7_ok nmX7 (by decide) kw_126 rfl rfl rfl rfl (Nat.le_of_ble_eq_true rfl) dX7_note_39 (fun G5 h5x hF5 => ?_)
        refine z_al4 (pc := 42) dX7_note_42 ?_
        refine z_callVr (pc := 44) (c_sLen l (iN s0) (ln (iN s0) + 1) (hF5.1 _ _ _ (fun h => by cases h) (hF4.1 _ _ _ (fun h => by rcases h with h | h | h <;> cases h) hsh)) (hd4.keep hF5 (fun r h q => by rcases h with rfl | rfl | rfl <;> cases q))) (hF5.1 _ _ _ (fun h => by cases h) (hF4.1 _ _ _ (fun h => by rcases h with h | h | h <;> cases h) hsh)) rfl rfl kw_328 zc_X5_length (by decide) (by decide) rfl (Nat.le_of_ble_eq_true rfl) dX7_note_44 ?_
        rw [← hQx]
        refine z_iret (pc := 47) rfl (by decide) dX7_note_47 (⟨_, rfl, Or.inl ⟨⟨hs, hp, by omega⟩, rfl, h5x, tp, tb, htd, hd4.keep hF5 (fun r h q => by rcases h with rfl | rfl | rfl <;> cases q), (hF4.mono (fun r h => Or.inr h)).trans (hF5.mono (fun r h => Or.inl h))⟩⟩)
      · refine z_if_ne (pc := 27) 32 dX7_note_27 rfl (fun h => absurd h (by decide)) (fun _ => ?_)
        refine z_iconst (pc := 30) (-1) (by decide) dX7_note_30 ?_
        rw [← hQx]
        refine z_iret (pc := 31) rfl (by decide) dX7_note_31 (⟨_, rfl, Or.inr ⟨fun h => by have := hln _ hlt_; have := h.2.2; omega, rfl, rfl⟩⟩)
    · refine z_al0 (pc := 0) dX7_note_0 ?_
      refine z_il1 (pc := 1) dX7_note_1 ?_
      refine z_callVrq (pc := 2) (c_findY l s0 hR hn hs) hO rfl rfl kw_291 zc_X7_find (by decide) (by decide) rfl (Nat.le_of_ble_eq_true rfl) dX7_note_2 ?_
      refine z_as4 (pc := 5) dX7_note_5 (by decide) ?_
      refine z_al4 (pc := 7) dX7_note_7 ?_
      refine z_ifnullR (pc := 9) dX7_note_9 ?_
      refine z_il2 (pc := 12) dX7_note_12 ?_
      refine z_il3 (pc := 13) dX7_note_13 ?_
      refine z_callSr (pc := 14) (c_isNote l p0 b0) kw_309 zc_X7_isNote (by decide) (by decide) rfl (Nat.le_of_ble_eq_true rfl) dX7_note_14 ?_
      refine z_ifz_eq (pc := 17) 30 dX7_note_17 rfl (fun c17 => ?_) (fun c17 => absurd c17 (hp))
      refine z_iconst (pc := 30) (-1) (by decide) dX7_note_30 ?_
      rw [← hQx]
      refine z_iret (pc := 31) rfl (by decide) dX7_note_31 (⟨_, rfl, Or.inr ⟨fun h => hp h.2.1, rfl, rfl⟩⟩)
  · refine z_al0 (pc := 0) dX7_note_0 ?_
    refine z_il1 (pc := 1) dX7_note_1 ?_
    refine z_callVrq (pc := 2) (c_findN l s0 hR hs) hO rfl rfl kw_291 zc_X7_find (by decide) (by decide) rfl (Nat.le_of_ble_eq_true rfl) dX7_note_2 ?_
    refine z_as4N (pc := 5) dX7_note_5 (by decide) ?_
    refine z_al4N (pc := 7) dX7_note_7 ?_
    refine z_ifnullN (pc := 9) 30 dX7_note_9 rfl ?_
    refine z_iconst (pc := 30) (-1) (by decide) dX7_note_30 ?_
    rw [← hQx]
    refine z_iret (pc := 31) rfl (by decide) dX7_note_31 (⟨_, rfl, Or.inr ⟨fun h => hs h.1, rfl, rfl⟩⟩)
