abbrev rX8_isIn : Room := rmK 0 0 0 0
set_option maxRecDepth 100000 in
set_option maxHeartbeats 400000 in
/-- isIn -/
theorem c_mIsIn (l : Launch) {κ : zK} {G : zH} (v a b : Int32)  : Ct l yX8_isIn cX8_isIn 3 (some FieldType.boolean) rX8_isIn κ [.int v, .int a, .int b] G (zP (zb (a ≤ v ∧ v ≤ b)) G) := by
  refine Ct.of (by decide +kernel) (fun v hv => by
    simp only [List.mem_cons, List.mem_nil_iff, or_false, List.not_mem_nil] at hv
    rcases hv with rfl | rfl | rfl <;> rfl) (Nat.le_of_ble_eq_true rfl) ?_
  intro p e s m args below meth cC
  refine z_L (L' := [some (.int v), some (.int a), some (.int b)]) rfl ?_
  generalize hQx : MQ below (zQc κ _) args s _ _ (zA κ) = Qx
  refine z_il0 (pc := 0) dX8_isIn_0 ?_
  refine z_il1 (pc := 1) dX8_isIn_1 ?_
  refine z_icmp_lt (pc := 2) 14 dX8_isIn_2 rfl (fun c2 => ?_) (fun c2 => ?_)
  · refine z_iconst (pc := 14) (0) (by decide) dX8_isIn_14 ?_
    rw [← hQx]
    refine z_zret (pc := 15) rfl rfl (by decide) dX8_isIn_15 (⟨_, rfl, (zb_f (by simp only [i_lt, i_le, i_0] at *; omega)).symm, rfl⟩)
  · refine z_il0 (pc := 5) dX8_isIn_5 ?_
    refine z_il2 (pc := 6) dX8_isIn_6 ?_
    refine z_icmp_gt (pc := 7) 14 dX8_isIn_7 rfl (fun c7 => ?_) (fun c7 => ?_)
    · refine z_iconst (pc := 14) (0) (by decide) dX8_isIn_14 ?_
      rw [← hQx]
      refine z_zret (pc := 15) rfl rfl (by decide) dX8_isIn_15 (⟨_, rfl, (zb_f (by simp only [i_lt, i_le, i_0] at *; omega)).symm, rfl⟩)
    · refine z_iconst (pc := 10) (1) (by decide) dX8_isIn_10 ?_
      refine z_goto (pc := 11) 15 dX8_isIn_11 rfl ?_
      rw [← hQx]
      refine z_zret (pc := 15) rfl rfl (by decide) dX8_isIn_15 (⟨_, rfl, (zb_t (by simp only [i_lt, i_le, i_0] at *; omega)).symm, rfl⟩)
abbrev rX8_isSheet : Room := rmK 0 0 0 0
set_option maxRecDepth 100000 in
set_option maxHeartbeats 400000 in
theorem c_mIsSheet (l : Launch) {κ : zK} {G : zH} {x : Nat} {ad : Nat → Nat} {sc : Nat → Int32} {ar : Nat → Nat → Int32} (v : Int32) (hM : RM κ G x ad sc ar) : Ct l yX8_isSheet cX8_isSheet 2 (some FieldType.boolean) rX8_isSheet κ [.ref x, .int v] G (zP (zb (0 ≤ v ∧ v < sc 16)) G) := by
  refine Ct.of (by decide +kernel) (fun v hv => by
    simp only [List.mem_cons, List.mem_nil_iff, or_false, List.not_mem_nil] at hv
    rcases hv with rfl | rfl <;> rfl) (Nat.le_of_ble_eq_true rfl) ?_
  intro p e s m args below meth cC
  refine z_L (L' := [some (.ref x), some (.int v)]) rfl ?_
  generalize hQx : MQ below (zQc κ _) args s _ _ (zA κ) = Qx
  refine z_il1 (pc := 0) dX8_isSheet_0 ?_
  refine z_if_lt (pc := 1) 16 dX8_isSheet_1 rfl (fun c1 => ?_) (fun c1 => ?_)
  · refine z_iconst (pc := 16) (0) (by decide) dX8_isSheet_16 ?_
    rw [← hQx]
    refine z_zret (pc := 17) rfl rfl (by decide) dX8_isSheet_17 (⟨_, rfl, (zb_f (by simp only [i_lt, i_le, i_0] at *; omega)).symm, rfl⟩)
  · refine z_il1 (pc := 4) dX8_isSheet_4 ?_
    refine z_al0 (pc := 5) dX8_isSheet_5 ?_
    refine z_mg16 (pc := 6) hM rfl dX8_isSheet_6 ?_
    refine z_icmp_ge (pc := 9) 16 dX8_isSheet_9 rfl (fun c9 => ?_) (fun c9 => ?_)
    · refine z_iconst (pc := 16) (0) (by decide) dX8_isSheet_16 ?_
      rw [← hQx]
      refine z_zret (pc := 17) rfl rfl (by decide) dX8_isSheet_17 (⟨_, rfl, (zb_f (by simp only [i_lt, i_le, i_0] at *; omega)).symm, rfl⟩)
    · refine z_iconst (pc := 12) (1) (by decide) dX8_isSheet_12 ?_
      refine z_goto (pc := 13) 17 dX8_isSheet_13 rfl ?_
      rw [← hQx]
      refine z_zret (pc := 17) rfl rfl (by decide) dX8_isSheet_17 (⟨_, rfl, (zb_t (by simp only [i_lt, i_le, i_0] at *; omega)).symm, rfl⟩)
abbrev rX8_isDay : Room := rmK 1 0 0 22
set_option maxRecDepth 100000 in
set_option maxHeartbeats 400000 in
theorem c_mIsDay (l : Launch) {κ : zK} {G : zH} {x : Nat} {ad : Nat → Nat} {sc : Nat → Int32} {ar : Nat → Nat → Int32} (v : Int32) (hM : RM κ G x ad sc ar) : Ct l yX8_isDay cX8_isDay 2 (some FieldType.boolean) rX8_isDay κ [.ref x, .int v] G (zP (zb (0 ≤ v ∧ v ≤ sc 19)) G) := by
  refine Ct.of (by decide +kernel) (fun v hv => by
    simp only [List.mem_cons, List.mem_nil_iff, or_false, List.not_mem_nil] at hv
    rcases hv with rfl | rfl <;> rfl) (Nat.le_of_ble_eq_true rfl) ?_
  intro p e s m args below meth cC
  refine z_L (L' := [some (.ref x), some (.int v)]) rfl ?_
  generalize hQx : MQ below (zQc κ _) args s _ _ (zA κ) = Qx
  refine z_il1 (pc := 0) dX8_isDay_0 ?_
  refine z_iconst (pc := 1) (0) (by decide) dX8_isDay_1 ?_
  refine z_al0 (pc := 2) dX8_isDay_2 ?_
  refine z_mg19 (pc := 3) hM rfl dX8_isDay_3 ?_
  refine z_callSr (pc := 6) (c_mIsIn l v 0 (sc 19)) kw_837 zc_X8_isIn (by decide) (by decide) rfl (Nat.le_of_ble_eq_true rfl) dX8_isDay_6 ?_
  rw [← hQx]
  refine z_zret (pc := 9) rfl zb_n (by decide) dX8_isDay_9 (⟨_, rfl, rfl, rfl⟩)
abbrev rX8_thrown : Room := rmK 0 0 0 0
set_option maxRecDepth 100000 in
set_option maxHeartbeats 400000 in
theorem c_mThrown (l : Launch) {κ : zK} {G : zH} {x : Nat} {ad : Nat → Nat} {sc : Nat → Int32} {ar : Nat → Nat → Int32} (hM : RM κ G x ad sc ar) : Ct l yX8_thrown cX8_thrown 1 (some FieldType.int) rX8_thrown κ [.ref x] G (zP (sc 0) G) := by
  refine Ct.of (by decide +kernel) (fun v hv => by
    simp only [List.mem_cons, List.mem_nil_iff, or_false, List.not_mem_nil] at hv
    rcases hv with rfl <;> rfl) (Nat.le_of_ble_eq_true rfl) ?_
  intro p e s m args below meth cC
  refine z_L (L' := [some (.ref x)]) rfl ?_
  generalize hQx : MQ below (zQc κ _) args s _ _ (zA κ) = Qx
  refine z_al0 (pc := 0) dX8_thrown_0 ?_
  refine z_mg0 (pc := 1) hM rfl dX8_thrown_1 ?_
  rw [← hQx]
  refine z_iret (pc := 4) rfl (by decide) dX8_thrown_4 (⟨_, rfl, rfl, rfl⟩)
