/-! constructors -/
set_option maxRecDepth 100000 in
set_option maxHeartbeats 400000 in
theorem c_tInit (l : Launch) {κ : zK} {G : zH} {t : Nat} (j : Nat) (ht : G t = some ((2, 16, j), .inr (7, [.null, .null, .int 0]))) : Ct l yX6_init cX6_init 1 none (rmK 1 2 48 20) κ [.ref t] G (pV (fun G2 => zTU κ G2 t j 0 (fun _ => 0) (fun _ => 0) ∧ zFP (isTU j) G G2)) := by
  refine Ct.of (by decide +kernel) (fun v hv => by
    simp only [List.mem_cons, List.mem_nil_iff, or_false, List.not_mem_nil] at hv
    rcases hv with rfl <;> rfl) (Nat.le_of_ble_eq_true rfl) ?_
  intro p e s m args below meth cC
  refine z_L (L' := [some (.ref t)]) rfl ?_
  generalize hQx : MQ below (zQc κ _) args s _ _ (zA κ) = Qx
  refine z_al0 (pc := 0) dX6_init_0 ?_
  refine z_objInit (pc := 1) kw_177 kw_29 kw_30 (Nat.le_of_ble_eq_true rfl |> fun h => ⟨h, Nat.le_of_ble_eq_true rfl⟩) dX6_init_1 ?_
  refine z_al0 (pc := 4) dX6_init_4 ?_
  refine z_bipush (pc := 5) (24) (by decide) dX6_init_5 ?_
  refine z_newag (pc := 7) (atype := .int) (ty := .int) (2, 17, j) 24 (24, .inl (fun _ => 0)) 0 kw_41 rfl rfl (fun C h => by cases h) (fun cA => rfl) rfl ⟨Nat.le_of_ble_eq_true rfl, Nat.le_of_ble_eq_true rfl⟩ ⟨Nat.le_of_ble_eq_true rfl, Nat.le_of_ble_eq_true rfl⟩ dX6_init_7 (fun q4 G4 hn4 _ hq4 hF4 => ?_)
  skip
  refine z_putFg (pc := 9) 0 (hF4.1 _ _ _ (fun h => h) ht) rfl iw_X6 tyX6 tyX6_ok nmX6 (by decide) kw_178 rfl rfl rfl rfl rfl rfl (Nat.le_of_ble_eq_true rfl) dX6_init_9 (fun G5 h5x hF5 => ?_)
  refine z_al0 (pc := 12) dX6_init_12 ?_
  refine z_bipush (pc := 13) (24) (by decide) dX6_init_13 ?_
  refine z_newag (pc := 15) (atype := .int) (ty := .int) (2, 18, j) 24 (24, .inl (fun _ => 0)) 0 kw_41 rfl rfl (fun C h => by cases h) (fun cA => rfl) rfl ⟨Nat.le_of_ble_eq_true rfl, Nat.le_of_ble_eq_true rfl⟩ ⟨Nat.le_of_ble_eq_true rfl, Nat.le_of_ble_eq_true rfl⟩ dX6_init_15 (fun q6 G6 hn6 _ hq6 hF6 => ?_)
  skip
  refine z_putFg (pc := 17) 1 (hF6.1 _ _ _ (fun h => h) h5x) rfl iw_X6 tyX6 tyX6_ok nmX6 (by decide) kw_180 rfl rfl rfl rfl rfl rfl (Nat.le_of_ble_eq_true rfl) dX6_init_17 (fun G7 h7x hF7 => ?_)
  rw [← hQx]
  refine z_vret (pc := 20) rfl ⟨Nat.le_of_ble_eq_true rfl, Nat.le_of_ble_eq_true rfl⟩ dX6_init_20 (⟨rfl, ⟨q4, q6, h7x, hF7.1 _ _ _ (fun h => by cases h) (hF6.1 _ _ _ (fun h => h) (hF5.1 _ _ _ (fun h => by cases h) hq4)), hF7.1 _ _ _ (fun h => by cases h) hq6, Nat.zero_le _⟩, ((hF4.mono (fun r h => h.elim)).trans (hF5.mono (fun r h => Or.inl h))).trans ((hF6.mono (fun r h => h.elim)).trans (hF7.mono (fun r h => Or.inl h)))⟩)
set_option maxRecDepth 100000 in
set_option maxHeartbeats 400000 in
theorem c_pInit (l : Launch) {κ : zK} {G : zH} {x : Nat} (ht : G x = some ((2, 1, 0), .inr (5, [.null]))) : Ct l yX4_init cX4_init 1 none (rmK 1 1 5 20) κ [.ref x] G (pV (fun G2 => zPR κ G2 x (upd (upd (upd (upd (upd (fun _ => 0) 0 2) 1 8) 2 1) 3 5) 4 30) ∧ zFP (fun r => r = (2, 1, 0) ∨ r = (2, 2, 0)) G G2)) := by
  refine Ct.of (by decide +kernel) (fun v hv => by
    simp only [List.mem_cons, List.mem_nil_iff, or_false, List.not_mem_nil] at hv
    rcases hv with rfl <;> rfl) (Nat.le_of_ble_eq_true rfl) ?_
  intro p e s m args below meth cC
  refine z_L (L' := [some (.ref x)]) rfl ?_
  generalize hQx : MQ below (zQc κ _) args s _ _ (zA κ) = Qx
  refine z_al0 (pc := 0) dX4_init_0 ?_
  refine z_objInit (pc := 1) kw_36 kw_29 kw_30 (Nat.le_of_ble_eq_true rfl |> fun h => ⟨h, Nat.le_of_ble_eq_true rfl⟩) dX4_init_1 ?_
  refine z_al0 (pc := 4) dX4_init_4 ?_
  refine z_iconst (pc := 5) (5) (by decide) dX4_init_5 ?_
  refine z_newag (pc := 6) (atype := .int) (ty := .int) (2, 2, 0) 5 (5, .inl (fun _ => 0)) 0 kw_41 rfl rfl (fun C h => by cases h) (fun cA => rfl) rfl ⟨Nat.le_of_ble_eq_true rfl, Nat.le_of_ble_eq_true rfl⟩ ⟨Nat.le_of_ble_eq_true rfl, Nat.le_of_ble_eq_true rfl⟩ dX4_init_6 (fun q4 G4 hn4 _ hq4 hF4 => ?_)
  refine z_dup (pc := 8) rfl dX4_init_8 ?_
  refine z_iconst (pc := 9) (0) (by decide) dX4_init_9 ?_
  refine z_iconst (pc := 10) (2) (by decide) dX4_init_10 ?_
  refine z_iastg (pc := 11) 0 hq4 rfl (by omega) (by omega) dX4_init_11 (fun G5 hq5 hF5 => ?_)
  refine z_dup (pc := 12) rfl dX4_init_12 ?_
  refine z_iconst (pc := 13) (1) (by decide) dX4_init_13 ?_
  refine z_bipush (pc := 14) (8) (by decide) dX4_init_14 ?_
  refine z_iastg (pc := 16) 1 hq5 rfl (by omega) (by omega) dX4_init_16 (fun G6 hq6 hF6 => ?_)
  refine z_dup (pc := 17) rfl dX4_init_17 ?_
  refine z_iconst (pc := 18) (2) (by decide) dX4_init_18 ?_
  refine z_iconst (pc := 19) (1) (by decide) dX4_init_19 ?_
  refine z_iastg (pc := 20) 2 hq6 rfl (by omega) (by omega) dX4_init_20 (fun G7 hq7 hF7 => ?_)
  refine z_dup (pc := 21) rfl dX4_init_21 ?_
  refine z_iconst (pc := 22) (3) (by decide) dX4_init_22 ?_
  refine z_iconst (pc := 23) (5) (by decide) dX4_init_23 ?_
  refine z_iastg (pc := 24) 3 hq7 rfl (by omega) (by omega) dX4_init_24 (fun G8 hq8 hF8 => ?_)
  refine z_dup (pc := 25) rfl dX4_init_25 ?_
  refine z_iconst (pc := 26) (4) (by decide) dX4_init_26 ?_
  refine z_bipush (pc := 27) (30) (by decide) dX4_init_27 ?_
  refine z_iastg (pc := 29) 4 hq8 rfl (by omega) (by omega) dX4_init_29 (fun G9 hq9 hF9 => ?_)
  have ht9 := hF9.1 _ _ _ (fun h => by cases h) (hF8.1 _ _ _ (fun h => by cases h) (hF7.1 _ _ _ (fun h => by cases h) (hF6.1 _ _ _ (fun h => by cases h) (hF5.1 _ _ _ (fun h => by cases h) (hF4.1 _ _ _ (fun h => h) ht)))))
  refine z_putFg (pc := 30) 0 ht9 rfl iw_X4 tyX4 tyX4_ok nmX4 (by decide) kw_37 rfl rfl rfl rfl rfl rfl (Nat.le_of_ble_eq_true rfl) dX4_init_30 (fun G10 h10x hF10 => ?_)
  rw [← hQx]
  refine z_vret (pc := 33) rfl ⟨Nat.le_of_ble_eq_true rfl, Nat.le_of_ble_eq_true rfl⟩ dX4_init_33 (⟨rfl, ⟨q4, h10x, hF10.1 _ _ _ (fun h => by cases h) hq9⟩, ((hF4.mono (fun r h => h.elim)).trans (((hF5.trans hF6).trans (hF7.trans (hF8.trans hF9))).mono (fun r h => Or.inr h))).trans (hF10.mono (fun r h => Or.inl h))⟩)
set_option maxRecDepth 100000 in
set_option maxHeartbeats 400000 in
theorem c_kInit (l : Launch) {κ : zK} {G : zH} {lk : Nat} (al : Nat) (ht : G lk = some ((2, 9, 0), .inr (3, [.null, .null, .null, .null]))) : Ct l yX2_init cX2_init 2 none (rmK 1 3 1200 20) κ [.ref lk, .ref al] G (pV (fun G2 => ∃ b c d, zLK κ G2 lk al b c d (fun _ => 0) (fun _ => 0) (fun _ => 0) ∧ zFP (fun r => r = (2, 9, 0)) G G2)) := by
  refine Ct.of (by decide +kernel) (fun v hv => by
    simp only [List.mem_cons, List.mem_nil_iff, or_false, List.not_mem_nil] at hv
    rcases hv with rfl | rfl <;> rfl) (Nat.le_of_ble_eq_true rfl) ?_
  intro p e s m args below meth cC
  refine z_L (L' := [some (.ref lk), some (.ref al)]) rfl ?_
  generalize hQx : MQ below (zQc κ _) args s _ _ (zA κ) = Qx
  refine z_al0 (pc := 0) dX2_init_0 ?_
  refine z_objInit (pc := 1) kw_77 kw_29 kw_30 (Nat.le_of_ble_eq_true rfl |> fun h => ⟨h, Nat.le_of_ble_eq_true rfl⟩) dX2_init_1 ?_
  refine z_al0 (pc := 4) dX2_init_4 ?_
  refine z_sipush (pc := 5) (400) (by decide) dX2_init_5 ?_
  refine z_newag (pc := 8) (atype := .boolean) (ty := .boolean) (2, 10, 0) 400 (400, .inl (fun _ => 0)) 1 kw_91 rfl rfl (fun C h => by cases h) (fun cA => rfl) rfl ⟨Nat.le_of_ble_eq_true rfl, Nat.le_of_ble_eq_true rfl⟩ ⟨Nat.le_of_ble_eq_true rfl, Nat.le_of_ble_eq_true rfl⟩ dX2_init_8 (fun q4 G4 hn4 _ hq4 hF4 => ?_)
  skip
  refine z_putFg (pc := 10) 1 (hF4.1 _ _ _ (fun h => h) ht) rfl iw_X2 tyX2 tyX2_ok nmX2 (by decide) kw_79 rfl rfl rfl rfl rfl rfl (Nat.le_of_ble_eq_true rfl) dX2_init_10 (fun G5 h5x hF5 => ?_)
  refine z_al0 (pc := 13) dX2_init_13 ?_
  refine z_sipush (pc := 14) (400) (by decide) dX2_init_14 ?_
  refine z_newag (pc := 17) (atype := .int) (ty := .int) (2, 11, 0) 400 (400, .inl (fun _ => 0)) 0 kw_41 rfl rfl (fun C h => by cases h) (fun cA => rfl) rfl ⟨Nat.le_of_ble_eq_true rfl, Nat.le_of_ble_eq_true rfl⟩ ⟨Nat.le_of_ble_eq_true rfl, Nat.le_of_ble_eq_true rfl⟩ dX2_init_17 (fun q6 G6 hn6 _ hq6 hF6 => ?_)
  skip
  refine z_putFg (pc := 19) 2 (hF6.1 _ _ _ (fun h => h) h5x) rfl iw_X2 tyX2 tyX2_ok nmX2 (by decide) kw_80 rfl rfl rfl rfl rfl rfl (Nat.le_of_ble_eq_true rfl) dX2_init_19 (fun G7 h7x hF7 => ?_)
  refine z_al0 (pc := 22) dX2_init_22 ?_
  refine z_sipush (pc := 23) (400) (by decide) dX2_init_23 ?_
  refine z_newag (pc := 26) (atype := .int) (ty := .int) (2, 12, 0) 400 (400, .inl (fun _ => 0)) 0 kw_41 rfl rfl (fun C h => by cases h) (fun cA => rfl) rfl ⟨Nat.le_of_ble_eq_true rfl, Nat.le_of_ble_eq_true rfl⟩ ⟨Nat.le_of_ble_eq_true rfl, Nat.le_of_ble_eq_true rfl⟩ dX2_init_26 (fun q8 G8 hn8 _ hq8 hF8 => ?_)
  skip
  refine z_putFg (pc := 28) 3 (hF8.1 _ _ _ (fun h => h) h7x) rfl iw_X2 tyX2 tyX2_ok nmX2 (by decide) kw_81 rfl rfl rfl rfl rfl rfl (Nat.le_of_ble_eq_true rfl) dX2_init_28 (fun G9 h9x hF9 => ?_)
  refine z_al0 (pc := 31) dX2_init_31 ?_
  refine z_al1 (pc := 32) dX2_init_32 ?_
  have hd9 := hF9.1 _ _ _ (fun h => by cases h) hq8
  have hc9 := hF9.1 _ _ _ (fun h => by cases h) (hF8.1 _ _ _ (fun h => h) (hF7.1 _ _ _ (fun h => by cases h) hq6))
  have hb9 := hF9.1 _ _ _ (fun h => by cases h) (hF8.1 _ _ _ (fun h => h) (hF7.1 _ _ _ (fun h => by cases h) (hF6.1 _ _ _ (fun h => h) (hF5.1 _ _ _ (fun h => by cases h) hq4))))
  refine z_putFg (pc := 33) 0 h9x rfl iw_X2 tyX2 tyX2_ok nmX2 (by decide) kw_78 rfl rfl rfl rfl rfl rfl (Nat.le_of_ble_eq_true rfl) dX2_init_33 (fun G10 h10x hF10 => ?_)
  rw [← hQx]
  refine z_vret (pc := 36) rfl ⟨Nat.le_of_ble_eq_true rfl, Nat.le_of_ble_eq_true rfl⟩ dX2_init_36 (⟨rfl, q4, q6, q8, ⟨h10x, hF10.1 _ _ _ (fun h => by cases h) hb9, hF10.1 _ _ _ (fun h => by cases h) hc9, hF10.1 _ _ _ (fun h => by cases h) hd9⟩, (((hF4.mono (fun r h => h.elim)).trans hF5).trans ((hF6.mono (fun r h => h.elim)).trans hF7)).trans (((hF8.mono (fun r h => h.elim)).trans hF9).trans hF10)⟩)
