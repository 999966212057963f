/-! constructors -/
set_option maxRecDepth 100000 in
set_option maxHeartbeats 400000 in
theorem c_tInit (l : Launch) {κ : zK} {G : zH} {t : Nat} (j : Nat) (ht : G t = some ((2, 16, j), .inr (7, [.null, .null, .int 0]))) : Ct l yX6_init cX6_init 1 none (rmK 1 2 48 20) κ [.ref t] G (pV (fun G2 => zTU κ G2 t j 0 (fun _ => 0) (fun _ => 0) ∧ zFP (isTU j) G G2)) := by
  refine Ct.of (by decide +kernel) (fun v hv => by
    simp only [List.mem_cons, List.mem_nil_iff, or_false, List.not_mem_nil] at hv
    rcases hv with rfl <;> rfl) (Nat.le_of_ble_eq_true rfl) ?_
  intro p e s m args below meth cC
  refine z_L (L' := [some (.ref t)]) rfl ?_
  generalize hQx : MQ below (zQc κ _) args s _ _ (zA κ) = Qx
  refine z_al0 (pc := 0) dX6_init_0 ?_
  refine z_objInit (pc := 1) kw_177 kw_29 kw_30 (Nat.le_of_ble_eq_true rfl |> fun h => ⟨h, Nat.le_of_ble_eq_true rfl⟩) dX6_init_1 ?_
  refine z_al0 (pc := 4) dX6_init_4 ?_
  refine z_bipush (pc := 5) (24) (by decide) dX6_init_5 ?_
  refine z_newag (pc := 7) (atype := .int) (ty := .int) (2, 17, j) 24 (24, .inl (fun _ => 0)) 0 kw_41 rfl rfl (fun C h => by cases h) (fun cA => rfl) rfl ⟨Nat.le_of_ble_eq_true rfl, Nat.le_of_ble_eq_true rfl⟩ ⟨Nat.le_of_ble_eq_true rfl, Nat.le_of_ble_eq_true rfl⟩ dX6_init_7 (fun q4 G4 hn4 _ hq4 hF4 => ?_)
  skip
  refine z_putFg (pc := 9) 0 (hF4.1 _ _ _ (fun h => h) ht) rfl iw_X6 tyX6 tyX6_ok nmX6 (by decide) kw_178 rfl rfl rfl rfl rfl rfl (Nat.le_of_ble_eq_true rfl) dX6_init_9 (fun G5 h5x hF5 => ?_)
  refine z_al0 (pc := 12) dX6_init_12 ?_
  refine z_bipush (pc := 13) (24) (by decide) dX6_init_13 ?_
  refine z_newag (pc := 15) (atype := .int) (ty := .int) (2, 18, j) 24 (24, .inl (fun _ => 0)) 0 kw_41 rfl rfl (fun C h => by cases h) (fun cA => rfl) rfl ⟨Nat.le_of_ble_eq_true rfl, Nat.le_of_ble_eq_true rfl⟩ ⟨Nat.le_of_ble_eq_true rfl, Nat.le_of_ble_eq_true rfl⟩ dX6_init_15 (fun q6 G6 hn6 _ hq6 hF6 => ?_)
  skip
  refine z_putFg (pc := 17) 1 (hF6.1 _ _ _ (fun h => h) h5x) rfl iw_X6 tyX6 tyX6_ok nmX6 (by decide) kw_180 rfl rfl rfl rfl rfl rfl (Nat.le_of_ble_eq_true rfl) dX6_init_17 (fun G7 h7x hF7 => ?_)
  rw [← hQx]
  refine z_vret (pc := 20) rfl ⟨Nat.le_of_ble_eq_true rfl, Nat.le_of_ble_eq_true rfl⟩ dX6_init_20 (⟨rfl, ⟨q4, q6, h7x, hF7.1 _ _ _ (fun h => by cases h) (hF6.1 _ _ _ (fun h => h) (hF5.1 _ _ _ (fun h => by cases h) hq4)), hF7.1 _ _ _ (fun h => by cases h) hq6, Nat.zero_le _⟩, ((hF4.mono (fun r h => h.elim)).trans (hF5.mono (fun r h => Or.inl h))).trans ((hF6.mono (fun r h => h.elim)).trans (hF7.mono (fun r h => Or.inl h)))⟩)
