/-! the constructors of sheets and of the house -/
abbrev shNew (i : Nat) (r : zR) : Prop := isTU (2 * i) r ∨ isTU (2 * i + 1) r ∨ r = (2, 15, i) ∨ r = (2, 13, 3 + i) ∨ r = (2, 14, 3 + i)
set_option maxRecDepth 100000 in
set_option maxHeartbeats 400000 in
theorem c_sInit (l : Launch) {κ : zK} {G : zH} {t : Nat} (i : Nat) (v1 v2 v3 v4 : Int32) (es : Nat → Nat) (ht : G t = some ((2, 15, i), .inr (6, [.int 0, .int 0, .int 0, .int 0, .null, .null, .null, .int 0, .int 0]))) : Ct l yX5_init cX5_init 5 none (rmK 4 7 105 80) κ [.ref t, .int v1, .int v2, .int v3, .int v4] G (pV (fun G2 => ∃ kt tt am, G2 t = some ((2, 15, i), .inr (6, [.int v1, .int v2, .int v3, .int v4, .ref kt, .ref tt, .ref am, .int 0, .int (-1)])) ∧ zTU κ G2 kt (2 * i) 0 (fun _ => 0) (fun _ => 0) ∧ zTU κ G2 tt (2 * i + 1) 0 (fun _ => 0) (fun _ => 0) ∧ zLs κ G2 (3 + i) am 299 0 es ∧ zFP (shNew i) G G2)) := by
  refine Ct.of (by decide +kernel) (fun v hv => by
    simp only [List.mem_cons, List.mem_nil_iff, or_false, List.not_mem_nil] at hv
    rcases hv with rfl | rfl | rfl | rfl | rfl <;> rfl) (Nat.le_of_ble_eq_true rfl) ?_
  intro p e s m args below meth cC
  refine z_L (L' := [some (.ref t), some (.int v1), some (.int v2), some (.int v3), some (.int v4)]) rfl ?_
  generalize hQx : MQ below (zQc κ _) args s _ _ (zA κ) = Qx
  refine z_al0 (pc := 0) dX5_init_0 ?_
  refine z_objInit (pc := 1) kw_171 kw_29 kw_30 (Nat.le_of_ble_eq_true rfl |> fun h => ⟨h, Nat.le_of_ble_eq_true rfl⟩) dX5_init_1 ?_
  refine z_al0 (pc := 4) dX5_init_4 ?_
  refine z_newg (pc := 5) (ci := 7) (2, 16, 2 * i) [.null, .null, .int 0] rfl iw_X6 tyX6 tyX6_ok kw_172 kw_173 kw_10 (fun j hj => by rcases j with _ | _ | _ | j <;> first | rfl | omega) ⟨Nat.le_of_ble_eq_true rfl, Nat.le_of_ble_eq_true rfl⟩ dX5_init_5 (fun q4 G4 hn4 _ hq4 hF4 => ?_)
  refine z_dup (pc := 8) rfl dX5_init_8 ?_
  refine z_callINv (pc := 9) _ (c_tInit l (2 * i) hq4) rfl kn_174 zc_X6_init ⟨Nat.le_of_ble_eq_true rfl, Nat.le_of_ble_eq_true rfl, Nat.le_of_ble_eq_true rfl, Nat.le_of_ble_eq_true rfl⟩ rfl (Nat.le_of_ble_eq_true rfl) dX5_init_9 (fun G5 hv => ?_)
  obtain ⟨hT5, hF5⟩ := hv
  skip
  refine z_putFg (pc := 12) 4 (hF5.1 _ _ _ (fun h => by rcases h with h | h | h <;> cases h) (hF4.1 _ _ _ (fun h => h) ht)) rfl iw_X5 tyX5 tyX5_ok nmX5 (by decide) kw_203 rfl rfl rfl rfl rfl rfl (Nat.le_of_ble_eq_true rfl) dX5_init_12 (fun G6 h6x hF6 => ?_)
  refine z_al0 (pc := 15) dX5_init_15 ?_
  refine z_newg (pc := 16) (ci := 7) (2, 16, 2 * i + 1) [.null, .null, .int 0] rfl iw_X6 tyX6 tyX6_ok kw_172 kw_173 kw_10 (fun j hj => by rcases j with _ | _ | _ | j <;> first | rfl | omega) ⟨Nat.le_of_ble_eq_true rfl, Nat.le_of_ble_eq_true rfl⟩ dX5_init_16 (fun q7 G7 hn7 _ hq7 hF7 => ?_)
  refine z_dup (pc := 19) rfl dX5_init_19 ?_
  refine z_callINv (pc := 20) _ (c_tInit l (2 * i + 1) hq7) rfl kn_174 zc_X6_init ⟨Nat.le_of_ble_eq_true rfl, Nat.le_of_ble_eq_true rfl, Nat.le_of_ble_eq_true rfl, Nat.le_of_ble_eq_true rfl⟩ rfl (Nat.le_of_ble_eq_true rfl) dX5_init_20 (fun G8 hv => ?_)
  obtain ⟨hT8, hF8⟩ := hv
  skip
  refine z_putFg (pc := 23) 5 (hF8.1 _ _ _ (fun h => by rcases h with h | h | h <;> cases h) (hF7.1 _ _ _ (fun h => h) h6x)) rfl iw_X5 tyX5 tyX5_ok nmX5 (by decide) kw_206 rfl rfl rfl rfl rfl rfl (Nat.le_of_ble_eq_true rfl) dX5_init_23 (fun G9 h9x hF9 => ?_)
  refine z_al0 (pc := 26) dX5_init_26 ?_
  refine z_newg (pc := 27) (ci := 0) (2, 13, 3 + i) [.int 0, .null, .int 0] rfl iw_J tyJx4a65c tyJx4a65c_ok kw_191 kw_93 kw_7 (fun j hj => by rcases j with _ | _ | _ | j <;> first | rfl | omega) ⟨Nat.le_of_ble_eq_true rfl, Nat.le_of_ble_eq_true rfl⟩ dX5_init_27 (fun q10 G10 hn10 _ hq10 hF10 => ?_)
  refine z_dup (pc := 30) rfl dX5_init_30 ?_
  refine z_callIv (pc := 31) _ (c_jInit l (3 + i) q10 299 es hq10) rfl kw_192 zc_Jx4a65c_init_da8c8 ⟨Nat.le_of_ble_eq_true rfl, Nat.le_of_ble_eq_true rfl, Nat.le_of_ble_eq_true rfl, Nat.le_of_ble_eq_true rfl⟩ rfl (Nat.le_of_ble_eq_true rfl) dX5_init_31 (fun G11 hv => ?_)
  obtain ⟨hL11, hF11⟩ := hv
  skip
  refine z_putFg (pc := 34) 6 (hF11.1 _ _ _ (fun h => by rcases h with h | h <;> cases h) (hF10.1 _ _ _ (fun h => h) h9x)) rfl iw_X5 tyX5 tyX5_ok nmX5 (by decide) kw_207 rfl rfl rfl rfl rfl rfl (Nat.le_of_ble_eq_true rfl) dX5_init_34 (fun G12 h12x hF12 => ?_)
  refine z_al0 (pc := 37) dX5_init_37 ?_
  refine z_iconst (pc := 38) (-1) (by decide) dX5_init_38 ?_
  skip
  refine z_putg (pc := 39) 8 h12x rfl iw_X5 tyX5 tyX5_ok nmX5 (by decide) kw_209 rfl rfl rfl rfl (Nat.le_of_ble_eq_true rfl) dX5_init_39 (fun G13 h13x hF13 => ?_)
  refine z_al0 (pc := 42) dX5_init_42 ?_
  refine z_il1 (pc := 43) dX5_init_43 ?_
  skip
  refine z_putFg (pc := 44) 0 h13x rfl iw_X5 tyX5 tyX5_ok nmX5 (by decide) kw_193 rfl rfl rfl rfl rfl rfl (Nat.le_of_ble_eq_true rfl) dX5_init_44 (fun G14 h14x hF14 => ?_)
  refine z_al0 (pc := 47) dX5_init_47 ?_
  refine z_il2 (pc := 48) dX5_init_48 ?_
  skip
  refine z_putFg (pc := 49) 1 h14x rfl iw_X5 tyX5 tyX5_ok nmX5 (by decide) kw_196 rfl rfl rfl rfl rfl rfl (Nat.le_of_ble_eq_true rfl) dX5_init_49 (fun G15 h15x hF15 => ?_)
  refine z_al0 (pc := 52) dX5_init_52 ?_
  refine z_il3 (pc := 53) dX5_init_53 ?_
  skip
  refine z_putFg (pc := 54) 2 h15x rfl iw_X5 tyX5 tyX5_ok nmX5 (by decide) kw_199 rfl rfl rfl rfl rfl rfl (Nat.le_of_ble_eq_true rfl) dX5_init_54 (fun G16 h16x hF16 => ?_)
  refine z_al0 (pc := 57) dX5_init_57 ?_
  refine z_il4 (pc := 58) dX5_init_58 ?_
  skip
  refine z_putFg (pc := 60) 3 h16x rfl iw_X5 tyX5 tyX5_ok nmX5 (by decide) kw_201 rfl rfl rfl rfl rfl rfl (Nat.le_of_ble_eq_true rfl) dX5_init_60 (fun G17 h17x hF17 => ?_)
  rw [← hQx]
  have hC : zFP (fun r => r = (2, 15, i)) G11 G17 := ((hF12.trans hF13).trans (hF14.trans hF15)).trans (hF16.trans hF17)
  have hC2 : zFP (fun r => r = (2, 15, i) ∨ r = (2, 13, 3 + i) ∨ r = (2, 14, 3 + i)) G9 G17 := ((hF10.mono (fun r h => h.elim)).trans (hF11.mono (fun r h => Or.inr h))).trans (hC.mono (fun r h => Or.inl h))
  have hB : zFP (fun r => r = (2, 15, i) ∨ r = (2, 13, 3 + i) ∨ r = (2, 14, 3 + i)) G8 G17 := (hF9.mono (fun r h => Or.inl h)).trans hC2
  have hB2 : zFP (fun r => isTU (2 * i + 1) r ∨ r = (2, 15, i) ∨ r = (2, 13, 3 + i) ∨ r = (2, 14, 3 + i)) G6 G17 := ((hF7.mono (fun r h => h.elim)).trans (hF8.mono (fun r h => Or.inl h))).trans (hB.mono (fun r h => Or.inr h))
  have hA : zFP (fun r => isTU (2 * i + 1) r ∨ r = (2, 15, i) ∨ r = (2, 13, 3 + i) ∨ r = (2, 14, 3 + i)) G5 G17 := (hF6.mono (fun r h => Or.inr (Or.inl h))).trans hB2
  have hALL : zFP (shNew i) G G17 := ((hF4.mono (fun r h => h.elim)).trans (hF5.mono (fun r h => Or.inl h))).trans (hA.mono (fun r h => Or.inr h))
  refine z_vret (pc := 63) rfl ⟨Nat.le_of_ble_eq_true rfl, Nat.le_of_ble_eq_true rfl⟩ dX5_init_63 (⟨rfl, q4, q7, q10, h17x, hT5.keep hA (fun r h q => by rcases h with rfl | rfl | rfl <;> rcases q with (q | q | q) | q | q | q <;> (injection q with q1 q2; injection q2 with q3 q4; omega)), hT8.keep hB (fun r h q => by rcases h with rfl | rfl | rfl <;> rcases q with q | q | q <;> (injection q with q1 q2; injection q2 with q3 q4; omega)), hL11.keep hC (fun h => by cases h) (fun h => by cases h), hALL⟩)
abbrev isL12 (r : zR) : Prop := (r = (2, 13, 1) ∨ r = (2, 14, 1)) ∨ (r = (2, 13, 2) ∨ r = (2, 14, 2))
set_option maxRecDepth 100000 in
set_option maxHeartbeats 400000 in
theorem c_hInit (l : Launch) {κ : zK} {G : zH} {t : Nat} (es0 es1 : Nat → Nat) (ht : G t = some ((2, 0, 0), .inr (8, [.null, .null, .null, .null, .null, .null, .int 0, .int 0, .int 0, .int 0]))) : Ct l yX7_init cX7_init 1 none (rmK 4 46 2031 80) κ [.ref t] G (pV (fun G2 => ∃ pr al lk lb lc ld l0 l1 l2, G2 t = some ((2, 0, 0), .inr (8, [.ref pr, .ref al, .ref lk, .ref l0, .ref l1, .ref l2, .int 0, .int 0, .int 0, .int 0])) ∧ zPR κ G2 pr (upd (upd (upd (upd (upd (fun _ => 0) 0 2) 1 8) 2 1) 3 5) 4 30) ∧ zAL κ G2 al pr 0 0 (fun _ => 0) (fun _ => 0) (fun _ => 0) (fun _ _ => 0) ∧ zLK κ G2 lk al lb lc ld (fun _ => 0) (fun _ => 0) (fun _ => 0) ∧ zLs κ G2 0 l0 29 0 es0 ∧ zLs κ G2 1 l1 89 0 es1 ∧ zLs κ G2 2 l2 29 0 es0)) := by
  refine Ct.of (by decide +kernel) (fun v hv => by
    simp only [List.mem_cons, List.mem_nil_iff, or_false, List.not_mem_nil] at hv
    rcases hv with rfl <;> rfl) (Nat.le_of_ble_eq_true rfl) ?_
  intro p e s m args below meth cC
  refine z_L (L' := [some (.ref t)]) rfl ?_
  generalize hQx : MQ below (zQc κ _) args s _ _ (zA κ) = Qx
  refine z_al0 (pc := 0) dX7_init_0 ?_
  refine z_objInit (pc := 1) kw_28 kw_29 kw_30 (Nat.le_of_ble_eq_true rfl |> fun h => ⟨h, Nat.le_of_ble_eq_true rfl⟩) dX7_init_1 ?_
  refine z_al0 (pc := 4) dX7_init_4 ?_
  refine z_newg (pc := 5) (ci := 5) (2, 1, 0) [.null] rfl iw_X4 tyX4 tyX4_ok kw_31 kw_32 kw_2 (fun j hj => by rcases j with _ | j <;> first | rfl | omega) ⟨Nat.le_of_ble_eq_true rfl, Nat.le_of_ble_eq_true rfl⟩ dX7_init_5 (fun q4 G4 hn4 _ hq4 hF4 => ?_)
  refine z_dup (pc := 8) rfl dX7_init_8 ?_
  refine z_callINv (pc := 9) _ (c_pInit l hq4) rfl kn_33 zc_X4_init ⟨Nat.le_of_ble_eq_true rfl, Nat.le_of_ble_eq_true rfl, Nat.le_of_ble_eq_true rfl, Nat.le_of_ble_eq_true rfl⟩ rfl (Nat.le_of_ble_eq_true rfl) dX7_init_9 (fun G5 hv => ?_)
  obtain ⟨hP5, hF5⟩ := hv
  skip
  refine z_putFg (pc := 12) 0 (hF5.1 _ _ _ (fun h => by rcases h with h | h <;> cases h) (hF4.1 _ _ _ (fun h => h) ht)) rfl iw_X7 tyX7 tyX7_ok nmX7 (by decide) kw_118 rfl rfl rfl rfl rfl rfl (Nat.le_of_ble_eq_true rfl) dX7_init_12 (fun G6 h6x hF6 => ?_)
  refine z_al0 (pc := 15) dX7_init_15 ?_
  refine z_newg (pc := 16) (ci := 1) (2, 3, 0) [.null, .null, .null, .null, .null, .int 0, .int 0] rfl iw_X0 tyX0 tyX0_ok kw_42 kw_43 kw_3 (fun j hj => by rcases j with _ | _ | _ | _ | _ | _ | _ | j <;> first | rfl | omega) ⟨Nat.le_of_ble_eq_true rfl, Nat.le_of_ble_eq_true rfl⟩ dX7_init_16 (fun q7 G7 hn7 _ hq7 hF7 => ?_)
  refine z_dup (pc := 19) rfl dX7_init_19 ?_
  refine z_al0 (pc := 20) dX7_init_20 ?_
  refine z_get (pc := 21) 0 (hF7.1 _ _ _ (fun h => h) h6x) rfl iw_X7 (by decide) kw_118 rfl dX7_init_21 ?_
  refine z_callIv (pc := 24) _ (c_aInit l q4 hq7) rfl kw_44 zc_X0_init ⟨Nat.le_of_ble_eq_true rfl, Nat.le_of_ble_eq_true rfl, Nat.le_of_ble_eq_true rfl, Nat.le_of_ble_eq_true rfl⟩ rfl (Nat.le_of_ble_eq_true rfl) dX7_init_24 (fun G8 hv => ?_)
  obtain ⟨hA8, hF8⟩ := hv
  skip
  refine z_putFg (pc := 27) 1 (hF8.1 _ _ _ (fun h => by cases h) (hF7.1 _ _ _ (fun h => h) h6x)) rfl iw_X7 tyX7 tyX7_ok nmX7 (by decide) kw_119 rfl rfl rfl rfl rfl rfl (Nat.le_of_ble_eq_true rfl) dX7_init_27 (fun G9 h9x hF9 => ?_)
  refine z_al0 (pc := 30) dX7_init_30 ?_
  refine z_newg (pc := 31) (ci := 3) (2, 9, 0) [.null, .null, .null, .null] rfl iw_X2 tyX2 tyX2_ok kw_72 kw_73 kw_4 (fun j hj => by rcases j with _ | _ | _ | _ | j <;> first | rfl | omega) ⟨Nat.le_of_ble_eq_true rfl, Nat.le_of_ble_eq_true rfl⟩ dX7_init_31 (fun q10 G10 hn10 _ hq10 hF10 => ?_)
  refine z_dup (pc := 34) rfl dX7_init_34 ?_
  refine z_al0 (pc := 35) dX7_init_35 ?_
  refine z_get (pc := 36) 1 (hF10.1 _ _ _ (fun h => h) h9x) rfl iw_X7 (by decide) kw_119 rfl dX7_init_36 ?_
  refine z_callIv (pc := 39) _ (c_kInit l q7 hq10) rfl kw_74 zc_X2_init ⟨Nat.le_of_ble_eq_true rfl, Nat.le_of_ble_eq_true rfl, Nat.le_of_ble_eq_true rfl, Nat.le_of_ble_eq_true rfl⟩ rfl (Nat.le_of_ble_eq_true rfl) dX7_init_39 (fun G11 hv => ?_)
  obtain ⟨lb, lc, ld, hK11, hF11⟩ := hv
  skip
  refine z_putFg (pc := 42) 2 (hF11.1 _ _ _ (fun h => by cases h) (hF10.1 _ _ _ (fun h => h) h9x)) rfl iw_X7 tyX7 tyX7_ok nmX7 (by decide) kw_120 rfl rfl rfl rfl rfl rfl (Nat.le_of_ble_eq_true rfl) dX7_init_42 (fun G12 h12x hF12 => ?_)
  refine z_al0 (pc := 45) dX7_init_45 ?_
  refine z_newg (pc := 46) (ci := 0) (2, 13, 0) [.int 0, .null, .int 0] rfl iw_J tyJx4a65c tyJx4a65c_ok kw_92 kw_93 kw_7 (fun j hj => by rcases j with _ | _ | _ | j <;> first | rfl | omega) ⟨Nat.le_of_ble_eq_true rfl, Nat.le_of_ble_eq_true rfl⟩ dX7_init_46 (fun q13 G13 hn13 _ hq13 hF13 => ?_)
  refine z_dup (pc := 49) rfl dX7_init_49 ?_
  refine z_callIv (pc := 50) _ (c_jInit l 0 q13 29 es0 hq13) rfl kw_94 zc_Jx4a65c_init_da8c8 ⟨Nat.le_of_ble_eq_true rfl, Nat.le_of_ble_eq_true rfl, Nat.le_of_ble_eq_true rfl, Nat.le_of_ble_eq_true rfl⟩ rfl (Nat.le_of_ble_eq_true rfl) dX7_init_50 (fun G14 hv => ?_)
  obtain ⟨hL14, hF14⟩ := hv
  skip
  refine z_putFg (pc := 53) 3 (hF14.1 _ _ _ (fun h => by rcases h with h | h <;> cases h) (hF13.1 _ _ _ (fun h => h) h12x)) rfl iw_X7 tyX7 tyX7_ok nmX7 (by decide) kw_121 rfl rfl rfl rfl rfl rfl (Nat.le_of_ble_eq_true rfl) dX7_init_53 (fun G15 h15x hF15 => ?_)
  refine z_al0 (pc := 56) dX7_init_56 ?_
  refine z_newg (pc := 57) (ci := 0) (2, 13, 1) [.int 0, .null, .int 0] rfl iw_J tyJx4a65c tyJx4a65c_ok kw_92 kw_93 kw_7 (fun j hj => by rcases j with _ | _ | _ | j <;> first | rfl | omega) ⟨Nat.le_of_ble_eq_true rfl, Nat.le_of_ble_eq_true rfl⟩ dX7_init_57 (fun q16 G16 hn16 _ hq16 hF16 => ?_)
  refine z_dup (pc := 60) rfl dX7_init_60 ?_
  refine z_callIv (pc := 61) _ (c_jInit l 1 q16 89 es1 hq16) rfl kw_94 zc_Jx4a65c_init_da8c8 ⟨Nat.le_of_ble_eq_true rfl, Nat.le_of_ble_eq_true rfl, Nat.le_of_ble_eq_true rfl, Nat.le_of_ble_eq_true rfl⟩ rfl (Nat.le_of_ble_eq_true rfl) dX7_init_61 (fun G17 hv => ?_)
  obtain ⟨hL17, hF17⟩ := hv
  skip
  refine z_putFg (pc := 64) 4 (hF17.1 _ _ _ (fun h => by rcases h with h | h <;> cases h) (hF16.1 _ _ _ (fun h => h) h15x)) rfl iw_X7 tyX7 tyX7_ok nmX7 (by decide) kw_122 rfl rfl rfl rfl rfl rfl (Nat.le_of_ble_eq_true rfl) dX7_init_64 (fun G18 h18x hF18 => ?_)
  refine z_al0 (pc := 67) dX7_init_67 ?_
  refine z_newg (pc := 68) (ci := 0) (2, 13, 2) [.int 0, .null, .int 0] rfl iw_J tyJx4a65c tyJx4a65c_ok kw_92 kw_93 kw_7 (fun j hj => by rcases j with _ | _ | _ | j <;> first | rfl | omega) ⟨Nat.le_of_ble_eq_true rfl, Nat.le_of_ble_eq_true rfl⟩ dX7_init_68 (fun q19 G19 hn19 _ hq19 hF19 => ?_)
  refine z_dup (pc := 71) rfl dX7_init_71 ?_
  refine z_callIv (pc := 72) _ (c_jInit l 2 q19 29 es0 hq19) rfl kw_94 zc_Jx4a65c_init_da8c8 ⟨Nat.le_of_ble_eq_true rfl, Nat.le_of_ble_eq_true rfl, Nat.le_of_ble_eq_true rfl, Nat.le_of_ble_eq_true rfl⟩ rfl (Nat.le_of_ble_eq_true rfl) dX7_init_72 (fun G20 hv => ?_)
  obtain ⟨hL20, hF20⟩ := hv
  skip
  refine z_putFg (pc := 75) 5 (hF20.1 _ _ _ (fun h => by rcases h with h | h <;> cases h) (hF19.1 _ _ _ (fun h => h) h18x)) rfl iw_X7 tyX7 tyX7_ok nmX7 (by decide) kw_123 rfl rfl rfl rfl rfl rfl (Nat.le_of_ble_eq_true rfl) dX7_init_75 (fun G21 h21x hF21 => ?_)
  refine z_al0 (pc := 78) dX7_init_78 ?_
  refine z_iconst (pc := 79) (0) (by decide) dX7_init_79 ?_
  skip
  refine z_putg (pc := 80) 6 h21x rfl iw_X7 tyX7 tyX7_ok nmX7 (by decide) kw_124 rfl rfl rfl rfl (Nat.le_of_ble_eq_true rfl) dX7_init_80 (fun G22 h22x hF22 => ?_)
  rw [← hQx]
  have hG : zFP (fun r => r = (2, 0, 0)) G20 G22 := hF21.trans hF22
  have hE : zFP (fun r => r = (2, 0, 0) ∨ r = (2, 13, 2) ∨ r = (2, 14, 2)) G17 G22 := ((hF18.mono (fun r h => Or.inl h)).trans (hF19.mono (fun r h => h.elim))).trans ((hF20.mono (fun r h => Or.inr h)).trans (hG.mono (fun r h => Or.inl h)))
  have hD : zFP (fun r => r = (2, 0, 0) ∨ isL12 r) G14 G22 := ((hF15.mono (fun r h => Or.inl h)).trans (hF16.mono (fun r h => h.elim))).trans ((hF17.mono (fun r h => Or.inr (Or.inl h))).trans (hE.mono (fun r h => h.imp id (fun q => Or.inr q))))
  have hC : zFP (fun r => r = (2, 0, 0) ∨ (r = (2, 13, 0) ∨ r = (2, 14, 0)) ∨ isL12 r) G11 G22 := ((hF12.mono (fun r h => Or.inl h)).trans (hF13.mono (fun r h => h.elim))).trans ((hF14.mono (fun r h => Or.inr (Or.inl h))).trans (hD.mono (fun r h => h.imp id Or.inr)))
  have hB : zFP (fun r => r = (2, 9, 0) ∨ r = (2, 0, 0) ∨ (r = (2, 13, 0) ∨ r = (2, 14, 0)) ∨ isL12 r) G8 G22 := ((hF9.mono (fun r h => Or.inr (Or.inl h))).trans (hF10.mono (fun r h => h.elim))).trans ((hF11.mono (fun r h => Or.inl h)).trans (hC.mono (fun r h => Or.inr h)))
  have hA : zFP (fun r => r = (2, 3, 0) ∨ r = (2, 9, 0) ∨ r = (2, 0, 0) ∨ (r = (2, 13, 0) ∨ r = (2, 14, 0)) ∨ isL12 r) G5 G22 := ((hF6.mono (fun r h => Or.inr (Or.inr (Or.inl h)))).trans (hF7.mono (fun r h => h.elim))).trans ((hF8.mono (fun r h => Or.inl h)).trans (hB.mono (fun r h => Or.inr h)))
  refine z_vret (pc := 83) rfl ⟨Nat.le_of_ble_eq_true rfl, Nat.le_of_ble_eq_true rfl⟩ dX7_init_83 (⟨rfl, q4, q7, q10, lb, lc, ld, q13, q16, q19, h22x, hP5.keep hA (fun h => by rcases h with h | h | h | (h | h) | (h | h) | h | h <;> cases h) (fun h => by rcases h with h | h | h | (h | h) | (h | h) | h | h <;> cases h), hA8.keep hB (fun k j hk h => by rcases h with h | h | (h | h) | (h | h) | h | h <;> (injection h with h1 h2; injection h2 with h3 h4; omega)), hK11.keep hC (fun k hk h => by rcases h with h | (h | h) | (h | h) | h | h <;> (injection h with h1 h2; injection h2 with h3 h4; omega)), hL14.keep hD (fun h => by rcases h with h | (h | h) | h | h <;> cases h) (fun h => by rcases h with h | (h | h) | h | h <;> cases h), hL17.keep hE (fun h => by rcases h with h | h | h <;> cases h) (fun h => by rcases h with h | h | h <;> cases h), hL20.keep hG (fun h => by cases h) (fun h => by cases h)⟩)
