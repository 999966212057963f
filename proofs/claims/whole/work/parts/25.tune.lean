/-! prices and tunes of the class -/
/-- the prices: the object at x, its coins -/
def zPR (κ : zK) (G : zH) (x : Nat) (pr : Nat → Int32) : Prop := ∃ q, G x = some ((2, 1, 0), .inr (5, [.ref q])) ∧ G q = some ((2, 2, 0), .inl (κ.2.1 0, 5, .inl pr))
/-- tune j at t: so many notes -/
def zTU (κ : zK) (G : zH) (t j n : Nat) (tp tb : Nat → Int32) : Prop := ∃ a b, G t = some ((2, 16, j), .inr (7, [.ref a, .ref b, .int (nI n)])) ∧ G a = some ((2, 17, j), .inl (κ.2.1 0, 24, .inl tp)) ∧ G b = some ((2, 18, j), .inl (κ.2.1 0, 24, .inl tb)) ∧ n ≤ 24
abbrev isTU (j : Nat) (r : zR) : Prop := r = (2, 16, j) ∨ r = (2, 17, j) ∨ r = (2, 18, j)
theorem zPR.keep {κ : zK} {G G2 : zH} {x : Nat} {pr : Nat → Int32} {P : zR → Prop} (h : zPR κ G x pr) (hF : zFP P G G2) (h1 : ¬ P (2, 1, 0)) (h2 : ¬ P (2, 2, 0)) : zPR κ G2 x pr := by
  obtain ⟨q, g1, g2⟩ := h
  exact ⟨q, hF.1 _ _ _ h1 g1, hF.1 _ _ _ h2 g2⟩
theorem zTU.keep {κ : zK} {G G2 : zH} {t j n : Nat} {tp tb : Nat → Int32} {P : zR → Prop} (h : zTU κ G t j n tp tb) (hF : zFP P G G2) (h1 : ∀ r, isTU j r → ¬ P r) : zTU κ G2 t j n tp tb := by
  obtain ⟨a, b, g1, g2, g3, g4⟩ := h
  exact ⟨a, b, hF.1 _ _ _ (h1 _ (Or.inl rfl)) g1, hF.1 _ _ _ (h1 _ (Or.inr (Or.inl rfl))) g2, hF.1 _ _ _ (h1 _ (Or.inr (Or.inr rfl))) g3, g4⟩
/-- what a tune reads at v -/
def pAt (n : Nat) (f : Nat → Int32) (d v : Int32) : Int32 := if 0 ≤ v ∧ v < nI n then f (iN v) else d
theorem pAt_n {n i : Nat} {f : Nat → Int32} {d : Int32} (h : i < n) (hn : n ≤ 24) : pAt n f d (nI i) = f i := by
  unfold pAt
  rw [if_pos ⟨Int32.not_lt.mp (nI_pos (by omega)), (nI_ltI (by omega) (by omega)).mpr h⟩, iN_nI (by omega)]
theorem pAt_m {n : Nat} {f : Nat → Int32} {d : Int32} : pAt n f d (-1) = d := if_neg (fun h => absurd h.1 (by decide))
abbrev rX4_anew : Room := rmK 0 0 0 0
set_option maxRecDepth 100000 in
set_option maxHeartbeats 400000 in
theorem c_pAnew (l : Launch) {κ : zK} {G : zH} {x : Nat} {pr : Nat → Int32} (hP : zPR κ G x pr) : Ct l yX4_anew cX4_anew 1 (some FieldType.int) rX4_anew κ [.ref x] G (zP (pr 4) G) := by
  refine Ct.of (by decide +kernel) (fun v hv => by
    simp only [List.mem_cons, List.mem_nil_iff, or_false, List.not_mem_nil] at hv
    rcases hv with rfl <;> rfl) (Nat.le_of_ble_eq_true rfl) ?_
  intro p e s m args below meth cC
  refine z_L (L' := [some (.ref x)]) rfl ?_
  generalize hQx : MQ below (zQc κ _) args s _ _ (zA κ) = Qx
  obtain ⟨q, h1, h2⟩ := hP
  refine z_al0 (pc := 0) dX4_anew_0 ?_
  refine z_get (pc := 1) 0 h1 rfl iw_X4 (by decide) kw_37 rfl dX4_anew_1 ?_
  refine z_iconst (pc := 4) (4) (by decide) dX4_anew_4 ?_
  refine z_iald (pc := 5) 4 h2 rfl (by omega) (by omega) dX4_anew_5 ?_
  rw [← hQx]
  refine z_iret (pc := 6) rfl (by decide) dX4_anew_6 (⟨_, rfl, rfl, rfl⟩)
abbrev rX4_out : Room := rmK 0 0 0 0
set_option maxRecDepth 100000 in
set_option maxHeartbeats 400000 in
theorem c_pOut (l : Launch) {κ : zK} {G : zH} {x : Nat} {pr : Nat → Int32} (hP : zPR κ G x pr) : Ct l yX4_out cX4_out 1 (some FieldType.int) rX4_out κ [.ref x] G (zP (pr 3) G) := by
  refine Ct.of (by decide +kernel) (fun v hv => by
    simp only [List.mem_cons, List.mem_nil_iff, or_false, List.not_mem_nil] at hv
    rcases hv with rfl <;> rfl) (Nat.le_of_ble_eq_true rfl) ?_
  intro p e s m args below meth cC
  refine z_L (L' := [some (.ref x)]) rfl ?_
  generalize hQx : MQ below (zQc κ _) args s _ _ (zA κ) = Qx
  obtain ⟨q, h1, h2⟩ := hP
  refine z_al0 (pc := 0) dX4_out_0 ?_
  refine z_get (pc := 1) 0 h1 rfl iw_X4 (by decide) kw_37 rfl dX4_out_1 ?_
  refine z_iconst (pc := 4) (3) (by decide) dX4_out_4 ?_
  refine z_iald (pc := 5) 3 h2 rfl (by omega) (by omega) dX4_out_5 ?_
  rw [← hQx]
  refine z_iret (pc := 6) rfl (by decide) dX4_out_6 (⟨_, rfl, rfl, rfl⟩)
def ofN (pr : Nat → Int32) (off late : Int32) : Int32 := imin (pr 1) (pr 0 * iabs off) + pr 2 * iabs late
theorem neg_iabs {x : Int32} : (if x < 0 then -x else x) = iabs x := by
  unfold iabs
  by_cases h : x < 0
  · rw [if_pos h, if_neg (Int32.not_le.mpr h), Int32.zero_sub]
  · rw [if_neg h, if_pos (Int32.not_lt.mp h)]
abbrev rX4_ofNotes : Room := rmK 0 0 0 0
set_option maxRecDepth 100000 in
set_option maxHeartbeats 400000 in
theorem c_pNotes (l : Launch) {κ : zK} {G : zH} {x : Nat} {pr : Nat → Int32} (off late : Int32) (hP : zPR κ G x pr) : Ct l yX4_ofNotes cX4_ofNotes 5 (some FieldType.int) rX4_ofNotes κ [.ref x, .int off, .int late] G (zP (ofN pr off late) G) := by
  refine Ct.of (by decide +kernel) (fun v hv => by
    simp only [List.mem_cons, List.mem_nil_iff, or_false, List.not_mem_nil] at hv
    rcases hv with rfl | rfl | rfl <;> rfl) (Nat.le_of_ble_eq_true rfl) ?_
  intro p e s m args below meth cC
  refine z_L (L' := [some (.ref x), some (.int off), some (.int late), none, none]) rfl ?_
  generalize hQx : MQ below (zQc κ _) args s _ _ (zA κ) = Qx
  obtain ⟨q, h1, h2⟩ := hP
  refine z_al0 (pc := 0) dX4_ofNotes_0 ?_
  refine z_get (pc := 1) 0 h1 rfl iw_X4 (by decide) kw_37 rfl dX4_ofNotes_1 ?_
  refine z_iconst (pc := 4) (0) (by decide) dX4_ofNotes_4 ?_
  refine z_iald (pc := 5) 0 h2 rfl (by omega) (by omega) dX4_ofNotes_5 ?_
  refine z_il1 (pc := 6) dX4_ofNotes_6 ?_
  refine z_if_ge (pc := 7) 15 dX4_ofNotes_7 rfl (fun c7 => ?_) (fun c7 => ?_)
  · refine z_il1 (pc := 15) dX4_ofNotes_15 ?_
    refine z_imul (pc := 16) dX4_ofNotes_16 ?_
    refine z_is3 (pc := 17) dX4_ofNotes_17 (by decide) ?_
    refine z_al0 (pc := 18) dX4_ofNotes_18 ?_
    refine z_get (pc := 19) 0 h1 rfl iw_X4 (by decide) kw_37 rfl dX4_ofNotes_19 ?_
    refine z_iconst (pc := 22) (2) (by decide) dX4_ofNotes_22 ?_
    refine z_iald (pc := 23) 2 h2 rfl (by omega) (by omega) dX4_ofNotes_23 ?_
    refine z_il2 (pc := 24) dX4_ofNotes_24 ?_
    refine z_if_ge (pc := 25) 33 dX4_ofNotes_25 rfl (fun c25 => ?_) (fun c25 => ?_)
    · refine z_il2 (pc := 33) dX4_ofNotes_33 ?_
      refine z_imul (pc := 34) dX4_ofNotes_34 ?_
      refine z_is4 (pc := 35) dX4_ofNotes_35 (by decide) ?_
      refine z_il3 (pc := 37) dX4_ofNotes_37 ?_
      refine z_al0 (pc := 38) dX4_ofNotes_38 ?_
      refine z_get (pc := 39) 0 h1 rfl iw_X4 (by decide) kw_37 rfl dX4_ofNotes_39 ?_
      refine z_iconst (pc := 42) (1) (by decide) dX4_ofNotes_42 ?_
      refine z_iald (pc := 43) 1 h2 rfl (by omega) (by omega) dX4_ofNotes_43 ?_
      refine z_icmp_ge (pc := 44) 51 dX4_ofNotes_44 rfl (fun c44 => ?_) (fun c44 => ?_)
      · refine z_al0 (pc := 51) dX4_ofNotes_51 ?_
        refine z_get (pc := 52) 0 h1 rfl iw_X4 (by decide) kw_37 rfl dX4_ofNotes_52 ?_
        refine z_iconst (pc := 55) (1) (by decide) dX4_ofNotes_55 ?_
        refine z_iald (pc := 56) 1 h2 rfl (by omega) (by omega) dX4_ofNotes_56 ?_
        refine z_il4 (pc := 57) dX4_ofNotes_57 ?_
        refine z_iadd (pc := 59) dX4_ofNotes_59 ?_
        rw [← hQx]
        refine z_iret (pc := 60) rfl (by decide) dX4_ofNotes_60 (⟨_, rfl, by unfold ofN imin; rw [show iabs off = off from by unfold iabs; rw [if_pos c7], show iabs late = late from by unfold iabs; rw [if_pos c25]]; rw [if_neg (Int32.not_lt.mpr c44)], rfl⟩)
      · refine z_il3 (pc := 47) dX4_ofNotes_47 ?_
        refine z_goto (pc := 48) 57 dX4_ofNotes_48 rfl ?_
        refine z_il4 (pc := 57) dX4_ofNotes_57 ?_
        refine z_iadd (pc := 59) dX4_ofNotes_59 ?_
        rw [← hQx]
        refine z_iret (pc := 60) rfl (by decide) dX4_ofNotes_60 (⟨_, rfl, by unfold ofN imin; rw [show iabs off = off from by unfold iabs; rw [if_pos c7], show iabs late = late from by unfold iabs; rw [if_pos c25]]; rw [if_pos (Int32.not_le.mp c44)], rfl⟩)
    · refine z_il2 (pc := 28) dX4_ofNotes_28 ?_
      refine z_ineg (pc := 29) dX4_ofNotes_29 ?_
      refine z_goto (pc := 30) 34 dX4_ofNotes_30 rfl ?_
      refine z_imul (pc := 34) dX4_ofNotes_34 ?_
      refine z_is4 (pc := 35) dX4_ofNotes_35 (by decide) ?_
      refine z_il3 (pc := 37) dX4_ofNotes_37 ?_
      refine z_al0 (pc := 38) dX4_ofNotes_38 ?_
      refine z_get (pc := 39) 0 h1 rfl iw_X4 (by decide) kw_37 rfl dX4_ofNotes_39 ?_
      refine z_iconst (pc := 42) (1) (by decide) dX4_ofNotes_42 ?_
      refine z_iald (pc := 43) 1 h2 rfl (by omega) (by omega) dX4_ofNotes_43 ?_
      refine z_icmp_ge (pc := 44) 51 dX4_ofNotes_44 rfl (fun c44 => ?_) (fun c44 => ?_)
      · refine z_al0 (pc := 51) dX4_ofNotes_51 ?_
        refine z_get (pc := 52) 0 h1 rfl iw_X4 (by decide) kw_37 rfl dX4_ofNotes_52 ?_
        refine z_iconst (pc := 55) (1) (by decide) dX4_ofNotes_55 ?_
        refine z_iald (pc := 56) 1 h2 rfl (by omega) (by omega) dX4_ofNotes_56 ?_
        refine z_il4 (pc := 57) dX4_ofNotes_57 ?_
        refine z_iadd (pc := 59) dX4_ofNotes_59 ?_
        rw [← hQx]
        refine z_iret (pc := 60) rfl (by decide) dX4_ofNotes_60 (⟨_, rfl, by unfold ofN imin; rw [show iabs off = off from by unfold iabs; rw [if_pos c7], show iabs late = -late from by unfold iabs; rw [if_neg (Int32.not_le.mpr (Int32.not_le.mp c25)), Int32.zero_sub]]; rw [if_neg (Int32.not_lt.mpr c44)], rfl⟩)
      · refine z_il3 (pc := 47) dX4_ofNotes_47 ?_
        refine z_goto (pc := 48) 57 dX4_ofNotes_48 rfl ?_
        refine z_il4 (pc := 57) dX4_ofNotes_57 ?_
        refine z_iadd (pc := 59) dX4_ofNotes_59 ?_
        rw [← hQx]
        refine z_iret (pc := 60) rfl (by decide) dX4_ofNotes_60 (⟨_, rfl, by unfold ofN imin; rw [show iabs off = off from by unfold iabs; rw [if_pos c7], show iabs late = -late from by unfold iabs; rw [if_neg (Int32.not_le.mpr (Int32.not_le.mp c25)), Int32.zero_sub]]; rw [if_pos (Int32.not_le.mp c44)], rfl⟩)
  · refine z_il1 (pc := 10) dX4_ofNotes_10 ?_
    refine z_ineg (pc := 11) dX4_ofNotes_11 ?_
    refine z_goto (pc := 12) 16 dX4_ofNotes_12 rfl ?_
    refine z_imul (pc := 16) dX4_ofNotes_16 ?_
    refine z_is3 (pc := 17) dX4_ofNotes_17 (by decide) ?_
    refine z_al0 (pc := 18) dX4_ofNotes_18 ?_
    refine z_get (pc := 19) 0 h1 rfl iw_X4 (by decide) kw_37 rfl dX4_ofNotes_19 ?_
    refine z_iconst (pc := 22) (2) (by decide) dX4_ofNotes_22 ?_
    refine z_iald (pc := 23) 2 h2 rfl (by omega) (by omega) dX4_ofNotes_23 ?_
    refine z_il2 (pc := 24) dX4_ofNotes_24 ?_
    refine z_if_ge (pc := 25) 33 dX4_ofNotes_25 rfl (fun c25 => ?_) (fun c25 => ?_)
    · refine z_il2 (pc := 33) dX4_ofNotes_33 ?_
      refine z_imul (pc := 34) dX4_ofNotes_34 ?_
      refine z_is4 (pc := 35) dX4_ofNotes_35 (by decide) ?_
      refine z_il3 (pc := 37) dX4_ofNotes_37 ?_
      refine z_al0 (pc := 38) dX4_ofNotes_38 ?_
      refine z_get (pc := 39) 0 h1 rfl iw_X4 (by decide) kw_37 rfl dX4_ofNotes_39 ?_
      refine z_iconst (pc := 42) (1) (by decide) dX4_ofNotes_42 ?_
      refine z_iald (pc := 43) 1 h2 rfl (by omega) (by omega) dX4_ofNotes_43 ?_
      refine z_icmp_ge (pc := 44) 51 dX4_ofNotes_44 rfl (fun c44 => ?_) (fun c44 => ?_)
      · refine z_al0 (pc := 51) dX4_ofNotes_51 ?_
        refine z_get (pc := 52) 0 h1 rfl iw_X4 (by decide) kw_37 rfl dX4_ofNotes_52 ?_
        refine z_iconst (pc := 55) (1) (by decide) dX4_ofNotes_55 ?_
        refine z_iald (pc := 56) 1 h2 rfl (by omega) (by omega) dX4_ofNotes_56 ?_
        refine z_il4 (pc := 57) dX4_ofNotes_57 ?_
        refine z_iadd (pc := 59) dX4_ofNotes_59 ?_
        rw [← hQx]
        refine z_iret (pc := 60) rfl (by decide) dX4_ofNotes_60 (⟨_, rfl, by unfold ofN imin; rw [show iabs off = -off from by unfold iabs; rw [if_neg (Int32.not_le.mpr (Int32.not_le.mp c7)), Int32.zero_sub], show iabs late = late from by unfold iabs; rw [if_pos c25]]; rw [if_neg (Int32.not_lt.mpr c44)], rfl⟩)
      · refine z_il3 (pc := 47) dX4_ofNotes_47 ?_
        refine z_goto (pc := 48) 57 dX4_ofNotes_48 rfl ?_
        refine z_il4 (pc := 57) dX4_ofNotes_57 ?_
        refine z_iadd (pc := 59) dX4_ofNotes_59 ?_
        rw [← hQx]
        refine z_iret (pc := 60) rfl (by decide) dX4_ofNotes_60 (⟨_, rfl, by unfold ofN imin; rw [show iabs off = -off from by unfold iabs; rw [if_neg (Int32.not_le.mpr (Int32.not_le.mp c7)), Int32.zero_sub], show iabs late = late from by unfold iabs; rw [if_pos c25]]; rw [if_pos (Int32.not_le.mp c44)], rfl⟩)
    · refine z_il2 (pc := 28) dX4_ofNotes_28 ?_
      refine z_ineg (pc := 29) dX4_ofNotes_29 ?_
      refine z_goto (pc := 30) 34 dX4_ofNotes_30 rfl ?_
      refine z_imul (pc := 34) dX4_ofNotes_34 ?_
      refine z_is4 (pc := 35) dX4_ofNotes_35 (by decide) ?_
      refine z_il3 (pc := 37) dX4_ofNotes_37 ?_
      refine z_al0 (pc := 38) dX4_ofNotes_38 ?_
      refine z_get (pc := 39) 0 h1 rfl iw_X4 (by decide) kw_37 rfl dX4_ofNotes_39 ?_
      refine z_iconst (pc := 42) (1) (by decide) dX4_ofNotes_42 ?_
      refine z_iald (pc := 43) 1 h2 rfl (by omega) (by omega) dX4_ofNotes_43 ?_
      refine z_icmp_ge (pc := 44) 51 dX4_ofNotes_44 rfl (fun c44 => ?_) (fun c44 => ?_)
      · refine z_al0 (pc := 51) dX4_ofNotes_51 ?_
        refine z_get (pc := 52) 0 h1 rfl iw_X4 (by decide) kw_37 rfl dX4_ofNotes_52 ?_
        refine z_iconst (pc := 55) (1) (by decide) dX4_ofNotes_55 ?_
        refine z_iald (pc := 56) 1 h2 rfl (by omega) (by omega) dX4_ofNotes_56 ?_
        refine z_il4 (pc := 57) dX4_ofNotes_57 ?_
        refine z_iadd (pc := 59) dX4_ofNotes_59 ?_
        rw [← hQx]
        refine z_iret (pc := 60) rfl (by decide) dX4_ofNotes_60 (⟨_, rfl, by unfold ofN imin; rw [show iabs off = -off from by unfold iabs; rw [if_neg (Int32.not_le.mpr (Int32.not_le.mp c7)), Int32.zero_sub], show iabs late = -late from by unfold iabs; rw [if_neg (Int32.not_le.mpr (Int32.not_le.mp c25)), Int32.zero_sub]]; rw [if_neg (Int32.not_lt.mpr c44)], rfl⟩)
      · refine z_il3 (pc := 47) dX4_ofNotes_47 ?_
        refine z_goto (pc := 48) 57 dX4_ofNotes_48 rfl ?_
        refine z_il4 (pc := 57) dX4_ofNotes_57 ?_
        refine z_iadd (pc := 59) dX4_ofNotes_59 ?_
        rw [← hQx]
        refine z_iret (pc := 60) rfl (by decide) dX4_ofNotes_60 (⟨_, rfl, by unfold ofN imin; rw [show iabs off = -off from by unfold iabs; rw [if_neg (Int32.not_le.mpr (Int32.not_le.mp c7)), Int32.zero_sub], show iabs late = -late from by unfold iabs; rw [if_neg (Int32.not_le.mpr (Int32.not_le.mp c25)), Int32.zero_sub]]; rw [if_pos (Int32.not_le.mp c44)], rfl⟩)
abbrev rX6_length : Room := rmK 0 0 0 0
set_option maxRecDepth 100000 in
set_option maxHeartbeats 400000 in
theorem c_tLen (l : Launch) {κ : zK} {G : zH} {t : Nat} (j n : Nat) {tp tb : Nat → Int32} (hT : zTU κ G t j n tp tb) : Ct l yX6_length cX6_length 1 (some FieldType.int) rX6_length κ [.ref t] G (zP (nI n) G) := by
  refine Ct.of (by decide +kernel) (fun v hv => by
    simp only [List.mem_cons, List.mem_nil_iff, or_false, List.not_mem_nil] at hv
    rcases hv with rfl <;> rfl) (Nat.le_of_ble_eq_true rfl) ?_
  intro p e s m args below meth cC
  refine z_L (L' := [some (.ref t)]) rfl ?_
  generalize hQx : MQ below (zQc κ _) args s _ _ (zA κ) = Qx
  obtain ⟨a, b, h1, h2, h3, hn⟩ := hT
  refine z_al0 (pc := 0) dX6_length_0 ?_
  refine z_get (pc := 1) 2 h1 rfl iw_X6 (by decide) kw_182 rfl dX6_length_1 ?_
  rw [← hQx]
  refine z_iret (pc := 4) rfl (by decide) dX6_length_4 (⟨_, rfl, rfl, rfl⟩)
abbrev rX6_has : Room := rmK 0 0 0 0
set_option maxRecDepth 100000 in
set_option maxHeartbeats 400000 in
theorem c_tHas (l : Launch) {κ : zK} {G : zH} {t : Nat} (j n : Nat) {tp tb : Nat → Int32} (v : Int32) (hT : zTU κ G t j n tp tb) : Ct l yX6_has cX6_has 2 (some FieldType.boolean) rX6_has κ [.ref t, .int v] G (zP (zb (0 ≤ v ∧ v < nI n)) G) := by
  refine Ct.of (by decide +kernel) (fun v hv => by
    simp only [List.mem_cons, List.mem_nil_iff, or_false, List.not_mem_nil] at hv
    rcases hv with rfl | rfl <;> rfl) (Nat.le_of_ble_eq_true rfl) ?_
  intro p e s m args below meth cC
  refine z_L (L' := [some (.ref t), some (.int v)]) rfl ?_
  generalize hQx : MQ below (zQc κ _) args s _ _ (zA κ) = Qx
  obtain ⟨a, b, h1, h2, h3, hn⟩ := hT
  refine z_il1 (pc := 0) dX6_has_0 ?_
  refine z_if_lt (pc := 1) 16 dX6_has_1 rfl (fun c1 => ?_) (fun c1 => ?_)
  · refine z_iconst (pc := 16) (0) (by decide) dX6_has_16 ?_
    rw [← hQx]
    refine z_zret (pc := 17) rfl rfl (by decide) dX6_has_17 (⟨_, rfl, (zb_f (fun h => absurd h.1 (Int32.not_le.mpr c1))).symm, rfl⟩)
  · refine z_il1 (pc := 4) dX6_has_4 ?_
    refine z_al0 (pc := 5) dX6_has_5 ?_
    refine z_get (pc := 6) 2 h1 rfl iw_X6 (by decide) kw_182 rfl dX6_has_6 ?_
    refine z_icmp_ge (pc := 9) 16 dX6_has_9 rfl (fun c9 => ?_) (fun c9 => ?_)
    · refine z_iconst (pc := 16) (0) (by decide) dX6_has_16 ?_
      rw [← hQx]
      refine z_zret (pc := 17) rfl rfl (by decide) dX6_has_17 (⟨_, rfl, (zb_f (fun h => absurd h.2 (Int32.not_lt.mpr c9))).symm, rfl⟩)
    · refine z_iconst (pc := 12) (1) (by decide) dX6_has_12 ?_
      refine z_goto (pc := 13) 17 dX6_has_13 rfl ?_
      rw [← hQx]
      refine z_zret (pc := 17) rfl rfl (by decide) dX6_has_17 (⟨_, rfl, (zb_t (⟨Int32.not_lt.mp c1, Int32.not_le.mp c9⟩)).symm, rfl⟩)
abbrev rX6_pitchAt : Room := rmK 0 0 0 0
set_option maxRecDepth 100000 in
set_option maxHeartbeats 400000 in
theorem c_tPitch (l : Launch) {κ : zK} {G : zH} {t : Nat} (j n : Nat) {tp tb : Nat → Int32} (v : Int32) (hT : zTU κ G t j n tp tb) : Ct l yX6_pitchAt cX6_pitchAt 2 (some FieldType.int) rX6_pitchAt κ [.ref t, .int v] G (zP (pAt n tp (-1) v) G) := by
  refine Ct.of (by decide +kernel) (fun v hv => by
    simp only [List.mem_cons, List.mem_nil_iff, or_false, List.not_mem_nil] at hv
    rcases hv with rfl | rfl <;> rfl) (Nat.le_of_ble_eq_true rfl) ?_
  intro p e s m args below meth cC
  refine z_L (L' := [some (.ref t), some (.int v)]) rfl ?_
  generalize hQx : MQ below (zQc κ _) args s _ _ (zA κ) = Qx
  obtain ⟨a, b, h1, h2, h3, hn⟩ := hT
  refine z_il1 (pc := 0) dX6_pitchAt_0 ?_
  refine z_if_lt (pc := 1) 21 dX6_pitchAt_1 rfl (fun c1 => ?_) (fun c1 => ?_)
  · refine z_iconst (pc := 21) (-1) (by decide) dX6_pitchAt_21 ?_
    rw [← hQx]
    refine z_iret (pc := 22) rfl (by decide) dX6_pitchAt_22 (⟨_, rfl, (if_neg (fun h => absurd h.1 (Int32.not_le.mpr c1))).symm, rfl⟩)
  · refine z_il1 (pc := 4) dX6_pitchAt_4 ?_
    refine z_al0 (pc := 5) dX6_pitchAt_5 ?_
    refine z_get (pc := 6) 2 h1 rfl iw_X6 (by decide) kw_182 rfl dX6_pitchAt_6 ?_
    refine z_icmp_ge (pc := 9) 21 dX6_pitchAt_9 rfl (fun c9 => ?_) (fun c9 => ?_)
    · refine z_iconst (pc := 21) (-1) (by decide) dX6_pitchAt_21 ?_
      rw [← hQx]
      refine z_iret (pc := 22) rfl (by decide) dX6_pitchAt_22 (⟨_, rfl, (if_neg (fun h => absurd h.2 (Int32.not_lt.mpr c9))).symm, rfl⟩)
    · obtain ⟨i, rfl, hi⟩ := ix_in (Int32.not_lt.mp c1) (Int32.not_le.mp c9) (by omega)
      refine z_al0 (pc := 12) dX6_pitchAt_12 ?_
      refine z_get (pc := 13) 0 h1 rfl iw_X6 (by decide) kw_178 rfl dX6_pitchAt_13 ?_
      refine z_il1 (pc := 16) dX6_pitchAt_16 ?_
      refine z_iald (pc := 17) _ h2 rfl (by omega) (by omega) dX6_pitchAt_17 ?_
      refine z_goto (pc := 18) 22 dX6_pitchAt_18 rfl ?_
      rw [← hQx]
      refine z_iret (pc := 22) rfl (by decide) dX6_pitchAt_22 (⟨_, rfl, (pAt_n hi hn).symm, rfl⟩)
abbrev rX6_beatsAt : Room := rmK 0 0 0 0
set_option maxRecDepth 100000 in
set_option maxHeartbeats 400000 in
theorem c_tBeats (l : Launch) {κ : zK} {G : zH} {t : Nat} (j n : Nat) {tp tb : Nat → Int32} (v : Int32) (hT : zTU κ G t j n tp tb) : Ct l yX6_beatsAt cX6_beatsAt 2 (some FieldType.int) rX6_beatsAt κ [.ref t, .int v] G (zP (pAt n tb 0 v) G) := by
  refine Ct.of (by decide +kernel) (fun v hv => by
    simp only [List.mem_cons, List.mem_nil_iff, or_false, List.not_mem_nil] at hv
    rcases hv with rfl | rfl <;> rfl) (Nat.le_of_ble_eq_true rfl) ?_
  intro p e s m args below meth cC
  refine z_L (L' := [some (.ref t), some (.int v)]) rfl ?_
  generalize hQx : MQ below (zQc κ _) args s _ _ (zA κ) = Qx
  obtain ⟨a, b, h1, h2, h3, hn⟩ := hT
  refine z_il1 (pc := 0) dX6_beatsAt_0 ?_
  refine z_if_lt (pc := 1) 21 dX6_beatsAt_1 rfl (fun c1 => ?_) (fun c1 => ?_)
  · refine z_iconst (pc := 21) (0) (by decide) dX6_beatsAt_21 ?_
    rw [← hQx]
    refine z_iret (pc := 22) rfl (by decide) dX6_beatsAt_22 (⟨_, rfl, (if_neg (fun h => absurd h.1 (Int32.not_le.mpr c1))).symm, rfl⟩)
  · refine z_il1 (pc := 4) dX6_beatsAt_4 ?_
    refine z_al0 (pc := 5) dX6_beatsAt_5 ?_
    refine z_get (pc := 6) 2 h1 rfl iw_X6 (by decide) kw_182 rfl dX6_beatsAt_6 ?_
    refine z_icmp_ge (pc := 9) 21 dX6_beatsAt_9 rfl (fun c9 => ?_) (fun c9 => ?_)
    · refine z_iconst (pc := 21) (0) (by decide) dX6_beatsAt_21 ?_
      rw [← hQx]
      refine z_iret (pc := 22) rfl (by decide) dX6_beatsAt_22 (⟨_, rfl, (if_neg (fun h => absurd h.2 (Int32.not_lt.mpr c9))).symm, rfl⟩)
    · obtain ⟨i, rfl, hi⟩ := ix_in (Int32.not_lt.mp c1) (Int32.not_le.mp c9) (by omega)
      refine z_al0 (pc := 12) dX6_beatsAt_12 ?_
      refine z_get (pc := 13) 1 h1 rfl iw_X6 (by decide) kw_180 rfl dX6_beatsAt_13 ?_
      refine z_il1 (pc := 16) dX6_beatsAt_16 ?_
      refine z_iald (pc := 17) _ h3 rfl (by omega) (by omega) dX6_beatsAt_17 ?_
      refine z_goto (pc := 18) 22 dX6_beatsAt_18 rfl ?_
      rw [← hQx]
      refine z_iret (pc := 22) rfl (by decide) dX6_beatsAt_22 (⟨_, rfl, (pAt_n hi hn).symm, rfl⟩)
abbrev rX6_put : Room := rmK 1 0 0 21
set_option maxRecDepth 100000 in
set_option maxHeartbeats 400000 in
theorem c_tPut (l : Launch) {κ : zK} {G : zH} {t : Nat} (j n : Nat) {tp tb : Nat → Int32} (v p0 b0 : Int32) (hT : zTU κ G t j n tp tb) : Ct l yX6_put cX6_put 4 none rX6_put κ [.ref t, .int v, .int p0, .int b0] G (pV (fun G2 => ((0 ≤ v ∧ v < nI n) ∧ zTU κ G2 t j n (upd tp (iN v) p0) (upd tb (iN v) (if p0 = -1 then 0 else b0)) ∧ zFP (isTU j) G G2) ∨ (¬ (0 ≤ v ∧ v < nI n) ∧ G2 = G))) := by
  refine Ct.of (by decide +kernel) (fun v hv => by
    simp only [List.mem_cons, List.mem_nil_iff, or_false, List.not_mem_nil] at hv
    rcases hv with rfl | rfl | rfl | rfl <;> rfl) (Nat.le_of_ble_eq_true rfl) ?_
  intro p e s m args below meth cC
  refine z_L (L' := [some (.ref t), some (.int v), some (.int p0), some (.int b0)]) rfl ?_
  generalize hQx : MQ below (zQc κ _) args s _ _ (zA κ) = Qx
  have hT0 := hT
  obtain ⟨a, b, h1, h2, h3, hn⟩ := hT
  refine z_al0 (pc := 0) dX6_put_0 ?_
  refine z_il1 (pc := 1) dX6_put_1 ?_
  refine z_callVr (pc := 2) (c_tHas l j n v hT0) h1 rfl rfl kw_324 zc_X6_has (by decide) (by decide) rfl (Nat.le_of_ble_eq_true rfl) dX6_put_2 ?_
  refine z_ifz_eq (pc := 5) 31 dX6_put_5 rfl (fun c5 => ?_) (fun c5 => ?_)
  · rw [← hQx]
    refine z_vret (pc := 31) rfl (by decide) dX6_put_31 (⟨rfl, Or.inr ⟨c5, rfl⟩⟩)
  · obtain ⟨i, rfl, hi⟩ := ix_in c5.1 c5.2 (by omega)
    refine z_al0 (pc := 8) dX6_put_8 ?_
    refine z_get (pc := 9) 0 h1 rfl iw_X6 (by decide) kw_178 rfl dX6_put_9 ?_
    refine z_il1 (pc := 12) dX6_put_12 ?_
    refine z_il2 (pc := 13) dX6_put_13 ?_
    refine z_iastg (pc := 14) i h2 rfl (by omega) (by omega) dX6_put_14 (fun G4 h4x hF4 => ?_)
    replace h1 := hF4.1 _ _ _ (fun h => by cases h) h1
    replace h3 := hF4.1 _ _ _ (fun h => by cases h) h3
    replace h2 := h4x
    clear h4x
    refine z_al0 (pc := 15) dX6_put_15 ?_
    refine z_get (pc := 16) 1 h1 rfl iw_X6 (by decide) kw_180 rfl dX6_put_16 ?_
    refine z_il1 (pc := 19) dX6_put_19 ?_
    refine z_il2 (pc := 20) dX6_put_20 ?_
    refine z_iconst (pc := 21) (-1) (by decide) dX6_put_21 ?_
    refine z_icmp_ne (pc := 22) 29 dX6_put_22 rfl (fun c22 => ?_) (fun c22 => ?_)
    · refine z_il3 (pc := 29) dX6_put_29 ?_
      refine z_iastg (pc := 30) i h3 rfl (by omega) (by omega) dX6_put_30 (fun G5 h5x hF5 => ?_)
      replace h1 := hF5.1 _ _ _ (fun h => by cases h) h1
      replace h2 := hF5.1 _ _ _ (fun h => by cases h) h2
      replace h3 := h5x
      clear h5x
      rw [← hQx]
      refine z_vret (pc := 31) rfl (by decide) dX6_put_31 (⟨rfl, Or.inl ⟨c5, ⟨a, b, h1, by rw [iN_nI (by omega)]; exact h2, by rw [iN_nI (by omega)]; rw [if_neg c22]; exact h3, hn⟩, (hF4.mono (fun _ h => Or.inr (Or.inl h))).trans (hF5.mono (fun _ h => Or.inr (Or.inr h)))⟩⟩)
    · refine z_iconst (pc := 25) (0) (by decide) dX6_put_25 ?_
      refine z_goto (pc := 26) 30 dX6_put_26 rfl ?_
      refine z_iastg (pc := 30) i h3 rfl (by omega) (by omega) dX6_put_30 (fun G5 h5x hF5 => ?_)
      replace h1 := hF5.1 _ _ _ (fun h => by cases h) h1
      replace h2 := hF5.1 _ _ _ (fun h => by cases h) h2
      replace h3 := h5x
      clear h5x
      rw [← hQx]
      refine z_vret (pc := 31) rfl (by decide) dX6_put_31 (⟨rfl, Or.inl ⟨c5, ⟨a, b, h1, by rw [iN_nI (by omega)]; exact h2, by rw [iN_nI (by omega)]; rw [if_pos c22]; exact h3, hn⟩, (hF4.mono (fun _ h => Or.inr (Or.inl h))).trans (hF5.mono (fun _ h => Or.inr (Or.inr h)))⟩⟩)
abbrev rX6_append : Room := rmK 2 0 0 44
set_option maxRecDepth 100000 in
set_option maxHeartbeats 400000 in
theorem c_tAppend (l : Launch) {κ : zK} {G : zH} {t : Nat} (j n : Nat) {tp tb : Nat → Int32} (p0 b0 : Int32) (hT : zTU κ G t j n tp tb) : Ct l yX6_append cX6_append 3 (some FieldType.boolean) rX6_append κ [.ref t, .int p0, .int b0] G (pI (fun r G2 => (n < 24 ∧ r = 1 ∧ zTU κ G2 t j (n + 1) (upd tp n p0) (upd tb n (if p0 = -1 then 0 else b0)) ∧ zFP (isTU j) G G2) ∨ (¬ n < 24 ∧ r = 0 ∧ G2 = G))) := by
  refine Ct.of (by decide +kernel) (fun v hv => by
    simp only [List.mem_cons, List.mem_nil_iff, or_false, List.not_mem_nil] at hv
    rcases hv with rfl | rfl | rfl <;> rfl) (Nat.le_of_ble_eq_true rfl) ?_
  intro p e s m args below meth cC
  refine z_L (L' := [some (.ref t), some (.int p0), some (.int b0)]) rfl ?_
  generalize hQx : MQ below (zQc κ _) args s _ _ (zA κ) = Qx
  obtain ⟨a, b, h1, h2, h3, hn⟩ := hT
  by_cases hlt : n < 24
  · refine z_al0 (pc := 0) dX6_append_0 ?_
    refine z_get (pc := 1) 2 h1 rfl iw_X6 (by decide) kw_182 rfl dX6_append_1 ?_
    refine z_bipush (pc := 4) (24) (by decide) dX6_append_4 ?_
    refine z_icmp_lt (pc := 6) 11 dX6_append_6 rfl (fun c6 => ?_) (fun c6 => absurd (show nI n < nI 24 from (nI_ltI (by omega) (by omega)).mpr hlt) c6)
    refine z_al0 (pc := 11) dX6_append_11 ?_
    refine z_dup (pc := 12) rfl dX6_append_12 ?_
    refine z_get (pc := 13) 2 h1 rfl iw_X6 (by decide) kw_182 rfl dX6_append_13 ?_
    refine z_iconst (pc := 16) (1) (by decide) dX6_append_16 ?_
    refine z_iadd (pc := 17) dX6_append_17 ?_
    rw [nI_1]
    refine z_putg (pc := 18) 2 h1 rfl iw_X6 tyX6 tyX6_ok nmX6 (by decide) kw_182 rfl rfl rfl rfl (Nat.le_of_ble_eq_true rfl) dX6_append_18 (fun G4 h4x hF4 => ?_)
    replace h2 := hF4.1 _ _ _ (fun h => by cases h) h2
    replace h3 := hF4.1 _ _ _ (fun h => by cases h) h3
    replace h1 := h4x
    clear h4x
    refine z_al0 (pc := 21) dX6_append_21 ?_
    refine z_al0 (pc := 22) dX6_append_22 ?_
    refine z_get (pc := 23) 2 h1 rfl iw_X6 (by decide) kw_182 rfl dX6_append_23 ?_
    refine z_iconst (pc := 26) (1) (by decide) dX6_append_26 ?_
    refine z_isub (pc := 27) dX6_append_27 ?_
    rw [nI_pred]
    refine z_il1 (pc := 28) dX6_append_28 ?_
    refine z_il2 (pc := 29) dX6_append_29 ?_
    refine z_callVv (pc := 30) _ (c_tPut l j (n + 1) (nI n) p0 b0 ⟨a, b, h1, h2, h3, by omega⟩) rfl h1 rfl rfl kw_320 zc_X6_put (by decide) rfl (Nat.le_of_ble_eq_true rfl) dX6_append_30 (fun G2 hv => ?_)
    replace hv := hv.resolve_right (fun q => q.1 ⟨Int32.not_lt.mp (nI_pos (by omega)), (nI_ltI (by omega) (by omega)).mpr (by omega)⟩)
    refine z_iconst (pc := 33) (1) (by decide) dX6_append_33 ?_
    rw [← hQx]
    refine z_zret (pc := 34) rfl rfl (by decide) dX6_append_34 (⟨_, rfl, Or.inl ⟨hlt, rfl, by have := hv.2.1; rwa [iN_nI (by omega)] at this, (hF4.mono (fun _ h => Or.inl h)).trans hv.2.2⟩⟩)
  · refine z_al0 (pc := 0) dX6_append_0 ?_
    refine z_get (pc := 1) 2 h1 rfl iw_X6 (by decide) kw_182 rfl dX6_append_1 ?_
    refine z_bipush (pc := 4) (24) (by decide) dX6_append_4 ?_
    refine z_icmp_lt (pc := 6) 11 dX6_append_6 rfl (fun c6 => absurd c6 (fun q => hlt ((nI_ltI (by omega) (by omega)).mp (show nI n < nI 24 from q)))) (fun c6 => ?_)
    refine z_iconst (pc := 9) (0) (by decide) dX6_append_9 ?_
    rw [← hQx]
    refine z_zret (pc := 10) rfl rfl (by decide) dX6_append_10 (⟨_, rfl, Or.inr ⟨hlt, rfl, rfl⟩⟩)
abbrev rX6_copy : Room := rmK 0 0 0 0
theorem upd_s {f : Nat → Int32} {k : Nat} {v : Int32} : upd f k v k = v := if_pos rfl
theorem upd_n {f : Nat → Int32} {k q : Nat} {v : Int32} (h : q ≠ k) : upd f k v q = f q := if_neg h
set_option maxRecDepth 100000 in
set_option maxHeartbeats 400000 in
theorem c_tCopy (l : Launch) {κ : zK} {G : zH} {t u : Nat} (j n j2 m2 : Nat) {tp tb up ub : Nat → Int32} (hT : zTU κ G t j n tp tb) (hU : zTU κ G u j2 m2 up ub) (hne : j2 ≠ j) : Ct l yX6_copy cX6_copy 3 none rX6_copy κ [.ref t, .ref u] G (pV (fun G2 => ∃ tp2 tb2, zTU κ G2 t j m2 tp2 tb2 ∧ (∀ k, k < m2 → tp2 k = up k ∧ tb2 k = ub k) ∧ zFP (isTU j) G G2)) := by
  refine Ct.of (by decide +kernel) (fun v hv => by
    simp only [List.mem_cons, List.mem_nil_iff, or_false, List.not_mem_nil] at hv
    rcases hv with rfl | rfl <;> rfl) (Nat.le_of_ble_eq_true rfl) ?_
  intro p e s m args below meth cC
  refine z_L (L' := [some (.ref t), some (.ref u), none]) rfl ?_
  generalize hQx : MQ below (zQc κ _) args s _ _ (zA κ) = Qx
  obtain ⟨a, b, h1, h2, h3, hn⟩ := hT
  obtain ⟨a2, b2, u1, u2, u3, hm⟩ := hU
  have lp : ∀ (d i : Nat) (G2 : zH) (tp2 tb2 : Nat → Int32), i + d = m2 → G2 t = some ((2, 16, j), .inr (7, [.ref a, .ref b, .int (nI m2)])) → G2 a = some ((2, 17, j), .inl (κ.2.1 0, 24, .inl tp2)) → G2 b = some ((2, 18, j), .inl (κ.2.1 0, 24, .inl tb2)) → G2 u = some ((2, 16, j2), .inr (7, [.ref a2, .ref b2, .int (nI m2)])) → G2 a2 = some ((2, 17, j2), .inl (κ.2.1 0, 24, .inl up)) → G2 b2 = some ((2, 18, j2), .inl (κ.2.1 0, 24, .inl ub)) → (∀ k, k < i → tp2 k = up k ∧ tb2 k = ub k) → zFP (isTU j) G G2 → Z p l e rX6_copy s m args below meth cC yX6_copy cX6_copy 3 none κ Qx 0 0 G2 [some (.ref t), some (.ref u), some (.int (nI i))] 10 [] := by
    intro d
    induction d with
    | zero =>
      intro i G2 tp2 tb2 hi h1 h2 h3 u1 u2 u3 hE hF
      refine z_il2 (pc := 10) dX6_copy_10 ?_
      refine z_al0 (pc := 11) dX6_copy_11 ?_
      refine z_get (pc := 12) 2 h1 rfl iw_X6 (by decide) kw_182 rfl dX6_copy_12 ?_
      refine z_icmp_ge (pc := 15) 48 dX6_copy_15 rfl (fun c15 => ?_) (fun c15 => absurd (by rw [nI_leI (by omega) (by omega)]; omega) c15)
      rw [← hQx]
      refine z_vret (pc := 48) rfl (by decide) dX6_copy_48 (⟨rfl, tp2, tb2, ⟨a, b, h1, h2, h3, hm⟩, fun k hk => hE k (by omega), hF⟩)
    | succ d ih =>
      intro i G2 tp2 tb2 hi h1 h2 h3 u1 u2 u3 hE hF
      refine z_il2 (pc := 10) dX6_copy_10 ?_
      refine z_al0 (pc := 11) dX6_copy_11 ?_
      refine z_get (pc := 12) 2 h1 rfl iw_X6 (by decide) kw_182 rfl dX6_copy_12 ?_
      refine z_icmp_ge (pc := 15) 48 dX6_copy_15 rfl (fun c15 => absurd c15 (by rw [nI_leI (by omega) (by omega)]; omega)) (fun c15 => ?_)
      refine z_al0 (pc := 18) dX6_copy_18 ?_
      refine z_get (pc := 19) 0 h1 rfl iw_X6 (by decide) kw_178 rfl dX6_copy_19 ?_
      refine z_il2 (pc := 22) dX6_copy_22 ?_
      refine z_al1 (pc := 23) dX6_copy_23 ?_
      refine z_get (pc := 24) 0 u1 rfl iw_X6 (by decide) kw_178 rfl dX6_copy_24 ?_
      refine z_il2 (pc := 27) dX6_copy_27 ?_
      refine z_iald (pc := 28) _ u2 rfl (by omega) (by omega) dX6_copy_28 ?_
      refine z_iastg (pc := 29) i h2 rfl (by omega) (by omega) dX6_copy_29 (fun G4 h4x hF4 => ?_)
      replace h1 := hF4.1 _ _ _ (fun h => by cases h) h1
      replace h3 := hF4.1 _ _ _ (fun h => by cases h) h3
      replace u1 := hF4.1 _ _ _ (fun h => hne (congrArg (fun r : zR => r.2.2) h)) u1
      replace u2 := hF4.1 _ _ _ (fun h => hne (congrArg (fun r : zR => r.2.2) h)) u2
      replace u3 := hF4.1 _ _ _ (fun h => hne (congrArg (fun r : zR => r.2.2) h)) u3
      replace h2 := h4x
      clear h4x
      refine z_al0 (pc := 30) dX6_copy_30 ?_
      refine z_get (pc := 31) 1 h1 rfl iw_X6 (by decide) kw_180 rfl dX6_copy_31 ?_
      refine z_il2 (pc := 34) dX6_copy_34 ?_
      refine z_al1 (pc := 35) dX6_copy_35 ?_
      refine z_get (pc := 36) 1 u1 rfl iw_X6 (by decide) kw_180 rfl dX6_copy_36 ?_
      refine z_il2 (pc := 39) dX6_copy_39 ?_
      refine z_iald (pc := 40) _ u3 rfl (by omega) (by omega) dX6_copy_40 ?_
      refine z_iastg (pc := 41) i h3 rfl (by omega) (by omega) dX6_copy_41 (fun G5 h5x hF5 => ?_)
      replace h1 := hF5.1 _ _ _ (fun h => by cases h) h1
      replace h2 := hF5.1 _ _ _ (fun h => by cases h) h2
      replace u1 := hF5.1 _ _ _ (fun h => hne (congrArg (fun r : zR => r.2.2) h)) u1
      replace u2 := hF5.1 _ _ _ (fun h => hne (congrArg (fun r : zR => r.2.2) h)) u2
      replace u3 := hF5.1 _ _ _ (fun h => hne (congrArg (fun r : zR => r.2.2) h)) u3
      replace h3 := h5x
      clear h5x
      refine z_ii2 (pc := 42) (nI (i + 1)) dX6_copy_42 (nI_1 _) (by decide) ?_
      refine z_goto (pc := 45) 10 dX6_copy_45 rfl ?_
      refine z_L (L' := [some (.ref t), some (.ref u), some (.int (nI (i + 1)))]) rfl ?_
      exact ih (i + 1) G5 _ _ (by omega) h1 h2 h3 u1 u2 u3 (fun k hk => by
        by_cases hki : k = i
        · subst hki; exact ⟨upd_s, upd_s⟩
        · rw [upd_n hki, upd_n hki]; exact hE k (by omega)) (hF.trans ((hF4.mono (fun _ h => Or.inr (Or.inl h))).trans (hF5.mono (fun _ h => Or.inr (Or.inr h)))))
  refine z_al0 (pc := 0) dX6_copy_0 ?_
  refine z_al1 (pc := 1) dX6_copy_1 ?_
  refine z_get (pc := 2) 2 u1 rfl iw_X6 (by decide) kw_182 rfl dX6_copy_2 ?_
  refine z_putg (pc := 5) 2 h1 rfl iw_X6 tyX6 tyX6_ok nmX6 (by decide) kw_182 rfl rfl rfl rfl (Nat.le_of_ble_eq_true rfl) dX6_copy_5 (fun G3 h3x hF3 => ?_)
  replace h2 := hF3.1 _ _ _ (fun h => by cases h) h2
  replace h3 := hF3.1 _ _ _ (fun h => by cases h) h3
  replace u1 := hF3.1 _ _ _ (fun h => hne (congrArg (fun r : zR => r.2.2) h)) u1
  replace u2 := hF3.1 _ _ _ (fun h => hne (congrArg (fun r : zR => r.2.2) h)) u2
  replace u3 := hF3.1 _ _ _ (fun h => hne (congrArg (fun r : zR => r.2.2) h)) u3
  replace h1 := h3x
  clear h3x
  refine z_iconst (pc := 8) (0) (by decide) dX6_copy_8 ?_
  refine z_is2 (pc := 9) dX6_copy_9 (by decide) ?_
  refine z_L (L' := [some (.ref t), some (.ref u), some (.int (nI 0))]) rfl ?_
  exact lp m2 0 G3 tp tb (by omega) h1 h2 h3 u1 u2 u3 (fun k hk => absurd hk (by omega)) (hF3.mono (fun _ h => Or.inl h))
abbrev rX4_ofTwo : Room := rmK 1 0 0 24
set_option maxRecDepth 100000 in
set_option maxHeartbeats 400000 in
theorem c_pTwo (l : Launch) {κ : zK} {G : zH} {x t u : Nat} (j n j2 n2 : Nat) {pr tp tb up ub : Nat → Int32} (v v2 k : Int32) (hP : zPR κ G x pr) (hT : zTU κ G t j n tp tb) (hU : zTU κ G u j2 n2 up ub) : Ct l yX4_ofTwo cX4_ofTwo 8 (some FieldType.int) rX4_ofTwo κ [.ref x, .ref t, .int v, .ref u, .int v2, .int k] G (zP (co2 pr (pAt n tp (-1) v) (pAt n tb 0 v) (pAt n2 up (-1) v2) (pAt n2 ub 0 v2) k) G) := by
  refine Ct.of (by decide +kernel) (fun v hv => by
    simp only [List.mem_cons, List.mem_nil_iff, or_false, List.not_mem_nil] at hv
    rcases hv with rfl | rfl | rfl | rfl | rfl | rfl <;> rfl) (Nat.le_of_ble_eq_true rfl) ?_
  intro p e s m args below meth cC
  refine z_L (L' := [some (.ref x), some (.ref t), some (.int v), some (.ref u), some (.int v2), some (.int k), none, none]) rfl ?_
  generalize hQx : MQ below (zQc κ _) args s _ _ (zA κ) = Qx
  have hP0 := hP
  obtain ⟨q, h1, h2⟩ := hP
  obtain ⟨ta_, tb_, t1, -⟩ := id hT
  obtain ⟨ua_, ub_, u1, -⟩ := id hU
  refine z_al1 (pc := 0) dX4_ofTwo_0 ?_
  refine z_il2 (pc := 1) dX4_ofTwo_1 ?_
  refine z_callVr (pc := 2) (c_tPitch l j n (v) hT) t1 rfl rfl kw_518 zc_X6_pitchAt (by decide) (by decide) rfl (Nat.le_of_ble_eq_true rfl) dX4_ofTwo_2 ?_
  refine z_is6 (pc := 5) dX4_ofTwo_5 (by decide) ?_
  refine z_al3 (pc := 7) dX4_ofTwo_7 ?_
  refine z_il4 (pc := 8) dX4_ofTwo_8 ?_
  refine z_callVr (pc := 10) (c_tPitch l j2 n2 (v2) hU) u1 rfl rfl kw_518 zc_X6_pitchAt (by decide) (by decide) rfl (Nat.le_of_ble_eq_true rfl) dX4_ofTwo_10 ?_
  refine z_is7 (pc := 13) dX4_ofTwo_13 (by decide) ?_
  refine z_il6 (pc := 15) dX4_ofTwo_15 ?_
  refine z_iconst (pc := 17) (-1) (by decide) dX4_ofTwo_17 ?_
  refine z_icmp_eq (pc := 18) 27 dX4_ofTwo_18 rfl (fun c18 => ?_) (fun c18 => ?_)
  · refine z_iconst (pc := 27) (0) (by decide) dX4_ofTwo_27 ?_
    rw [← hQx]
    refine z_iret (pc := 28) rfl (by decide) dX4_ofTwo_28 (⟨_, rfl, (if_pos (Or.inl c18)).symm, rfl⟩)
  · refine z_il7 (pc := 21) dX4_ofTwo_21 ?_
    refine z_iconst (pc := 23) (-1) (by decide) dX4_ofTwo_23 ?_
    refine z_icmp_ne (pc := 24) 29 dX4_ofTwo_24 rfl (fun c24 => ?_) (fun c24 => ?_)
    · refine z_al0 (pc := 29) dX4_ofTwo_29 ?_
      refine z_il6 (pc := 30) dX4_ofTwo_30 ?_
      refine z_il5 (pc := 32) dX4_ofTwo_32 ?_
      refine z_iadd (pc := 34) dX4_ofTwo_34 ?_
      refine z_il7 (pc := 35) dX4_ofTwo_35 ?_
      refine z_isub (pc := 37) dX4_ofTwo_37 ?_
      refine z_al1 (pc := 38) dX4_ofTwo_38 ?_
      refine z_il2 (pc := 39) dX4_ofTwo_39 ?_
      refine z_callVr (pc := 40) (c_tBeats l j n (v) hT) t1 rfl rfl kw_522 zc_X6_beatsAt (by decide) (by decide) rfl (Nat.le_of_ble_eq_true rfl) dX4_ofTwo_40 ?_
      refine z_al3 (pc := 43) dX4_ofTwo_43 ?_
      refine z_il4 (pc := 44) dX4_ofTwo_44 ?_
      refine z_callVr (pc := 46) (c_tBeats l j2 n2 (v2) hU) u1 rfl rfl kw_522 zc_X6_beatsAt (by decide) (by decide) rfl (Nat.le_of_ble_eq_true rfl) dX4_ofTwo_46 ?_
      refine z_isub (pc := 49) dX4_ofTwo_49 ?_
      refine z_callVr (pc := 50) (c_pNotes l _ _ hP0) h1 rfl rfl kw_526 zc_X4_ofNotes (by decide) (by decide) rfl (Nat.le_of_ble_eq_true rfl) dX4_ofTwo_50 ?_
      rw [← hQx]
      refine z_iret (pc := 53) rfl (by decide) dX4_ofTwo_53 (⟨_, rfl, (if_neg (fun h => h.elim c18 c24)).symm, rfl⟩)
    · refine z_iconst (pc := 27) (0) (by decide) dX4_ofTwo_27 ?_
      rw [← hQx]
      refine z_iret (pc := 28) rfl (by decide) dX4_ofTwo_28 (⟨_, rfl, (if_pos (Or.inr c24)).symm, rfl⟩)
abbrev rX4_ofOne : Room := rmK 1 0 0 21
set_option maxRecDepth 100000 in
set_option maxHeartbeats 400000 in
theorem c_pOne (l : Launch) {κ : zK} {G : zH} {x t : Nat} (j n : Nat) {pr tp tb : Nat → Int32} (v : Int32) (hP : zPR κ G x pr) (hT : zTU κ G t j n tp tb) : Ct l yX4_ofOne cX4_ofOne 3 (some FieldType.int) rX4_ofOne κ [.ref x, .ref t, .int v] G (zP (co1 pr (pAt n tp (-1) v)) G) := by
  refine Ct.of (by decide +kernel) (fun v hv => by
    simp only [List.mem_cons, List.mem_nil_iff, or_false, List.not_mem_nil] at hv
    rcases hv with rfl | rfl | rfl <;> rfl) (Nat.le_of_ble_eq_true rfl) ?_
  intro p e s m args below meth cC
  refine z_L (L' := [some (.ref x), some (.ref t), some (.int v)]) rfl ?_
  generalize hQx : MQ below (zQc κ _) args s _ _ (zA κ) = Qx
  obtain ⟨q, h1, h2⟩ := hP
  obtain ⟨ta_, tb_, t1, -⟩ := id hT
  refine z_al1 (pc := 0) dX4_ofOne_0 ?_
  refine z_il2 (pc := 1) dX4_ofOne_1 ?_
  refine z_callVr (pc := 2) (c_tPitch l j n (v) hT) t1 rfl rfl kw_518 zc_X6_pitchAt (by decide) (by decide) rfl (Nat.le_of_ble_eq_true rfl) dX4_ofOne_2 ?_
  refine z_iconst (pc := 5) (-1) (by decide) dX4_ofOne_5 ?_
  refine z_icmp_ne (pc := 6) 13 dX4_ofOne_6 rfl (fun c6 => ?_) (fun c6 => ?_)
  · refine z_al0 (pc := 13) dX4_ofOne_13 ?_
    refine z_get (pc := 14) 0 h1 rfl iw_X4 (by decide) kw_37 rfl dX4_ofOne_14 ?_
    refine z_iconst (pc := 17) (3) (by decide) dX4_ofOne_17 ?_
    refine z_iald (pc := 18) 3 h2 rfl (by omega) (by omega) dX4_ofOne_18 ?_
    rw [← hQx]
    refine z_iret (pc := 19) rfl (by decide) dX4_ofOne_19 (⟨_, rfl, (if_neg c6).symm, rfl⟩)
  · refine z_iconst (pc := 9) (0) (by decide) dX4_ofOne_9 ?_
    refine z_goto (pc := 10) 19 dX4_ofOne_10 rfl ?_
    rw [← hQx]
    refine z_iret (pc := 19) rfl (by decide) dX4_ofOne_19 (⟨_, rfl, (if_pos c6).symm, rfl⟩)
abbrev rX7_isWithin : Room := rmK 0 0 0 0
set_option maxRecDepth 100000 in
set_option maxHeartbeats 400000 in
theorem c_isWithin (l : Launch) {κ : zK} {G : zH} (v t : Int32)  : Ct l yX7_isWithin cX7_isWithin 2 (some FieldType.boolean) rX7_isWithin κ [.int v, .int t] G (zP (zb (0 ≤ v ∧ v ≤ t)) G) := by
  refine Ct.of (by decide +kernel) (fun v hv => by
    simp only [List.mem_cons, List.mem_nil_iff, or_false, List.not_mem_nil] at hv
    rcases hv with rfl | rfl <;> rfl) (Nat.le_of_ble_eq_true rfl) ?_
  intro p e s m args below meth cC
  refine z_L (L' := [some (.int v), some (.int t)]) rfl ?_
  generalize hQx : MQ below (zQc κ _) args s _ _ (zA κ) = Qx
  refine z_il0 (pc := 0) dX7_isWithin_0 ?_
  refine z_if_lt (pc := 1) 13 dX7_isWithin_1 rfl (fun c1 => ?_) (fun c1 => ?_)
  · refine z_iconst (pc := 13) (0) (by decide) dX7_isWithin_13 ?_
    rw [← hQx]
    refine z_zret (pc := 14) rfl rfl (by decide) dX7_isWithin_14 (⟨_, rfl, (zb_f (fun h => absurd h.1 (Int32.not_le.mpr c1))).symm, rfl⟩)
  · refine z_il0 (pc := 4) dX7_isWithin_4 ?_
    refine z_il1 (pc := 5) dX7_isWithin_5 ?_
    refine z_icmp_gt (pc := 6) 13 dX7_isWithin_6 rfl (fun c6 => ?_) (fun c6 => ?_)
    · refine z_iconst (pc := 13) (0) (by decide) dX7_isWithin_13 ?_
      rw [← hQx]
      refine z_zret (pc := 14) rfl rfl (by decide) dX7_isWithin_14 (⟨_, rfl, (zb_f (fun h => absurd h.2 (Int32.not_le.mpr c6))).symm, rfl⟩)
    · refine z_iconst (pc := 9) (1) (by decide) dX7_isWithin_9 ?_
      refine z_goto (pc := 10) 14 dX7_isWithin_10 rfl ?_
      rw [← hQx]
      refine z_zret (pc := 14) rfl rfl (by decide) dX7_isWithin_14 (⟨_, rfl, (zb_t (⟨Int32.not_lt.mp c1, Int32.not_lt.mp c6⟩)).symm, rfl⟩)
abbrev rX7_isHand : Room := rmK 1 0 0 21
set_option maxRecDepth 100000 in
set_option maxHeartbeats 400000 in
theorem c_isHand (l : Launch) {κ : zK} {G : zH} (v : Int32)  : Ct l yX7_isHand cX7_isHand 1 (some FieldType.boolean) rX7_isHand κ [.int v] G (zP (zb (0 ≤ v ∧ v ≤ 5)) G) := by
  refine Ct.of (by decide +kernel) (fun v hv => by
    simp only [List.mem_cons, List.mem_nil_iff, or_false, List.not_mem_nil] at hv
    rcases hv with rfl <;> rfl) (Nat.le_of_ble_eq_true rfl) ?_
  intro p e s m args below meth cC
  refine z_L (L' := [some (.int v)]) rfl ?_
  generalize hQx : MQ below (zQc κ _) args s _ _ (zA κ) = Qx
  refine z_il0 (pc := 0) dX7_isHand_0 ?_
  refine z_iconst (pc := 1) (5) (by decide) dX7_isHand_1 ?_
  refine z_callSr (pc := 2) (c_isWithin l v 5) kw_160 zc_X7_isWithin (by decide) (by decide) rfl (Nat.le_of_ble_eq_true rfl) dX7_isHand_2 ?_
  rw [← hQx]
  refine z_zret (pc := 5) rfl zb_n (by decide) dX7_isHand_5 (⟨_, rfl, rfl, rfl⟩)
abbrev rX7_isWords : Room := rmK 1 0 0 21
set_option maxRecDepth 100000 in
set_option maxHeartbeats 400000 in
theorem c_isWords (l : Launch) {κ : zK} {G : zH} (v : Int32)  : Ct l yX7_isWords cX7_isWords 1 (some FieldType.boolean) rX7_isWords κ [.int v] G (zP (zb (0 ≤ v ∧ v ≤ 9)) G) := by
  refine Ct.of (by decide +kernel) (fun v hv => by
    simp only [List.mem_cons, List.mem_nil_iff, or_false, List.not_mem_nil] at hv
    rcases hv with rfl <;> rfl) (Nat.le_of_ble_eq_true rfl) ?_
  intro p e s m args below meth cC
  refine z_L (L' := [some (.int v)]) rfl ?_
  generalize hQx : MQ below (zQc κ _) args s _ _ (zA κ) = Qx
  refine z_il0 (pc := 0) dX7_isWords_0 ?_
  refine z_bipush (pc := 1) (9) (by decide) dX7_isWords_1 ?_
  refine z_callSr (pc := 3) (c_isWithin l v 9) kw_160 zc_X7_isWithin (by decide) (by decide) rfl (Nat.le_of_ble_eq_true rfl) dX7_isWords_3 ?_
  rw [← hQx]
  refine z_zret (pc := 6) rfl zb_n (by decide) dX7_isWords_6 (⟨_, rfl, rfl, rfl⟩)
abbrev rX7_isNote : Room := rmK 1 0 0 21
set_option maxRecDepth 100000 in
set_option maxHeartbeats 400000 in
theorem c_isNote (l : Launch) {κ : zK} {G : zH} (v b : Int32)  : Ct l yX7_isNote cX7_isNote 2 (some FieldType.boolean) rX7_isNote κ [.int v, .int b] G (zP (zb (v = -1 ∨ (0 ≤ v ∧ v ≤ 60) ∧ 1 ≤ b ∧ b ≤ 16)) G) := by
  refine Ct.of (by decide +kernel) (fun v hv => by
    simp only [List.mem_cons, List.mem_nil_iff, or_false, List.not_mem_nil] at hv
    rcases hv with rfl | rfl <;> rfl) (Nat.le_of_ble_eq_true rfl) ?_
  intro p e s m args below meth cC
  refine z_L (L' := [some (.int v), some (.int b)]) rfl ?_
  generalize hQx : MQ below (zQc κ _) args s _ _ (zA κ) = Qx
  refine z_il0 (pc := 0) dX7_isNote_0 ?_
  refine z_iconst (pc := 1) (-1) (by decide) dX7_isNote_1 ?_
  refine z_icmp_eq (pc := 2) 25 dX7_isNote_2 rfl (fun c2 => ?_) (fun c2 => ?_)
  · refine z_iconst (pc := 25) (1) (by decide) dX7_isNote_25 ?_
    refine z_goto (pc := 26) 30 dX7_isNote_26 rfl ?_
    rw [← hQx]
    refine z_zret (pc := 30) rfl rfl (by decide) dX7_isNote_30 (⟨_, rfl, (zb_t (by simp only [i_lt, i_le, i_eq, i_0, i_m1, i_lit, Nat.reduceLT, Nat.reducePow, ne_eq] at *; omega)).symm, rfl⟩)
  · refine z_il0 (pc := 5) dX7_isNote_5 ?_
    refine z_bipush (pc := 6) (60) (by decide) dX7_isNote_6 ?_
    refine z_callSr (pc := 8) (c_isWithin l v 60) kw_160 zc_X7_isWithin (by decide) (by decide) rfl (Nat.le_of_ble_eq_true rfl) dX7_isNote_8 ?_
    refine z_ifz_eq (pc := 11) 29 dX7_isNote_11 rfl (fun c11 => ?_) (fun c11 => ?_)
    · refine z_iconst (pc := 29) (0) (by decide) dX7_isNote_29 ?_
      rw [← hQx]
      refine z_zret (pc := 30) rfl rfl (by decide) dX7_isNote_30 (⟨_, rfl, (zb_f (by simp only [i_lt, i_le, i_eq, i_0, i_m1, i_lit, Nat.reduceLT, Nat.reducePow, ne_eq] at *; omega)).symm, rfl⟩)
    · refine z_il1 (pc := 14) dX7_isNote_14 ?_
      refine z_iconst (pc := 15) (1) (by decide) dX7_isNote_15 ?_
      refine z_icmp_lt (pc := 16) 29 dX7_isNote_16 rfl (fun c16 => ?_) (fun c16 => ?_)
      · refine z_iconst (pc := 29) (0) (by decide) dX7_isNote_29 ?_
        rw [← hQx]
        refine z_zret (pc := 30) rfl rfl (by decide) dX7_isNote_30 (⟨_, rfl, (zb_f (by simp only [i_lt, i_le, i_eq, i_0, i_m1, i_lit, Nat.reduceLT, Nat.reducePow, ne_eq] at *; omega)).symm, rfl⟩)
      · refine z_il1 (pc := 19) dX7_isNote_19 ?_
        refine z_bipush (pc := 20) (16) (by decide) dX7_isNote_20 ?_
        refine z_icmp_gt (pc := 22) 29 dX7_isNote_22 rfl (fun c22 => ?_) (fun c22 => ?_)
        · refine z_iconst (pc := 29) (0) (by decide) dX7_isNote_29 ?_
          rw [← hQx]
          refine z_zret (pc := 30) rfl rfl (by decide) dX7_isNote_30 (⟨_, rfl, (zb_f (by simp only [i_lt, i_le, i_eq, i_0, i_m1, i_lit, Nat.reduceLT, Nat.reducePow, ne_eq] at *; omega)).symm, rfl⟩)
        · refine z_iconst (pc := 25) (1) (by decide) dX7_isNote_25 ?_
          refine z_goto (pc := 26) 30 dX7_isNote_26 rfl ?_
          rw [← hQx]
          refine z_zret (pc := 30) rfl rfl (by decide) dX7_isNote_30 (⟨_, rfl, (zb_t (by simp only [i_lt, i_le, i_eq, i_0, i_m1, i_lit, Nat.reduceLT, Nat.reducePow, ne_eq] at *; omega)).symm, rfl⟩)
theorem i_n5b : (5 : Int32).toInt = 5 := rfl
abbrev rX4_set : Room := rmK 1 0 0 21
set_option maxRecDepth 100000 in
set_option maxHeartbeats 400000 in
theorem c_pSet (l : Launch) {κ : zK} {G : zH} {x : Nat} {pr : Nat → Int32} (k0 v0 : Int32) (hP : zPR κ G x pr) : Ct l yX4_set cX4_set 3 (some FieldType.boolean) rX4_set κ [.ref x, .int k0, .int v0] G (pI (fun r G2 => (((0 ≤ k0 ∧ k0 ≤ 4) ∧ 0 ≤ v0 ∧ v0 ≤ zTops (iN k0)) ∧ r = 1 ∧ zPR κ G2 x (upd pr (iN k0) v0) ∧ zFP (fun r => r = (2, 2, 0)) G G2) ∨ (¬ ((0 ≤ k0 ∧ k0 ≤ 4) ∧ 0 ≤ v0 ∧ v0 ≤ zTops (iN k0)) ∧ r = 0 ∧ G2 = G))) := by
  refine Ct.of (by decide +kernel) (fun v hv => by
    simp only [List.mem_cons, List.mem_nil_iff, or_false, List.not_mem_nil] at hv
    rcases hv with rfl | rfl | rfl <;> rfl) (Nat.le_of_ble_eq_true rfl) ?_
  intro p e s m args below meth cC
  refine z_L (L' := [some (.ref x), some (.int k0), some (.int v0)]) rfl ?_
  generalize hQx : MQ below (zQc κ _) args s _ _ (zA κ) = Qx
  obtain ⟨q, h1, h2⟩ := hP
  refine z_il1 (pc := 0) dX4_set_0 ?_
  refine z_if_lt (pc := 1) 21 dX4_set_1 rfl (fun c1 => ?_) (fun c1 => ?_)
  · refine z_iconst (pc := 21) (0) (by decide) dX4_set_21 ?_
    rw [← hQx]
    refine z_zret (pc := 22) rfl rfl (by decide) dX4_set_22 (⟨_, rfl, Or.inr ⟨fun h => absurd h.1.1 (Int32.not_le.mpr c1), rfl, rfl⟩⟩)
  · refine z_il1 (pc := 4) dX4_set_4 ?_
    refine z_gets (pc := 5) (ref := "") (fun h => h.2.2.1) kw_422 dX4_set_5 ?_
    refine z_tlen (pc := 8) (v := 5) (fun h => h.2.2.2.1) rfl dX4_set_8 ?_
    refine z_icmp_ge (pc := 9) 21 dX4_set_9 rfl (fun c9 => ?_) (fun c9 => ?_)
    · refine z_iconst (pc := 21) (0) (by decide) dX4_set_21 ?_
      rw [← hQx]
      refine z_zret (pc := 22) rfl rfl (by decide) dX4_set_22 (⟨_, rfl, Or.inr ⟨fun h => absurd h.1.2 (by rw [i_le] at *; rw [i_n4]; rw [i_n5] at c9; omega), rfl, rfl⟩⟩)
    · refine z_il1 (pc := 12) dX4_set_12 ?_
      refine z_al0 (pc := 13) dX4_set_13 ?_
      refine z_get (pc := 14) 0 h1 rfl iw_X4 (by decide) kw_37 rfl dX4_set_14 ?_
      refine z_alen (pc := 17) (v := 5) 0 h2 rfl rfl dX4_set_17 ?_
      refine z_icmp_lt (pc := 18) 23 dX4_set_18 rfl (fun c18 => ?_) (fun c18 => absurd (Int32.not_le.mp c9) c18)
      obtain ⟨i, rfl, hi⟩ := ix_in (Int32.not_lt.mp c1) (show k0 < nI 5 from Int32.not_le.mp c9) (by omega)
      refine z_il2 (pc := 23) dX4_set_23 ?_
      refine z_gets (pc := 24) (ref := "") (fun h => h.2.2.1) kw_422 dX4_set_24 ?_
      refine z_il1 (pc := 27) dX4_set_27 ?_
      refine z_ti (pc := 28) i (fun h => h.2.2.2.1) rfl hi (by omega) rfl dX4_set_28 ?_
      refine z_callSNr (pc := 29) (c_isWithin l v0 (zTops i)) kn_424 zc_X7_isWithin (by decide) (by decide) rfl (Nat.le_of_ble_eq_true rfl) dX4_set_29 ?_
      refine z_ifz_ne (pc := 32) 37 dX4_set_32 rfl (fun c32 => ?_) (fun c32 => ?_)
      · refine z_al0 (pc := 37) dX4_set_37 ?_
        refine z_get (pc := 38) 0 h1 rfl iw_X4 (by decide) kw_37 rfl dX4_set_38 ?_
        refine z_il1 (pc := 41) dX4_set_41 ?_
        refine z_il2 (pc := 42) dX4_set_42 ?_
        refine z_iastg (pc := 43) i h2 rfl (by omega) (by omega) dX4_set_43 (fun G4 h4x hF4 => ?_)
        replace h1 := hF4.1 _ _ _ (fun h => by cases h) h1
        replace h2 := h4x
        clear h4x
        refine z_iconst (pc := 44) (1) (by decide) dX4_set_44 ?_
        rw [← hQx]
        refine z_zret (pc := 45) rfl rfl (by decide) dX4_set_45 (⟨_, rfl, Or.inl ⟨⟨⟨by simp only [i_le, i_0, i_n4]; rw [nI_toInt (by omega)]; omega, by simp only [i_le, i_0, i_n4]; rw [nI_toInt (by omega)]; omega⟩, by rw [iN_nI (by omega)]; exact c32⟩, rfl, ⟨q, h1, by rw [iN_nI (by omega)]; exact h2⟩, hF4.mono (fun _ h => h)⟩⟩)
      · refine z_iconst (pc := 35) (0) (by decide) dX4_set_35 ?_
        rw [← hQx]
        refine z_zret (pc := 36) rfl rfl (by decide) dX4_set_36 (⟨_, rfl, Or.inr ⟨fun h => c32 (by have := h.2; rwa [iN_nI (by omega)] at this), rfl, rfl⟩⟩)
