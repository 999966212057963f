/-! the alignment laid out by the class -/
def CV (D c2 : Nat → Nat → Int32) (a1 b1 : Nat → Int32) (nt nu : Nat) (f0 f1 f2 : Nat → Int32) (s i j : Nat) : Prop :=
  (i, j) = pst D c2 a1 (nt, nu) s ∧ s + i + j ≤ nt + nu ∧ i ≤ nt ∧ j ≤ nu ∧ ∀ a, a < s → pst D c2 a1 (nt, nu) a ≠ (0, 0) ∧ f0 a = eT D c2 a1 (pst D c2 a1 (nt, nu) a) ∧ f1 a = eU D c2 a1 (pst D c2 a1 (nt, nu) a) ∧ f2 a = eC D c2 a1 b1 (pst D c2 a1 (nt, nu) a)
theorem CV.step {D c2 : Nat → Nat → Int32} {a1 b1 : Nat → Int32} {nt nu : Nat} {f0 f1 f2 : Nat → Int32} {s i j i2 j2 : Nat} {v1 v2 v3 : Int32} (h : CV D c2 a1 b1 nt nu f0 f1 f2 s i j) (hn : (i, j) ≠ (0, 0)) (hx : nxt D c2 a1 (i, j) = (i2, j2)) (hd : i2 + j2 + 1 ≤ i + j ∧ i2 ≤ i ∧ j2 ≤ j)
    (e1 : v1 = eT D c2 a1 (i, j)) (e2 : v2 = eU D c2 a1 (i, j)) (e3 : v3 = eC D c2 a1 b1 (i, j)) : CV D c2 a1 b1 nt nu (upd f0 s v1) (upd f1 s v2) (upd f2 s v3) (s + 1) i2 j2 := by
  obtain ⟨h2, h3, h4, h5, h6⟩ := h
  refine ⟨?_, by omega, by omega, by omega, fun a ha => ?_⟩
  · show _ = nxt D c2 a1 (pst D c2 a1 (nt, nu) s)
    rw [← h2, hx]
  · by_cases q : a = s
    · subst q
      rw [← h2]
      exact ⟨hn, upd_s.trans e1, upd_s.trans e2, upd_s.trans e3⟩
    · have := h6 a (by omega)
      exact ⟨this.1, (upd_n q).trans this.2.1, (upd_n q).trans this.2.2.1, (upd_n q).trans this.2.2.2⟩
abbrev rX0_takesTwo : Room := rmK 2 0 0 51
set_option maxRecDepth 100000 in
set_option maxHeartbeats 400000 in
theorem c_aTwo (l : Launch) {κ : zK} {G : zH} {a x : Nat} {t u : Nat} {cols : Nat} {key : Int32} {f0 f1 f2 : Nat → Int32} {S : Nat → Nat → Int32} {pr tp tb up ub : Nat → Int32} (j1 n j2 n2 : Nat) (i j : Nat) (k : Int32) (hA : zAL κ G a x cols key f0 f1 f2 S) (hP : zPR κ G x pr) (hT : zTU κ G t j1 n tp tb) (hU : zTU κ G u j2 n2 up ub) (hi : i < n) (hj : j < n2) : Ct l yX0_takesTwo cX0_takesTwo 6 (some FieldType.boolean) rX0_takesTwo κ [.ref a, .ref t, .int (nI (i + 1)), .ref u, .int (nI (j + 1)), .int k] G (zP (zb (S (i + 1) (j + 1) = S i j + co2 pr (tp i) (tb i) (up j) (ub j) k)) G) := by
  refine Ct.of (by decide +kernel) (fun v hv => by
    simp only [List.mem_cons, List.mem_nil_iff, or_false, List.not_mem_nil] at hv
    rcases hv with rfl | rfl | rfl | rfl | rfl | rfl <;> rfl) (Nat.le_of_ble_eq_true rfl) ?_
  intro p e s m args below meth cC
  refine z_L (L' := [some (.ref a), some (.ref t), some (.int (nI (i + 1))), some (.ref u), some (.int (nI (j + 1))), some (.int k)]) rfl ?_
  generalize hQx : MQ below (zQc κ _) args s _ _ (zA κ) = Qx
  obtain ⟨sa, o1, o2, o3, rw_, hG, hs, hR, h6, h7, h8, hcols⟩ := id hA
  obtain ⟨a1, b1, h1, h2, h3, hn⟩ := id hT
  obtain ⟨a2, b2, u1, u2, u3, hn2⟩ := id hU
  obtain ⟨qp, hP1, hP2⟩ := id hP
  refine z_al0 (pc := 0) dX0_takesTwo_0 ?_
  refine z_get (pc := 1) 1 hG rfl iw_X0 (by decide) kw_51 rfl dX0_takesTwo_1 ?_
  refine z_il2 (pc := 4) dX0_takesTwo_4 ?_
  refine z_aaldI (pc := 5) (i + 1) hs rfl (by omega) (by omega) dX0_takesTwo_5 ?_
  refine z_il4 (pc := 6) dX0_takesTwo_6 ?_
  skip
  refine z_iald (pc := 8) (j + 1) (hR (i + 1) (by omega)) rfl (by omega) (by omega) dX0_takesTwo_8 ?_
  refine z_al0 (pc := 9) dX0_takesTwo_9 ?_
  refine z_get (pc := 10) 1 hG rfl iw_X0 (by decide) kw_51 rfl dX0_takesTwo_10 ?_
  refine z_il2 (pc := 13) dX0_takesTwo_13 ?_
  refine z_iconst (pc := 14) (1) (by decide) dX0_takesTwo_14 ?_
  refine z_isub (pc := 15) dX0_takesTwo_15 ?_
  rw [nI_pred]
  refine z_aaldI (pc := 16) (i) hs rfl (by omega) (by omega) dX0_takesTwo_16 ?_
  refine z_il4 (pc := 17) dX0_takesTwo_17 ?_
  refine z_iconst (pc := 19) (1) (by decide) dX0_takesTwo_19 ?_
  refine z_isub (pc := 20) dX0_takesTwo_20 ?_
  rw [nI_pred]
  refine z_iald (pc := 21) (j) (hR i (by omega)) rfl (by omega) (by omega) dX0_takesTwo_21 ?_
  refine z_al0 (pc := 22) dX0_takesTwo_22 ?_
  refine z_get (pc := 23) 0 hG rfl iw_X0 (by decide) kw_50 rfl dX0_takesTwo_23 ?_
  refine z_al1 (pc := 26) dX0_takesTwo_26 ?_
  refine z_il2 (pc := 27) dX0_takesTwo_27 ?_
  refine z_iconst (pc := 28) (1) (by decide) dX0_takesTwo_28 ?_
  refine z_isub (pc := 29) dX0_takesTwo_29 ?_
  refine z_al3 (pc := 30) dX0_takesTwo_30 ?_
  refine z_il4 (pc := 31) dX0_takesTwo_31 ?_
  refine z_iconst (pc := 33) (1) (by decide) dX0_takesTwo_33 ?_
  refine z_isub (pc := 34) dX0_takesTwo_34 ?_
  refine z_il5 (pc := 35) dX0_takesTwo_35 ?_
  rw [nI_pred, nI_pred]
  refine z_callVr (pc := 37) (c_pTwo l j1 n j2 n2 (nI i) (nI j) k hP hT hU) hP1 rfl rfl kw_514 zc_X4_ofTwo (by decide) (by decide) rfl (Nat.le_of_ble_eq_true rfl) dX0_takesTwo_37 ?_
  rw [pAt_n (by omega) hn, pAt_n (by omega) hn, pAt_n (by omega) hn2, pAt_n (by omega) hn2]
  refine z_iadd (pc := 40) dX0_takesTwo_40 ?_
  refine z_icmp_ne (pc := 41) 48 dX0_takesTwo_41 rfl (fun c41 => ?_) (fun c41 => ?_)
  · refine z_iconst (pc := 48) (0) (by decide) dX0_takesTwo_48 ?_
    rw [← hQx]
    refine z_zret (pc := 49) rfl rfl (by decide) dX0_takesTwo_49 (⟨_, rfl, (zb_f c41).symm, rfl⟩)
  · refine z_iconst (pc := 44) (1) (by decide) dX0_takesTwo_44 ?_
    refine z_goto (pc := 45) 49 dX0_takesTwo_45 rfl ?_
    rw [← hQx]
    refine z_zret (pc := 49) rfl rfl (by decide) dX0_takesTwo_49 (⟨_, rfl, (zb_t c41).symm, rfl⟩)
abbrev rX0_takesOne : Room := rmK 2 0 0 43
set_option maxRecDepth 100000 in
set_option maxHeartbeats 400000 in
theorem c_aOne (l : Launch) {κ : zK} {G : zH} {a x : Nat} {t : Nat} {cols : Nat} {key : Int32} {f0 f1 f2 : Nat → Int32} {S : Nat → Nat → Int32} {pr tp tb : Nat → Int32} (j1 n : Nat) (i j : Nat) (hA : zAL κ G a x cols key f0 f1 f2 S) (hP : zPR κ G x pr) (hT : zTU κ G t j1 n tp tb) (hi : i < n) (hj : j < 25) : Ct l yX0_takesOne cX0_takesOne 4 (some FieldType.boolean) rX0_takesOne κ [.ref a, .ref t, .int (nI (i + 1)), .int (nI j)] G (zP (zb (S (i + 1) j = S i j + co1 pr (tp i))) G) := by
  refine Ct.of (by decide +kernel) (fun v hv => by
    simp only [List.mem_cons, List.mem_nil_iff, or_false, List.not_mem_nil] at hv
    rcases hv with rfl | rfl | rfl | rfl <;> rfl) (Nat.le_of_ble_eq_true rfl) ?_
  intro p e s m args below meth cC
  refine z_L (L' := [some (.ref a), some (.ref t), some (.int (nI (i + 1))), some (.int (nI j))]) rfl ?_
  generalize hQx : MQ below (zQc κ _) args s _ _ (zA κ) = Qx
  obtain ⟨sa, o1, o2, o3, rw_, hG, hs, hR, h6, h7, h8, hcols⟩ := id hA
  obtain ⟨a1, b1, h1, h2, h3, hn⟩ := id hT
  obtain ⟨qp, hP1, hP2⟩ := id hP
  refine z_al0 (pc := 0) dX0_takesOne_0 ?_
  refine z_get (pc := 1) 1 hG rfl iw_X0 (by decide) kw_51 rfl dX0_takesOne_1 ?_
  refine z_il2 (pc := 4) dX0_takesOne_4 ?_
  refine z_aaldI (pc := 5) (i + 1) hs rfl (by omega) (by omega) dX0_takesOne_5 ?_
  refine z_il3 (pc := 6) dX0_takesOne_6 ?_
  skip
  refine z_iald (pc := 7) (j) (hR (i + 1) (by omega)) rfl (by omega) (by omega) dX0_takesOne_7 ?_
  refine z_al0 (pc := 8) dX0_takesOne_8 ?_
  refine z_get (pc := 9) 1 hG rfl iw_X0 (by decide) kw_51 rfl dX0_takesOne_9 ?_
  refine z_il2 (pc := 12) dX0_takesOne_12 ?_
  refine z_iconst (pc := 13) (1) (by decide) dX0_takesOne_13 ?_
  refine z_isub (pc := 14) dX0_takesOne_14 ?_
  rw [nI_pred]
  refine z_aaldI (pc := 15) (i) hs rfl (by omega) (by omega) dX0_takesOne_15 ?_
  refine z_il3 (pc := 16) dX0_takesOne_16 ?_
  skip
  refine z_iald (pc := 17) (j) (hR i (by omega)) rfl (by omega) (by omega) dX0_takesOne_17 ?_
  refine z_al0 (pc := 18) dX0_takesOne_18 ?_
  refine z_get (pc := 19) 0 hG rfl iw_X0 (by decide) kw_50 rfl dX0_takesOne_19 ?_
  refine z_al1 (pc := 22) dX0_takesOne_22 ?_
  refine z_il2 (pc := 23) dX0_takesOne_23 ?_
  refine z_iconst (pc := 24) (1) (by decide) dX0_takesOne_24 ?_
  refine z_isub (pc := 25) dX0_takesOne_25 ?_
  rw [nI_pred]
  refine z_callVr (pc := 26) (c_pOne l j1 n (nI i) hP hT) hP1 rfl rfl kw_535 zc_X4_ofOne (by decide) (by decide) rfl (Nat.le_of_ble_eq_true rfl) dX0_takesOne_26 ?_
  rw [pAt_n (by omega) hn]
  refine z_iadd (pc := 29) dX0_takesOne_29 ?_
  refine z_icmp_ne (pc := 30) 37 dX0_takesOne_30 rfl (fun c30 => ?_) (fun c30 => ?_)
  · refine z_iconst (pc := 37) (0) (by decide) dX0_takesOne_37 ?_
    rw [← hQx]
    refine z_zret (pc := 38) rfl rfl (by decide) dX0_takesOne_38 (⟨_, rfl, (zb_f c30).symm, rfl⟩)
  · refine z_iconst (pc := 33) (1) (by decide) dX0_takesOne_33 ?_
    refine z_goto (pc := 34) 38 dX0_takesOne_34 rfl ?_
    rw [← hQx]
    refine z_zret (pc := 38) rfl rfl (by decide) dX0_takesOne_38 (⟨_, rfl, (zb_t c30).symm, rfl⟩)
abbrev rX0_put : Room := rmK 0 0 0 0
set_option maxRecDepth 100000 in
set_option maxHeartbeats 400000 in
theorem c_aPut (l : Launch) {κ : zK} {G : zH} {a x : Nat} {cols : Nat} {key : Int32} {f0 f1 f2 : Nat → Int32} {S : Nat → Nat → Int32} (v1 v2 v3 : Int32) (hA : zAL κ G a x cols key f0 f1 f2 S) (hc : cols < 48) : Ct l yX0_put cX0_put 4 none rX0_put κ [.ref a, .int v1, .int v2, .int v3] G (pV (fun G2 => zAL κ G2 a x (cols + 1) key (upd f0 cols v1) (upd f1 cols v2) (upd f2 cols v3) S ∧ zFP isAL G G2)) := by
  refine Ct.of (by decide +kernel) (fun v hv => by
    simp only [List.mem_cons, List.mem_nil_iff, or_false, List.not_mem_nil] at hv
    rcases hv with rfl | rfl | rfl | rfl <;> rfl) (Nat.le_of_ble_eq_true rfl) ?_
  intro p e s m args below meth cC
  refine z_L (L' := [some (.ref a), some (.int v1), some (.int v2), some (.int v3)]) rfl ?_
  generalize hQx : MQ below (zQc κ _) args s _ _ (zA κ) = Qx
  obtain ⟨sa, o1, o2, o3, rw_, hG, hs, hR, h6, h7, h8, hcols⟩ := id hA
  refine z_al0 (pc := 0) dX0_put_0 ?_
  refine z_get (pc := 1) 2 hG rfl iw_X0 (by decide) kw_52 rfl dX0_put_1 ?_
  refine z_al0 (pc := 4) dX0_put_4 ?_
  refine z_get (pc := 5) 5 hG rfl iw_X0 (by decide) kw_55 rfl dX0_put_5 ?_
  refine z_il1 (pc := 8) dX0_put_8 ?_
  refine z_iastg (pc := 9) cols h6 rfl (by omega) (by omega) dX0_put_9 (fun G3 h3x hF3 => ?_)
  replace hG := hF3.1 _ _ _ (fun h => by cases h) hG
  replace hs := hF3.1 _ _ _ (fun h => by cases h) hs
  replace h7 := hF3.1 _ _ _ (fun h => by cases h) h7
  replace h8 := hF3.1 _ _ _ (fun h => by cases h) h8
  replace hR := hR.keep hF3 (fun k h => by cases h)
  replace h6 := h3x
  clear h3x
  refine z_al0 (pc := 10) dX0_put_10 ?_
  refine z_get (pc := 11) 3 hG rfl iw_X0 (by decide) kw_53 rfl dX0_put_11 ?_
  refine z_al0 (pc := 14) dX0_put_14 ?_
  refine z_get (pc := 15) 5 hG rfl iw_X0 (by decide) kw_55 rfl dX0_put_15 ?_
  refine z_il2 (pc := 18) dX0_put_18 ?_
  refine z_iastg (pc := 19) cols h7 rfl (by omega) (by omega) dX0_put_19 (fun G4 h4x hF4 => ?_)
  replace hG := hF4.1 _ _ _ (fun h => by cases h) hG
  replace hs := hF4.1 _ _ _ (fun h => by cases h) hs
  replace h6 := hF4.1 _ _ _ (fun h => by cases h) h6
  replace h8 := hF4.1 _ _ _ (fun h => by cases h) h8
  replace hR := hR.keep hF4 (fun k h => by cases h)
  replace h7 := h4x
  clear h4x
  refine z_al0 (pc := 20) dX0_put_20 ?_
  refine z_get (pc := 21) 4 hG rfl iw_X0 (by decide) kw_54 rfl dX0_put_21 ?_
  refine z_al0 (pc := 24) dX0_put_24 ?_
  refine z_get (pc := 25) 5 hG rfl iw_X0 (by decide) kw_55 rfl dX0_put_25 ?_
  refine z_il3 (pc := 28) dX0_put_28 ?_
  refine z_iastg (pc := 29) cols h8 rfl (by omega) (by omega) dX0_put_29 (fun G5 h5x hF5 => ?_)
  replace hG := hF5.1 _ _ _ (fun h => by cases h) hG
  replace hs := hF5.1 _ _ _ (fun h => by cases h) hs
  replace h6 := hF5.1 _ _ _ (fun h => by cases h) h6
  replace h7 := hF5.1 _ _ _ (fun h => by cases h) h7
  replace hR := hR.keep hF5 (fun k h => by cases h)
  replace h8 := h5x
  clear h5x
  refine z_al0 (pc := 30) dX0_put_30 ?_
  refine z_dup (pc := 31) rfl dX0_put_31 ?_
  refine z_get (pc := 32) 5 hG rfl iw_X0 (by decide) kw_55 rfl dX0_put_32 ?_
  refine z_iconst (pc := 35) (1) (by decide) dX0_put_35 ?_
  refine z_iadd (pc := 36) dX0_put_36 ?_
  rw [nI_1]
  refine z_putg (pc := 37) 5 hG rfl iw_X0 tyX0 tyX0_ok nmX0 (by decide) kw_55 rfl rfl rfl rfl (Nat.le_of_ble_eq_true rfl) dX0_put_37 (fun G7 h7x hF7 => ?_)
  rw [← hQx]
  refine z_vret (pc := 40) rfl (by decide) dX0_put_40 (⟨rfl, ⟨sa, o1, o2, o3, rw_, h7x, hF7.1 _ _ _ (fun h => by cases h) hs, hR.keep hF7 (fun k h => by cases h), hF7.1 _ _ _ (fun h => by cases h) h6, hF7.1 _ _ _ (fun h => by cases h) h7, hF7.1 _ _ _ (fun h => by cases h) h8, by omega⟩, (((hF3.mono (fun r h => by rw [h]; exact ⟨rfl, by decide⟩)).trans (hF4.mono (fun r h => by rw [h]; exact ⟨rfl, by decide⟩))).trans ((hF5.mono (fun r h => by rw [h]; exact ⟨rfl, by decide⟩)).trans (hF7.mono (fun r h => by rw [h]; exact ⟨rfl, by decide⟩))))⟩)
abbrev rX0_layOut : Room := rmK 3 0 0 76
set_option maxRecDepth 100000 in
set_option maxHeartbeats 400000 in
theorem c_aLay (l : Launch) {κ : zK} {G : zH} {a x : Nat} {t u : Nat} {cols : Nat} {key : Int32} {f0 f1 f2 : Nat → Int32} {S : Nat → Nat → Int32} {pr tp tb up ub : Nat → Int32} (j1 n j2 n2 : Nat) (k0 : Int32) (hA : zAL κ G a x cols key f0 f1 f2 S) (hP : zPR κ G x pr) (hT : zTU κ G t j1 n tp tb) (hU : zTU κ G u j2 n2 up ub) (hNB : ∀ i j, i ≤ n → j ≤ n2 → (dp pr tp tb up ub k0) i j < 1000000) : Ct l yX0_layOut cX0_layOut 6 none rX0_layOut κ [.ref a, .ref t, .ref u, .int k0] G (pV (fun G2 => ∃ S2 f0 f1 f2 s0, zAL κ G2 a x s0 k0 f0 f1 f2 S2 ∧ zFP isAL G G2 ∧ CV (dp pr tp tb up ub k0) (fun i j => co2 pr (tp i) (tb i) (up j) (ub j) k0) (fun i => co1 pr (tp i)) (fun j => co1 pr (up j)) n n2 f0 f1 f2 s0 0 0)) := by
  refine Ct.of (by decide +kernel) (fun v hv => by
    simp only [List.mem_cons, List.mem_nil_iff, or_false, List.not_mem_nil] at hv
    rcases hv with rfl | rfl | rfl | rfl <;> rfl) (Nat.le_of_ble_eq_true rfl) ?_
  intro p e s m args below meth cC
  refine z_L (L' := [some (.ref a), some (.ref t), some (.ref u), some (.int k0), none, none]) rfl ?_
  generalize hQx : MQ below (zQc κ _) args s _ _ (zA κ) = Qx
  obtain ⟨sa, o1, o2, o3, rw_, hG, -, -, -, -, -, -⟩ := id hA
  obtain ⟨ta_, tb_, h1, -, -, -⟩ := id hT
  obtain ⟨ua_, ub_, u1, -, -, -⟩ := id hU
  refine z_al0 (pc := 0) dX0_layOut_0 ?_
  refine z_al1 (pc := 1) dX0_layOut_1 ?_
  refine z_al2 (pc := 2) dX0_layOut_2 ?_
  refine z_il3 (pc := 3) dX0_layOut_3 ?_
  refine z_ldc (pc := 4) kw_507 dX0_layOut_4 ?_
  refine z_callVi (pc := 6) _ (c_aLeast l j1 n k0 1000000 hA hP hT hU) rfl hG rfl rfl kw_508 zc_X0_leastSum (by decide) rfl (Nat.le_of_ble_eq_true rfl) dX0_layOut_6 (fun v G2 hv => ?_)
  obtain ⟨S2, hA2, hF2, hv⟩ := hv
  replace hv := hv.resolve_right (fun q => by
    obtain ⟨i, hi, h⟩ := q.2
    exact absurd (h 0 (by omega)) (Int32.not_le.mpr (hNB i 0 hi (by omega))))
  obtain ⟨-, hE⟩ := hv
  replace hT := hT.keep hF2 (fun r h q => by rcases h with rfl | rfl | rfl <;> simp [isSum] at q)
  replace hU := hU.keep hF2 (fun r h q => by rcases h with rfl | rfl | rfl <;> simp [isSum] at q)
  replace hP := hP.keep hF2 (fun h => by simp [isSum] at h) (fun h => by simp [isSum] at h)
  clear hG h1 u1
  obtain ⟨sa, o1, o2, o3, rw_, hG, hs, hR, h6, h7, h8, hcols⟩ := id hA2
  obtain ⟨a1, b1, h1, h2, h3, hn⟩ := id hT
  obtain ⟨a2, b2, u1, u2, u3, hn2⟩ := id hU
  have lp : ∀ (d s1 : Nat) (G2 : zH) (f0 f1 f2 : Nat → Int32) (i j : Nat), s1 + d = 48 → zAL κ G2 a x s1 k0 f0 f1 f2 S2 → zPR κ G2 x pr → zTU κ G2 t j1 n tp tb → zTU κ G2 u j2 n2 up ub → CV (dp pr tp tb up ub k0) (fun i j => co2 pr (tp i) (tb i) (up j) (ub j) k0) (fun i => co1 pr (tp i)) (fun j => co1 pr (up j)) n n2 f0 f1 f2 s1 i j → zFP isAL G G2 → Z p l e rX0_layOut s m args below meth cC yX0_layOut cX0_layOut 6 none κ Qx 0 0 G2 [some (.ref a), some (.ref t), some (.ref u), some (.int k0), some (.int (nI i)), some (.int (nI j))] 42 [] := by
    intro d
    induction d with
    | zero =>
      intro s1 G2 f0 f1 f2 i j hs1 hA hP hT hU hCV hF
      obtain ⟨sa, o1, o2, o3, rw_, hG, hs, hR, h6, h7, h8, hcols⟩ := id hA
      obtain ⟨a1, b1, h1, h2, h3, hn⟩ := id hT
      obtain ⟨a2, b2, u1, u2, u3, hn2⟩ := id hU
      obtain ⟨qp, hP1, hP2⟩ := id hP
      have hcv := hCV.2.1; have hcv2 := hCV.2.2.1; have hcv3 := hCV.2.2.2.1
      obtain ⟨rfl, rfl⟩ : i = 0 ∧ j = 0 := by omega
      refine z_il4 (pc := 42) dX0_layOut_42 ?_
      refine z_if_gt (pc := 44) 52 dX0_layOut_44 rfl (fun c44 => absurd c44 (by decide)) (fun c44 => ?_)
      refine z_il5 (pc := 47) dX0_layOut_47 ?_
      refine z_if_le (pc := 49) 184 dX0_layOut_49 rfl (fun c49 => ?_) (fun c49 => absurd (by decide) c49)
      rw [← hQx]
      refine z_vret (pc := 184) rfl (by decide) dX0_layOut_184 (⟨rfl, S2, _, _, _, s1, hA, hF, hCV⟩)
    | succ d ih =>
      intro s1 G2 f0 f1 f2 i j hs1 hA hP hT hU hCV hF
      obtain ⟨sa, o1, o2, o3, rw_, hG, hs, hR, h6, h7, h8, hcols⟩ := id hA
      obtain ⟨a1, b1, h1, h2, h3, hn⟩ := id hT
      obtain ⟨a2, b2, u1, u2, u3, hn2⟩ := id hU
      obtain ⟨qp, hP1, hP2⟩ := id hP
      have hcv := hCV.2.1; have hcv2 := hCV.2.2.1; have hcv3 := hCV.2.2.2.1
      rcases i with _ | i
      · rcases j with _ | j
        · refine z_il4 (pc := 42) dX0_layOut_42 ?_
          refine z_if_gt (pc := 44) 52 dX0_layOut_44 rfl (fun c44 => absurd c44 (by decide)) (fun c44 => ?_)
          refine z_il5 (pc := 47) dX0_layOut_47 ?_
          refine z_if_le (pc := 49) 184 dX0_layOut_49 rfl (fun c49 => ?_) (fun c49 => absurd (by decide) c49)
          rw [← hQx]
          refine z_vret (pc := 184) rfl (by decide) dX0_layOut_184 (⟨rfl, S2, _, _, _, s1, hA, hF, hCV⟩)
        · skip
          refine z_il4 (pc := 42) dX0_layOut_42 ?_
          refine z_if_gt (pc := 44) 52 dX0_layOut_44 rfl (fun c44 => absurd c44 (by decide)) (fun c44 => ?_)
          refine z_il5 (pc := 47) dX0_layOut_47 ?_
          refine z_if_le (pc := 49) 184 dX0_layOut_49 rfl (fun c49 => absurd c49 (by rw [show (0 : Int32) = nI 0 from rfl, nI_leI (by omega) (by omega)]; omega)) (fun c49 => ?_)
          refine z_al0 (pc := 52) dX0_layOut_52 ?_
          refine z_get (pc := 53) 5 hG rfl iw_X0 (by decide) kw_55 rfl dX0_layOut_53 ?_
          refine z_bipush (pc := 56) (48) (by decide) dX0_layOut_56 ?_
          refine z_icmp_ge (pc := 58) 184 dX0_layOut_58 rfl (fun c58 => absurd c58 (by rw [show (48 : Int32) = nI 48 from rfl, nI_leI (by omega) (by have := hCV.2.1; omega)]; have := hCV.2.1; omega)) (fun c58 => ?_)
          refine z_il4 (pc := 61) dX0_layOut_61 ?_
          refine z_if_le (pc := 63) 116 dX0_layOut_63 rfl (fun c63 => ?_) (fun c63 => absurd (by decide) c63)
          refine z_il4 (pc := 116) dX0_layOut_116 ?_
          refine z_if_le (pc := 118) 161 dX0_layOut_118 rfl (fun c118 => ?_) (fun c118 => absurd (by decide) c118)
          refine z_ii5 (pc := 161) (nI j) dX0_layOut_161 (pk_m1 _) (by decide) ?_
          refine z_al0 (pc := 164) dX0_layOut_164 ?_
          refine z_iconst (pc := 165) (-1) (by decide) dX0_layOut_165 ?_
          refine z_il5 (pc := 166) dX0_layOut_166 ?_
          refine z_al0 (pc := 168) dX0_layOut_168 ?_
          refine z_get (pc := 169) 0 hG rfl iw_X0 (by decide) kw_50 rfl dX0_layOut_169 ?_
          refine z_al2 (pc := 172) dX0_layOut_172 ?_
          refine z_il5 (pc := 173) dX0_layOut_173 ?_
          refine z_callVr (pc := 175) (c_pOne l j2 n2 (nI j) hP hU) hP1 rfl rfl kw_535 zc_X4_ofOne (by decide) (by decide) rfl (Nat.le_of_ble_eq_true rfl) dX0_layOut_175 ?_
          rw [pAt_n (by omega) hn2]
          refine z_callVv (pc := 178) _ (c_aPut l (-1) (nI j) (co1 pr (up j)) hA (by have := hCV.2.1; omega)) rfl hG rfl rfl kw_527 zc_X0_put (by decide) rfl (Nat.le_of_ble_eq_true rfl) dX0_layOut_178 (fun G3 hv => ?_)
          refine z_goto (pc := 181) 42 dX0_layOut_181 rfl ?_
          have hst := st_n (b1 := (fun j => co1 pr (up j))) (show ¬ tw (dp pr tp tb up ub k0) (fun i j => co2 pr (tp i) (tb i) (up j) (ub j) k0) 0 (j + 1) from fun h => absurd h.1 (by omega)) (show ¬ fi (dp pr tp tb up ub k0) (fun i j => co2 pr (tp i) (tb i) (up j) (ub j) k0) (fun i => co1 pr (tp i)) 0 (j + 1) from fun h => absurd h.2.1 (by omega))
          refine z_L (L' := [some (.ref a), some (.ref t), some (.ref u), some (.int k0), some (.int (nI (0))), some (.int (nI (j)))]) rfl ?_
          exact ih (s1 + 1) G3 _ _ _ (0) (j) (by omega) hv.1 (hP.keep hv.2 (fun h => by simp [isAL] at h) (fun h => by simp [isAL] at h)) (hT.keep hv.2 (fun r h q => by rcases h with rfl | rfl | rfl <;> simp [isAL] at q)) (hU.keep hv.2 (fun r h q => by rcases h with rfl | rfl | rfl <;> simp [isAL] at q)) (hCV.step (by simp) hst.1 ⟨by omega, by omega, by omega⟩ hst.2.1.symm hst.2.2.1.symm hst.2.2.2.symm) (hF.trans hv.2)
      · rcases j with _ | j
        · skip
          refine z_il4 (pc := 42) dX0_layOut_42 ?_
          refine z_if_gt (pc := 44) 52 dX0_layOut_44 rfl (fun c44 => ?_) (fun c44 => absurd (by rw [show (0 : Int32) = nI 0 from rfl, nI_ltI (by omega) (by omega)]; omega) c44)
          refine z_al0 (pc := 52) dX0_layOut_52 ?_
          refine z_get (pc := 53) 5 hG rfl iw_X0 (by decide) kw_55 rfl dX0_layOut_53 ?_
          refine z_bipush (pc := 56) (48) (by decide) dX0_layOut_56 ?_
          refine z_icmp_ge (pc := 58) 184 dX0_layOut_58 rfl (fun c58 => absurd c58 (by rw [show (48 : Int32) = nI 48 from rfl, nI_leI (by omega) (by have := hCV.2.1; omega)]; have := hCV.2.1; omega)) (fun c58 => ?_)
          refine z_il4 (pc := 61) dX0_layOut_61 ?_
          refine z_if_le (pc := 63) 116 dX0_layOut_63 rfl (fun c63 => absurd c63 (by rw [show (0 : Int32) = nI 0 from rfl, nI_leI (by omega) (by omega)]; omega)) (fun c63 => ?_)
          refine z_il5 (pc := 66) dX0_layOut_66 ?_
          refine z_if_le (pc := 68) 116 dX0_layOut_68 rfl (fun c68 => ?_) (fun c68 => absurd (by decide) c68)
          refine z_il4 (pc := 116) dX0_layOut_116 ?_
          refine z_if_le (pc := 118) 161 dX0_layOut_118 rfl (fun c118 => absurd c118 (by rw [show (0 : Int32) = nI 0 from rfl, nI_leI (by omega) (by omega)]; omega)) (fun c118 => ?_)
          refine z_il5 (pc := 121) dX0_layOut_121 ?_
          refine z_if_eq (pc := 123) 138 dX0_layOut_123 rfl (fun c123 => ?_) (fun c123 => absurd (rfl) c123)
          refine z_ii4 (pc := 138) (nI i) dX0_layOut_138 (pk_m1 _) (by decide) ?_
          refine z_al0 (pc := 141) dX0_layOut_141 ?_
          refine z_il4 (pc := 142) dX0_layOut_142 ?_
          refine z_iconst (pc := 144) (-1) (by decide) dX0_layOut_144 ?_
          refine z_al0 (pc := 145) dX0_layOut_145 ?_
          refine z_get (pc := 146) 0 hG rfl iw_X0 (by decide) kw_50 rfl dX0_layOut_146 ?_
          refine z_al1 (pc := 149) dX0_layOut_149 ?_
          refine z_il4 (pc := 150) dX0_layOut_150 ?_
          refine z_callVr (pc := 152) (c_pOne l j1 n (nI i) hP hT) hP1 rfl rfl kw_535 zc_X4_ofOne (by decide) (by decide) rfl (Nat.le_of_ble_eq_true rfl) dX0_layOut_152 ?_
          rw [pAt_n (by omega) hn]
          refine z_callVv (pc := 155) _ (c_aPut l (nI i) (-1) (co1 pr (tp i)) hA (by have := hCV.2.1; omega)) rfl hG rfl rfl kw_527 zc_X0_put (by decide) rfl (Nat.le_of_ble_eq_true rfl) dX0_layOut_155 (fun G3 hv => ?_)
          refine z_goto (pc := 158) 42 dX0_layOut_158 rfl ?_
          have hst := st_f (b1 := (fun j => co1 pr (up j))) (show fi (dp pr tp tb up ub k0) (fun i j => co2 pr (tp i) (tb i) (up j) (ub j) k0) (fun i => co1 pr (tp i)) (i + 1) 0 from ⟨fun h => absurd h.2.1 (by omega), by omega, rfl⟩)
          refine z_L (L' := [some (.ref a), some (.ref t), some (.ref u), some (.int k0), some (.int (nI (i))), some (.int (nI (0)))]) rfl ?_
          exact ih (s1 + 1) G3 _ _ _ (i) (0) (by omega) hv.1 (hP.keep hv.2 (fun h => by simp [isAL] at h) (fun h => by simp [isAL] at h)) (hT.keep hv.2 (fun r h q => by rcases h with rfl | rfl | rfl <;> simp [isAL] at q)) (hU.keep hv.2 (fun r h q => by rcases h with rfl | rfl | rfl <;> simp [isAL] at q)) (hCV.step (by simp) hst.1 ⟨by omega, by omega, by omega⟩ hst.2.1.symm hst.2.2.1.symm hst.2.2.2.symm) (hF.trans hv.2)
        · skip
          refine z_il4 (pc := 42) dX0_layOut_42 ?_
          refine z_if_gt (pc := 44) 52 dX0_layOut_44 rfl (fun c44 => ?_) (fun c44 => absurd (by rw [show (0 : Int32) = nI 0 from rfl, nI_ltI (by omega) (by omega)]; omega) c44)
          refine z_al0 (pc := 52) dX0_layOut_52 ?_
          refine z_get (pc := 53) 5 hG rfl iw_X0 (by decide) kw_55 rfl dX0_layOut_53 ?_
          refine z_bipush (pc := 56) (48) (by decide) dX0_layOut_56 ?_
          refine z_icmp_ge (pc := 58) 184 dX0_layOut_58 rfl (fun c58 => absurd c58 (by rw [show (48 : Int32) = nI 48 from rfl, nI_leI (by omega) (by have := hCV.2.1; omega)]; have := hCV.2.1; omega)) (fun c58 => ?_)
          refine z_il4 (pc := 61) dX0_layOut_61 ?_
          refine z_if_le (pc := 63) 116 dX0_layOut_63 rfl (fun c63 => absurd c63 (by rw [show (0 : Int32) = nI 0 from rfl, nI_leI (by omega) (by omega)]; omega)) (fun c63 => ?_)
          refine z_il5 (pc := 66) dX0_layOut_66 ?_
          refine z_if_le (pc := 68) 116 dX0_layOut_68 rfl (fun c68 => absurd c68 (by rw [show (0 : Int32) = nI 0 from rfl, nI_leI (by omega) (by omega)]; omega)) (fun c68 => ?_)
          refine z_al0 (pc := 71) dX0_layOut_71 ?_
          refine z_al1 (pc := 72) dX0_layOut_72 ?_
          refine z_il4 (pc := 73) dX0_layOut_73 ?_
          refine z_al2 (pc := 75) dX0_layOut_75 ?_
          refine z_il5 (pc := 76) dX0_layOut_76 ?_
          refine z_il3 (pc := 78) dX0_layOut_78 ?_
          refine z_callVr (pc := 79) (c_aTwo l j1 n j2 n2 i j k0 hA hP hT hU (by omega) (by omega)) hG rfl rfl kw_510 zc_X0_takesTwo (by decide) (by decide) rfl (Nat.le_of_ble_eq_true rfl) dX0_layOut_79 ?_
          refine z_ifz_eq (pc := 82) 116 dX0_layOut_82 rfl (fun c82 => ?_) (fun c82 => ?_)
          · refine z_il4 (pc := 116) dX0_layOut_116 ?_
            refine z_if_le (pc := 118) 161 dX0_layOut_118 rfl (fun c118 => absurd c118 (by rw [show (0 : Int32) = nI 0 from rfl, nI_leI (by omega) (by omega)]; omega)) (fun c118 => ?_)
            refine z_il5 (pc := 121) dX0_layOut_121 ?_
            refine z_if_eq (pc := 123) 138 dX0_layOut_123 rfl (fun c123 => absurd c123 (nI_ne0 (by omega) (by omega))) (fun c123 => ?_)
            refine z_al0 (pc := 126) dX0_layOut_126 ?_
            refine z_al1 (pc := 127) dX0_layOut_127 ?_
            refine z_il4 (pc := 128) dX0_layOut_128 ?_
            refine z_il5 (pc := 130) dX0_layOut_130 ?_
            refine z_callVr (pc := 132) (c_aOne l j1 n i (j + 1) hA hP hT (by omega) (by omega)) hG rfl rfl kw_531 zc_X0_takesOne (by decide) (by decide) rfl (Nat.le_of_ble_eq_true rfl) dX0_layOut_132 ?_
            refine z_ifz_eq (pc := 135) 161 dX0_layOut_135 rfl (fun c135 => ?_) (fun c135 => ?_)
            · refine z_ii5 (pc := 161) (nI j) dX0_layOut_161 (pk_m1 _) (by decide) ?_
              refine z_al0 (pc := 164) dX0_layOut_164 ?_
              refine z_iconst (pc := 165) (-1) (by decide) dX0_layOut_165 ?_
              refine z_il5 (pc := 166) dX0_layOut_166 ?_
              refine z_al0 (pc := 168) dX0_layOut_168 ?_
              refine z_get (pc := 169) 0 hG rfl iw_X0 (by decide) kw_50 rfl dX0_layOut_169 ?_
              refine z_al2 (pc := 172) dX0_layOut_172 ?_
              refine z_il5 (pc := 173) dX0_layOut_173 ?_
              refine z_callVr (pc := 175) (c_pOne l j2 n2 (nI j) hP hU) hP1 rfl rfl kw_535 zc_X4_ofOne (by decide) (by decide) rfl (Nat.le_of_ble_eq_true rfl) dX0_layOut_175 ?_
              rw [pAt_n (by omega) hn2]
              refine z_callVv (pc := 178) _ (c_aPut l (-1) (nI j) (co1 pr (up j)) hA (by have := hCV.2.1; omega)) rfl hG rfl rfl kw_527 zc_X0_put (by decide) rfl (Nat.le_of_ble_eq_true rfl) dX0_layOut_178 (fun G3 hv => ?_)
              refine z_goto (pc := 181) 42 dX0_layOut_181 rfl ?_
              have hst := st_n (b1 := (fun j => co1 pr (up j))) (show ¬ tw (dp pr tp tb up ub k0) (fun i j => co2 pr (tp i) (tb i) (up j) (ub j) k0) (i + 1) (j + 1) from fun h => c82 (by rw [hE _ _ (by omega) (by omega), hE _ _ (by omega) (by omega)]; exact h.2.2.symm)) (show ¬ fi (dp pr tp tb up ub k0) (fun i j => co2 pr (tp i) (tb i) (up j) (ub j) k0) (fun i => co1 pr (tp i)) (i + 1) (j + 1) from fun h => c135 (by rw [hE _ _ (by omega) (by omega), hE _ _ (by omega) (by omega)]; exact h.2.2.symm))
              refine z_L (L' := [some (.ref a), some (.ref t), some (.ref u), some (.int k0), some (.int (nI (i + 1))), some (.int (nI (j)))]) rfl ?_
              exact ih (s1 + 1) G3 _ _ _ (i + 1) (j) (by omega) hv.1 (hP.keep hv.2 (fun h => by simp [isAL] at h) (fun h => by simp [isAL] at h)) (hT.keep hv.2 (fun r h q => by rcases h with rfl | rfl | rfl <;> simp [isAL] at q)) (hU.keep hv.2 (fun r h q => by rcases h with rfl | rfl | rfl <;> simp [isAL] at q)) (hCV.step (by simp) hst.1 ⟨by omega, by omega, by omega⟩ hst.2.1.symm hst.2.2.1.symm hst.2.2.2.symm) (hF.trans hv.2)
            · refine z_ii4 (pc := 138) (nI i) dX0_layOut_138 (pk_m1 _) (by decide) ?_
              refine z_al0 (pc := 141) dX0_layOut_141 ?_
              refine z_il4 (pc := 142) dX0_layOut_142 ?_
              refine z_iconst (pc := 144) (-1) (by decide) dX0_layOut_144 ?_
              refine z_al0 (pc := 145) dX0_layOut_145 ?_
              refine z_get (pc := 146) 0 hG rfl iw_X0 (by decide) kw_50 rfl dX0_layOut_146 ?_
              refine z_al1 (pc := 149) dX0_layOut_149 ?_
              refine z_il4 (pc := 150) dX0_layOut_150 ?_
              refine z_callVr (pc := 152) (c_pOne l j1 n (nI i) hP hT) hP1 rfl rfl kw_535 zc_X4_ofOne (by decide) (by decide) rfl (Nat.le_of_ble_eq_true rfl) dX0_layOut_152 ?_
              rw [pAt_n (by omega) hn]
              refine z_callVv (pc := 155) _ (c_aPut l (nI i) (-1) (co1 pr (tp i)) hA (by have := hCV.2.1; omega)) rfl hG rfl rfl kw_527 zc_X0_put (by decide) rfl (Nat.le_of_ble_eq_true rfl) dX0_layOut_155 (fun G3 hv => ?_)
              refine z_goto (pc := 158) 42 dX0_layOut_158 rfl ?_
              have hst := st_f (b1 := (fun j => co1 pr (up j))) (show fi (dp pr tp tb up ub k0) (fun i j => co2 pr (tp i) (tb i) (up j) (ub j) k0) (fun i => co1 pr (tp i)) (i + 1) (j + 1) from ⟨(show ¬ tw (dp pr tp tb up ub k0) (fun i j => co2 pr (tp i) (tb i) (up j) (ub j) k0) (i + 1) (j + 1) from fun h => c82 (by rw [hE _ _ (by omega) (by omega), hE _ _ (by omega) (by omega)]; exact h.2.2.symm)), by omega, by have := c135; rw [hE _ _ (by omega) (by omega), hE _ _ (by omega) (by omega)] at this; exact this.symm⟩)
              refine z_L (L' := [some (.ref a), some (.ref t), some (.ref u), some (.int k0), some (.int (nI (i))), some (.int (nI (j + 1)))]) rfl ?_
              exact ih (s1 + 1) G3 _ _ _ (i) (j + 1) (by omega) hv.1 (hP.keep hv.2 (fun h => by simp [isAL] at h) (fun h => by simp [isAL] at h)) (hT.keep hv.2 (fun r h q => by rcases h with rfl | rfl | rfl <;> simp [isAL] at q)) (hU.keep hv.2 (fun r h q => by rcases h with rfl | rfl | rfl <;> simp [isAL] at q)) (hCV.step (by simp) hst.1 ⟨by omega, by omega, by omega⟩ hst.2.1.symm hst.2.2.1.symm hst.2.2.2.symm) (hF.trans hv.2)
          · refine z_ii4 (pc := 85) (nI i) dX0_layOut_85 (pk_m1 _) (by decide) ?_
            refine z_ii5 (pc := 88) (nI j) dX0_layOut_88 (pk_m1 _) (by decide) ?_
            refine z_al0 (pc := 91) dX0_layOut_91 ?_
            refine z_il4 (pc := 92) dX0_layOut_92 ?_
            refine z_il5 (pc := 94) dX0_layOut_94 ?_
            refine z_al0 (pc := 96) dX0_layOut_96 ?_
            refine z_get (pc := 97) 0 hG rfl iw_X0 (by decide) kw_50 rfl dX0_layOut_97 ?_
            refine z_al1 (pc := 100) dX0_layOut_100 ?_
            refine z_il4 (pc := 101) dX0_layOut_101 ?_
            refine z_al2 (pc := 103) dX0_layOut_103 ?_
            refine z_il5 (pc := 104) dX0_layOut_104 ?_
            refine z_il3 (pc := 106) dX0_layOut_106 ?_
            refine z_callVr (pc := 107) (c_pTwo l j1 n j2 n2 (nI i) (nI j) k0 hP hT hU) hP1 rfl rfl kw_514 zc_X4_ofTwo (by decide) (by decide) rfl (Nat.le_of_ble_eq_true rfl) dX0_layOut_107 ?_
            rw [pAt_n (by omega) hn, pAt_n (by omega) hn, pAt_n (by omega) hn2, pAt_n (by omega) hn2]
            refine z_callVv (pc := 110) _ (c_aPut l (nI i) (nI j) (co2 pr (tp i) (tb i) (up j) (ub j) k0) hA (by have := hCV.2.1; omega)) rfl hG rfl rfl kw_527 zc_X0_put (by decide) rfl (Nat.le_of_ble_eq_true rfl) dX0_layOut_110 (fun G3 hv => ?_)
            refine z_goto (pc := 113) 42 dX0_layOut_113 rfl ?_
            have hst := st_t (a1 := (fun i => co1 pr (tp i))) (b1 := (fun j => co1 pr (up j))) (show tw (dp pr tp tb up ub k0) (fun i j => co2 pr (tp i) (tb i) (up j) (ub j) k0) (i + 1) (j + 1) from ⟨by omega, by omega, by have := c82; rw [hE _ _ (by omega) (by omega), hE _ _ (by omega) (by omega)] at this; exact this.symm⟩)
            refine z_L (L' := [some (.ref a), some (.ref t), some (.ref u), some (.int k0), some (.int (nI (i))), some (.int (nI (j)))]) rfl ?_
            exact ih (s1 + 1) G3 _ _ _ (i) (j) (by omega) hv.1 (hP.keep hv.2 (fun h => by simp [isAL] at h) (fun h => by simp [isAL] at h)) (hT.keep hv.2 (fun r h q => by rcases h with rfl | rfl | rfl <;> simp [isAL] at q)) (hU.keep hv.2 (fun r h q => by rcases h with rfl | rfl | rfl <;> simp [isAL] at q)) (hCV.step (by simp) hst.1 ⟨by omega, by omega, by omega⟩ hst.2.1.symm hst.2.2.1.symm hst.2.2.2.symm) (hF.trans hv.2)
  refine z_pop (pc := 9) rfl dX0_layOut_9 ?_
  refine z_al0 (pc := 10) dX0_layOut_10 ?_
  refine z_il3 (pc := 11) dX0_layOut_11 ?_
  refine z_putg (pc := 12) 6 hG rfl iw_X0 tyX0 tyX0_ok nmX0 (by decide) kw_56 rfl rfl rfl rfl (Nat.le_of_ble_eq_true rfl) dX0_layOut_12 (fun G4 h4x hF4 => ?_)
  replace hG := h4x
  refine z_al0 (pc := 15) dX0_layOut_15 ?_
  refine z_iconst (pc := 16) (0) (by decide) dX0_layOut_16 ?_
  refine z_putg (pc := 17) 5 hG rfl iw_X0 tyX0 tyX0_ok nmX0 (by decide) kw_55 rfl rfl rfl rfl (Nat.le_of_ble_eq_true rfl) dX0_layOut_17 (fun G5 h5x hF5 => ?_)
  replace hG := h5x
  have hF45 := hF4.trans hF5
  refine z_al1 (pc := 20) dX0_layOut_20 ?_
  refine z_callVr (pc := 21) (c_tLen l j1 n (hT.keep hF45 (fun r h q => by rcases h with rfl | rfl | rfl <;> cases q))) (hF45.1 _ _ _ (fun h => by cases h) h1) rfl rfl kw_509 zc_X6_length (by decide) (by decide) rfl (Nat.le_of_ble_eq_true rfl) dX0_layOut_21 ?_
  refine z_bipush (pc := 24) (24) (by decide) dX0_layOut_24 ?_
  refine z_mmin (pc := 26) kw_478 kw_280 kw_12 kw_281 (by decide) (Nat.le_of_ble_eq_true rfl) dX0_layOut_26 ?_
  rw [min24 hn]
  refine z_is4 (pc := 29) dX0_layOut_29 (by decide) ?_
  refine z_al2 (pc := 31) dX0_layOut_31 ?_
  refine z_callVr (pc := 32) (c_tLen l j2 n2 (hU.keep hF45 (fun r h q => by rcases h with rfl | rfl | rfl <;> cases q))) (hF45.1 _ _ _ (fun h => by cases h) u1) rfl rfl kw_509 zc_X6_length (by decide) (by decide) rfl (Nat.le_of_ble_eq_true rfl) dX0_layOut_32 ?_
  refine z_bipush (pc := 35) (24) (by decide) dX0_layOut_35 ?_
  refine z_mmin (pc := 37) kw_478 kw_280 kw_12 kw_281 (by decide) (Nat.le_of_ble_eq_true rfl) dX0_layOut_37 ?_
  rw [min24 hn2]
  refine z_is5 (pc := 40) dX0_layOut_40 (by decide) ?_
  refine z_L (L' := [some (.ref a), some (.ref t), some (.ref u), some (.int k0), some (.int (nI n)), some (.int (nI n2))]) rfl ?_
  exact lp 48 0 G5 f0 f1 f2 n n2 (by omega) ⟨sa, o1, o2, o3, rw_, hG, hF45.1 _ _ _ (fun h => by cases h) hs, hR.keep hF45 (fun k h => by cases h), hF45.1 _ _ _ (fun h => by cases h) h6, hF45.1 _ _ _ (fun h => by cases h) h7, hF45.1 _ _ _ (fun h => by cases h) h8, Nat.zero_le _⟩ (hP.keep hF45 (fun h => by cases h) (fun h => by cases h)) (hT.keep hF45 (fun r h q => by rcases h with rfl | rfl | rfl <;> cases q)) (hU.keep hF45 (fun r h q => by rcases h with rfl | rfl | rfl <;> cases q)) ⟨rfl, by omega, by omega, by omega, fun k hk => absurd hk (by omega)⟩ ((hF2.mono (fun r h => ⟨h.1, Or.inr (Or.inl h.2)⟩)).trans (hF45.mono (fun r h => by rw [h]; exact ⟨rfl, by decide⟩)))
