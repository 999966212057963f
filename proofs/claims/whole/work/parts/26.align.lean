/-! the aligner -/
abbrev isSum (r : zR) : Prop := r.1 = 2 ∧ r.2.1 = 5
abbrev isAL (r : zR) : Prop := r.1 = 2 ∧ (r.2.1 = 3 ∨ r.2.1 = 5 ∨ r.2.1 = 6 ∨ r.2.1 = 7 ∨ r.2.1 = 8)
def sset (S : Nat → Nat → Int32) (i j : Nat) (v : Int32) : Nat → Nat → Int32 := fun k => if k = i then upd (S k) j v else S k
def zRW (κ : zK) (G : zH) (rw : Nat → Nat) (S : Nat → Nat → Int32) : Prop := ∀ k, k < 25 → G (rw k) = some ((2, 5, k), .inl (κ.2.1 0, 25, .inl (S k)))
theorem zRW.up {κ : zK} {G G4 : zH} {rw : Nat → Nat} {S : Nat → Nat → Int32} {i j : Nat} {v : Int32} (h : zRW κ G rw S) (h4 : G4 (rw i) = some ((2, 5, i), .inl (κ.2.1 0, 25, .inl (upd (S i) j v)))) (hF : zFP (fun r => r = (2, 5, i)) G G4) : zRW κ G4 rw (sset S i j v) := fun k hk => by
  unfold sset
  by_cases hki : k = i
  · subst hki; rw [if_pos rfl]; exact h4
  · rw [if_neg hki]; exact hF.1 _ _ _ (fun q => hki (congrArg (fun r : zR => r.2.2) q)) (h k hk)
theorem zRW.keep {κ : zK} {G G4 : zH} {rw : Nat → Nat} {S : Nat → Nat → Int32} {P : zR → Prop} (h : zRW κ G rw S) (hF : zFP P G G4) (hp : ∀ k, ¬ P (2, 5, k)) : zRW κ G4 rw S := fun k hk => hF.1 _ _ _ (hp k) (h k hk)
theorem sset_s {S : Nat → Nat → Int32} {i j : Nat} {v : Int32} : sset S i j v i j = v := by unfold sset; rw [if_pos rfl]; exact upd_s
theorem sset_n {S : Nat → Nat → Int32} {i j k q : Nat} {v : Int32} (h : k ≠ i ∨ q ≠ j) : sset S i j v k q = S k q := by
  unfold sset
  by_cases hk : k = i
  · rw [if_pos hk]; exact upd_n (h.resolve_left (fun q => q hk))
  · rw [if_neg hk]
/-- the aligner at a, its prices at x -/
def zAL (κ : zK) (G : zH) (a x cols : Nat) (key : Int32) (f0 f1 f2 : Nat → Int32) (S : Nat → Nat → Int32) : Prop := ∃ (s o1 o2 o3 : Nat) (rw : Nat → Nat), G a = some ((2, 3, 0), .inr (1, [.ref x, .ref s, .ref o1, .ref o2, .ref o3, .int (nI cols), .int key])) ∧ G s = some ((2, 4, 0), .inl (κ.2.1 3, zQ 25 (fun i => some (rw i)))) ∧ zRW κ G rw S ∧ G o1 = some ((2, 6, 0), .inl (κ.2.1 0, 48, .inl f0)) ∧ G o2 = some ((2, 7, 0), .inl (κ.2.1 0, 48, .inl f1)) ∧ G o3 = some ((2, 8, 0), .inl (κ.2.1 0, 48, .inl f2)) ∧ cols ≤ 48
theorem zAL.keep {κ : zK} {G G2 : zH} {a x cols : Nat} {key : Int32} {f0 f1 f2 : Nat → Int32} {S : Nat → Nat → Int32} {P : zR → Prop} (h : zAL κ G a x cols key f0 f1 f2 S) (hF : zFP P G G2) (hp : ∀ k j : Nat, 3 ≤ k ∧ k ≤ 8 → ¬ P (2, k, j)) : zAL κ G2 a x cols key f0 f1 f2 S := by
  obtain ⟨s, o1, o2, o3, rw, g1, g2, g3, g4, g5, g6, g7⟩ := h
  exact ⟨s, o1, o2, o3, rw, hF.1 _ _ _ (hp 3 0 (by omega)) g1, hF.1 _ _ _ (hp 4 0 (by omega)) g2, g3.keep hF (fun k => hp 5 k (by omega)), hF.1 _ _ _ (hp 6 0 (by omega)) g4, hF.1 _ _ _ (hp 7 0 (by omega)) g5, hF.1 _ _ _ (hp 8 0 (by omega)) g6, g7⟩
theorem cell3 {T A O v : Int32} (h : v = O ∨ v = T ∨ v = A) (h1 : v ≤ O) (h2 : v ≤ T) (h3 : v ≤ A) : v = imin (imin T A) O := by
  unfold imin
  simp only [i_lt, i_le, i_eq] at *
  repeat' split
  all_goals first | omega | (simp only [i_lt, i_le, i_eq] at *; omega)
theorem min24 {n : Nat} (h : n ≤ 24) : (if (24 : Int32) < nI n then 24 else nI n) = nI n := by
  rw [show (24 : Int32) = nI 24 from rfl, if_neg (by rw [nI_ltI (by omega) (by omega)]; omega)]
abbrev rX0_fillFirstRow : Room := rmK 0 0 0 0
set_option maxRecDepth 100000 in
set_option maxHeartbeats 400000 in
theorem c_aFill (l : Launch) {κ : zK} {G : zH} {a x : Nat} {cols : Nat} {key : Int32} {f0 f1 f2 : Nat → Int32} {S : Nat → Nat → Int32} {u : Nat} {j2 n2 : Nat} {up ub : Nat → Int32} (out : Int32) (hA : zAL κ G a x cols key f0 f1 f2 S) (hU : zTU κ G u j2 n2 up ub) : Ct l yX0_fillFirstRow cX0_fillFirstRow 6 none rX0_fillFirstRow κ [.ref a, .ref u, .int (nI n2), .int out] G (pV (fun G2 => ∃ S2, zAL κ G2 a x cols key f0 f1 f2 S2 ∧ zFP isSum G G2 ∧ (∀ j, j ≤ n2 → S2 0 j = dpr0 (fun j => if up j = -1 then 0 else out) j) ∧ ∀ k q, k ≠ 0 → S2 k q = S k q)) := by
  refine Ct.of (by decide +kernel) (fun v hv => by
    simp only [List.mem_cons, List.mem_nil_iff, or_false, List.not_mem_nil] at hv
    rcases hv with rfl | rfl | rfl | rfl <;> rfl) (Nat.le_of_ble_eq_true rfl) ?_
  intro p e s m args below meth cC
  refine z_L (L' := [some (.ref a), some (.ref u), some (.int (nI n2)), some (.int out), none, none]) rfl ?_
  generalize hQx : MQ below (zQc κ _) args s _ _ (zA κ) = Qx
  obtain ⟨sa, o1, o2, o3, rw_, hG, hs, hR, h6, h7, h8, hcols⟩ := hA
  obtain ⟨a2, b2, u1, u2, u3, hn2⟩ := hU
  have lp : ∀ (d i : Nat) (G2 : zH) (S2 : Nat → Nat → Int32), i + d = n2 → G2 a = some ((2, 3, 0), .inr (1, [.ref x, .ref sa, .ref o1, .ref o2, .ref o3, .int (nI cols), .int key])) → G2 sa = some ((2, 4, 0), .inl (κ.2.1 3, zQ 25 (fun i => some (rw_ i)))) → zRW κ G2 rw_ S2 → G2 o1 = some ((2, 6, 0), .inl (κ.2.1 0, 48, .inl f0)) → G2 o2 = some ((2, 7, 0), .inl (κ.2.1 0, 48, .inl f1)) → G2 o3 = some ((2, 8, 0), .inl (κ.2.1 0, 48, .inl f2)) → G2 u = some ((2, 16, j2), .inr (7, [.ref a2, .ref b2, .int (nI n2)])) → G2 a2 = some ((2, 17, j2), .inl (κ.2.1 0, 24, .inl up)) → G2 b2 = some ((2, 18, j2), .inl (κ.2.1 0, 24, .inl ub)) → (∀ j, j ≤ i → S2 0 j = dpr0 (fun j => if up j = -1 then 0 else out) j) → (∀ k q, k ≠ 0 → S2 k q = S k q) → zFP isSum G G2 → Z p l e rX0_fillFirstRow s m args below meth cC yX0_fillFirstRow cX0_fillFirstRow 6 none κ Qx 0 0 G2 [some (.ref a), some (.ref u), some (.int (nI n2)), some (.int out), some (.ref (rw_ 0)), some (.int (nI (i + 1)))] 16 [] := by
    intro d
    induction d with
    | zero =>
      intro i G2 S2 hi hG hs hR h6 h7 h8 u1 u2 u3 hE hK hF
      refine z_il5 (pc := 16) dX0_fillFirstRow_16 ?_
      refine z_il2 (pc := 18) dX0_fillFirstRow_18 ?_
      refine z_icmp_gt (pc := 19) 59 dX0_fillFirstRow_19 rfl (fun c19 => ?_) (fun c19 => absurd (by rw [nI_ltI (by omega) (by omega)]; omega) c19)
      rw [← hQx]
      refine z_vret (pc := 59) rfl (by decide) dX0_fillFirstRow_59 (⟨rfl, S2, ⟨sa, o1, o2, o3, rw_, hG, hs, hR, h6, h7, h8, hcols⟩, hF, fun j hj => hE j (by omega), hK⟩)
    | succ d ih =>
      intro i G2 S2 hi hG hs hR h6 h7 h8 u1 u2 u3 hE hK hF
      refine z_il5 (pc := 16) dX0_fillFirstRow_16 ?_
      refine z_il2 (pc := 18) dX0_fillFirstRow_18 ?_
      refine z_icmp_gt (pc := 19) 59 dX0_fillFirstRow_19 rfl (fun c19 => absurd c19 (by rw [nI_ltI (by omega) (by omega)]; omega)) (fun c19 => ?_)
      refine z_al4 (pc := 22) dX0_fillFirstRow_22 ?_
      refine z_il5 (pc := 24) dX0_fillFirstRow_24 ?_
      refine z_al4 (pc := 26) dX0_fillFirstRow_26 ?_
      refine z_il5 (pc := 28) dX0_fillFirstRow_28 ?_
      refine z_iconst (pc := 30) (1) (by decide) dX0_fillFirstRow_30 ?_
      refine z_isub (pc := 31) dX0_fillFirstRow_31 ?_
      rw [nI_pred]
      refine z_iald (pc := 32) i (hR 0 (by omega)) rfl (by omega) (by omega) dX0_fillFirstRow_32 ?_
      refine z_al1 (pc := 33) dX0_fillFirstRow_33 ?_
      refine z_getN (pc := 34) 0 u1 rfl iw_X6 (by decide) kn_179 rfl dX0_fillFirstRow_34 ?_
      refine z_il5 (pc := 37) dX0_fillFirstRow_37 ?_
      refine z_iconst (pc := 39) (1) (by decide) dX0_fillFirstRow_39 ?_
      refine z_isub (pc := 40) dX0_fillFirstRow_40 ?_
      rw [nI_pred]
      refine z_iald (pc := 41) i u2 rfl (by omega) (by omega) dX0_fillFirstRow_41 ?_
      refine z_iconst (pc := 42) (-1) (by decide) dX0_fillFirstRow_42 ?_
      refine z_icmp_ne (pc := 43) 50 dX0_fillFirstRow_43 rfl (fun c43 => ?_) (fun c43 => ?_)
      · refine z_il3 (pc := 50) dX0_fillFirstRow_50 ?_
        refine z_iadd (pc := 51) dX0_fillFirstRow_51 ?_
        skip
        refine z_iastg (pc := 52) (i + 1) (hR (0) (by omega)) rfl (by omega) (by omega) dX0_fillFirstRow_52 (fun G4 h4x hF4 => ?_)
        replace hR := hR.up h4x hF4
        clear h4x
        replace hG := hF4.1 _ _ _ (fun h => by cases h) hG
        replace hs := hF4.1 _ _ _ (fun h => by cases h) hs
        replace u1 := hF4.1 _ _ _ (fun h => by cases h) u1
        replace u2 := hF4.1 _ _ _ (fun h => by cases h) u2
        replace u3 := hF4.1 _ _ _ (fun h => by cases h) u3
        refine z_ii5 (pc := 53) (nI ((i + 1) + 1)) dX0_fillFirstRow_53 (nI_1 _) (by decide) ?_
        refine z_goto (pc := 56) 16 dX0_fillFirstRow_56 rfl ?_
        refine z_L (L' := [some (.ref a), some (.ref u), some (.int (nI n2)), some (.int out), some (.ref (rw_ 0)), some (.int (nI (i + 1 + 1)))]) rfl ?_
        exact ih (i + 1) G4 _ (by omega) hG hs hR (hF4.1 _ _ _ (fun h => by cases h) h6) (hF4.1 _ _ _ (fun h => by cases h) h7) (hF4.1 _ _ _ (fun h => by cases h) h8) u1 u2 u3 (fun j hj => by
          by_cases hj2 : j = i + 1
          · subst hj2; rw [sset_s, hE i (by omega)]; show _ = dpr0 _ i + (if up i = -1 then 0 else out); rw [if_neg c43]
          · rw [sset_n (Or.inr hj2)]; exact hE j (by omega)) (fun k q hk => by rw [sset_n (Or.inl (by omega))]; exact hK k q hk) (hF.trans (hF4.mono (fun r h => by rw [h]; exact ⟨rfl, rfl⟩)))
      · refine z_iconst (pc := 46) (0) (by decide) dX0_fillFirstRow_46 ?_
        refine z_goto (pc := 47) 51 dX0_fillFirstRow_47 rfl ?_
        refine z_iadd (pc := 51) dX0_fillFirstRow_51 ?_
        skip
        refine z_iastg (pc := 52) (i + 1) (hR (0) (by omega)) rfl (by omega) (by omega) dX0_fillFirstRow_52 (fun G4 h4x hF4 => ?_)
        replace hR := hR.up h4x hF4
        clear h4x
        replace hG := hF4.1 _ _ _ (fun h => by cases h) hG
        replace hs := hF4.1 _ _ _ (fun h => by cases h) hs
        replace u1 := hF4.1 _ _ _ (fun h => by cases h) u1
        replace u2 := hF4.1 _ _ _ (fun h => by cases h) u2
        replace u3 := hF4.1 _ _ _ (fun h => by cases h) u3
        refine z_ii5 (pc := 53) (nI ((i + 1) + 1)) dX0_fillFirstRow_53 (nI_1 _) (by decide) ?_
        refine z_goto (pc := 56) 16 dX0_fillFirstRow_56 rfl ?_
        refine z_L (L' := [some (.ref a), some (.ref u), some (.int (nI n2)), some (.int out), some (.ref (rw_ 0)), some (.int (nI (i + 1 + 1)))]) rfl ?_
        exact ih (i + 1) G4 _ (by omega) hG hs hR (hF4.1 _ _ _ (fun h => by cases h) h6) (hF4.1 _ _ _ (fun h => by cases h) h7) (hF4.1 _ _ _ (fun h => by cases h) h8) u1 u2 u3 (fun j hj => by
          by_cases hj2 : j = i + 1
          · subst hj2; rw [sset_s, hE i (by omega)]; show _ = dpr0 _ i + (if up i = -1 then 0 else out); rw [if_pos c43]
          · rw [sset_n (Or.inr hj2)]; exact hE j (by omega)) (fun k q hk => by rw [sset_n (Or.inl (by omega))]; exact hK k q hk) (hF.trans (hF4.mono (fun r h => by rw [h]; exact ⟨rfl, rfl⟩)))
  refine z_al0 (pc := 0) dX0_fillFirstRow_0 ?_
  refine z_get (pc := 1) 1 hG rfl iw_X0 (by decide) kw_51 rfl dX0_fillFirstRow_1 ?_
  refine z_iconst (pc := 4) (0) (by decide) dX0_fillFirstRow_4 ?_
  refine z_aaldI (pc := 5) (0) hs rfl (by omega) (by omega) dX0_fillFirstRow_5 ?_
  refine z_as4 (pc := 6) dX0_fillFirstRow_6 (by decide) ?_
  refine z_al4 (pc := 8) dX0_fillFirstRow_8 ?_
  refine z_iconst (pc := 10) (0) (by decide) dX0_fillFirstRow_10 ?_
  refine z_iconst (pc := 11) (0) (by decide) dX0_fillFirstRow_11 ?_
  skip
  refine z_iastg (pc := 12) (0) (hR (0) (by omega)) rfl (by omega) (by omega) dX0_fillFirstRow_12 (fun G3 h3x hF3 => ?_)
  replace hR := hR.up h3x hF3
  clear h3x
  replace hG := hF3.1 _ _ _ (fun h => by cases h) hG
  replace hs := hF3.1 _ _ _ (fun h => by cases h) hs
  replace u1 := hF3.1 _ _ _ (fun h => by cases h) u1
  replace u2 := hF3.1 _ _ _ (fun h => by cases h) u2
  replace u3 := hF3.1 _ _ _ (fun h => by cases h) u3
  replace h6 := hF3.1 _ _ _ (fun h => by cases h) h6
  replace h7 := hF3.1 _ _ _ (fun h => by cases h) h7
  replace h8 := hF3.1 _ _ _ (fun h => by cases h) h8
  refine z_iconst (pc := 13) (1) (by decide) dX0_fillFirstRow_13 ?_
  refine z_is5 (pc := 14) dX0_fillFirstRow_14 (by decide) ?_
  refine z_L (L' := [some (.ref a), some (.ref u), some (.int (nI n2)), some (.int out), some (.ref (rw_ 0)), some (.int (nI (0 + 1)))]) rfl ?_
  exact lp n2 0 G3 _ (by omega) hG hs hR h6 h7 h8 u1 u2 u3 (fun j hj => by rw [show j = 0 by omega, sset_s]; rfl) (fun k q hk => sset_n (Or.inl hk)) (hF3.mono (fun r h => by rw [h]; exact ⟨rfl, rfl⟩))
abbrev rX0_leastSum : Room := rmK 1 0 0 25
set_option maxRecDepth 100000 in
set_option maxHeartbeats 400000 in
theorem c_aLeast (l : Launch) {κ : zK} {G : zH} {a x : Nat} {t : Nat} {cols : Nat} {key : Int32} {f0 f1 f2 : Nat → Int32} {S : Nat → Nat → Int32} {pr tp tb : Nat → Int32} {u : Nat} {j2 n2 : Nat} {up ub : Nat → Int32} (j1 n : Nat) (k0 bd : Int32) (hA : zAL κ G a x cols key f0 f1 f2 S) (hP : zPR κ G x pr) (hT : zTU κ G t j1 n tp tb) (hU : zTU κ G u j2 n2 up ub) : Ct l yX0_leastSum cX0_leastSum 20 (some FieldType.int) rX0_leastSum κ [.ref a, .ref t, .ref u, .int k0, .int bd] G (pI (fun r G2 => ∃ S2, zAL κ G2 a x cols key f0 f1 f2 S2 ∧ zFP isSum G G2 ∧ ((r = dp pr tp tb up ub k0 n n2 ∧ ∀ i j, i ≤ n → j ≤ n2 → S2 i j = dp pr tp tb up ub k0 i j) ∨ (r = bd ∧ ∃ i, i ≤ n ∧ ∀ j, j ≤ n2 → bd ≤ dp pr tp tb up ub k0 i j)))) := by
  refine Ct.of (by decide +kernel) (fun v hv => by
    simp only [List.mem_cons, List.mem_nil_iff, or_false, List.not_mem_nil] at hv
    rcases hv with rfl | rfl | rfl | rfl | rfl <;> rfl) (Nat.le_of_ble_eq_true rfl) ?_
  intro p e s m args below meth cC
  refine z_L (L' := [some (.ref a), some (.ref t), some (.ref u), some (.int k0), some (.int bd), none, none, none, none, none, none, none, none, none, none, none, none, none, none, none]) rfl ?_
  generalize hQx : MQ below (zQc κ _) args s _ _ (zA κ) = Qx
  have hA0 := hA
  have hU0 := hU
  obtain ⟨qp, hP1, hP2⟩ := hP
  obtain ⟨a1, b1, h1, h2, h3, hn⟩ := hT
  obtain ⟨a2, b2, u1, u2, u3, hn2⟩ := hU
  obtain ⟨sa0, o10, o20, o30, rw0, hG, -, -, -, -, -, -⟩ := hA
  refine z_al0 (pc := 0) dX0_leastSum_0 ?_
  refine z_get (pc := 1) 0 hG rfl iw_X0 (by decide) kw_50 rfl dX0_leastSum_1 ?_
  refine z_callVr (pc := 4) (c_pOut l ⟨qp, hP1, hP2⟩) hP1 rfl rfl kw_474 zc_X4_out (by decide) (by decide) rfl (Nat.le_of_ble_eq_true rfl) dX0_leastSum_4 ?_
  refine z_is5 (pc := 7) dX0_leastSum_7 (by decide) ?_
  refine z_al1 (pc := 9) dX0_leastSum_9 ?_
  refine z_getN (pc := 10) 2 h1 rfl iw_X6 (by decide) kn_183 rfl dX0_leastSum_10 ?_
  refine z_bipush (pc := 13) (24) (by decide) dX0_leastSum_13 ?_
  refine z_mmin (pc := 15) kw_478 kw_280 kw_12 kw_281 (by decide) (Nat.le_of_ble_eq_true rfl) dX0_leastSum_15 ?_
  rw [min24 hn]
  refine z_is6 (pc := 18) dX0_leastSum_18 (by decide) ?_
  refine z_al2 (pc := 20) dX0_leastSum_20 ?_
  refine z_getN (pc := 21) 2 u1 rfl iw_X6 (by decide) kn_183 rfl dX0_leastSum_21 ?_
  refine z_bipush (pc := 24) (24) (by decide) dX0_leastSum_24 ?_
  refine z_mmin (pc := 26) kw_478 kw_280 kw_12 kw_281 (by decide) (Nat.le_of_ble_eq_true rfl) dX0_leastSum_26 ?_
  rw [min24 hn2]
  refine z_is7 (pc := 29) dX0_leastSum_29 (by decide) ?_
  refine z_al0 (pc := 31) dX0_leastSum_31 ?_
  refine z_al2 (pc := 32) dX0_leastSum_32 ?_
  refine z_il7 (pc := 33) dX0_leastSum_33 ?_
  refine z_il5 (pc := 35) dX0_leastSum_35 ?_
  refine z_callVv (pc := 37) _ (c_aFill l (pr 3) hA0 hU0) rfl hG rfl rfl kw_479 zc_X0_fillFirstRow (by decide) rfl (Nat.le_of_ble_eq_true rfl) dX0_leastSum_37 (fun G2 hv => ?_)
  obtain ⟨S2, hA2, hF2, hE2, -⟩ := hv
  obtain ⟨sa, o1, o2, o3, rw_, hG2, hs, hR, h6, h7, h8, hcols⟩ := hA2
  clear hG; have hG := hG2
  replace h1 := hF2.1 _ _ _ (fun h => by cases h.2) h1
  replace h2 := hF2.1 _ _ _ (fun h => by cases h.2) h2
  replace h3 := hF2.1 _ _ _ (fun h => by cases h.2) h3
  replace u1 := hF2.1 _ _ _ (fun h => by cases h.2) u1
  replace u2 := hF2.1 _ _ _ (fun h => by cases h.2) u2
  replace u3 := hF2.1 _ _ _ (fun h => by cases h.2) u3
  replace hP1 := hF2.1 _ _ _ (fun h => by cases h.2) hP1
  replace hP2 := hF2.1 _ _ _ (fun h => by cases h.2) hP2
  have lp : ∀ (d i : Nat) (G2 : zH) (S2 : Nat → Nat → Int32) (q7 q8 q9 q10 q11 q12 q13 q14 q15 q16 q17 : Option Value), i + d = n → G2 a = some ((2, 3, 0), .inr (1, [.ref x, .ref sa, .ref o1, .ref o2, .ref o3, .int (nI cols), .int key])) → G2 sa = some ((2, 4, 0), .inl (κ.2.1 3, zQ 25 (fun i => some (rw_ i)))) → zRW κ G2 rw_ S2 → G2 o1 = some ((2, 6, 0), .inl (κ.2.1 0, 48, .inl f0)) → G2 o2 = some ((2, 7, 0), .inl (κ.2.1 0, 48, .inl f1)) → G2 o3 = some ((2, 8, 0), .inl (κ.2.1 0, 48, .inl f2)) → G2 t = some ((2, 16, j1), .inr (7, [.ref a1, .ref b1, .int (nI n)])) → G2 a1 = some ((2, 17, j1), .inl (κ.2.1 0, 24, .inl tp)) → G2 b1 = some ((2, 18, j1), .inl (κ.2.1 0, 24, .inl tb)) → G2 u = some ((2, 16, j2), .inr (7, [.ref a2, .ref b2, .int (nI n2)])) → G2 a2 = some ((2, 17, j2), .inl (κ.2.1 0, 24, .inl up)) → G2 b2 = some ((2, 18, j2), .inl (κ.2.1 0, 24, .inl ub)) → G2 x = some ((2, 1, 0), .inr (5, [.ref qp])) → G2 qp = some ((2, 2, 0), .inl (κ.2.1 0, 5, .inl pr)) → (∀ i2 j2, i2 ≤ i → j2 ≤ n2 → S2 i2 j2 = dp pr tp tb up ub k0 i2 j2) → zFP isSum G G2 → Z p l e rX0_leastSum s m args below meth cC yX0_leastSum cX0_leastSum 20 (some FieldType.int) κ Qx 0 0 G2 [some (.ref a), some (.ref t), some (.ref u), some (.int k0), some (.int bd), some (.int (pr 3)), some (.int (nI n)), some (.int (nI n2)), some (.int (nI (i + 1))), q7, q8, q9, q10, q11, q12, q13, q14, q15, q16, q17] 43 [] := by
    intro d
    induction d with
    | zero =>
      intro i G2 S2 q7 q8 q9 q10 q11 q12 q13 q14 q15 q16 q17 hi hG hs hR h6 h7 h8 h1 h2 h3 u1 u2 u3 hP1 hP2 hD hF
      refine z_il8 (pc := 43) dX0_leastSum_43 ?_
      refine z_il6 (pc := 45) dX0_leastSum_45 ?_
      refine z_icmp_gt (pc := 47) 303 dX0_leastSum_47 rfl (fun c47 => ?_) (fun c47 => absurd (by rw [nI_ltI (by omega) (by omega)]; omega) c47)
      refine z_al0 (pc := 303) dX0_leastSum_303 ?_
      refine z_get (pc := 304) 1 hG rfl iw_X0 (by decide) kw_51 rfl dX0_leastSum_304 ?_
      refine z_il6 (pc := 307) dX0_leastSum_307 ?_
      refine z_aaldI (pc := 309) (n) hs rfl (by omega) (by omega) dX0_leastSum_309 ?_
      refine z_il7 (pc := 310) dX0_leastSum_310 ?_
      refine z_iald (pc := 312) _ (hR (n) (by omega)) rfl (by omega) (by omega) dX0_leastSum_312 ?_
      rw [← hQx]
      refine z_iret (pc := 313) rfl (by decide) dX0_leastSum_313 (⟨_, rfl, S2, ⟨sa, o1, o2, o3, rw_, hG, hs, hR, h6, h7, h8, hcols⟩, hF, Or.inl ⟨hD n n2 (by omega) (by omega), fun i2 j2 g1 g2 => hD i2 j2 (by omega) g2⟩⟩)
    | succ d ih =>
      intro i G2 S2 q7 q8 q9 q10 q11 q12 q13 q14 q15 q16 q17 hi hG hs hR h6 h7 h8 h1 h2 h3 u1 u2 u3 hP1 hP2 hD hF
      have inn : ∀ (d2 j : Nat) (G2 : zH) (S2 : Nat → Nat → Int32) (least : Int32) (q14 q15 q16 q17 : Option Value), j + d2 = n2 → G2 a = some ((2, 3, 0), .inr (1, [.ref x, .ref sa, .ref o1, .ref o2, .ref o3, .int (nI cols), .int key])) → G2 sa = some ((2, 4, 0), .inl (κ.2.1 3, zQ 25 (fun i => some (rw_ i)))) → zRW κ G2 rw_ S2 → G2 o1 = some ((2, 6, 0), .inl (κ.2.1 0, 48, .inl f0)) → G2 o2 = some ((2, 7, 0), .inl (κ.2.1 0, 48, .inl f1)) → G2 o3 = some ((2, 8, 0), .inl (κ.2.1 0, 48, .inl f2)) → G2 t = some ((2, 16, j1), .inr (7, [.ref a1, .ref b1, .int (nI n)])) → G2 a1 = some ((2, 17, j1), .inl (κ.2.1 0, 24, .inl tp)) → G2 b1 = some ((2, 18, j1), .inl (κ.2.1 0, 24, .inl tb)) → G2 u = some ((2, 16, j2), .inr (7, [.ref a2, .ref b2, .int (nI n2)])) → G2 a2 = some ((2, 17, j2), .inl (κ.2.1 0, 24, .inl up)) → G2 b2 = some ((2, 18, j2), .inl (κ.2.1 0, 24, .inl ub)) → G2 x = some ((2, 1, 0), .inr (5, [.ref qp])) → G2 qp = some ((2, 2, 0), .inl (κ.2.1 0, 5, .inl pr)) → (∀ i2 j2, i2 ≤ i → j2 ≤ n2 → S2 i2 j2 = dp pr tp tb up ub k0 i2 j2) → (∀ j2, j2 ≤ j → S2 (i + 1) j2 = dp pr tp tb up ub k0 (i + 1) j2) → (∀ j2, j2 ≤ j → least ≤ dp pr tp tb up ub k0 (i + 1) j2) → zFP isSum G G2 → Z p l e rX0_leastSum s m args below meth cC yX0_leastSum cX0_leastSum 20 (some FieldType.int) κ Qx 0 0 G2 [some (.ref a), some (.ref t), some (.ref u), some (.int k0), some (.int bd), some (.int (pr 3)), some (.int (nI n)), some (.int (nI n2)), some (.int (nI (i + 1))), some (.ref (rw_ i)), some (.ref (rw_ (i + 1))), some (.int (tp i)), some (.int (tb i)), some (.int (co1 pr (tp i))), some (.int least), some (.int (nI (j + 1))), q14, q15, q16, q17] 126 [] := by
        intro d2
        induction d2 with
        | zero =>
          intro j G2 S2 least q14 q15 q16 q17 hj hG hs hR h6 h7 h8 h1 h2 h3 u1 u2 u3 hP1 hP2 hD hE hL hF
          refine z_il15 (pc := 126) dX0_leastSum_126 ?_
          refine z_il7 (pc := 128) dX0_leastSum_128 ?_
          refine z_icmp_gt (pc := 130) 287 dX0_leastSum_130 rfl (fun c130 => ?_) (fun c130 => absurd (by rw [nI_ltI (by omega) (by omega)]; omega) c130)
          refine z_il14 (pc := 287) dX0_leastSum_287 ?_
          refine z_il4 (pc := 289) dX0_leastSum_289 ?_
          refine z_icmp_lt (pc := 291) 297 dX0_leastSum_291 rfl (fun c291 => ?_) (fun c291 => ?_)
          · refine z_ii8 (pc := 297) (nI ((i + 1) + 1)) dX0_leastSum_297 (nI_1 _) (by decide) ?_
            refine z_goto (pc := 300) 43 dX0_leastSum_300 rfl ?_
            refine z_L rfl ?_
            exact ih (i + 1) G2 S2 _ _ _ _ _ _ _ _ _ _ _ (by omega) hG hs hR h6 h7 h8 h1 h2 h3 u1 u2 u3 hP1 hP2 (fun i2 j2 g1 g2 => by
              by_cases hi2 : i2 = i + 1
              · subst hi2; exact hE j2 (by omega)
              · exact hD i2 j2 (by omega) g2) hF
          · refine z_il4 (pc := 294) dX0_leastSum_294 ?_
            rw [← hQx]
            refine z_iret (pc := 296) rfl (by decide) dX0_leastSum_296 (⟨_, rfl, S2, ⟨sa, o1, o2, o3, rw_, hG, hs, hR, h6, h7, h8, hcols⟩, hF, Or.inr ⟨rfl, i + 1, by omega, fun j2 g => Int32.le_trans (Int32.not_lt.mp c291) (hL j2 (by omega))⟩⟩)
        | succ d2 ih2 =>
          intro j G2 S2 least q14 q15 q16 q17 hj hG hs hR h6 h7 h8 h1 h2 h3 u1 u2 u3 hP1 hP2 hD hE hL hF
          have tl : ∀ (T O A : Int32) (q16 : Option Value), imin (imin T A) O = dp pr tp tb up ub k0 (i + 1) (j + 1) → Z p l e rX0_leastSum s m args below meth cC yX0_leastSum cX0_leastSum 20 (some FieldType.int) κ Qx 0 0 G2 [some (.ref a), some (.ref t), some (.ref u), some (.int k0), some (.int bd), some (.int (pr 3)), some (.int (nI n)), some (.int (nI n2)), some (.int (nI (i + 1))), some (.ref (rw_ i)), some (.ref (rw_ (i + 1))), some (.int (tp i)), some (.int (tb i)), some (.int (co1 pr (tp i))), some (.int least), some (.int (nI (j + 1))), some (.int T), some (.int O), q16, some (.int A)] 226 [] := by
            intro T O A q16 hTOA
            refine z_il17 (pc := 226) dX0_leastSum_226 ?_
            refine z_il19 (pc := 228) dX0_leastSum_228 ?_
            refine z_icmp_ge (pc := 230) 238 dX0_leastSum_230 rfl (fun c230 => ?_) (fun c230 => ?_)
            · refine z_il19 (pc := 238) dX0_leastSum_238 ?_
              refine z_is19 (pc := 240) dX0_leastSum_240 (by decide) ?_
              refine z_il16 (pc := 242) dX0_leastSum_242 ?_
              refine z_il19 (pc := 244) dX0_leastSum_244 ?_
              refine z_icmp_ge (pc := 246) 254 dX0_leastSum_246 rfl (fun c246 => ?_) (fun c246 => ?_)
              · refine z_il19 (pc := 254) dX0_leastSum_254 ?_
                refine z_is19 (pc := 256) dX0_leastSum_256 (by decide) ?_
                refine z_al10 (pc := 258) dX0_leastSum_258 ?_
                refine z_il15 (pc := 260) dX0_leastSum_260 ?_
                refine z_il19 (pc := 262) dX0_leastSum_262 ?_
                skip
                refine z_iastg (pc := 264) (j + 1) (hR (i + 1) (by omega)) rfl (by omega) (by omega) dX0_leastSum_264 (fun G4 h4x hF4 => ?_)
                replace hR := hR.up h4x hF4
                clear h4x
                replace hG := hF4.1 _ _ _ (fun h => by cases h) hG
                replace hs := hF4.1 _ _ _ (fun h => by cases h) hs
                replace h6 := hF4.1 _ _ _ (fun h => by cases h) h6
                replace h7 := hF4.1 _ _ _ (fun h => by cases h) h7
                replace h8 := hF4.1 _ _ _ (fun h => by cases h) h8
                replace h1 := hF4.1 _ _ _ (fun h => by cases h) h1
                replace h2 := hF4.1 _ _ _ (fun h => by cases h) h2
                replace h3 := hF4.1 _ _ _ (fun h => by cases h) h3
                replace u1 := hF4.1 _ _ _ (fun h => by cases h) u1
                replace u2 := hF4.1 _ _ _ (fun h => by cases h) u2
                replace u3 := hF4.1 _ _ _ (fun h => by cases h) u3
                replace hP1 := hF4.1 _ _ _ (fun h => by cases h) hP1
                replace hP2 := hF4.1 _ _ _ (fun h => by cases h) hP2
                refine z_il19 (pc := 265) dX0_leastSum_265 ?_
                refine z_il14 (pc := 267) dX0_leastSum_267 ?_
                refine z_icmp_ge (pc := 269) 277 dX0_leastSum_269 rfl (fun c269 => ?_) (fun c269 => ?_)
                · refine z_il14 (pc := 277) dX0_leastSum_277 ?_
                  refine z_is14 (pc := 279) dX0_leastSum_279 (by decide) ?_
                  refine z_ii15 (pc := 281) (nI ((j + 1) + 1)) dX0_leastSum_281 (nI_1 _) (by decide) ?_
                  refine z_goto (pc := 284) 126 dX0_leastSum_284 rfl ?_
                  have hv : A = dp pr tp tb up ub k0 (i + 1) (j + 1) := by
                    rw [← hTOA]
                    exact cell3 (by simp) (by simp only [i_lt, i_le] at *; omega) (by simp only [i_lt, i_le] at *; omega) (by simp only [i_lt, i_le] at *; omega)
                  refine z_L (L' := [some (.ref a), some (.ref t), some (.ref u), some (.int k0), some (.int bd), some (.int (pr 3)), some (.int (nI n)), some (.int (nI n2)), some (.int (nI (i + 1))), some (.ref (rw_ i)), some (.ref (rw_ (i + 1))), some (.int (tp i)), some (.int (tb i)), some (.int (co1 pr (tp i))), some (.int least), some (.int (nI (j + 1 + 1))), some (.int T), some (.int O), q16, some (.int A)]) rfl ?_
                  exact ih2 (j + 1) G4 _ _ _ _ _ _ (by omega) hG hs hR h6 h7 h8 h1 h2 h3 u1 u2 u3 hP1 hP2 (fun i2 j2 g1 g2 => by rw [sset_n (Or.inl (by omega))]; exact hD i2 j2 g1 g2) (fun j2 g => by
                    by_cases hj2 : j2 = j + 1
                    · subst hj2; rw [sset_s]; exact hv
                    · rw [sset_n (Or.inr hj2)]; exact hE j2 (by omega)) (fun j2 g => by
                    by_cases hj2 : j2 = j + 1
                    · subst hj2; rw [← hv]; simp only [i_lt, i_le] at *; omega
                    · have := hL j2 (by omega); simp only [i_lt, i_le] at *; omega) (hF.trans (hF4.mono (fun r h => by rw [h]; exact ⟨rfl, rfl⟩)))
                · refine z_il19 (pc := 272) dX0_leastSum_272 ?_
                  refine z_goto (pc := 274) 279 dX0_leastSum_274 rfl ?_
                  refine z_is14 (pc := 279) dX0_leastSum_279 (by decide) ?_
                  refine z_ii15 (pc := 281) (nI ((j + 1) + 1)) dX0_leastSum_281 (nI_1 _) (by decide) ?_
                  refine z_goto (pc := 284) 126 dX0_leastSum_284 rfl ?_
                  have hv : A = dp pr tp tb up ub k0 (i + 1) (j + 1) := by
                    rw [← hTOA]
                    exact cell3 (by simp) (by simp only [i_lt, i_le] at *; omega) (by simp only [i_lt, i_le] at *; omega) (by simp only [i_lt, i_le] at *; omega)
                  refine z_L (L' := [some (.ref a), some (.ref t), some (.ref u), some (.int k0), some (.int bd), some (.int (pr 3)), some (.int (nI n)), some (.int (nI n2)), some (.int (nI (i + 1))), some (.ref (rw_ i)), some (.ref (rw_ (i + 1))), some (.int (tp i)), some (.int (tb i)), some (.int (co1 pr (tp i))), some (.int A), some (.int (nI (j + 1 + 1))), some (.int T), some (.int O), q16, some (.int A)]) rfl ?_
                  exact ih2 (j + 1) G4 _ _ _ _ _ _ (by omega) hG hs hR h6 h7 h8 h1 h2 h3 u1 u2 u3 hP1 hP2 (fun i2 j2 g1 g2 => by rw [sset_n (Or.inl (by omega))]; exact hD i2 j2 g1 g2) (fun j2 g => by
                    by_cases hj2 : j2 = j + 1
                    · subst hj2; rw [sset_s]; exact hv
                    · rw [sset_n (Or.inr hj2)]; exact hE j2 (by omega)) (fun j2 g => by
                    by_cases hj2 : j2 = j + 1
                    · subst hj2; rw [← hv]; simp only [i_lt, i_le] at *; omega
                    · have := hL j2 (by omega); simp only [i_lt, i_le] at *; omega) (hF.trans (hF4.mono (fun r h => by rw [h]; exact ⟨rfl, rfl⟩)))
              · refine z_il16 (pc := 249) dX0_leastSum_249 ?_
                refine z_goto (pc := 251) 256 dX0_leastSum_251 rfl ?_
                refine z_is19 (pc := 256) dX0_leastSum_256 (by decide) ?_
                refine z_al10 (pc := 258) dX0_leastSum_258 ?_
                refine z_il15 (pc := 260) dX0_leastSum_260 ?_
                refine z_il19 (pc := 262) dX0_leastSum_262 ?_
                skip
                refine z_iastg (pc := 264) (j + 1) (hR (i + 1) (by omega)) rfl (by omega) (by omega) dX0_leastSum_264 (fun G4 h4x hF4 => ?_)
                replace hR := hR.up h4x hF4
                clear h4x
                replace hG := hF4.1 _ _ _ (fun h => by cases h) hG
                replace hs := hF4.1 _ _ _ (fun h => by cases h) hs
                replace h6 := hF4.1 _ _ _ (fun h => by cases h) h6
                replace h7 := hF4.1 _ _ _ (fun h => by cases h) h7
                replace h8 := hF4.1 _ _ _ (fun h => by cases h) h8
                replace h1 := hF4.1 _ _ _ (fun h => by cases h) h1
                replace h2 := hF4.1 _ _ _ (fun h => by cases h) h2
                replace h3 := hF4.1 _ _ _ (fun h => by cases h) h3
                replace u1 := hF4.1 _ _ _ (fun h => by cases h) u1
                replace u2 := hF4.1 _ _ _ (fun h => by cases h) u2
                replace u3 := hF4.1 _ _ _ (fun h => by cases h) u3
                replace hP1 := hF4.1 _ _ _ (fun h => by cases h) hP1
                replace hP2 := hF4.1 _ _ _ (fun h => by cases h) hP2
                refine z_il19 (pc := 265) dX0_leastSum_265 ?_
                refine z_il14 (pc := 267) dX0_leastSum_267 ?_
                refine z_icmp_ge (pc := 269) 277 dX0_leastSum_269 rfl (fun c269 => ?_) (fun c269 => ?_)
                · refine z_il14 (pc := 277) dX0_leastSum_277 ?_
                  refine z_is14 (pc := 279) dX0_leastSum_279 (by decide) ?_
                  refine z_ii15 (pc := 281) (nI ((j + 1) + 1)) dX0_leastSum_281 (nI_1 _) (by decide) ?_
                  refine z_goto (pc := 284) 126 dX0_leastSum_284 rfl ?_
                  have hv : T = dp pr tp tb up ub k0 (i + 1) (j + 1) := by
                    rw [← hTOA]
                    exact cell3 (by simp) (by simp only [i_lt, i_le] at *; omega) (by simp only [i_lt, i_le] at *; omega) (by simp only [i_lt, i_le] at *; omega)
                  refine z_L (L' := [some (.ref a), some (.ref t), some (.ref u), some (.int k0), some (.int bd), some (.int (pr 3)), some (.int (nI n)), some (.int (nI n2)), some (.int (nI (i + 1))), some (.ref (rw_ i)), some (.ref (rw_ (i + 1))), some (.int (tp i)), some (.int (tb i)), some (.int (co1 pr (tp i))), some (.int least), some (.int (nI (j + 1 + 1))), some (.int T), some (.int O), q16, some (.int T)]) rfl ?_
                  exact ih2 (j + 1) G4 _ _ _ _ _ _ (by omega) hG hs hR h6 h7 h8 h1 h2 h3 u1 u2 u3 hP1 hP2 (fun i2 j2 g1 g2 => by rw [sset_n (Or.inl (by omega))]; exact hD i2 j2 g1 g2) (fun j2 g => by
                    by_cases hj2 : j2 = j + 1
                    · subst hj2; rw [sset_s]; exact hv
                    · rw [sset_n (Or.inr hj2)]; exact hE j2 (by omega)) (fun j2 g => by
                    by_cases hj2 : j2 = j + 1
                    · subst hj2; rw [← hv]; simp only [i_lt, i_le] at *; omega
                    · have := hL j2 (by omega); simp only [i_lt, i_le] at *; omega) (hF.trans (hF4.mono (fun r h => by rw [h]; exact ⟨rfl, rfl⟩)))
                · refine z_il19 (pc := 272) dX0_leastSum_272 ?_
                  refine z_goto (pc := 274) 279 dX0_leastSum_274 rfl ?_
                  refine z_is14 (pc := 279) dX0_leastSum_279 (by decide) ?_
                  refine z_ii15 (pc := 281) (nI ((j + 1) + 1)) dX0_leastSum_281 (nI_1 _) (by decide) ?_
                  refine z_goto (pc := 284) 126 dX0_leastSum_284 rfl ?_
                  have hv : T = dp pr tp tb up ub k0 (i + 1) (j + 1) := by
                    rw [← hTOA]
                    exact cell3 (by simp) (by simp only [i_lt, i_le] at *; omega) (by simp only [i_lt, i_le] at *; omega) (by simp only [i_lt, i_le] at *; omega)
                  refine z_L (L' := [some (.ref a), some (.ref t), some (.ref u), some (.int k0), some (.int bd), some (.int (pr 3)), some (.int (nI n)), some (.int (nI n2)), some (.int (nI (i + 1))), some (.ref (rw_ i)), some (.ref (rw_ (i + 1))), some (.int (tp i)), some (.int (tb i)), some (.int (co1 pr (tp i))), some (.int T), some (.int (nI (j + 1 + 1))), some (.int T), some (.int O), q16, some (.int T)]) rfl ?_
                  exact ih2 (j + 1) G4 _ _ _ _ _ _ (by omega) hG hs hR h6 h7 h8 h1 h2 h3 u1 u2 u3 hP1 hP2 (fun i2 j2 g1 g2 => by rw [sset_n (Or.inl (by omega))]; exact hD i2 j2 g1 g2) (fun j2 g => by
                    by_cases hj2 : j2 = j + 1
                    · subst hj2; rw [sset_s]; exact hv
                    · rw [sset_n (Or.inr hj2)]; exact hE j2 (by omega)) (fun j2 g => by
                    by_cases hj2 : j2 = j + 1
                    · subst hj2; rw [← hv]; simp only [i_lt, i_le] at *; omega
                    · have := hL j2 (by omega); simp only [i_lt, i_le] at *; omega) (hF.trans (hF4.mono (fun r h => by rw [h]; exact ⟨rfl, rfl⟩)))
            · refine z_il17 (pc := 233) dX0_leastSum_233 ?_
              refine z_goto (pc := 235) 240 dX0_leastSum_235 rfl ?_
              refine z_is19 (pc := 240) dX0_leastSum_240 (by decide) ?_
              refine z_il16 (pc := 242) dX0_leastSum_242 ?_
              refine z_il19 (pc := 244) dX0_leastSum_244 ?_
              refine z_icmp_ge (pc := 246) 254 dX0_leastSum_246 rfl (fun c246 => ?_) (fun c246 => ?_)
              · refine z_il19 (pc := 254) dX0_leastSum_254 ?_
                refine z_is19 (pc := 256) dX0_leastSum_256 (by decide) ?_
                refine z_al10 (pc := 258) dX0_leastSum_258 ?_
                refine z_il15 (pc := 260) dX0_leastSum_260 ?_
                refine z_il19 (pc := 262) dX0_leastSum_262 ?_
                skip
                refine z_iastg (pc := 264) (j + 1) (hR (i + 1) (by omega)) rfl (by omega) (by omega) dX0_leastSum_264 (fun G4 h4x hF4 => ?_)
                replace hR := hR.up h4x hF4
                clear h4x
                replace hG := hF4.1 _ _ _ (fun h => by cases h) hG
                replace hs := hF4.1 _ _ _ (fun h => by cases h) hs
                replace h6 := hF4.1 _ _ _ (fun h => by cases h) h6
                replace h7 := hF4.1 _ _ _ (fun h => by cases h) h7
                replace h8 := hF4.1 _ _ _ (fun h => by cases h) h8
                replace h1 := hF4.1 _ _ _ (fun h => by cases h) h1
                replace h2 := hF4.1 _ _ _ (fun h => by cases h) h2
                replace h3 := hF4.1 _ _ _ (fun h => by cases h) h3
                replace u1 := hF4.1 _ _ _ (fun h => by cases h) u1
                replace u2 := hF4.1 _ _ _ (fun h => by cases h) u2
                replace u3 := hF4.1 _ _ _ (fun h => by cases h) u3
                replace hP1 := hF4.1 _ _ _ (fun h => by cases h) hP1
                replace hP2 := hF4.1 _ _ _ (fun h => by cases h) hP2
                refine z_il19 (pc := 265) dX0_leastSum_265 ?_
                refine z_il14 (pc := 267) dX0_leastSum_267 ?_
                refine z_icmp_ge (pc := 269) 277 dX0_leastSum_269 rfl (fun c269 => ?_) (fun c269 => ?_)
                · refine z_il14 (pc := 277) dX0_leastSum_277 ?_
                  refine z_is14 (pc := 279) dX0_leastSum_279 (by decide) ?_
                  refine z_ii15 (pc := 281) (nI ((j + 1) + 1)) dX0_leastSum_281 (nI_1 _) (by decide) ?_
                  refine z_goto (pc := 284) 126 dX0_leastSum_284 rfl ?_
                  have hv : O = dp pr tp tb up ub k0 (i + 1) (j + 1) := by
                    rw [← hTOA]
                    exact cell3 (by simp) (by simp only [i_lt, i_le] at *; omega) (by simp only [i_lt, i_le] at *; omega) (by simp only [i_lt, i_le] at *; omega)
                  refine z_L (L' := [some (.ref a), some (.ref t), some (.ref u), some (.int k0), some (.int bd), some (.int (pr 3)), some (.int (nI n)), some (.int (nI n2)), some (.int (nI (i + 1))), some (.ref (rw_ i)), some (.ref (rw_ (i + 1))), some (.int (tp i)), some (.int (tb i)), some (.int (co1 pr (tp i))), some (.int least), some (.int (nI (j + 1 + 1))), some (.int T), some (.int O), q16, some (.int O)]) rfl ?_
                  exact ih2 (j + 1) G4 _ _ _ _ _ _ (by omega) hG hs hR h6 h7 h8 h1 h2 h3 u1 u2 u3 hP1 hP2 (fun i2 j2 g1 g2 => by rw [sset_n (Or.inl (by omega))]; exact hD i2 j2 g1 g2) (fun j2 g => by
                    by_cases hj2 : j2 = j + 1
                    · subst hj2; rw [sset_s]; exact hv
                    · rw [sset_n (Or.inr hj2)]; exact hE j2 (by omega)) (fun j2 g => by
                    by_cases hj2 : j2 = j + 1
                    · subst hj2; rw [← hv]; simp only [i_lt, i_le] at *; omega
                    · have := hL j2 (by omega); simp only [i_lt, i_le] at *; omega) (hF.trans (hF4.mono (fun r h => by rw [h]; exact ⟨rfl, rfl⟩)))
                · refine z_il19 (pc := 272) dX0_leastSum_272 ?_
                  refine z_goto (pc := 274) 279 dX0_leastSum_274 rfl ?_
                  refine z_is14 (pc := 279) dX0_leastSum_279 (by decide) ?_
                  refine z_ii15 (pc := 281) (nI ((j + 1) + 1)) dX0_leastSum_281 (nI_1 _) (by decide) ?_
                  refine z_goto (pc := 284) 126 dX0_leastSum_284 rfl ?_
                  have hv : O = dp pr tp tb up ub k0 (i + 1) (j + 1) := by
                    rw [← hTOA]
                    exact cell3 (by simp) (by simp only [i_lt, i_le] at *; omega) (by simp only [i_lt, i_le] at *; omega) (by simp only [i_lt, i_le] at *; omega)
                  refine z_L (L' := [some (.ref a), some (.ref t), some (.ref u), some (.int k0), some (.int bd), some (.int (pr 3)), some (.int (nI n)), some (.int (nI n2)), some (.int (nI (i + 1))), some (.ref (rw_ i)), some (.ref (rw_ (i + 1))), some (.int (tp i)), some (.int (tb i)), some (.int (co1 pr (tp i))), some (.int O), some (.int (nI (j + 1 + 1))), some (.int T), some (.int O), q16, some (.int O)]) rfl ?_
                  exact ih2 (j + 1) G4 _ _ _ _ _ _ (by omega) hG hs hR h6 h7 h8 h1 h2 h3 u1 u2 u3 hP1 hP2 (fun i2 j2 g1 g2 => by rw [sset_n (Or.inl (by omega))]; exact hD i2 j2 g1 g2) (fun j2 g => by
                    by_cases hj2 : j2 = j + 1
                    · subst hj2; rw [sset_s]; exact hv
                    · rw [sset_n (Or.inr hj2)]; exact hE j2 (by omega)) (fun j2 g => by
                    by_cases hj2 : j2 = j + 1
                    · subst hj2; rw [← hv]; simp only [i_lt, i_le] at *; omega
                    · have := hL j2 (by omega); simp only [i_lt, i_le] at *; omega) (hF.trans (hF4.mono (fun r h => by rw [h]; exact ⟨rfl, rfl⟩)))
              · refine z_il16 (pc := 249) dX0_leastSum_249 ?_
                refine z_goto (pc := 251) 256 dX0_leastSum_251 rfl ?_
                refine z_is19 (pc := 256) dX0_leastSum_256 (by decide) ?_
                refine z_al10 (pc := 258) dX0_leastSum_258 ?_
                refine z_il15 (pc := 260) dX0_leastSum_260 ?_
                refine z_il19 (pc := 262) dX0_leastSum_262 ?_
                skip
                refine z_iastg (pc := 264) (j + 1) (hR (i + 1) (by omega)) rfl (by omega) (by omega) dX0_leastSum_264 (fun G4 h4x hF4 => ?_)
                replace hR := hR.up h4x hF4
                clear h4x
                replace hG := hF4.1 _ _ _ (fun h => by cases h) hG
                replace hs := hF4.1 _ _ _ (fun h => by cases h) hs
                replace h6 := hF4.1 _ _ _ (fun h => by cases h) h6
                replace h7 := hF4.1 _ _ _ (fun h => by cases h) h7
                replace h8 := hF4.1 _ _ _ (fun h => by cases h) h8
                replace h1 := hF4.1 _ _ _ (fun h => by cases h) h1
                replace h2 := hF4.1 _ _ _ (fun h => by cases h) h2
                replace h3 := hF4.1 _ _ _ (fun h => by cases h) h3
                replace u1 := hF4.1 _ _ _ (fun h => by cases h) u1
                replace u2 := hF4.1 _ _ _ (fun h => by cases h) u2
                replace u3 := hF4.1 _ _ _ (fun h => by cases h) u3
                replace hP1 := hF4.1 _ _ _ (fun h => by cases h) hP1
                replace hP2 := hF4.1 _ _ _ (fun h => by cases h) hP2
                refine z_il19 (pc := 265) dX0_leastSum_265 ?_
                refine z_il14 (pc := 267) dX0_leastSum_267 ?_
                refine z_icmp_ge (pc := 269) 277 dX0_leastSum_269 rfl (fun c269 => ?_) (fun c269 => ?_)
                · refine z_il14 (pc := 277) dX0_leastSum_277 ?_
                  refine z_is14 (pc := 279) dX0_leastSum_279 (by decide) ?_
                  refine z_ii15 (pc := 281) (nI ((j + 1) + 1)) dX0_leastSum_281 (nI_1 _) (by decide) ?_
                  refine z_goto (pc := 284) 126 dX0_leastSum_284 rfl ?_
                  have hv : T = dp pr tp tb up ub k0 (i + 1) (j + 1) := by
                    rw [← hTOA]
                    exact cell3 (by simp) (by simp only [i_lt, i_le] at *; omega) (by simp only [i_lt, i_le] at *; omega) (by simp only [i_lt, i_le] at *; omega)
                  refine z_L (L' := [some (.ref a), some (.ref t), some (.ref u), some (.int k0), some (.int bd), some (.int (pr 3)), some (.int (nI n)), some (.int (nI n2)), some (.int (nI (i + 1))), some (.ref (rw_ i)), some (.ref (rw_ (i + 1))), some (.int (tp i)), some (.int (tb i)), some (.int (co1 pr (tp i))), some (.int least), some (.int (nI (j + 1 + 1))), some (.int T), some (.int O), q16, some (.int T)]) rfl ?_
                  exact ih2 (j + 1) G4 _ _ _ _ _ _ (by omega) hG hs hR h6 h7 h8 h1 h2 h3 u1 u2 u3 hP1 hP2 (fun i2 j2 g1 g2 => by rw [sset_n (Or.inl (by omega))]; exact hD i2 j2 g1 g2) (fun j2 g => by
                    by_cases hj2 : j2 = j + 1
                    · subst hj2; rw [sset_s]; exact hv
                    · rw [sset_n (Or.inr hj2)]; exact hE j2 (by omega)) (fun j2 g => by
                    by_cases hj2 : j2 = j + 1
                    · subst hj2; rw [← hv]; simp only [i_lt, i_le] at *; omega
                    · have := hL j2 (by omega); simp only [i_lt, i_le] at *; omega) (hF.trans (hF4.mono (fun r h => by rw [h]; exact ⟨rfl, rfl⟩)))
                · refine z_il19 (pc := 272) dX0_leastSum_272 ?_
                  refine z_goto (pc := 274) 279 dX0_leastSum_274 rfl ?_
                  refine z_is14 (pc := 279) dX0_leastSum_279 (by decide) ?_
                  refine z_ii15 (pc := 281) (nI ((j + 1) + 1)) dX0_leastSum_281 (nI_1 _) (by decide) ?_
                  refine z_goto (pc := 284) 126 dX0_leastSum_284 rfl ?_
                  have hv : T = dp pr tp tb up ub k0 (i + 1) (j + 1) := by
                    rw [← hTOA]
                    exact cell3 (by simp) (by simp only [i_lt, i_le] at *; omega) (by simp only [i_lt, i_le] at *; omega) (by simp only [i_lt, i_le] at *; omega)
                  refine z_L (L' := [some (.ref a), some (.ref t), some (.ref u), some (.int k0), some (.int bd), some (.int (pr 3)), some (.int (nI n)), some (.int (nI n2)), some (.int (nI (i + 1))), some (.ref (rw_ i)), some (.ref (rw_ (i + 1))), some (.int (tp i)), some (.int (tb i)), some (.int (co1 pr (tp i))), some (.int T), some (.int (nI (j + 1 + 1))), some (.int T), some (.int O), q16, some (.int T)]) rfl ?_
                  exact ih2 (j + 1) G4 _ _ _ _ _ _ (by omega) hG hs hR h6 h7 h8 h1 h2 h3 u1 u2 u3 hP1 hP2 (fun i2 j2 g1 g2 => by rw [sset_n (Or.inl (by omega))]; exact hD i2 j2 g1 g2) (fun j2 g => by
                    by_cases hj2 : j2 = j + 1
                    · subst hj2; rw [sset_s]; exact hv
                    · rw [sset_n (Or.inr hj2)]; exact hE j2 (by omega)) (fun j2 g => by
                    by_cases hj2 : j2 = j + 1
                    · subst hj2; rw [← hv]; simp only [i_lt, i_le] at *; omega
                    · have := hL j2 (by omega); simp only [i_lt, i_le] at *; omega) (hF.trans (hF4.mono (fun r h => by rw [h]; exact ⟨rfl, rfl⟩)))
          refine z_il15 (pc := 126) dX0_leastSum_126 ?_
          refine z_il7 (pc := 128) dX0_leastSum_128 ?_
          refine z_icmp_gt (pc := 130) 287 dX0_leastSum_130 rfl (fun c130 => absurd c130 (by rw [nI_ltI (by omega) (by omega)]; omega)) (fun c130 => ?_)
          refine z_al9 (pc := 133) dX0_leastSum_133 ?_
          refine z_il15 (pc := 135) dX0_leastSum_135 ?_
          refine z_iconst (pc := 137) (1) (by decide) dX0_leastSum_137 ?_
          refine z_isub (pc := 138) dX0_leastSum_138 ?_
          rw [nI_pred]
          refine z_iald (pc := 139) (j) (hR i (by omega)) rfl (by omega) (by omega) dX0_leastSum_139 ?_
          refine z_is16 (pc := 140) dX0_leastSum_140 (by decide) ?_
          refine z_al10 (pc := 142) dX0_leastSum_142 ?_
          refine z_il15 (pc := 144) dX0_leastSum_144 ?_
          refine z_iconst (pc := 146) (1) (by decide) dX0_leastSum_146 ?_
          refine z_isub (pc := 147) dX0_leastSum_147 ?_
          rw [nI_pred]
          refine z_iald (pc := 148) (j) (hR (i + 1) (by omega)) rfl (by omega) (by omega) dX0_leastSum_148 ?_
          refine z_is17 (pc := 149) dX0_leastSum_149 (by decide) ?_
          refine z_al2 (pc := 151) dX0_leastSum_151 ?_
          refine z_getN (pc := 152) 0 u1 rfl iw_X6 (by decide) kn_179 rfl dX0_leastSum_152 ?_
          refine z_il15 (pc := 155) dX0_leastSum_155 ?_
          refine z_iconst (pc := 157) (1) (by decide) dX0_leastSum_157 ?_
          refine z_isub (pc := 158) dX0_leastSum_158 ?_
          rw [nI_pred]
          refine z_iald (pc := 159) (j) u2 rfl (by omega) (by omega) dX0_leastSum_159 ?_
          refine z_is18 (pc := 160) dX0_leastSum_160 (by decide) ?_
          refine z_il18 (pc := 162) dX0_leastSum_162 ?_
          refine z_iconst (pc := 164) (-1) (by decide) dX0_leastSum_164 ?_
          refine z_icmp_eq (pc := 165) 216 dX0_leastSum_165 rfl (fun c165 => ?_) (fun c165 => ?_)
          · refine z_al9 (pc := 216) dX0_leastSum_216 ?_
            refine z_il15 (pc := 218) dX0_leastSum_218 ?_
            refine z_iald (pc := 220) _ (hR i (by omega)) rfl (by omega) (by omega) dX0_leastSum_220 ?_
            refine z_il13 (pc := 221) dX0_leastSum_221 ?_
            refine z_iadd (pc := 223) dX0_leastSum_223 ?_
            refine z_is19 (pc := 224) dX0_leastSum_224 (by decide) ?_
            refine z_L rfl ?_
            exact tl _ _ _ _ (by
              rw [hE j (by omega), hD i j (by omega) (by omega), hD i (j + 1) (by omega) (by omega)]
              show _ = dpr _ _ _ _ (j + 1)
              unfold dpr
              rw [show co1 pr (up j) = 0 from if_pos c165, show co2 pr (tp i) (tb i) (up j) (ub j) k0 = 0 from if_pos (Or.inr c165), Int32.add_zero, Int32.add_zero]
              rfl)
          · refine z_il17 (pc := 168) dX0_leastSum_168 ?_
            refine z_il5 (pc := 170) dX0_leastSum_170 ?_
            refine z_iadd (pc := 172) dX0_leastSum_172 ?_
            refine z_is17 (pc := 173) dX0_leastSum_173 (by decide) ?_
            refine z_il16 (pc := 175) dX0_leastSum_175 ?_
            refine z_il11 (pc := 177) dX0_leastSum_177 ?_
            refine z_iconst (pc := 179) (-1) (by decide) dX0_leastSum_179 ?_
            refine z_dia (pcj := 213) (P := (fun v => v = if tp i = -1 then 0 else ofN pr (tp i + k0 - up j) (tb i - ub j))) (st := [.int (S2 i j)]) (fun nt hnt => ?_) (fun hj180 => ?_)
            · skip
              subst hnt
              refine z_iadd (pc := 213) dX0_leastSum_213 ?_
              refine z_is16 (pc := 214) dX0_leastSum_214 (by decide) ?_
              refine z_al9 (pc := 216) dX0_leastSum_216 ?_
              refine z_il15 (pc := 218) dX0_leastSum_218 ?_
              refine z_iald (pc := 220) _ (hR i (by omega)) rfl (by omega) (by omega) dX0_leastSum_220 ?_
              refine z_il13 (pc := 221) dX0_leastSum_221 ?_
              refine z_iadd (pc := 223) dX0_leastSum_223 ?_
              refine z_is19 (pc := 224) dX0_leastSum_224 (by decide) ?_
              refine z_L rfl ?_
              exact tl _ _ _ _ (by
                rw [hE j (by omega), hD i j (by omega) (by omega), hD i (j + 1) (by omega) (by omega)]
                show _ = dpr _ _ _ _ (j + 1)
                unfold dpr
                rw [show co1 pr (up j) = pr 3 from if_neg c165, show co2 pr (tp i) (tb i) (up j) (ub j) k0 = (if tp i = -1 then 0 else ofN pr (tp i + k0 - up j) (tb i - ub j)) from ?_]
                · rfl
                · unfold co2
                  by_cases hq : tp i = -1
                  · rw [if_pos (Or.inl hq), if_pos hq]
                  · rw [if_neg (fun h => h.elim hq c165), if_neg hq]; rfl)
            · skip
              refine z_icmp_ne (pc := 180) 187 dX0_leastSum_180 rfl (fun c180 => ?_) (fun c180 => ?_)
              · refine z_al0 (pc := 187) dX0_leastSum_187 ?_
                refine z_get (pc := 188) 0 hG rfl iw_X0 (by decide) kw_50 rfl dX0_leastSum_188 ?_
                refine z_il11 (pc := 191) dX0_leastSum_191 ?_
                refine z_il3 (pc := 193) dX0_leastSum_193 ?_
                refine z_iadd (pc := 194) dX0_leastSum_194 ?_
                refine z_il18 (pc := 195) dX0_leastSum_195 ?_
                refine z_isub (pc := 197) dX0_leastSum_197 ?_
                refine z_il12 (pc := 198) dX0_leastSum_198 ?_
                refine z_al2 (pc := 200) dX0_leastSum_200 ?_
                refine z_getN (pc := 201) 1 u1 rfl iw_X6 (by decide) kn_181 rfl dX0_leastSum_201 ?_
                refine z_il15 (pc := 204) dX0_leastSum_204 ?_
                refine z_iconst (pc := 206) (1) (by decide) dX0_leastSum_206 ?_
                refine z_isub (pc := 207) dX0_leastSum_207 ?_
                rw [nI_pred]
                refine z_iald (pc := 208) (j) u3 rfl (by omega) (by omega) dX0_leastSum_208 ?_
                refine z_isub (pc := 209) dX0_leastSum_209 ?_
                refine z_callVr (pc := 210) (c_pNotes l _ _ ⟨qp, hP1, hP2⟩) hP1 rfl rfl kw_483 zc_X4_ofNotes (by decide) (by decide) rfl (Nat.le_of_ble_eq_true rfl) dX0_leastSum_210 ?_
                exact hj180 _ (by first | rw [if_pos c180] | rw [if_neg c180])
              · refine z_iconst (pc := 183) (0) (by decide) dX0_leastSum_183 ?_
                refine z_goto (pc := 184) 213 dX0_leastSum_184 rfl ?_
                exact hj180 _ (by first | rw [if_pos c180] | rw [if_neg c180])
      refine z_il8 (pc := 43) dX0_leastSum_43 ?_
      refine z_il6 (pc := 45) dX0_leastSum_45 ?_
      refine z_icmp_gt (pc := 47) 303 dX0_leastSum_47 rfl (fun c47 => absurd c47 (by rw [nI_ltI (by omega) (by omega)]; omega)) (fun c47 => ?_)
      refine z_al0 (pc := 50) dX0_leastSum_50 ?_
      refine z_get (pc := 51) 1 hG rfl iw_X0 (by decide) kw_51 rfl dX0_leastSum_51 ?_
      refine z_il8 (pc := 54) dX0_leastSum_54 ?_
      refine z_iconst (pc := 56) (1) (by decide) dX0_leastSum_56 ?_
      refine z_isub (pc := 57) dX0_leastSum_57 ?_
      rw [nI_pred]
      refine z_aaldI (pc := 58) (i) hs rfl (by omega) (by omega) dX0_leastSum_58 ?_
      refine z_as9 (pc := 59) dX0_leastSum_59 (by decide) ?_
      refine z_al0 (pc := 61) dX0_leastSum_61 ?_
      refine z_get (pc := 62) 1 hG rfl iw_X0 (by decide) kw_51 rfl dX0_leastSum_62 ?_
      refine z_il8 (pc := 65) dX0_leastSum_65 ?_
      refine z_aaldI (pc := 67) (i + 1) hs rfl (by omega) (by omega) dX0_leastSum_67 ?_
      refine z_as10 (pc := 68) dX0_leastSum_68 (by decide) ?_
      refine z_al1 (pc := 70) dX0_leastSum_70 ?_
      refine z_getN (pc := 71) 0 h1 rfl iw_X6 (by decide) kn_179 rfl dX0_leastSum_71 ?_
      refine z_il8 (pc := 74) dX0_leastSum_74 ?_
      refine z_iconst (pc := 76) (1) (by decide) dX0_leastSum_76 ?_
      refine z_isub (pc := 77) dX0_leastSum_77 ?_
      rw [nI_pred]
      refine z_iald (pc := 78) (i) h2 rfl (by omega) (by omega) dX0_leastSum_78 ?_
      refine z_is11 (pc := 79) dX0_leastSum_79 (by decide) ?_
      refine z_al1 (pc := 81) dX0_leastSum_81 ?_
      refine z_getN (pc := 82) 1 h1 rfl iw_X6 (by decide) kn_181 rfl dX0_leastSum_82 ?_
      refine z_il8 (pc := 85) dX0_leastSum_85 ?_
      refine z_iconst (pc := 87) (1) (by decide) dX0_leastSum_87 ?_
      refine z_isub (pc := 88) dX0_leastSum_88 ?_
      rw [nI_pred]
      refine z_iald (pc := 89) (i) h3 rfl (by omega) (by omega) dX0_leastSum_89 ?_
      refine z_is12 (pc := 90) dX0_leastSum_90 (by decide) ?_
      refine z_il11 (pc := 92) dX0_leastSum_92 ?_
      refine z_iconst (pc := 94) (-1) (by decide) dX0_leastSum_94 ?_
      refine z_dia (pcj := 104) (P := (fun v => v = co1 pr (tp i))) (st := []) (fun al hal => ?_) (fun hj95 => ?_)
      · skip
        subst hal
        refine z_is13 (pc := 104) dX0_leastSum_104 (by decide) ?_
        refine z_al10 (pc := 106) dX0_leastSum_106 ?_
        refine z_iconst (pc := 108) (0) (by decide) dX0_leastSum_108 ?_
        refine z_al9 (pc := 109) dX0_leastSum_109 ?_
        refine z_iconst (pc := 111) (0) (by decide) dX0_leastSum_111 ?_
        refine z_iald (pc := 112) 0 (hR (i) (by omega)) rfl (by omega) (by omega) dX0_leastSum_112 ?_
        refine z_il13 (pc := 113) dX0_leastSum_113 ?_
        refine z_iadd (pc := 115) dX0_leastSum_115 ?_
        skip
        refine z_iastg (pc := 116) (0) (hR (i + 1) (by omega)) rfl (by omega) (by omega) dX0_leastSum_116 (fun G4 h4x hF4 => ?_)
        replace hR := hR.up h4x hF4
        clear h4x
        replace hG := hF4.1 _ _ _ (fun h => by cases h) hG
        replace hs := hF4.1 _ _ _ (fun h => by cases h) hs
        replace h6 := hF4.1 _ _ _ (fun h => by cases h) h6
        replace h7 := hF4.1 _ _ _ (fun h => by cases h) h7
        replace h8 := hF4.1 _ _ _ (fun h => by cases h) h8
        replace h1 := hF4.1 _ _ _ (fun h => by cases h) h1
        replace h2 := hF4.1 _ _ _ (fun h => by cases h) h2
        replace h3 := hF4.1 _ _ _ (fun h => by cases h) h3
        replace u1 := hF4.1 _ _ _ (fun h => by cases h) u1
        replace u2 := hF4.1 _ _ _ (fun h => by cases h) u2
        replace u3 := hF4.1 _ _ _ (fun h => by cases h) u3
        replace hP1 := hF4.1 _ _ _ (fun h => by cases h) hP1
        replace hP2 := hF4.1 _ _ _ (fun h => by cases h) hP2
        refine z_al10 (pc := 117) dX0_leastSum_117 ?_
        refine z_iconst (pc := 119) (0) (by decide) dX0_leastSum_119 ?_
        refine z_iald (pc := 120) 0 (hR (i + 1) (by omega)) rfl (by omega) (by omega) dX0_leastSum_120 ?_
        refine z_is14 (pc := 121) dX0_leastSum_121 (by decide) ?_
        refine z_iconst (pc := 123) (1) (by decide) dX0_leastSum_123 ?_
        refine z_is15 (pc := 124) dX0_leastSum_124 (by decide) ?_
        refine z_L rfl ?_
        exact inn n2 0 G4 _ _ _ _ _ _ (by omega) hG hs hR h6 h7 h8 h1 h2 h3 u1 u2 u3 hP1 hP2 (fun i2 j2 g1 g2 => by rw [sset_n (Or.inl (by omega))]; exact hD i2 j2 g1 g2) (fun j2 g => by rw [show j2 = 0 by omega, sset_s, hD i 0 (by omega) (by omega)]; rfl) (fun j2 g => by rw [show j2 = 0 by omega, sset_s, hD i 0 (by omega) (by omega)]; exact Int32.le_refl _) (hF.trans (hF4.mono (fun r h => by rw [h]; exact ⟨rfl, rfl⟩)))
      · skip
        refine z_icmp_ne (pc := 95) 102 dX0_leastSum_95 rfl (fun c95 => ?_) (fun c95 => ?_)
        · refine z_il5 (pc := 102) dX0_leastSum_102 ?_
          exact hj95 _ (by unfold co1; first | rw [if_pos c95] | rw [if_neg c95])
        · refine z_iconst (pc := 98) (0) (by decide) dX0_leastSum_98 ?_
          refine z_goto (pc := 99) 104 dX0_leastSum_99 rfl ?_
          exact hj95 _ (by unfold co1; first | rw [if_pos c95] | rw [if_neg c95])
  refine z_iconst (pc := 40) (1) (by decide) dX0_leastSum_40 ?_
  refine z_is8 (pc := 41) dX0_leastSum_41 (by decide) ?_
  refine z_L (L' := [some (.ref a), some (.ref t), some (.ref u), some (.int k0), some (.int bd), some (.int (pr 3)), some (.int (nI n)), some (.int (nI n2)), some (.int (nI (0 + 1))), none, none, none, none, none, none, none, none, none, none, none]) rfl ?_
  exact lp n 0 G2 S2 none none none none none none none none none none none  (by omega) hG hs hR h6 h7 h8 h1 h2 h3 u1 u2 u3 hP1 hP2 (fun i2 j2 g1 g2 => by rw [show i2 = 0 by omega]; exact hE2 j2 g2) hF2
