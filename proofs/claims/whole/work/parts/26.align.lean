/-! the aligner -/
abbrev isSum (r : zR) : Prop := r.1 = 2 ∧ r.2.1 = 5
abbrev isAL (r : zR) : Prop := r.1 = 2 ∧ (r.2.1 = 3 ∨ r.2.1 = 5 ∨ r.2.1 = 6 ∨ r.2.1 = 7 ∨ r.2.1 = 8)
def sset (S : Nat → Nat → Int32) (i j : Nat) (v : Int32) : Nat → Nat → Int32 := fun k => if k = i then upd (S k) j v else S k
def zRW (κ : zK) (G : zH) (rw : Nat → Nat) (S : Nat → Nat → Int32) : Prop := ∀ k, k < 25 → G (rw k) = some ((2, 5, k), .inl (κ.2.1 0, 25, .inl (S k)))
theorem zRW.up {κ : zK} {G G4 : zH} {rw : Nat → Nat} {S : Nat → Nat → Int32} {i j : Nat} {v : Int32} (h : zRW κ G rw S) (h4 : G4 (rw i) = some ((2, 5, i), .inl (κ.2.1 0, 25, .inl (upd (S i) j v)))) (hF : zFP (fun r => r = (2, 5, i)) G G4) : zRW κ G4 rw (sset S i j v) := fun k hk => by
  unfold sset
  by_cases hki : k = i
  · subst hki; rw [if_pos rfl]; exact h4
  · rw [if_neg hki]; exact hF.1 _ _ _ (fun q => hki (congrArg (fun r : zR => r.2.2) q)) (h k hk)
theorem zRW.keep {κ : zK} {G G4 : zH} {rw : Nat → Nat} {S : Nat → Nat → Int32} {P : zR → Prop} (h : zRW κ G rw S) (hF : zFP P G G4) (hp : ∀ k, ¬ P (2, 5, k)) : zRW κ G4 rw S := fun k hk => hF.1 _ _ _ (hp k) (h k hk)
theorem sset_s {S : Nat → Nat → Int32} {i j : Nat} {v : Int32} : sset S i j v i j = v := by unfold sset; rw [if_pos rfl]; exact upd_s
theorem sset_n {S : Nat → Nat → Int32} {i j k q : Nat} {v : Int32} (h : k ≠ i ∨ q ≠ j) : sset S i j v k q = S k q := by
  unfold sset
  by_cases hk : k = i
  · rw [if_pos hk]; exact upd_n (h.resolve_left (fun q => q hk))
  · rw [if_neg hk]
/-- the aligner at a, its prices at x -/
def zAL (κ : zK) (G : zH) (a x cols : Nat) (key : Int32) (f0 f1 f2 : Nat → Int32) (S : Nat → Nat → Int32) : Prop := ∃ (s o1 o2 o3 : Nat) (rw : Nat → Nat), G a = some ((2, 3, 0), .inr (1, [.ref x, .ref s, .ref o1, .ref o2, .ref o3, .int (nI cols), .int key])) ∧ G s = some ((2, 4, 0), .inl (κ.2.1 3, zQ 25 (fun i => some (rw i)))) ∧ zRW κ G rw S ∧ G o1 = some ((2, 6, 0), .inl (κ.2.1 0, 48, .inl f0)) ∧ G o2 = some ((2, 7, 0), .inl (κ.2.1 0, 48, .inl f1)) ∧ G o3 = some ((2, 8, 0), .inl (κ.2.1 0, 48, .inl f2)) ∧ cols ≤ 48
theorem zAL.keep {κ : zK} {G G2 : zH} {a x cols : Nat} {key : Int32} {f0 f1 f2 : Nat → Int32} {S : Nat → Nat → Int32} {P : zR → Prop} (h : zAL κ G a x cols key f0 f1 f2 S) (hF : zFP P G G2) (hp : ∀ k j : Nat, 3 ≤ k ∧ k ≤ 8 → ¬ P (2, k, j)) : zAL κ G2 a x cols key f0 f1 f2 S := by
  obtain ⟨s, o1, o2, o3, rw, g1, g2, g3, g4, g5, g6, g7⟩ := h
  exact ⟨s, o1, o2, o3, rw, hF.1 _ _ _ (hp 3 0 (by omega)) g1, hF.1 _ _ _ (hp 4 0 (by omega)) g2, g3.keep hF (fun k => hp 5 k (by omega)), hF.1 _ _ _ (hp 6 0 (by omega)) g4, hF.1 _ _ _ (hp 7 0 (by omega)) g5, hF.1 _ _ _ (hp 8 0 (by omega)) g6, g7⟩
theorem cell3 {T A O v : Int32} (h : v = O ∨ v = T ∨ v = A) (h1 : v ≤ O) (h2 : v ≤ T) (h3 : v ≤ A) : v = imin (imin T A) O := by
  unfold imin
  simp only [i_lt, i_le, i_eq] at *
  repeat' split
  all_goals first | omega | (simp only [i_lt, i_le, i_eq] at *; omega)
abbrev rX0_fillFirstRow : Room := rmK 0 0 0 0
set_option maxRecDepth 100000 in
set_option maxHeartbeats 400000 in
theorem c_aFill (l : Launch) {κ : zK} {G : zH} {a x : Nat} {cols : Nat} {key : Int32} {f0 f1 f2 : Nat → Int32} {S : Nat → Nat → Int32} {u : Nat} {j2 n2 : Nat} {up ub : Nat → Int32} (out : Int32) (hA : zAL κ G a x cols key f0 f1 f2 S) (hU : zTU κ G u j2 n2 up ub) : Ct l yX0_fillFirstRow cX0_fillFirstRow 5 none rX0_fillFirstRow κ [.ref a, .ref u, .int out] G (pV (fun G2 => ∃ S2, zAL κ G2 a x cols key f0 f1 f2 S2 ∧ zFP isSum G G2 ∧ (∀ j, j ≤ n2 → S2 0 j = dpr0 (fun j => if up j = -1 then 0 else out) j) ∧ ∀ k q, k ≠ 0 → S2 k q = S k q)) := by
  refine Ct.of (by decide +kernel) (fun v hv => by
    simp only [List.mem_cons, List.mem_nil_iff, or_false, List.not_mem_nil] at hv
    rcases hv with rfl | rfl | rfl <;> rfl) (Nat.le_of_ble_eq_true rfl) ?_
  intro p e s m args below meth cC
  refine z_L (L' := [some (.ref a), some (.ref u), some (.int out), none, none]) rfl ?_
  generalize hQx : MQ below (zQc κ _) args s _ _ (zA κ) = Qx
  obtain ⟨sa, o1, o2, o3, rw_, hG, hs, hR, h6, h7, h8, hcols⟩ := hA
  obtain ⟨a2, b2, u1, u2, u3, hn2⟩ := hU
  have lp : ∀ (d i : Nat) (G2 : zH) (S2 : Nat → Nat → Int32), i + d = n2 → G2 a = some ((2, 3, 0), .inr (1, [.ref x, .ref sa, .ref o1, .ref o2, .ref o3, .int (nI cols), .int key])) → G2 sa = some ((2, 4, 0), .inl (κ.2.1 3, zQ 25 (fun i => some (rw_ i)))) → zRW κ G2 rw_ S2 → G2 o1 = some ((2, 6, 0), .inl (κ.2.1 0, 48, .inl f0)) → G2 o2 = some ((2, 7, 0), .inl (κ.2.1 0, 48, .inl f1)) → G2 o3 = some ((2, 8, 0), .inl (κ.2.1 0, 48, .inl f2)) → G2 u = some ((2, 16, j2), .inr (7, [.ref a2, .ref b2, .int (nI n2)])) → G2 a2 = some ((2, 17, j2), .inl (κ.2.1 0, 24, .inl up)) → G2 b2 = some ((2, 18, j2), .inl (κ.2.1 0, 24, .inl ub)) → (∀ j, j ≤ i → S2 0 j = dpr0 (fun j => if up j = -1 then 0 else out) j) → (∀ k q, k ≠ 0 → S2 k q = S k q) → zFP isSum G G2 → Z p l e rX0_fillFirstRow s m args below meth cC yX0_fillFirstRow cX0_fillFirstRow 5 none κ Qx 0 0 G2 [some (.ref a), some (.ref u), some (.int out), some (.ref (rw_ 0)), some (.int (nI (i + 1)))] 14 [] := by
    intro d
    induction d with
    | zero =>
      intro i G2 S2 hi hG hs hR h6 h7 h8 u1 u2 u3 hE hK hF
      refine z_il4 (pc := 14) dX0_fillFirstRow_14 ?_
      refine z_al1 (pc := 16) dX0_fillFirstRow_16 ?_
      refine z_getN (pc := 17) 2 u1 rfl iw_X6 (by decide) kn_183 rfl dX0_fillFirstRow_17 ?_
      refine z_icmp_gt (pc := 20) 65 dX0_fillFirstRow_20 rfl (fun c20 => ?_) (fun c20 => absurd (by rw [nI_ltI (by omega) (by omega)]; omega) c20)
      rw [← hQx]
      refine z_vret (pc := 65) rfl (by decide) dX0_fillFirstRow_65 (⟨rfl, S2, ⟨sa, o1, o2, o3, rw_, hG, hs, hR, h6, h7, h8, hcols⟩, hF, fun j hj => hE j (by omega), hK⟩)
    | succ d ih =>
      intro i G2 S2 hi hG hs hR h6 h7 h8 u1 u2 u3 hE hK hF
      refine z_il4 (pc := 14) dX0_fillFirstRow_14 ?_
      refine z_al1 (pc := 16) dX0_fillFirstRow_16 ?_
      refine z_getN (pc := 17) 2 u1 rfl iw_X6 (by decide) kn_183 rfl dX0_fillFirstRow_17 ?_
      refine z_icmp_gt (pc := 20) 65 dX0_fillFirstRow_20 rfl (fun c20 => absurd c20 (by rw [nI_ltI (by omega) (by omega)]; omega)) (fun c20 => ?_)
      refine z_il4 (pc := 23) dX0_fillFirstRow_23 ?_
      refine z_bipush (pc := 25) (24) (by decide) dX0_fillFirstRow_25 ?_
      refine z_icmp_gt (pc := 27) 65 dX0_fillFirstRow_27 rfl (fun c27 => absurd c27 (show ¬ nI 24 < nI (i + 1) from by rw [nI_ltI (by omega) (by omega)]; omega)) (fun c27 => ?_)
      refine z_al3 (pc := 30) dX0_fillFirstRow_30 ?_
      refine z_il4 (pc := 31) dX0_fillFirstRow_31 ?_
      refine z_al3 (pc := 33) dX0_fillFirstRow_33 ?_
      refine z_il4 (pc := 34) dX0_fillFirstRow_34 ?_
      refine z_iconst (pc := 36) (1) (by decide) dX0_fillFirstRow_36 ?_
      refine z_isub (pc := 37) dX0_fillFirstRow_37 ?_
      rw [nI_pred]
      refine z_iald (pc := 38) i (hR 0 (by omega)) rfl (by omega) (by omega) dX0_fillFirstRow_38 ?_
      refine z_al1 (pc := 39) dX0_fillFirstRow_39 ?_
      refine z_getN (pc := 40) 0 u1 rfl iw_X6 (by decide) kn_179 rfl dX0_fillFirstRow_40 ?_
      refine z_il4 (pc := 43) dX0_fillFirstRow_43 ?_
      refine z_iconst (pc := 45) (1) (by decide) dX0_fillFirstRow_45 ?_
      refine z_isub (pc := 46) dX0_fillFirstRow_46 ?_
      rw [nI_pred]
      refine z_iald (pc := 47) i u2 rfl (by omega) (by omega) dX0_fillFirstRow_47 ?_
      refine z_iconst (pc := 48) (-1) (by decide) dX0_fillFirstRow_48 ?_
      refine z_icmp_ne (pc := 49) 56 dX0_fillFirstRow_49 rfl (fun c49 => ?_) (fun c49 => ?_)
      · refine z_il2 (pc := 56) dX0_fillFirstRow_56 ?_
        refine z_iadd (pc := 57) dX0_fillFirstRow_57 ?_
        skip
        refine z_iastg (pc := 58) (i + 1) (hR (0) (by omega)) rfl (by omega) (by omega) dX0_fillFirstRow_58 (fun G4 h4x hF4 => ?_)
        replace hR := hR.up h4x hF4
        clear h4x
        replace hG := hF4.1 _ _ _ (fun h => by cases h) hG
        replace hs := hF4.1 _ _ _ (fun h => by cases h) hs
        replace u1 := hF4.1 _ _ _ (fun h => by cases h) u1
        replace u2 := hF4.1 _ _ _ (fun h => by cases h) u2
        replace u3 := hF4.1 _ _ _ (fun h => by cases h) u3
        refine z_ii4 (pc := 59) (nI ((i + 1) + 1)) dX0_fillFirstRow_59 (nI_1 _) (by decide) ?_
        refine z_goto (pc := 62) 14 dX0_fillFirstRow_62 rfl ?_
        refine z_L (L' := [some (.ref a), some (.ref u), some (.int out), some (.ref (rw_ 0)), some (.int (nI (i + 1 + 1)))]) rfl ?_
        exact ih (i + 1) G4 _ (by omega) hG hs hR (hF4.1 _ _ _ (fun h => by cases h) h6) (hF4.1 _ _ _ (fun h => by cases h) h7) (hF4.1 _ _ _ (fun h => by cases h) h8) u1 u2 u3 (fun j hj => by
          by_cases hj2 : j = i + 1
          · subst hj2; rw [sset_s, hE i (by omega)]; show _ = dpr0 _ i + (if up i = -1 then 0 else out); rw [if_neg c49]
          · rw [sset_n (Or.inr hj2)]; exact hE j (by omega)) (fun k q hk => by rw [sset_n (Or.inl (by omega))]; exact hK k q hk) (hF.trans (hF4.mono (fun r h => by rw [h]; exact ⟨rfl, rfl⟩)))
      · refine z_iconst (pc := 52) (0) (by decide) dX0_fillFirstRow_52 ?_
        refine z_goto (pc := 53) 57 dX0_fillFirstRow_53 rfl ?_
        refine z_iadd (pc := 57) dX0_fillFirstRow_57 ?_
        skip
        refine z_iastg (pc := 58) (i + 1) (hR (0) (by omega)) rfl (by omega) (by omega) dX0_fillFirstRow_58 (fun G4 h4x hF4 => ?_)
        replace hR := hR.up h4x hF4
        clear h4x
        replace hG := hF4.1 _ _ _ (fun h => by cases h) hG
        replace hs := hF4.1 _ _ _ (fun h => by cases h) hs
        replace u1 := hF4.1 _ _ _ (fun h => by cases h) u1
        replace u2 := hF4.1 _ _ _ (fun h => by cases h) u2
        replace u3 := hF4.1 _ _ _ (fun h => by cases h) u3
        refine z_ii4 (pc := 59) (nI ((i + 1) + 1)) dX0_fillFirstRow_59 (nI_1 _) (by decide) ?_
        refine z_goto (pc := 62) 14 dX0_fillFirstRow_62 rfl ?_
        refine z_L (L' := [some (.ref a), some (.ref u), some (.int out), some (.ref (rw_ 0)), some (.int (nI (i + 1 + 1)))]) rfl ?_
        exact ih (i + 1) G4 _ (by omega) hG hs hR (hF4.1 _ _ _ (fun h => by cases h) h6) (hF4.1 _ _ _ (fun h => by cases h) h7) (hF4.1 _ _ _ (fun h => by cases h) h8) u1 u2 u3 (fun j hj => by
          by_cases hj2 : j = i + 1
          · subst hj2; rw [sset_s, hE i (by omega)]; show _ = dpr0 _ i + (if up i = -1 then 0 else out); rw [if_pos c49]
          · rw [sset_n (Or.inr hj2)]; exact hE j (by omega)) (fun k q hk => by rw [sset_n (Or.inl (by omega))]; exact hK k q hk) (hF.trans (hF4.mono (fun r h => by rw [h]; exact ⟨rfl, rfl⟩)))
  refine z_al0 (pc := 0) dX0_fillFirstRow_0 ?_
  refine z_get (pc := 1) 1 hG rfl iw_X0 (by decide) kw_51 rfl dX0_fillFirstRow_1 ?_
  refine z_iconst (pc := 4) (0) (by decide) dX0_fillFirstRow_4 ?_
  refine z_aaldI (pc := 5) (0) hs rfl (by omega) (by omega) dX0_fillFirstRow_5 ?_
  refine z_as3 (pc := 6) dX0_fillFirstRow_6 (by decide) ?_
  refine z_al3 (pc := 7) dX0_fillFirstRow_7 ?_
  refine z_iconst (pc := 8) (0) (by decide) dX0_fillFirstRow_8 ?_
  refine z_iconst (pc := 9) (0) (by decide) dX0_fillFirstRow_9 ?_
  skip
  refine z_iastg (pc := 10) (0) (hR (0) (by omega)) rfl (by omega) (by omega) dX0_fillFirstRow_10 (fun G3 h3x hF3 => ?_)
  replace hR := hR.up h3x hF3
  clear h3x
  replace hG := hF3.1 _ _ _ (fun h => by cases h) hG
  replace hs := hF3.1 _ _ _ (fun h => by cases h) hs
  replace u1 := hF3.1 _ _ _ (fun h => by cases h) u1
  replace u2 := hF3.1 _ _ _ (fun h => by cases h) u2
  replace u3 := hF3.1 _ _ _ (fun h => by cases h) u3
  replace h6 := hF3.1 _ _ _ (fun h => by cases h) h6
  replace h7 := hF3.1 _ _ _ (fun h => by cases h) h7
  replace h8 := hF3.1 _ _ _ (fun h => by cases h) h8
  refine z_iconst (pc := 11) (1) (by decide) dX0_fillFirstRow_11 ?_
  refine z_is4 (pc := 12) dX0_fillFirstRow_12 (by decide) ?_
  refine z_L (L' := [some (.ref a), some (.ref u), some (.int out), some (.ref (rw_ 0)), some (.int (nI (0 + 1)))]) rfl ?_
  exact lp n2 0 G3 _ (by omega) hG hs hR h6 h7 h8 u1 u2 u3 (fun j hj => by rw [show j = 0 by omega, sset_s]; rfl) (fun k q hk => sset_n (Or.inl hk)) (hF3.mono (fun r h => by rw [h]; exact ⟨rfl, rfl⟩))
abbrev rX0_leastSum : Room := rmK 1 0 0 24
set_option maxRecDepth 100000 in
set_option maxHeartbeats 400000 in
theorem c_aLeast (l : Launch) {κ : zK} {G : zH} {a x : Nat} {t : Nat} {cols : Nat} {key : Int32} {f0 f1 f2 : Nat → Int32} {S : Nat → Nat → Int32} {pr tp tb : Nat → Int32} {u : Nat} {j2 n2 : Nat} {up ub : Nat → Int32} (j1 n : Nat) (k0 bd : Int32) (hA : zAL κ G a x cols key f0 f1 f2 S) (hP : zPR κ G x pr) (hT : zTU κ G t j1 n tp tb) (hU : zTU κ G u j2 n2 up ub) : Ct l yX0_leastSum cX0_leastSum 18 (some FieldType.int) rX0_leastSum κ [.ref a, .ref t, .ref u, .int k0, .int bd] G (pI (fun r G2 => ∃ S2, zAL κ G2 a x cols key f0 f1 f2 S2 ∧ zFP isSum G G2 ∧ ((r = dp pr tp tb up ub k0 n n2 ∧ ∀ i j, i ≤ n → j ≤ n2 → S2 i j = dp pr tp tb up ub k0 i j) ∨ (r = bd ∧ ∃ i, i ≤ n ∧ ∀ j, j ≤ n2 → bd ≤ dp pr tp tb up ub k0 i j)))) := by
  refine Ct.of (by decide +kernel) (fun v hv => by
    simp only [List.mem_cons, List.mem_nil_iff, or_false, List.not_mem_nil] at hv
    rcases hv with rfl | rfl | rfl | rfl | rfl <;> rfl) (Nat.le_of_ble_eq_true rfl) ?_
  intro p e s m args below meth cC
  refine z_L (L' := [some (.ref a), some (.ref t), some (.ref u), some (.int k0), some (.int bd), none, none, none, none, none, none, none, none, none, none, none, none, none]) rfl ?_
  generalize hQx : MQ below (zQc κ _) args s _ _ (zA κ) = Qx
  have hA0 := hA
  have hU0 := hU
  obtain ⟨qp, hP1, hP2⟩ := hP
  obtain ⟨a1, b1, h1, h2, h3, hn⟩ := hT
  obtain ⟨a2, b2, u1, u2, u3, hn2⟩ := hU
  obtain ⟨sa0, o10, o20, o30, rw0, hG, -, -, -, -, -, -⟩ := hA
  refine z_al0 (pc := 0) dX0_leastSum_0 ?_
  refine z_get (pc := 1) 0 hG rfl iw_X0 (by decide) kw_50 rfl dX0_leastSum_1 ?_
  refine z_callVr (pc := 4) (c_pOut l ⟨qp, hP1, hP2⟩) hP1 rfl rfl kw_474 zc_X4_out (by decide) (by decide) rfl (Nat.le_of_ble_eq_true rfl) dX0_leastSum_4 ?_
  refine z_is5 (pc := 7) dX0_leastSum_7 (by decide) ?_
  refine z_al0 (pc := 9) dX0_leastSum_9 ?_
  refine z_al2 (pc := 10) dX0_leastSum_10 ?_
  refine z_il5 (pc := 11) dX0_leastSum_11 ?_
  refine z_callVv (pc := 13) _ (c_aFill l (pr 3) hA0 hU0) rfl hG rfl rfl kw_478 zc_X0_fillFirstRow (by decide) rfl (Nat.le_of_ble_eq_true rfl) dX0_leastSum_13 (fun G2 hv => ?_)
  obtain ⟨S2, hA2, hF2, hE2, -⟩ := hv
  obtain ⟨sa, o1, o2, o3, rw_, hG2, hs, hR, h6, h7, h8, hcols⟩ := hA2
  clear hG; have hG := hG2
  replace h1 := hF2.1 _ _ _ (fun h => by cases h.2) h1
  replace h2 := hF2.1 _ _ _ (fun h => by cases h.2) h2
  replace h3 := hF2.1 _ _ _ (fun h => by cases h.2) h3
  replace u1 := hF2.1 _ _ _ (fun h => by cases h.2) u1
  replace u2 := hF2.1 _ _ _ (fun h => by cases h.2) u2
  replace u3 := hF2.1 _ _ _ (fun h => by cases h.2) u3
  replace hP1 := hF2.1 _ _ _ (fun h => by cases h.2) hP1
  replace hP2 := hF2.1 _ _ _ (fun h => by cases h.2) hP2
  have lp : ∀ (d i : Nat) (G2 : zH) (S2 : Nat → Nat → Int32) (q7 q8 q9 q10 q11 q12 q13 q14 q15 q16 q17 : Option Value), i + d = n → G2 a = some ((2, 3, 0), .inr (1, [.ref x, .ref sa, .ref o1, .ref o2, .ref o3, .int (nI cols), .int key])) → G2 sa = some ((2, 4, 0), .inl (κ.2.1 3, zQ 25 (fun i => some (rw_ i)))) → zRW κ G2 rw_ S2 → G2 o1 = some ((2, 6, 0), .inl (κ.2.1 0, 48, .inl f0)) → G2 o2 = some ((2, 7, 0), .inl (κ.2.1 0, 48, .inl f1)) → G2 o3 = some ((2, 8, 0), .inl (κ.2.1 0, 48, .inl f2)) → G2 t = some ((2, 16, j1), .inr (7, [.ref a1, .ref b1, .int (nI n)])) → G2 a1 = some ((2, 17, j1), .inl (κ.2.1 0, 24, .inl tp)) → G2 b1 = some ((2, 18, j1), .inl (κ.2.1 0, 24, .inl tb)) → G2 u = some ((2, 16, j2), .inr (7, [.ref a2, .ref b2, .int (nI n2)])) → G2 a2 = some ((2, 17, j2), .inl (κ.2.1 0, 24, .inl up)) → G2 b2 = some ((2, 18, j2), .inl (κ.2.1 0, 24, .inl ub)) → G2 x = some ((2, 1, 0), .inr (5, [.ref qp])) → G2 qp = some ((2, 2, 0), .inl (κ.2.1 0, 5, .inl pr)) → (∀ i2 j2, i2 ≤ i → j2 ≤ n2 → S2 i2 j2 = dp pr tp tb up ub k0 i2 j2) → zFP isSum G G2 → Z p l e rX0_leastSum s m args below meth cC yX0_leastSum cX0_leastSum 18 (some FieldType.int) κ Qx 0 0 G2 [some (.ref a), some (.ref t), some (.ref u), some (.int k0), some (.int bd), some (.int (pr 3)), some (.int (nI (i + 1))), q7, q8, q9, q10, q11, q12, q13, q14, q15, q16, q17] 19 [] := by
    intro d
    induction d with
    | zero =>
      intro i G2 S2 q7 q8 q9 q10 q11 q12 q13 q14 q15 q16 q17 hi hG hs hR h6 h7 h8 h1 h2 h3 u1 u2 u3 hP1 hP2 hD hF
      refine z_il6 (pc := 19) dX0_leastSum_19 ?_
      refine z_al1 (pc := 21) dX0_leastSum_21 ?_
      refine z_getN (pc := 22) 2 h1 rfl iw_X6 (by decide) kn_183 rfl dX0_leastSum_22 ?_
      refine z_icmp_gt (pc := 25) 297 dX0_leastSum_25 rfl (fun c25 => ?_) (fun c25 => absurd (by rw [nI_ltI (by omega) (by omega)]; omega) c25)
      refine z_al0 (pc := 297) dX0_leastSum_297 ?_
      refine z_get (pc := 298) 1 hG rfl iw_X0 (by decide) kw_51 rfl dX0_leastSum_298 ?_
      refine z_al1 (pc := 301) dX0_leastSum_301 ?_
      refine z_getN (pc := 302) 2 h1 rfl iw_X6 (by decide) kn_183 rfl dX0_leastSum_302 ?_
      refine z_aaldI (pc := 305) (n) hs rfl (by omega) (by omega) dX0_leastSum_305 ?_
      refine z_al2 (pc := 306) dX0_leastSum_306 ?_
      refine z_getN (pc := 307) 2 u1 rfl iw_X6 (by decide) kn_183 rfl dX0_leastSum_307 ?_
      refine z_iald (pc := 310) _ (hR (n) (by omega)) rfl (by omega) (by omega) dX0_leastSum_310 ?_
      rw [← hQx]
      refine z_iret (pc := 311) rfl (by decide) dX0_leastSum_311 (⟨_, rfl, S2, ⟨sa, o1, o2, o3, rw_, hG, hs, hR, h6, h7, h8, hcols⟩, hF, Or.inl ⟨hD n n2 (by omega) (by omega), fun i2 j2 g1 g2 => hD i2 j2 (by omega) g2⟩⟩)
    | succ d ih =>
      intro i G2 S2 q7 q8 q9 q10 q11 q12 q13 q14 q15 q16 q17 hi hG hs hR h6 h7 h8 h1 h2 h3 u1 u2 u3 hP1 hP2 hD hF
      have inn : ∀ (d2 j : Nat) (G2 : zH) (S2 : Nat → Nat → Int32) (least : Int32) (q14 q15 q16 q17 : Option Value), j + d2 = n2 → G2 a = some ((2, 3, 0), .inr (1, [.ref x, .ref sa, .ref o1, .ref o2, .ref o3, .int (nI cols), .int key])) → G2 sa = some ((2, 4, 0), .inl (κ.2.1 3, zQ 25 (fun i => some (rw_ i)))) → zRW κ G2 rw_ S2 → G2 o1 = some ((2, 6, 0), .inl (κ.2.1 0, 48, .inl f0)) → G2 o2 = some ((2, 7, 0), .inl (κ.2.1 0, 48, .inl f1)) → G2 o3 = some ((2, 8, 0), .inl (κ.2.1 0, 48, .inl f2)) → G2 t = some ((2, 16, j1), .inr (7, [.ref a1, .ref b1, .int (nI n)])) → G2 a1 = some ((2, 17, j1), .inl (κ.2.1 0, 24, .inl tp)) → G2 b1 = some ((2, 18, j1), .inl (κ.2.1 0, 24, .inl tb)) → G2 u = some ((2, 16, j2), .inr (7, [.ref a2, .ref b2, .int (nI n2)])) → G2 a2 = some ((2, 17, j2), .inl (κ.2.1 0, 24, .inl up)) → G2 b2 = some ((2, 18, j2), .inl (κ.2.1 0, 24, .inl ub)) → G2 x = some ((2, 1, 0), .inr (5, [.ref qp])) → G2 qp = some ((2, 2, 0), .inl (κ.2.1 0, 5, .inl pr)) → (∀ i2 j2, i2 ≤ i → j2 ≤ n2 → S2 i2 j2 = dp pr tp tb up ub k0 i2 j2) → (∀ j2, j2 ≤ j → S2 (i + 1) j2 = dp pr tp tb up ub k0 (i + 1) j2) → (∀ j2, j2 ≤ j → least ≤ dp pr tp tb up ub k0 (i + 1) j2) → zFP isSum G G2 → Z p l e rX0_leastSum s m args below meth cC yX0_leastSum cX0_leastSum 18 (some FieldType.int) κ Qx 0 0 G2 [some (.ref a), some (.ref t), some (.ref u), some (.int k0), some (.int bd), some (.int (pr 3)), some (.int (nI (i + 1))), some (.ref (rw_ i)), some (.ref (rw_ (i + 1))), some (.int (tp i)), some (.int (tb i)), some (.int (co1 pr (tp i))), some (.int least), some (.int (nI (j + 1))), q14, q15, q16, q17] 111 [] := by
        intro d2
        induction d2 with
        | zero =>
          intro j G2 S2 least q14 q15 q16 q17 hj hG hs hR h6 h7 h8 h1 h2 h3 u1 u2 u3 hP1 hP2 hD hE hL hF
          refine z_il13 (pc := 111) dX0_leastSum_111 ?_
          refine z_al2 (pc := 113) dX0_leastSum_113 ?_
          refine z_getN (pc := 114) 2 u1 rfl iw_X6 (by decide) kn_183 rfl dX0_leastSum_114 ?_
          refine z_icmp_gt (pc := 117) 281 dX0_leastSum_117 rfl (fun c117 => ?_) (fun c117 => absurd (by rw [nI_ltI (by omega) (by omega)]; omega) c117)
          refine z_il12 (pc := 281) dX0_leastSum_281 ?_
          refine z_il4 (pc := 283) dX0_leastSum_283 ?_
          refine z_icmp_lt (pc := 285) 291 dX0_leastSum_285 rfl (fun c285 => ?_) (fun c285 => ?_)
          · refine z_ii6 (pc := 291) (nI ((i + 1) + 1)) dX0_leastSum_291 (nI_1 _) (by decide) ?_
            refine z_goto (pc := 294) 19 dX0_leastSum_294 rfl ?_
            refine z_L rfl ?_
            exact ih (i + 1) G2 S2 _ _ _ _ _ _ _ _ _ _ _ (by omega) hG hs hR h6 h7 h8 h1 h2 h3 u1 u2 u3 hP1 hP2 (fun i2 j2 g1 g2 => by
              by_cases hi2 : i2 = i + 1
              · subst hi2; exact hE j2 (by omega)
              · exact hD i2 j2 (by omega) g2) hF
          · refine z_il4 (pc := 288) dX0_leastSum_288 ?_
            rw [← hQx]
            refine z_iret (pc := 290) rfl (by decide) dX0_leastSum_290 (⟨_, rfl, S2, ⟨sa, o1, o2, o3, rw_, hG, hs, hR, h6, h7, h8, hcols⟩, hF, Or.inr ⟨rfl, i + 1, by omega, fun j2 g => Int32.le_trans (Int32.not_lt.mp c285) (hL j2 (by omega))⟩⟩)
        | succ d2 ih2 =>
          intro j G2 S2 least q14 q15 q16 q17 hj hG hs hR h6 h7 h8 h1 h2 h3 u1 u2 u3 hP1 hP2 hD hE hL hF
          have tl : ∀ (T O A : Int32) (q16 : Option Value), imin (imin T A) O = dp pr tp tb up ub k0 (i + 1) (j + 1) → Z p l e rX0_leastSum s m args below meth cC yX0_leastSum cX0_leastSum 18 (some FieldType.int) κ Qx 0 0 G2 [some (.ref a), some (.ref t), some (.ref u), some (.int k0), some (.int bd), some (.int (pr 3)), some (.int (nI (i + 1))), some (.ref (rw_ i)), some (.ref (rw_ (i + 1))), some (.int (tp i)), some (.int (tb i)), some (.int (co1 pr (tp i))), some (.int least), some (.int (nI (j + 1))), some (.int T), some (.int O), q16, some (.int A)] 220 [] := by
            intro T O A q16 hTOA
            refine z_il15 (pc := 220) dX0_leastSum_220 ?_
            refine z_il17 (pc := 222) dX0_leastSum_222 ?_
            refine z_icmp_ge (pc := 224) 232 dX0_leastSum_224 rfl (fun c224 => ?_) (fun c224 => ?_)
            · refine z_il17 (pc := 232) dX0_leastSum_232 ?_
              refine z_is17 (pc := 234) dX0_leastSum_234 (by decide) ?_
              refine z_il14 (pc := 236) dX0_leastSum_236 ?_
              refine z_il17 (pc := 238) dX0_leastSum_238 ?_
              refine z_icmp_ge (pc := 240) 248 dX0_leastSum_240 rfl (fun c240 => ?_) (fun c240 => ?_)
              · refine z_il17 (pc := 248) dX0_leastSum_248 ?_
                refine z_is17 (pc := 250) dX0_leastSum_250 (by decide) ?_
                refine z_al8 (pc := 252) dX0_leastSum_252 ?_
                refine z_il13 (pc := 254) dX0_leastSum_254 ?_
                refine z_il17 (pc := 256) dX0_leastSum_256 ?_
                skip
                refine z_iastg (pc := 258) (j + 1) (hR (i + 1) (by omega)) rfl (by omega) (by omega) dX0_leastSum_258 (fun G4 h4x hF4 => ?_)
                replace hR := hR.up h4x hF4
                clear h4x
                replace hG := hF4.1 _ _ _ (fun h => by cases h) hG
                replace hs := hF4.1 _ _ _ (fun h => by cases h) hs
                replace h6 := hF4.1 _ _ _ (fun h => by cases h) h6
                replace h7 := hF4.1 _ _ _ (fun h => by cases h) h7
                replace h8 := hF4.1 _ _ _ (fun h => by cases h) h8
                replace h1 := hF4.1 _ _ _ (fun h => by cases h) h1
                replace h2 := hF4.1 _ _ _ (fun h => by cases h) h2
                replace h3 := hF4.1 _ _ _ (fun h => by cases h) h3
                replace u1 := hF4.1 _ _ _ (fun h => by cases h) u1
                replace u2 := hF4.1 _ _ _ (fun h => by cases h) u2
                replace u3 := hF4.1 _ _ _ (fun h => by cases h) u3
                replace hP1 := hF4.1 _ _ _ (fun h => by cases h) hP1
                replace hP2 := hF4.1 _ _ _ (fun h => by cases h) hP2
                refine z_il17 (pc := 259) dX0_leastSum_259 ?_
                refine z_il12 (pc := 261) dX0_leastSum_261 ?_
                refine z_icmp_ge (pc := 263) 271 dX0_leastSum_263 rfl (fun c263 => ?_) (fun c263 => ?_)
                · refine z_il12 (pc := 271) dX0_leastSum_271 ?_
                  refine z_is12 (pc := 273) dX0_leastSum_273 (by decide) ?_
                  refine z_ii13 (pc := 275) (nI ((j + 1) + 1)) dX0_leastSum_275 (nI_1 _) (by decide) ?_
                  refine z_goto (pc := 278) 111 dX0_leastSum_278 rfl ?_
                  have hv : A = dp pr tp tb up ub k0 (i + 1) (j + 1) := by
                    rw [← hTOA]
                    exact cell3 (by simp) (by simp only [i_lt, i_le] at *; omega) (by simp only [i_lt, i_le] at *; omega) (by simp only [i_lt, i_le] at *; omega)
                  refine z_L (L' := [some (.ref a), some (.ref t), some (.ref u), some (.int k0), some (.int bd), some (.int (pr 3)), some (.int (nI (i + 1))), some (.ref (rw_ i)), some (.ref (rw_ (i + 1))), some (.int (tp i)), some (.int (tb i)), some (.int (co1 pr (tp i))), some (.int least), some (.int (nI (j + 1 + 1))), some (.int T), some (.int O), q16, some (.int A)]) rfl ?_
                  exact ih2 (j + 1) G4 _ _ _ _ _ _ (by omega) hG hs hR h6 h7 h8 h1 h2 h3 u1 u2 u3 hP1 hP2 (fun i2 j2 g1 g2 => by rw [sset_n (Or.inl (by omega))]; exact hD i2 j2 g1 g2) (fun j2 g => by
                    by_cases hj2 : j2 = j + 1
                    · subst hj2; rw [sset_s]; exact hv
                    · rw [sset_n (Or.inr hj2)]; exact hE j2 (by omega)) (fun j2 g => by
                    by_cases hj2 : j2 = j + 1
                    · subst hj2; rw [← hv]; simp only [i_lt, i_le] at *; omega
                    · have := hL j2 (by omega); simp only [i_lt, i_le] at *; omega) (hF.trans (hF4.mono (fun r h => by rw [h]; exact ⟨rfl, rfl⟩)))
                · refine z_il17 (pc := 266) dX0_leastSum_266 ?_
                  refine z_goto (pc := 268) 273 dX0_leastSum_268 rfl ?_
                  refine z_is12 (pc := 273) dX0_leastSum_273 (by decide) ?_
                  refine z_ii13 (pc := 275) (nI ((j + 1) + 1)) dX0_leastSum_275 (nI_1 _) (by decide) ?_
                  refine z_goto (pc := 278) 111 dX0_leastSum_278 rfl ?_
                  have hv : A = dp pr tp tb up ub k0 (i + 1) (j + 1) := by
                    rw [← hTOA]
                    exact cell3 (by simp) (by simp only [i_lt, i_le] at *; omega) (by simp only [i_lt, i_le] at *; omega) (by simp only [i_lt, i_le] at *; omega)
                  refine z_L (L' := [some (.ref a), some (.ref t), some (.ref u), some (.int k0), some (.int bd), some (.int (pr 3)), some (.int (nI (i + 1))), some (.ref (rw_ i)), some (.ref (rw_ (i + 1))), some (.int (tp i)), some (.int (tb i)), some (.int (co1 pr (tp i))), some (.int A), some (.int (nI (j + 1 + 1))), some (.int T), some (.int O), q16, some (.int A)]) rfl ?_
                  exact ih2 (j + 1) G4 _ _ _ _ _ _ (by omega) hG hs hR h6 h7 h8 h1 h2 h3 u1 u2 u3 hP1 hP2 (fun i2 j2 g1 g2 => by rw [sset_n (Or.inl (by omega))]; exact hD i2 j2 g1 g2) (fun j2 g => by
                    by_cases hj2 : j2 = j + 1
                    · subst hj2; rw [sset_s]; exact hv
                    · rw [sset_n (Or.inr hj2)]; exact hE j2 (by omega)) (fun j2 g => by
                    by_cases hj2 : j2 = j + 1
                    · subst hj2; rw [← hv]; simp only [i_lt, i_le] at *; omega
                    · have := hL j2 (by omega); simp only [i_lt, i_le] at *; omega) (hF.trans (hF4.mono (fun r h => by rw [h]; exact ⟨rfl, rfl⟩)))
              · refine z_il14 (pc := 243) dX0_leastSum_243 ?_
                refine z_goto (pc := 245) 250 dX0_leastSum_245 rfl ?_
                refine z_is17 (pc := 250) dX0_leastSum_250 (by decide) ?_
                refine z_al8 (pc := 252) dX0_leastSum_252 ?_
                refine z_il13 (pc := 254) dX0_leastSum_254 ?_
                refine z_il17 (pc := 256) dX0_leastSum_256 ?_
                skip
                refine z_iastg (pc := 258) (j + 1) (hR (i + 1) (by omega)) rfl (by omega) (by omega) dX0_leastSum_258 (fun G4 h4x hF4 => ?_)
                replace hR := hR.up h4x hF4
                clear h4x
                replace hG := hF4.1 _ _ _ (fun h => by cases h) hG
                replace hs := hF4.1 _ _ _ (fun h => by cases h) hs
                replace h6 := hF4.1 _ _ _ (fun h => by cases h) h6
                replace h7 := hF4.1 _ _ _ (fun h => by cases h) h7
                replace h8 := hF4.1 _ _ _ (fun h => by cases h) h8
                replace h1 := hF4.1 _ _ _ (fun h => by cases h) h1
                replace h2 := hF4.1 _ _ _ (fun h => by cases h) h2
                replace h3 := hF4.1 _ _ _ (fun h => by cases h) h3
                replace u1 := hF4.1 _ _ _ (fun h => by cases h) u1
                replace u2 := hF4.1 _ _ _ (fun h => by cases h) u2
                replace u3 := hF4.1 _ _ _ (fun h => by cases h) u3
                replace hP1 := hF4.1 _ _ _ (fun h => by cases h) hP1
                replace hP2 := hF4.1 _ _ _ (fun h => by cases h) hP2
                refine z_il17 (pc := 259) dX0_leastSum_259 ?_
                refine z_il12 (pc := 261) dX0_leastSum_261 ?_
                refine z_icmp_ge (pc := 263) 271 dX0_leastSum_263 rfl (fun c263 => ?_) (fun c263 => ?_)
                · refine z_il12 (pc := 271) dX0_leastSum_271 ?_
                  refine z_is12 (pc := 273) dX0_leastSum_273 (by decide) ?_
                  refine z_ii13 (pc := 275) (nI ((j + 1) + 1)) dX0_leastSum_275 (nI_1 _) (by decide) ?_
                  refine z_goto (pc := 278) 111 dX0_leastSum_278 rfl ?_
                  have hv : T = dp pr tp tb up ub k0 (i + 1) (j + 1) := by
                    rw [← hTOA]
                    exact cell3 (by simp) (by simp only [i_lt, i_le] at *; omega) (by simp only [i_lt, i_le] at *; omega) (by simp only [i_lt, i_le] at *; omega)
                  refine z_L (L' := [some (.ref a), some (.ref t), some (.ref u), some (.int k0), some (.int bd), some (.int (pr 3)), some (.int (nI (i + 1))), some (.ref (rw_ i)), some (.ref (rw_ (i + 1))), some (.int (tp i)), some (.int (tb i)), some (.int (co1 pr (tp i))), some (.int least), some (.int (nI (j + 1 + 1))), some (.int T), some (.int O), q16, some (.int T)]) rfl ?_
                  exact ih2 (j + 1) G4 _ _ _ _ _ _ (by omega) hG hs hR h6 h7 h8 h1 h2 h3 u1 u2 u3 hP1 hP2 (fun i2 j2 g1 g2 => by rw [sset_n (Or.inl (by omega))]; exact hD i2 j2 g1 g2) (fun j2 g => by
                    by_cases hj2 : j2 = j + 1
                    · subst hj2; rw [sset_s]; exact hv
                    · rw [sset_n (Or.inr hj2)]; exact hE j2 (by omega)) (fun j2 g => by
                    by_cases hj2 : j2 = j + 1
                    · subst hj2; rw [← hv]; simp only [i_lt, i_le] at *; omega
                    · have := hL j2 (by omega); simp only [i_lt, i_le] at *; omega) (hF.trans (hF4.mono (fun r h => by rw [h]; exact ⟨rfl, rfl⟩)))
                · refine z_il17 (pc := 266) dX0_leastSum_266 ?_
                  refine z_goto (pc := 268) 273 dX0_leastSum_268 rfl ?_
                  refine z_is12 (pc := 273) dX0_leastSum_273 (by decide) ?_
                  refine z_ii13 (pc := 275) (nI ((j + 1) + 1)) dX0_leastSum_275 (nI_1 _) (by decide) ?_
                  refine z_goto (pc := 278) 111 dX0_leastSum_278 rfl ?_
                  have hv : T = dp pr tp tb up ub k0 (i + 1) (j + 1) := by
                    rw [← hTOA]
                    exact cell3 (by simp) (by simp only [i_lt, i_le] at *; omega) (by simp only [i_lt, i_le] at *; omega) (by simp only [i_lt, i_le] at *; omega)
                  refine z_L (L' := [some (.ref a), some (.ref t), some (.ref u), some (.int k0), some (.int bd), some (.int (pr 3)), some (.int (nI (i + 1))), some (.ref (rw_ i)), some (.ref (rw_ (i + 1))), some (.int (tp i)), some (.int (tb i)), some (.int (co1 pr (tp i))), some (.int T), some (.int (nI (j + 1 + 1))), some (.int T), some (.int O), q16, some (.int T)]) rfl ?_
                  exact ih2 (j + 1) G4 _ _ _ _ _ _ (by omega) hG hs hR h6 h7 h8 h1 h2 h3 u1 u2 u3 hP1 hP2 (fun i2 j2 g1 g2 => by rw [sset_n (Or.inl (by omega))]; exact hD i2 j2 g1 g2) (fun j2 g => by
                    by_cases hj2 : j2 = j + 1
                    · subst hj2; rw [sset_s]; exact hv
                    · rw [sset_n (Or.inr hj2)]; exact hE j2 (by omega)) (fun j2 g => by
                    by_cases hj2 : j2 = j + 1
                    · subst hj2; rw [← hv]; simp only [i_lt, i_le] at *; omega
                    · have := hL j2 (by omega); simp only [i_lt, i_le] at *; omega) (hF.trans (hF4.mono (fun r h => by rw [h]; exact ⟨rfl, rfl⟩)))
            · refine z_il15 (pc := 227) dX0_leastSum_227 ?_
              refine z_goto (pc := 229) 234 dX0_leastSum_229 rfl ?_
              refine z_is17 (pc := 234) dX0_leastSum_234 (by decide) ?_
              refine z_il14 (pc := 236) dX0_leastSum_236 ?_
              refine z_il17 (pc := 238) dX0_leastSum_238 ?_
              refine z_icmp_ge (pc := 240) 248 dX0_leastSum_240 rfl (fun c240 => ?_) (fun c240 => ?_)
              · refine z_il17 (pc := 248) dX0_leastSum_248 ?_
                refine z_is17 (pc := 250) dX0_leastSum_250 (by decide) ?_
                refine z_al8 (pc := 252) dX0_leastSum_252 ?_
                refine z_il13 (pc := 254) dX0_leastSum_254 ?_
                refine z_il17 (pc := 256) dX0_leastSum_256 ?_
                skip
                refine z_iastg (pc := 258) (j + 1) (hR (i + 1) (by omega)) rfl (by omega) (by omega) dX0_leastSum_258 (fun G4 h4x hF4 => ?_)
                replace hR := hR.up h4x hF4
                clear h4x
                replace hG := hF4.1 _ _ _ (fun h => by cases h) hG
                replace hs := hF4.1 _ _ _ (fun h => by cases h) hs
                replace h6 := hF4.1 _ _ _ (fun h => by cases h) h6
                replace h7 := hF4.1 _ _ _ (fun h => by cases h) h7
                replace h8 := hF4.1 _ _ _ (fun h => by cases h) h8
                replace h1 := hF4.1 _ _ _ (fun h => by cases h) h1
                replace h2 := hF4.1 _ _ _ (fun h => by cases h) h2
                replace h3 := hF4.1 _ _ _ (fun h => by cases h) h3
                replace u1 := hF4.1 _ _ _ (fun h => by cases h) u1
                replace u2 := hF4.1 _ _ _ (fun h => by cases h) u2
                replace u3 := hF4.1 _ _ _ (fun h => by cases h) u3
                replace hP1 := hF4.1 _ _ _ (fun h => by cases h) hP1
                replace hP2 := hF4.1 _ _ _ (fun h => by cases h) hP2
                refine z_il17 (pc := 259) dX0_leastSum_259 ?_
                refine z_il12 (pc := 261) dX0_leastSum_261 ?_
                refine z_icmp_ge (pc := 263) 271 dX0_leastSum_263 rfl (fun c263 => ?_) (fun c263 => ?_)
                · refine z_il12 (pc := 271) dX0_leastSum_271 ?_
                  refine z_is12 (pc := 273) dX0_leastSum_273 (by decide) ?_
                  refine z_ii13 (pc := 275) (nI ((j + 1) + 1)) dX0_leastSum_275 (nI_1 _) (by decide) ?_
                  refine z_goto (pc := 278) 111 dX0_leastSum_278 rfl ?_
                  have hv : O = dp pr tp tb up ub k0 (i + 1) (j + 1) := by
                    rw [← hTOA]
                    exact cell3 (by simp) (by simp only [i_lt, i_le] at *; omega) (by simp only [i_lt, i_le] at *; omega) (by simp only [i_lt, i_le] at *; omega)
                  refine z_L (L' := [some (.ref a), some (.ref t), some (.ref u), some (.int k0), some (.int bd), some (.int (pr 3)), some (.int (nI (i + 1))), some (.ref (rw_ i)), some (.ref (rw_ (i + 1))), some (.int (tp i)), some (.int (tb i)), some (.int (co1 pr (tp i))), some (.int least), some (.int (nI (j + 1 + 1))), some (.int T), some (.int O), q16, some (.int O)]) rfl ?_
                  exact ih2 (j + 1) G4 _ _ _ _ _ _ (by omega) hG hs hR h6 h7 h8 h1 h2 h3 u1 u2 u3 hP1 hP2 (fun i2 j2 g1 g2 => by rw [sset_n (Or.inl (by omega))]; exact hD i2 j2 g1 g2) (fun j2 g => by
                    by_cases hj2 : j2 = j + 1
                    · subst hj2; rw [sset_s]; exact hv
                    · rw [sset_n (Or.inr hj2)]; exact hE j2 (by omega)) (fun j2 g => by
                    by_cases hj2 : j2 = j + 1
                    · subst hj2; rw [← hv]; simp only [i_lt, i_le] at *; omega
                    · have := hL j2 (by omega); simp only [i_lt, i_le] at *; omega) (hF.trans (hF4.mono (fun r h => by rw [h]; exact ⟨rfl, rfl⟩)))
                · refine z_il17 (pc := 266) dX0_leastSum_266 ?_
                  refine z_goto (pc := 268) 273 dX0_leastSum_268 rfl ?_
                  refine z_is12 (pc := 273) dX0_leastSum_273 (by decide) ?_
                  refine z_ii13 (pc := 275) (nI ((j + 1) + 1)) dX0_leastSum_275 (nI_1 _) (by decide) ?_
                  refine z_goto (pc := 278) 111 dX0_leastSum_278 rfl ?_
                  have hv : O = dp pr tp tb up ub k0 (i + 1) (j + 1) := by
                    rw [← hTOA]
                    exact cell3 (by simp) (by simp only [i_lt, i_le] at *; omega) (by simp only [i_lt, i_le] at *; omega) (by simp only [i_lt, i_le] at *; omega)
                  refine z_L (L' := [some (.ref a), some (.ref t), some (.ref u), some (.int k0), some (.int bd), some (.int (pr 3)), some (.int (nI (i + 1))), some (.ref (rw_ i)), some (.ref (rw_ (i + 1))), some (.int (tp i)), some (.int (tb i)), some (.int (co1 pr (tp i))), some (.int O), some (.int (nI (j + 1 + 1))), some (.int T), some (.int O), q16, some (.int O)]) rfl ?_
                  exact ih2 (j + 1) G4 _ _ _ _ _ _ (by omega) hG hs hR h6 h7 h8 h1 h2 h3 u1 u2 u3 hP1 hP2 (fun i2 j2 g1 g2 => by rw [sset_n (Or.inl (by omega))]; exact hD i2 j2 g1 g2) (fun j2 g => by
                    by_cases hj2 : j2 = j + 1
                    · subst hj2; rw [sset_s]; exact hv
                    · rw [sset_n (Or.inr hj2)]; exact hE j2 (by omega)) (fun j2 g => by
                    by_cases hj2 : j2 = j + 1
                    · subst hj2; rw [← hv]; simp only [i_lt, i_le] at *; omega
                    · have := hL j2 (by omega); simp only [i_lt, i_le] at *; omega) (hF.trans (hF4.mono (fun r h => by rw [h]; exact ⟨rfl, rfl⟩)))
              · refine z_il14 (pc := 243) dX0_leastSum_243 ?_
                refine z_goto (pc := 245) 250 dX0_leastSum_245 rfl ?_
                refine z_is17 (pc := 250) dX0_leastSum_250 (by decide) ?_
                refine z_al8 (pc := 252) dX0_leastSum_252 ?_
                refine z_il13 (pc := 254) dX0_leastSum_254 ?_
                refine z_il17 (pc := 256) dX0_leastSum_256 ?_
                skip
                refine z_iastg (pc := 258) (j + 1) (hR (i + 1) (by omega)) rfl (by omega) (by omega) dX0_leastSum_258 (fun G4 h4x hF4 => ?_)
                replace hR := hR.up h4x hF4
                clear h4x
                replace hG := hF4.1 _ _ _ (fun h => by cases h) hG
                replace hs := hF4.1 _ _ _ (fun h => by cases h) hs
                replace h6 := hF4.1 _ _ _ (fun h => by cases h) h6
                replace h7 := hF4.1 _ _ _ (fun h => by cases h) h7
                replace h8 := hF4.1 _ _ _ (fun h => by cases h) h8
                replace h1 := hF4.1 _ _ _ (fun h => by cases h) h1
                replace h2 := hF4.1 _ _ _ (fun h => by cases h) h2
                replace h3 := hF4.1 _ _ _ (fun h => by cases h) h3
                replace u1 := hF4.1 _ _ _ (fun h => by cases h) u1
                replace u2 := hF4.1 _ _ _ (fun h => by cases h) u2
                replace u3 := hF4.1 _ _ _ (fun h => by cases h) u3
                replace hP1 := hF4.1 _ _ _ (fun h => by cases h) hP1
                replace hP2 := hF4.1 _ _ _ (fun h => by cases h) hP2
                refine z_il17 (pc := 259) dX0_leastSum_259 ?_
                refine z_il12 (pc := 261) dX0_leastSum_261 ?_
                refine z_icmp_ge (pc := 263) 271 dX0_leastSum_263 rfl (fun c263 => ?_) (fun c263 => ?_)
                · refine z_il12 (pc := 271) dX0_leastSum_271 ?_
                  refine z_is12 (pc := 273) dX0_leastSum_273 (by decide) ?_
                  refine z_ii13 (pc := 275) (nI ((j + 1) + 1)) dX0_leastSum_275 (nI_1 _) (by decide) ?_
                  refine z_goto (pc := 278) 111 dX0_leastSum_278 rfl ?_
                  have hv : T = dp pr tp tb up ub k0 (i + 1) (j + 1) := by
                    rw [← hTOA]
                    exact cell3 (by simp) (by simp only [i_lt, i_le] at *; omega) (by simp only [i_lt, i_le] at *; omega) (by simp only [i_lt, i_le] at *; omega)
                  refine z_L (L' := [some (.ref a), some (.ref t), some (.ref u), some (.int k0), some (.int bd), some (.int (pr 3)), some (.int (nI (i + 1))), some (.ref (rw_ i)), some (.ref (rw_ (i + 1))), some (.int (tp i)), some (.int (tb i)), some (.int (co1 pr (tp i))), some (.int least), some (.int (nI (j + 1 + 1))), some (.int T), some (.int O), q16, some (.int T)]) rfl ?_
                  exact ih2 (j + 1) G4 _ _ _ _ _ _ (by omega) hG hs hR h6 h7 h8 h1 h2 h3 u1 u2 u3 hP1 hP2 (fun i2 j2 g1 g2 => by rw [sset_n (Or.inl (by omega))]; exact hD i2 j2 g1 g2) (fun j2 g => by
                    by_cases hj2 : j2 = j + 1
                    · subst hj2; rw [sset_s]; exact hv
                    · rw [sset_n (Or.inr hj2)]; exact hE j2 (by omega)) (fun j2 g => by
                    by_cases hj2 : j2 = j + 1
                    · subst hj2; rw [← hv]; simp only [i_lt, i_le] at *; omega
                    · have := hL j2 (by omega); simp only [i_lt, i_le] at *; omega) (hF.trans (hF4.mono (fun r h => by rw [h]; exact ⟨rfl, rfl⟩)))
                · refine z_il17 (pc := 266) dX0_leastSum_266 ?_
                  refine z_goto (pc := 268) 273 dX0_leastSum_268 rfl ?_
                  refine z_is12 (pc := 273) dX0_leastSum_273 (by decide) ?_
                  refine z_ii13 (pc := 275) (nI ((j + 1) + 1)) dX0_leastSum_275 (nI_1 _) (by decide) ?_
                  refine z_goto (pc := 278) 111 dX0_leastSum_278 rfl ?_
                  have hv : T = dp pr tp tb up ub k0 (i + 1) (j + 1) := by
                    rw [← hTOA]
                    exact cell3 (by simp) (by simp only [i_lt, i_le] at *; omega) (by simp only [i_lt, i_le] at *; omega) (by simp only [i_lt, i_le] at *; omega)
                  refine z_L (L' := [some (.ref a), some (.ref t), some (.ref u), some (.int k0), some (.int bd), some (.int (pr 3)), some (.int (nI (i + 1))), some (.ref (rw_ i)), some (.ref (rw_ (i + 1))), some (.int (tp i)), some (.int (tb i)), some (.int (co1 pr (tp i))), some (.int T), some (.int (nI (j + 1 + 1))), some (.int T), some (.int O), q16, some (.int T)]) rfl ?_
                  exact ih2 (j + 1) G4 _ _ _ _ _ _ (by omega) hG hs hR h6 h7 h8 h1 h2 h3 u1 u2 u3 hP1 hP2 (fun i2 j2 g1 g2 => by rw [sset_n (Or.inl (by omega))]; exact hD i2 j2 g1 g2) (fun j2 g => by
                    by_cases hj2 : j2 = j + 1
                    · subst hj2; rw [sset_s]; exact hv
                    · rw [sset_n (Or.inr hj2)]; exact hE j2 (by omega)) (fun j2 g => by
                    by_cases hj2 : j2 = j + 1
                    · subst hj2; rw [← hv]; simp only [i_lt, i_le] at *; omega
                    · have := hL j2 (by omega); simp only [i_lt, i_le] at *; omega) (hF.trans (hF4.mono (fun r h => by rw [h]; exact ⟨rfl, rfl⟩)))
          refine z_il13 (pc := 111) dX0_leastSum_111 ?_
          refine z_al2 (pc := 113) dX0_leastSum_113 ?_
          refine z_getN (pc := 114) 2 u1 rfl iw_X6 (by decide) kn_183 rfl dX0_leastSum_114 ?_
          refine z_icmp_gt (pc := 117) 281 dX0_leastSum_117 rfl (fun c117 => absurd c117 (by rw [nI_ltI (by omega) (by omega)]; omega)) (fun c117 => ?_)
          refine z_il13 (pc := 120) dX0_leastSum_120 ?_
          refine z_bipush (pc := 122) (24) (by decide) dX0_leastSum_122 ?_
          refine z_icmp_gt (pc := 124) 281 dX0_leastSum_124 rfl (fun c124 => absurd c124 (show ¬ nI 24 < nI (j + 1) from by rw [nI_ltI (by omega) (by omega)]; omega)) (fun c124 => ?_)
          refine z_al7 (pc := 127) dX0_leastSum_127 ?_
          refine z_il13 (pc := 129) dX0_leastSum_129 ?_
          refine z_iconst (pc := 131) (1) (by decide) dX0_leastSum_131 ?_
          refine z_isub (pc := 132) dX0_leastSum_132 ?_
          rw [nI_pred]
          refine z_iald (pc := 133) (j) (hR i (by omega)) rfl (by omega) (by omega) dX0_leastSum_133 ?_
          refine z_is14 (pc := 134) dX0_leastSum_134 (by decide) ?_
          refine z_al8 (pc := 136) dX0_leastSum_136 ?_
          refine z_il13 (pc := 138) dX0_leastSum_138 ?_
          refine z_iconst (pc := 140) (1) (by decide) dX0_leastSum_140 ?_
          refine z_isub (pc := 141) dX0_leastSum_141 ?_
          rw [nI_pred]
          refine z_iald (pc := 142) (j) (hR (i + 1) (by omega)) rfl (by omega) (by omega) dX0_leastSum_142 ?_
          refine z_is15 (pc := 143) dX0_leastSum_143 (by decide) ?_
          refine z_al2 (pc := 145) dX0_leastSum_145 ?_
          refine z_getN (pc := 146) 0 u1 rfl iw_X6 (by decide) kn_179 rfl dX0_leastSum_146 ?_
          refine z_il13 (pc := 149) dX0_leastSum_149 ?_
          refine z_iconst (pc := 151) (1) (by decide) dX0_leastSum_151 ?_
          refine z_isub (pc := 152) dX0_leastSum_152 ?_
          rw [nI_pred]
          refine z_iald (pc := 153) (j) u2 rfl (by omega) (by omega) dX0_leastSum_153 ?_
          refine z_is16 (pc := 154) dX0_leastSum_154 (by decide) ?_
          refine z_il16 (pc := 156) dX0_leastSum_156 ?_
          refine z_iconst (pc := 158) (-1) (by decide) dX0_leastSum_158 ?_
          refine z_icmp_eq (pc := 159) 210 dX0_leastSum_159 rfl (fun c159 => ?_) (fun c159 => ?_)
          · refine z_al7 (pc := 210) dX0_leastSum_210 ?_
            refine z_il13 (pc := 212) dX0_leastSum_212 ?_
            refine z_iald (pc := 214) _ (hR i (by omega)) rfl (by omega) (by omega) dX0_leastSum_214 ?_
            refine z_il11 (pc := 215) dX0_leastSum_215 ?_
            refine z_iadd (pc := 217) dX0_leastSum_217 ?_
            refine z_is17 (pc := 218) dX0_leastSum_218 (by decide) ?_
            refine z_L rfl ?_
            exact tl _ _ _ _ (by
              rw [hE j (by omega), hD i j (by omega) (by omega), hD i (j + 1) (by omega) (by omega)]
              show _ = dpr _ _ _ _ (j + 1)
              unfold dpr
              rw [show co1 pr (up j) = 0 from if_pos c159, show co2 pr (tp i) (tb i) (up j) (ub j) k0 = 0 from if_pos (Or.inr c159), Int32.add_zero, Int32.add_zero]
              rfl)
          · refine z_il15 (pc := 162) dX0_leastSum_162 ?_
            refine z_il5 (pc := 164) dX0_leastSum_164 ?_
            refine z_iadd (pc := 166) dX0_leastSum_166 ?_
            refine z_is15 (pc := 167) dX0_leastSum_167 (by decide) ?_
            refine z_il14 (pc := 169) dX0_leastSum_169 ?_
            refine z_il9 (pc := 171) dX0_leastSum_171 ?_
            refine z_iconst (pc := 173) (-1) (by decide) dX0_leastSum_173 ?_
            refine z_dia (pcj := 207) (P := (fun v => v = if tp i = -1 then 0 else ofN pr (tp i + k0 - up j) (tb i - ub j))) (st := [.int (S2 i j)]) (fun nt hnt => ?_) (fun hj174 => ?_)
            · skip
              subst hnt
              refine z_iadd (pc := 207) dX0_leastSum_207 ?_
              refine z_is14 (pc := 208) dX0_leastSum_208 (by decide) ?_
              refine z_al7 (pc := 210) dX0_leastSum_210 ?_
              refine z_il13 (pc := 212) dX0_leastSum_212 ?_
              refine z_iald (pc := 214) _ (hR i (by omega)) rfl (by omega) (by omega) dX0_leastSum_214 ?_
              refine z_il11 (pc := 215) dX0_leastSum_215 ?_
              refine z_iadd (pc := 217) dX0_leastSum_217 ?_
              refine z_is17 (pc := 218) dX0_leastSum_218 (by decide) ?_
              refine z_L rfl ?_
              exact tl _ _ _ _ (by
                rw [hE j (by omega), hD i j (by omega) (by omega), hD i (j + 1) (by omega) (by omega)]
                show _ = dpr _ _ _ _ (j + 1)
                unfold dpr
                rw [show co1 pr (up j) = pr 3 from if_neg c159, show co2 pr (tp i) (tb i) (up j) (ub j) k0 = (if tp i = -1 then 0 else ofN pr (tp i + k0 - up j) (tb i - ub j)) from ?_]
                · rfl
                · unfold co2
                  by_cases hq : tp i = -1
                  · rw [if_pos (Or.inl hq), if_pos hq]
                  · rw [if_neg (fun h => h.elim hq c159), if_neg hq]; rfl)
            · skip
              refine z_icmp_ne (pc := 174) 181 dX0_leastSum_174 rfl (fun c174 => ?_) (fun c174 => ?_)
              · refine z_al0 (pc := 181) dX0_leastSum_181 ?_
                refine z_get (pc := 182) 0 hG rfl iw_X0 (by decide) kw_50 rfl dX0_leastSum_182 ?_
                refine z_il9 (pc := 185) dX0_leastSum_185 ?_
                refine z_il3 (pc := 187) dX0_leastSum_187 ?_
                refine z_iadd (pc := 188) dX0_leastSum_188 ?_
                refine z_il16 (pc := 189) dX0_leastSum_189 ?_
                refine z_isub (pc := 191) dX0_leastSum_191 ?_
                refine z_il10 (pc := 192) dX0_leastSum_192 ?_
                refine z_al2 (pc := 194) dX0_leastSum_194 ?_
                refine z_getN (pc := 195) 1 u1 rfl iw_X6 (by decide) kn_181 rfl dX0_leastSum_195 ?_
                refine z_il13 (pc := 198) dX0_leastSum_198 ?_
                refine z_iconst (pc := 200) (1) (by decide) dX0_leastSum_200 ?_
                refine z_isub (pc := 201) dX0_leastSum_201 ?_
                rw [nI_pred]
                refine z_iald (pc := 202) (j) u3 rfl (by omega) (by omega) dX0_leastSum_202 ?_
                refine z_isub (pc := 203) dX0_leastSum_203 ?_
                refine z_callVr (pc := 204) (c_pNotes l _ _ ⟨qp, hP1, hP2⟩) hP1 rfl rfl kw_482 zc_X4_ofNotes (by decide) (by decide) rfl (Nat.le_of_ble_eq_true rfl) dX0_leastSum_204 ?_
                exact hj174 _ (by first | rw [if_pos c174] | rw [if_neg c174])
              · refine z_iconst (pc := 177) (0) (by decide) dX0_leastSum_177 ?_
                refine z_goto (pc := 178) 207 dX0_leastSum_178 rfl ?_
                exact hj174 _ (by first | rw [if_pos c174] | rw [if_neg c174])
      refine z_il6 (pc := 19) dX0_leastSum_19 ?_
      refine z_al1 (pc := 21) dX0_leastSum_21 ?_
      refine z_getN (pc := 22) 2 h1 rfl iw_X6 (by decide) kn_183 rfl dX0_leastSum_22 ?_
      refine z_icmp_gt (pc := 25) 297 dX0_leastSum_25 rfl (fun c25 => absurd c25 (by rw [nI_ltI (by omega) (by omega)]; omega)) (fun c25 => ?_)
      refine z_il6 (pc := 28) dX0_leastSum_28 ?_
      refine z_bipush (pc := 30) (24) (by decide) dX0_leastSum_30 ?_
      refine z_icmp_gt (pc := 32) 297 dX0_leastSum_32 rfl (fun c32 => absurd c32 (show ¬ nI 24 < nI (i + 1) from by rw [nI_ltI (by omega) (by omega)]; omega)) (fun c32 => ?_)
      refine z_al0 (pc := 35) dX0_leastSum_35 ?_
      refine z_get (pc := 36) 1 hG rfl iw_X0 (by decide) kw_51 rfl dX0_leastSum_36 ?_
      refine z_il6 (pc := 39) dX0_leastSum_39 ?_
      refine z_iconst (pc := 41) (1) (by decide) dX0_leastSum_41 ?_
      refine z_isub (pc := 42) dX0_leastSum_42 ?_
      rw [nI_pred]
      refine z_aaldI (pc := 43) (i) hs rfl (by omega) (by omega) dX0_leastSum_43 ?_
      refine z_as7 (pc := 44) dX0_leastSum_44 (by decide) ?_
      refine z_al0 (pc := 46) dX0_leastSum_46 ?_
      refine z_get (pc := 47) 1 hG rfl iw_X0 (by decide) kw_51 rfl dX0_leastSum_47 ?_
      refine z_il6 (pc := 50) dX0_leastSum_50 ?_
      refine z_aaldI (pc := 52) (i + 1) hs rfl (by omega) (by omega) dX0_leastSum_52 ?_
      refine z_as8 (pc := 53) dX0_leastSum_53 (by decide) ?_
      refine z_al1 (pc := 55) dX0_leastSum_55 ?_
      refine z_getN (pc := 56) 0 h1 rfl iw_X6 (by decide) kn_179 rfl dX0_leastSum_56 ?_
      refine z_il6 (pc := 59) dX0_leastSum_59 ?_
      refine z_iconst (pc := 61) (1) (by decide) dX0_leastSum_61 ?_
      refine z_isub (pc := 62) dX0_leastSum_62 ?_
      rw [nI_pred]
      refine z_iald (pc := 63) (i) h2 rfl (by omega) (by omega) dX0_leastSum_63 ?_
      refine z_is9 (pc := 64) dX0_leastSum_64 (by decide) ?_
      refine z_al1 (pc := 66) dX0_leastSum_66 ?_
      refine z_getN (pc := 67) 1 h1 rfl iw_X6 (by decide) kn_181 rfl dX0_leastSum_67 ?_
      refine z_il6 (pc := 70) dX0_leastSum_70 ?_
      refine z_iconst (pc := 72) (1) (by decide) dX0_leastSum_72 ?_
      refine z_isub (pc := 73) dX0_leastSum_73 ?_
      rw [nI_pred]
      refine z_iald (pc := 74) (i) h3 rfl (by omega) (by omega) dX0_leastSum_74 ?_
      refine z_is10 (pc := 75) dX0_leastSum_75 (by decide) ?_
      refine z_il9 (pc := 77) dX0_leastSum_77 ?_
      refine z_iconst (pc := 79) (-1) (by decide) dX0_leastSum_79 ?_
      refine z_dia (pcj := 89) (P := (fun v => v = co1 pr (tp i))) (st := []) (fun al hal => ?_) (fun hj80 => ?_)
      · skip
        subst hal
        refine z_is11 (pc := 89) dX0_leastSum_89 (by decide) ?_
        refine z_al8 (pc := 91) dX0_leastSum_91 ?_
        refine z_iconst (pc := 93) (0) (by decide) dX0_leastSum_93 ?_
        refine z_al7 (pc := 94) dX0_leastSum_94 ?_
        refine z_iconst (pc := 96) (0) (by decide) dX0_leastSum_96 ?_
        refine z_iald (pc := 97) 0 (hR (i) (by omega)) rfl (by omega) (by omega) dX0_leastSum_97 ?_
        refine z_il11 (pc := 98) dX0_leastSum_98 ?_
        refine z_iadd (pc := 100) dX0_leastSum_100 ?_
        skip
        refine z_iastg (pc := 101) (0) (hR (i + 1) (by omega)) rfl (by omega) (by omega) dX0_leastSum_101 (fun G4 h4x hF4 => ?_)
        replace hR := hR.up h4x hF4
        clear h4x
        replace hG := hF4.1 _ _ _ (fun h => by cases h) hG
        replace hs := hF4.1 _ _ _ (fun h => by cases h) hs
        replace h6 := hF4.1 _ _ _ (fun h => by cases h) h6
        replace h7 := hF4.1 _ _ _ (fun h => by cases h) h7
        replace h8 := hF4.1 _ _ _ (fun h => by cases h) h8
        replace h1 := hF4.1 _ _ _ (fun h => by cases h) h1
        replace h2 := hF4.1 _ _ _ (fun h => by cases h) h2
        replace h3 := hF4.1 _ _ _ (fun h => by cases h) h3
        replace u1 := hF4.1 _ _ _ (fun h => by cases h) u1
        replace u2 := hF4.1 _ _ _ (fun h => by cases h) u2
        replace u3 := hF4.1 _ _ _ (fun h => by cases h) u3
        replace hP1 := hF4.1 _ _ _ (fun h => by cases h) hP1
        replace hP2 := hF4.1 _ _ _ (fun h => by cases h) hP2
        refine z_al8 (pc := 102) dX0_leastSum_102 ?_
        refine z_iconst (pc := 104) (0) (by decide) dX0_leastSum_104 ?_
        refine z_iald (pc := 105) 0 (hR (i + 1) (by omega)) rfl (by omega) (by omega) dX0_leastSum_105 ?_
        refine z_is12 (pc := 106) dX0_leastSum_106 (by decide) ?_
        refine z_iconst (pc := 108) (1) (by decide) dX0_leastSum_108 ?_
        refine z_is13 (pc := 109) dX0_leastSum_109 (by decide) ?_
        refine z_L rfl ?_
        exact inn n2 0 G4 _ _ _ _ _ _ (by omega) hG hs hR h6 h7 h8 h1 h2 h3 u1 u2 u3 hP1 hP2 (fun i2 j2 g1 g2 => by rw [sset_n (Or.inl (by omega))]; exact hD i2 j2 g1 g2) (fun j2 g => by rw [show j2 = 0 by omega, sset_s, hD i 0 (by omega) (by omega)]; rfl) (fun j2 g => by rw [show j2 = 0 by omega, sset_s, hD i 0 (by omega) (by omega)]; exact Int32.le_refl _) (hF.trans (hF4.mono (fun r h => by rw [h]; exact ⟨rfl, rfl⟩)))
      · skip
        refine z_icmp_ne (pc := 80) 87 dX0_leastSum_80 rfl (fun c80 => ?_) (fun c80 => ?_)
        · refine z_il5 (pc := 87) dX0_leastSum_87 ?_
          exact hj80 _ (by unfold co1; first | rw [if_pos c80] | rw [if_neg c80])
        · refine z_iconst (pc := 83) (0) (by decide) dX0_leastSum_83 ?_
          refine z_goto (pc := 84) 89 dX0_leastSum_84 rfl ?_
          exact hj80 _ (by unfold co1; first | rw [if_pos c80] | rw [if_neg c80])
  refine z_iconst (pc := 16) (1) (by decide) dX0_leastSum_16 ?_
  refine z_is6 (pc := 17) dX0_leastSum_17 (by decide) ?_
  refine z_L (L' := [some (.ref a), some (.ref t), some (.ref u), some (.int k0), some (.int bd), some (.int (pr 3)), some (.int (nI (0 + 1))), none, none, none, none, none, none, none, none, none, none, none]) rfl ?_
  exact lp n 0 G2 S2 none none none none none none none none none none none  (by omega) hG hs hR h6 h7 h8 h1 h2 h3 u1 u2 u3 hP1 hP2 (fun i2 j2 g1 g2 => by rw [show i2 = 0 by omega]; exact hE2 j2 g2) hF2
