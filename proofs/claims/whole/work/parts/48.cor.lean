/-! correct, doubles: they make objects -/
theorem co_obj {G : zH} {t i : Nat} {v1 v2 v3 v4 : Int32} (h : G t = some ((2, 19, i), .inr (2, [.int v1, .int v2, .int v3, .int v4]))) : zObj G t := ⟨_, _, _, _, h, rfl, kn_1003, by simp, by simp⟩
set_option maxRecDepth 100000 in
set_option maxHeartbeats 400000 in
theorem c_hCor (l : Launch) {κ : zK} {G : zH} {B : Nat → Nat → Nat} {n c d w : Nat} {ln kl ep : Nat → Nat} {fo nt : Int32} {ar : Nat → Nat → Int32} {rb : Nat → Int32} {kp kb : Nat → Nat → Int32} {iK sm ky : Nat → Int32} (s0 i0 p0 b0 : Int32) (hR : RC κ G B n c d w ln fo nt ar rb kl ep kp kb iK sm ky) (hn : n ≤ 20) (hc2 : c ≤ 200) (hln : ∀ i, i < n → ln i ≤ 24) : Ct l yX7_correct cX7_correct 6 (some FieldType.boolean) (rmK 8 2 303 212) κ [.ref (B 0 0), .int s0, .int i0, .int p0, .int b0] G (pI (fun r G2 => (okCor n c ln s0 i0 p0 b0 ∧ r = 1 ∧ G2 (B 0 0) = some ((2, 0, 0), .inr (8, [.ref (B 1 0), .ref (B 3 0), .ref (B 9 0), .ref (B 13 0), .ref (B 13 1), .ref (B 13 2), .int (nI w), .int (fo), .int (nt), .int (nI (c + 1))])) ∧ ∃ q, G q = none ∧ G2 q = some ((2, 19, c), .inr (2, [.int (nI w), .int i0, .int p0, .int b0])) ∧ zLs κ G2 (3 + iN s0) (B 13 (3 + iN s0)) 299 (cntS ar (iN s0) c + 1) (zup (fun j => B 19 (gx ar (iN s0) c j)) (cntS ar (iN s0) c) q) ∧ zFP (fun r => r = (2, 19, c) ∨ (r = (2, 13, 3 + iN s0) ∨ r = (2, 14, 3 + iN s0)) ∨ r = (2, 0, 0)) G G2) ∨ (¬ okCor n c ln s0 i0 p0 b0 ∧ r = 0 ∧ G2 = G))) := by
  refine Ct.of (by decide +kernel) (fun v hv => by
    simp only [List.mem_cons, List.mem_nil_iff, or_false, List.not_mem_nil] at hv
    rcases hv with rfl | rfl | rfl | rfl | rfl <;> rfl) (Nat.le_of_ble_eq_true rfl) ?_
  intro p e s m args below meth cC
  refine z_L (L' := [some (.ref (B 0 0)), some (.int s0), some (.int i0), some (.int p0), some (.int b0), none]) rfl ?_
  generalize hQx : MQ below (zQc κ _) args s _ _ (zA κ) = Qx
  have hn20 := hn
  obtain ⟨hO, hP, ⟨cols, key, f0, f1, f2, S, hA⟩, hLK, hl0, hl1, ⟨k2, es2, hl2⟩, hS, hCo, hPr⟩ := id hR
  by_cases hs : okS n s0
  · skip
    have hla := iN_lt hs (show n < 2 ^ 31 by omega)
    have hsh := (hS _ hla).1
    obtain ⟨tp, tb, hd, htd⟩ := (hS _ hla).2.2.1
    have hLs := (hS _ hla).2.2.2
    have h24 := hln _ hla
    by_cases hi : 0 ≤ i0 ∧ i0 < nI (ln (iN s0))
    · by_cases hp : isNt p0 b0
      · by_cases hc : c < 200
        · refine z_al0 (pc := 0) dX7_correct_0 ?_
          refine z_il1 (pc := 1) dX7_correct_1 ?_
          refine z_callVrq (pc := 2) (c_findY l s0 hR hn hs) hO rfl rfl kw_291 zc_X7_find ⟨Nat.le_of_ble_eq_true rfl, Nat.le_of_ble_eq_true rfl, Nat.le_of_ble_eq_true rfl, Nat.le_of_ble_eq_true rfl⟩ (by decide) rfl (Nat.le_of_ble_eq_true rfl) dX7_correct_2 ?_
          refine z_as5 (pc := 5) dX7_correct_5 (by decide) ?_
          refine z_al5 (pc := 7) dX7_correct_7 ?_
          refine z_ifnullR (pc := 9) dX7_correct_9 ?_
          refine z_al5 (pc := 12) dX7_correct_12 ?_
          refine z_il2 (pc := 14) dX7_correct_14 ?_
          refine z_callVr (pc := 15) (c_sHas l (iN s0) (ln (iN s0)) i0 hsh hd) hsh rfl rfl kw_340 zc_X5_has ⟨Nat.le_of_ble_eq_true rfl, Nat.le_of_ble_eq_true rfl, Nat.le_of_ble_eq_true rfl, Nat.le_of_ble_eq_true rfl⟩ (by decide) rfl (Nat.le_of_ble_eq_true rfl) dX7_correct_15 ?_
          refine z_ifz_eq (pc := 18) 40 dX7_correct_18 rfl (fun c18 => absurd (hi) c18) (fun c18 => ?_)
          refine z_il3 (pc := 21) dX7_correct_21 ?_
          refine z_il4 (pc := 22) dX7_correct_22 ?_
          refine z_callSr (pc := 24) (c_isNote l p0 b0) kw_309 zc_X7_isNote ⟨Nat.le_of_ble_eq_true rfl, Nat.le_of_ble_eq_true rfl, Nat.le_of_ble_eq_true rfl, Nat.le_of_ble_eq_true rfl⟩ (by decide) rfl (Nat.le_of_ble_eq_true rfl) dX7_correct_24 ?_
          refine z_ifz_eq (pc := 27) 40 dX7_correct_27 rfl (fun c27 => absurd (hp) c27) (fun c27 => ?_)
          refine z_al0 (pc := 30) dX7_correct_30 ?_
          refine z_get (pc := 31) 9 hO rfl iw_X7 (by decide) kw_127 rfl dX7_correct_31 ?_
          refine z_sipush (pc := 34) (200) (by decide) dX7_correct_34 ?_
          refine z_icmp_lt (pc := 37) 42 dX7_correct_37 rfl (fun c37 => ?_) (fun c37 => absurd (show nI c < nI 200 from (nI_ltI (by omega) (by omega)).mpr hc) c37)
          refine z_al5 (pc := 42) dX7_correct_42 ?_
          refine z_newg (pc := 44) (ci := 2) (2, 19, c) [.int 0, .int 0, .int 0, .int 0] rfl iw_X1 tyX1 tyX1_ok kw_345 kw_346 kw_17 (fun j hj => by rcases j with _ | _ | _ | _ | j <;> first | rfl | omega) ⟨Nat.le_of_ble_eq_true rfl, Nat.le_of_ble_eq_true rfl⟩ dX7_correct_44 (fun q0 G1 hq0 _ hq hF1 => ?_)
          refine z_dup (pc := 47) rfl dX7_correct_47 ?_
          refine z_al0 (pc := 48) dX7_correct_48 ?_
          refine z_get (pc := 49) 6 (hF1.1 _ _ _ (fun h => h.elim) hO) rfl iw_X7 (by decide) kw_124 rfl dX7_correct_49 ?_
          refine z_il2 (pc := 52) dX7_correct_52 ?_
          refine z_il3 (pc := 53) dX7_correct_53 ?_
          refine z_il4 (pc := 54) dX7_correct_54 ?_
          refine z_callIv (pc := 56) _ (c_coInit l c (nI w) i0 p0 b0 hq) rfl kw_347 zc_X1_init ⟨Nat.le_of_ble_eq_true rfl, Nat.le_of_ble_eq_true rfl, Nat.le_of_ble_eq_true rfl, Nat.le_of_ble_eq_true rfl⟩ rfl (Nat.le_of_ble_eq_true rfl) dX7_correct_56 (fun G3 hv => ?_)
          obtain ⟨hq3, hF3⟩ := hv
          have hF13 : zFP (fun r => r = (2, 19, c)) G G3 := (hF1.mono (fun r h => h.elim)).trans hF3
          have hsh3 := hF13.1 _ _ _ (fun h => by cases h) hsh
          have hLs3 := hLs.keep hF13 (fun h => by cases h) (fun h => by cases h)
          have hO3 := hF13.1 _ _ _ (fun h => by cases h) hO
          refine z_callVv (pc := 59) _ (c_sAmend l (iN s0) (cntS ar (iN s0) c) q0 hsh3 hLs3 (fun k hk => co_obj (hF13.1 _ _ _ (fun h => by injection h with h1 h2; injection h2 with h3 h4; have := (gx_of hk).1; omega) (hCo _ (gx_of hk).1))) (co_obj hq3) (by have := cntS_le (ar := ar) (i := iN s0) c; omega)) rfl hsh3 rfl rfl kw_368 zc_X5_amend ⟨Nat.le_of_ble_eq_true rfl, Nat.le_of_ble_eq_true rfl, Nat.le_of_ble_eq_true rfl, Nat.le_of_ble_eq_true rfl⟩ rfl (Nat.le_of_ble_eq_true rfl) dX7_correct_59 (fun G4 hv => ?_)
          obtain ⟨hLs4, hF4⟩ := hv
          have hO4 := hF4.1 _ _ _ (fun h => by rcases h with h | h <;> cases h) hO3
          refine z_al0 (pc := 62) dX7_correct_62 ?_
          refine z_dup (pc := 63) rfl dX7_correct_63 ?_
          refine z_get (pc := 64) 9 hO4 rfl iw_X7 (by decide) kw_127 rfl dX7_correct_64 ?_
          refine z_iconst (pc := 67) (1) (by decide) dX7_correct_67 ?_
          refine z_iadd (pc := 68) dX7_correct_68 ?_
          rw [nI_1]
          refine z_putg (pc := 69) 9 hO4 rfl iw_X7 tyX7 tyX7_ok nmX7 (by decide) kw_127 rfl rfl rfl rfl (Nat.le_of_ble_eq_true rfl) dX7_correct_69 (fun G6 h6x hF6 => ?_)
          refine z_iconst (pc := 72) (1) (by decide) dX7_correct_72 ?_
          rw [← hQx]
          refine z_zret (pc := 73) rfl rfl ⟨Nat.le_of_ble_eq_true rfl, Nat.le_of_ble_eq_true rfl⟩ dX7_correct_73 (⟨_, rfl, Or.inl ⟨⟨hs, hi, hp, by omega⟩, rfl, h6x, q0, hq0, hF6.1 _ _ _ (fun h => by cases h) (hF4.1 _ _ _ (fun h => by rcases h with h | h <;> cases h) hq3), hLs4.keep hF6 (fun h => by cases h) (fun h => by cases h), ((hF13.mono (fun r h => Or.inl h)).trans (hF4.mono (fun r h => Or.inr (Or.inl h)))).trans (hF6.mono (fun r h => Or.inr (Or.inr h)))⟩⟩)
        · refine z_al0 (pc := 0) dX7_correct_0 ?_
          refine z_il1 (pc := 1) dX7_correct_1 ?_
          refine z_callVrq (pc := 2) (c_findY l s0 hR hn hs) hO rfl rfl kw_291 zc_X7_find ⟨Nat.le_of_ble_eq_true rfl, Nat.le_of_ble_eq_true rfl, Nat.le_of_ble_eq_true rfl, Nat.le_of_ble_eq_true rfl⟩ (by decide) rfl (Nat.le_of_ble_eq_true rfl) dX7_correct_2 ?_
          refine z_as5 (pc := 5) dX7_correct_5 (by decide) ?_
          refine z_al5 (pc := 7) dX7_correct_7 ?_
          refine z_ifnullR (pc := 9) dX7_correct_9 ?_
          refine z_al5 (pc := 12) dX7_correct_12 ?_
          refine z_il2 (pc := 14) dX7_correct_14 ?_
          refine z_callVr (pc := 15) (c_sHas l (iN s0) (ln (iN s0)) i0 hsh hd) hsh rfl rfl kw_340 zc_X5_has ⟨Nat.le_of_ble_eq_true rfl, Nat.le_of_ble_eq_true rfl, Nat.le_of_ble_eq_true rfl, Nat.le_of_ble_eq_true rfl⟩ (by decide) rfl (Nat.le_of_ble_eq_true rfl) dX7_correct_15 ?_
          refine z_ifz_eq (pc := 18) 40 dX7_correct_18 rfl (fun c18 => absurd (hi) c18) (fun c18 => ?_)
          refine z_il3 (pc := 21) dX7_correct_21 ?_
          refine z_il4 (pc := 22) dX7_correct_22 ?_
          refine z_callSr (pc := 24) (c_isNote l p0 b0) kw_309 zc_X7_isNote ⟨Nat.le_of_ble_eq_true rfl, Nat.le_of_ble_eq_true rfl, Nat.le_of_ble_eq_true rfl, Nat.le_of_ble_eq_true rfl⟩ (by decide) rfl (Nat.le_of_ble_eq_true rfl) dX7_correct_24 ?_
          refine z_ifz_eq (pc := 27) 40 dX7_correct_27 rfl (fun c27 => absurd (hp) c27) (fun c27 => ?_)
          refine z_al0 (pc := 30) dX7_correct_30 ?_
          refine z_get (pc := 31) 9 hO rfl iw_X7 (by decide) kw_127 rfl dX7_correct_31 ?_
          refine z_sipush (pc := 34) (200) (by decide) dX7_correct_34 ?_
          refine z_icmp_lt (pc := 37) 42 dX7_correct_37 rfl (fun c37 => absurd c37 (fun q => hc ((nI_ltI (by omega) (by omega)).mp (show nI c < nI 200 from q)))) (fun c37 => ?_)
          refine z_iconst (pc := 40) (0) (by decide) dX7_correct_40 ?_
          rw [← hQx]
          refine z_zret (pc := 41) rfl rfl ⟨Nat.le_of_ble_eq_true rfl, Nat.le_of_ble_eq_true rfl⟩ dX7_correct_41 (⟨_, rfl, Or.inr ⟨fun h => by have := h.2.2.2; omega, rfl, rfl⟩⟩)
      · refine z_al0 (pc := 0) dX7_correct_0 ?_
        refine z_il1 (pc := 1) dX7_correct_1 ?_
        refine z_callVrq (pc := 2) (c_findY l s0 hR hn hs) hO rfl rfl kw_291 zc_X7_find ⟨Nat.le_of_ble_eq_true rfl, Nat.le_of_ble_eq_true rfl, Nat.le_of_ble_eq_true rfl, Nat.le_of_ble_eq_true rfl⟩ (by decide) rfl (Nat.le_of_ble_eq_true rfl) dX7_correct_2 ?_
        refine z_as5 (pc := 5) dX7_correct_5 (by decide) ?_
        refine z_al5 (pc := 7) dX7_correct_7 ?_
        refine z_ifnullR (pc := 9) dX7_correct_9 ?_
        refine z_al5 (pc := 12) dX7_correct_12 ?_
        refine z_il2 (pc := 14) dX7_correct_14 ?_
        refine z_callVr (pc := 15) (c_sHas l (iN s0) (ln (iN s0)) i0 hsh hd) hsh rfl rfl kw_340 zc_X5_has ⟨Nat.le_of_ble_eq_true rfl, Nat.le_of_ble_eq_true rfl, Nat.le_of_ble_eq_true rfl, Nat.le_of_ble_eq_true rfl⟩ (by decide) rfl (Nat.le_of_ble_eq_true rfl) dX7_correct_15 ?_
        refine z_ifz_eq (pc := 18) 40 dX7_correct_18 rfl (fun c18 => absurd (hi) c18) (fun c18 => ?_)
        refine z_il3 (pc := 21) dX7_correct_21 ?_
        refine z_il4 (pc := 22) dX7_correct_22 ?_
        refine z_callSr (pc := 24) (c_isNote l p0 b0) kw_309 zc_X7_isNote ⟨Nat.le_of_ble_eq_true rfl, Nat.le_of_ble_eq_true rfl, Nat.le_of_ble_eq_true rfl, Nat.le_of_ble_eq_true rfl⟩ (by decide) rfl (Nat.le_of_ble_eq_true rfl) dX7_correct_24 ?_
        refine z_ifz_eq (pc := 27) 40 dX7_correct_27 rfl (fun c27 => ?_) (fun c27 => absurd c27 (hp))
        refine z_iconst (pc := 40) (0) (by decide) dX7_correct_40 ?_
        rw [← hQx]
        refine z_zret (pc := 41) rfl rfl ⟨Nat.le_of_ble_eq_true rfl, Nat.le_of_ble_eq_true rfl⟩ dX7_correct_41 (⟨_, rfl, Or.inr ⟨fun h => hp h.2.2.1, rfl, rfl⟩⟩)
    · refine z_al0 (pc := 0) dX7_correct_0 ?_
      refine z_il1 (pc := 1) dX7_correct_1 ?_
      refine z_callVrq (pc := 2) (c_findY l s0 hR hn hs) hO rfl rfl kw_291 zc_X7_find ⟨Nat.le_of_ble_eq_true rfl, Nat.le_of_ble_eq_true rfl, Nat.le_of_ble_eq_true rfl, Nat.le_of_ble_eq_true rfl⟩ (by decide) rfl (Nat.le_of_ble_eq_true rfl) dX7_correct_2 ?_
      refine z_as5 (pc := 5) dX7_correct_5 (by decide) ?_
      refine z_al5 (pc := 7) dX7_correct_7 ?_
      refine z_ifnullR (pc := 9) dX7_correct_9 ?_
      refine z_al5 (pc := 12) dX7_correct_12 ?_
      refine z_il2 (pc := 14) dX7_correct_14 ?_
      refine z_callVr (pc := 15) (c_sHas l (iN s0) (ln (iN s0)) i0 hsh hd) hsh rfl rfl kw_340 zc_X5_has ⟨Nat.le_of_ble_eq_true rfl, Nat.le_of_ble_eq_true rfl, Nat.le_of_ble_eq_true rfl, Nat.le_of_ble_eq_true rfl⟩ (by decide) rfl (Nat.le_of_ble_eq_true rfl) dX7_correct_15 ?_
      refine z_ifz_eq (pc := 18) 40 dX7_correct_18 rfl (fun c18 => ?_) (fun c18 => absurd c18 (hi))
      refine z_iconst (pc := 40) (0) (by decide) dX7_correct_40 ?_
      rw [← hQx]
      refine z_zret (pc := 41) rfl rfl ⟨Nat.le_of_ble_eq_true rfl, Nat.le_of_ble_eq_true rfl⟩ dX7_correct_41 (⟨_, rfl, Or.inr ⟨fun h => hi h.2.1, rfl, rfl⟩⟩)
  · refine z_al0 (pc := 0) dX7_correct_0 ?_
    refine z_il1 (pc := 1) dX7_correct_1 ?_
    refine z_callVrq (pc := 2) (c_findN l s0 hR hs) hO rfl rfl kw_291 zc_X7_find ⟨Nat.le_of_ble_eq_true rfl, Nat.le_of_ble_eq_true rfl, Nat.le_of_ble_eq_true rfl, Nat.le_of_ble_eq_true rfl⟩ (by decide) rfl (Nat.le_of_ble_eq_true rfl) dX7_correct_2 ?_
    refine z_as5N (pc := 5) dX7_correct_5 (by decide) ?_
    refine z_al5N (pc := 7) dX7_correct_7 ?_
    refine z_ifnullN (pc := 9) 40 dX7_correct_9 rfl ?_
    refine z_iconst (pc := 40) (0) (by decide) dX7_correct_40 ?_
    rw [← hQx]
    refine z_zret (pc := 41) rfl rfl ⟨Nat.le_of_ble_eq_true rfl, Nat.le_of_ble_eq_true rfl⟩ dX7_correct_41 (⟨_, rfl, Or.inr ⟨fun h => hs h.1, rfl, rfl⟩⟩)
