/-! doubles -/
theorem pr_obj {G : zH} {t i a b : Nat} (h : G t = some ((2, 20, i), .inr (4, [.ref a, .ref b]))) : zObj G t := ⟨_, _, _, _, h, rfl, kn_1004, by simp, by simp⟩
theorem dbl_iff {B : Nat → Nat → Nat} {ar : Nat → Nat → Int32} {n d : Nat} {a0 b0 : Int32} (hn : n ≤ 20) (hinj : ∀ i j, i < n → j < n → B 15 i = B 15 j → i = j) (hpr : ∀ k, k < d → ∃ a b, a < n ∧ b < n ∧ ar 13 k = nI a ∧ ar 14 k = nI b) (ha : okS n a0) (hb : okS n b0) :
    (∃ g, g < d ∧ ((B 15 (iN (ar 13 g)) = B 15 (iN a0) ∧ B 15 (iN (ar 14 g)) = B 15 (iN b0)) ∨ (B 15 (iN (ar 13 g)) = B 15 (iN b0) ∧ B 15 (iN (ar 14 g)) = B 15 (iN a0)))) ↔ ∃ g, g < d ∧ ((ar 13 g = a0 ∧ ar 14 g = b0) ∨ (ar 13 g = b0 ∧ ar 14 g = a0)) := by
  obtain ⟨a, rfl, ha'⟩ := ix_in ha.1 ha.2 (by omega)
  obtain ⟨b, rfl, hb'⟩ := ix_in hb.1 hb.2 (by omega)
  have key : ∀ g, g < d → ∀ x y, x < n → y < n → ((B 15 (iN (ar 13 g)) = B 15 x ∧ B 15 (iN (ar 14 g)) = B 15 y) ↔ (ar 13 g = nI x ∧ ar 14 g = nI y)) := fun g hg x y hx hy => by
    obtain ⟨p1, p2, h1, h2, e1, e2⟩ := hpr g hg
    rw [e1, e2, iN_nI (by omega), iN_nI (by omega), nI_eq (by omega) (by omega), nI_eq (by omega) (by omega)]
    exact ⟨fun h => ⟨hinj _ _ h1 hx h.1, hinj _ _ h2 hy h.2⟩, fun h => ⟨by rw [h.1], by rw [h.2]⟩⟩
  rw [iN_nI (by omega), iN_nI (by omega)]
  constructor
  · rintro ⟨g, hg, h⟩
    exact ⟨g, hg, h.imp (key g hg a b ha' hb').mp (key g hg b a hb' ha').mp⟩
  · rintro ⟨g, hg, h⟩
    exact ⟨g, hg, h.imp (key g hg a b ha' hb').mpr (key g hg b a hb' ha').mpr⟩
set_option maxRecDepth 100000 in
set_option maxHeartbeats 400000 in
theorem c_hDbl (l : Launch) {κ : zK} {G : zH} {B : Nat → Nat → Nat} {n c d w : Nat} {ln kl ep : Nat → Nat} {fo nt : Int32} {ar : Nat → Nat → Int32} {rb : Nat → Int32} {kp kb : Nat → Nat → Int32} {iK sm ky : Nat → Int32} (a0 b0 : Int32) (hR : RC κ G B n c d w ln fo nt ar rb kl ep kp kb iK sm ky) (hn : n ≤ 20) (hd : d ≤ 60) (hpr : ∀ k, k < d → ∃ a b, a < n ∧ b < n ∧ ar 13 k = nI a ∧ ar 14 k = nI b) : Ct l yX7_doubles cX7_doubles 5 (some FieldType.boolean) (rmK 7 2 91 191) κ [.ref (B 0 0), .int a0, .int b0] G (pI (fun r G2 => (okDbl n d ar a0 b0 ∧ r = 1 ∧ ∃ q, G q = none ∧ G2 q = some ((2, 20, d), .inr (4, [.ref (B 15 (iN a0)), .ref (B 15 (iN b0))])) ∧ zLs κ G2 1 (B 13 1) 89 (d + 1) (zup (B 20) d q) ∧ zFP (fun r => r = (2, 20, d) ∨ r = (2, 13, 1) ∨ r = (2, 14, 1)) G G2) ∨ (¬ okDbl n d ar a0 b0 ∧ r = 0 ∧ G2 = G))) := by
  refine Ct.of (by decide +kernel) (fun v hv => by
    simp only [List.mem_cons, List.mem_nil_iff, or_false, List.not_mem_nil] at hv
    rcases hv with rfl | rfl | rfl <;> rfl) (Nat.le_of_ble_eq_true rfl) ?_
  intro p e s m args below meth cC
  refine z_L (L' := [some (.ref (B 0 0)), some (.int a0), some (.int b0), none, none]) rfl ?_
  generalize hQx : MQ below (zQc κ _) args s _ _ (zA κ) = Qx
  have hn20 := hn
  obtain ⟨hO, hP, ⟨cols, key, f0, f1, f2, S, hA⟩, hLK, hl0, hl1, ⟨k2, es2, hl2⟩, hS, hCo, hPr⟩ := id hR
  obtain ⟨mc1, ea1, hm1, -⟩ := id hl1
  have hinj : ∀ i j, i < n → j < n → B 15 i = B 15 j → i = j := fun i j hi hj e => by
    have h1 := (hS i hi).1
    rw [e] at h1
    exact rl_inj h1 (hS j hj).1
  by_cases ha : okS n a0
  · have hla := iN_lt ha (show n < 2 ^ 31 by omega)
    have hsa := (hS _ hla).1
    by_cases hb : okS n b0
    · have hlb := iN_lt hb (show n < 2 ^ 31 by omega)
      have hsb := (hS _ hlb).1
      by_cases hh : ¬ ar 1 (iN a0) = ar 1 (iN b0)
      · by_cases hc : d < 60
        · by_cases hj : ∃ g, g < d ∧ ((B 15 (iN (ar 13 g)) = B 15 (iN a0) ∧ B 15 (iN (ar 14 g)) = B 15 (iN b0)) ∨ (B 15 (iN (ar 13 g)) = B 15 (iN b0) ∧ B 15 (iN (ar 14 g)) = B 15 (iN a0)))
          · refine z_al0 (pc := 0) dX7_doubles_0 ?_
            refine z_il1 (pc := 1) dX7_doubles_1 ?_
            refine z_callVrq (pc := 2) (c_findY l a0 hR hn ha) hO rfl rfl kw_291 zc_X7_find ⟨Nat.le_of_ble_eq_true rfl, Nat.le_of_ble_eq_true rfl, Nat.le_of_ble_eq_true rfl, Nat.le_of_ble_eq_true rfl⟩ (by decide) rfl (Nat.le_of_ble_eq_true rfl) dX7_doubles_2 ?_
            refine z_as3 (pc := 5) dX7_doubles_5 (by decide) ?_
            refine z_al0 (pc := 6) dX7_doubles_6 ?_
            refine z_il2 (pc := 7) dX7_doubles_7 ?_
            refine z_callVrq (pc := 8) (c_findY l b0 hR hn hb) hO rfl rfl kw_291 zc_X7_find ⟨Nat.le_of_ble_eq_true rfl, Nat.le_of_ble_eq_true rfl, Nat.le_of_ble_eq_true rfl, Nat.le_of_ble_eq_true rfl⟩ (by decide) rfl (Nat.le_of_ble_eq_true rfl) dX7_doubles_8 ?_
            refine z_as4 (pc := 11) dX7_doubles_11 (by decide) ?_
            refine z_al3 (pc := 13) dX7_doubles_13 ?_
            refine z_ifnullR (pc := 14) dX7_doubles_14 ?_
            refine z_al4 (pc := 17) dX7_doubles_17 ?_
            refine z_ifnullR (pc := 19) dX7_doubles_19 ?_
            refine z_al3 (pc := 22) dX7_doubles_22 ?_
            refine z_get (pc := 23) 1 hsa rfl iw_X5 (by decide) kw_198 rfl dX7_doubles_23 ?_
            refine z_al4 (pc := 26) dX7_doubles_26 ?_
            refine z_get (pc := 28) 1 hsb rfl iw_X5 (by decide) kw_198 rfl dX7_doubles_28 ?_
            refine z_icmp_ne (pc := 31) 36 dX7_doubles_31 rfl (fun c31 => ?_) (fun c31 => absurd c31 (hh))
            refine z_al0 (pc := 36) dX7_doubles_36 ?_
            refine z_get (pc := 37) 4 hO rfl iw_X7 (by decide) kw_122 rfl dX7_doubles_37 ?_
            refine z_callVr (pc := 40) (c_jSize l 1 (B 13 1) 89 d hl1) hm1 rfl rfl kw_153 zc_Jx4a65c_size_8abf5 ⟨Nat.le_of_ble_eq_true rfl, Nat.le_of_ble_eq_true rfl, Nat.le_of_ble_eq_true rfl, Nat.le_of_ble_eq_true rfl⟩ (by decide) rfl (Nat.le_of_ble_eq_true rfl) dX7_doubles_40 ?_
            refine z_bipush (pc := 43) (60) (by decide) dX7_doubles_43 ?_
            refine z_icmp_ge (pc := 45) 58 dX7_doubles_45 rfl (fun c45 => absurd c45 (fun q => absurd ((nI_leI (by omega) (by omega)).mp (show nI 60 ≤ nI d from q)) (by omega))) (fun c45 => ?_)
            refine z_al0 (pc := 48) dX7_doubles_48 ?_
            refine z_al3 (pc := 49) dX7_doubles_49 ?_
            refine z_al4 (pc := 50) dX7_doubles_50 ?_
            refine z_callVr (pc := 52) (c_hIsPair l (B 15 (iN a0)) (B 15 (iN b0)) hR hd) hO rfl rfl kw_389 zc_X7_isPair ⟨Nat.le_of_ble_eq_true rfl, Nat.le_of_ble_eq_true rfl, Nat.le_of_ble_eq_true rfl, Nat.le_of_ble_eq_true rfl⟩ (by decide) rfl (Nat.le_of_ble_eq_true rfl) dX7_doubles_52 ?_
            refine z_ifz_eq (pc := 55) 60 dX7_doubles_55 rfl (fun c55 => absurd (hj) c55) (fun c55 => ?_)
            refine z_iconst (pc := 58) (0) (by decide) dX7_doubles_58 ?_
            rw [← hQx]
            refine z_zret (pc := 59) rfl rfl ⟨Nat.le_of_ble_eq_true rfl, Nat.le_of_ble_eq_true rfl⟩ dX7_doubles_59 (⟨_, rfl, Or.inr ⟨fun h => by obtain ⟨k, hk, q⟩ := (dbl_iff hn hinj hpr ha hb).mp hj; exact h.2.2.2.2 k hk q, rfl, rfl⟩⟩)
          · refine z_al0 (pc := 0) dX7_doubles_0 ?_
            refine z_il1 (pc := 1) dX7_doubles_1 ?_
            refine z_callVrq (pc := 2) (c_findY l a0 hR hn ha) hO rfl rfl kw_291 zc_X7_find ⟨Nat.le_of_ble_eq_true rfl, Nat.le_of_ble_eq_true rfl, Nat.le_of_ble_eq_true rfl, Nat.le_of_ble_eq_true rfl⟩ (by decide) rfl (Nat.le_of_ble_eq_true rfl) dX7_doubles_2 ?_
            refine z_as3 (pc := 5) dX7_doubles_5 (by decide) ?_
            refine z_al0 (pc := 6) dX7_doubles_6 ?_
            refine z_il2 (pc := 7) dX7_doubles_7 ?_
            refine z_callVrq (pc := 8) (c_findY l b0 hR hn hb) hO rfl rfl kw_291 zc_X7_find ⟨Nat.le_of_ble_eq_true rfl, Nat.le_of_ble_eq_true rfl, Nat.le_of_ble_eq_true rfl, Nat.le_of_ble_eq_true rfl⟩ (by decide) rfl (Nat.le_of_ble_eq_true rfl) dX7_doubles_8 ?_
            refine z_as4 (pc := 11) dX7_doubles_11 (by decide) ?_
            refine z_al3 (pc := 13) dX7_doubles_13 ?_
            refine z_ifnullR (pc := 14) dX7_doubles_14 ?_
            refine z_al4 (pc := 17) dX7_doubles_17 ?_
            refine z_ifnullR (pc := 19) dX7_doubles_19 ?_
            refine z_al3 (pc := 22) dX7_doubles_22 ?_
            refine z_get (pc := 23) 1 hsa rfl iw_X5 (by decide) kw_198 rfl dX7_doubles_23 ?_
            refine z_al4 (pc := 26) dX7_doubles_26 ?_
            refine z_get (pc := 28) 1 hsb rfl iw_X5 (by decide) kw_198 rfl dX7_doubles_28 ?_
            refine z_icmp_ne (pc := 31) 36 dX7_doubles_31 rfl (fun c31 => ?_) (fun c31 => absurd c31 (hh))
            refine z_al0 (pc := 36) dX7_doubles_36 ?_
            refine z_get (pc := 37) 4 hO rfl iw_X7 (by decide) kw_122 rfl dX7_doubles_37 ?_
            refine z_callVr (pc := 40) (c_jSize l 1 (B 13 1) 89 d hl1) hm1 rfl rfl kw_153 zc_Jx4a65c_size_8abf5 ⟨Nat.le_of_ble_eq_true rfl, Nat.le_of_ble_eq_true rfl, Nat.le_of_ble_eq_true rfl, Nat.le_of_ble_eq_true rfl⟩ (by decide) rfl (Nat.le_of_ble_eq_true rfl) dX7_doubles_40 ?_
            refine z_bipush (pc := 43) (60) (by decide) dX7_doubles_43 ?_
            refine z_icmp_ge (pc := 45) 58 dX7_doubles_45 rfl (fun c45 => absurd c45 (fun q => absurd ((nI_leI (by omega) (by omega)).mp (show nI 60 ≤ nI d from q)) (by omega))) (fun c45 => ?_)
            refine z_al0 (pc := 48) dX7_doubles_48 ?_
            refine z_al3 (pc := 49) dX7_doubles_49 ?_
            refine z_al4 (pc := 50) dX7_doubles_50 ?_
            refine z_callVr (pc := 52) (c_hIsPair l (B 15 (iN a0)) (B 15 (iN b0)) hR hd) hO rfl rfl kw_389 zc_X7_isPair ⟨Nat.le_of_ble_eq_true rfl, Nat.le_of_ble_eq_true rfl, Nat.le_of_ble_eq_true rfl, Nat.le_of_ble_eq_true rfl⟩ (by decide) rfl (Nat.le_of_ble_eq_true rfl) dX7_doubles_52 ?_
            refine z_ifz_eq (pc := 55) 60 dX7_doubles_55 rfl (fun c55 => ?_) (fun c55 => absurd c55 (hj))
            refine z_al0 (pc := 60) dX7_doubles_60 ?_
            refine z_get (pc := 61) 4 hO rfl iw_X7 (by decide) kw_122 rfl dX7_doubles_61 ?_
            refine z_newg (pc := 64) (ci := 4) (2, 20, d) [.null, .null] rfl iw_X3 tyX3 tyX3_ok kw_393 kw_398 kw_18 (fun j hj => by rcases j with _ | _ | j <;> first | rfl | omega) ⟨Nat.le_of_ble_eq_true rfl, Nat.le_of_ble_eq_true rfl⟩ dX7_doubles_64 (fun q0 G1 hq0 _ hq hF1 => ?_)
            refine z_dup (pc := 67) rfl dX7_doubles_67 ?_
            refine z_al3 (pc := 68) dX7_doubles_68 ?_
            refine z_al4 (pc := 69) dX7_doubles_69 ?_
            refine z_callIv (pc := 71) _ (c_prInit l d (B 15 (iN a0)) (B 15 (iN b0)) hq) rfl kw_399 zc_X3_init ⟨Nat.le_of_ble_eq_true rfl, Nat.le_of_ble_eq_true rfl, Nat.le_of_ble_eq_true rfl, Nat.le_of_ble_eq_true rfl⟩ rfl (Nat.le_of_ble_eq_true rfl) dX7_doubles_71 (fun G3 hv => ?_)
            obtain ⟨hq3, hF3⟩ := hv
            have hF13 : zFP (fun r => r = (2, 20, d)) G G3 := (hF1.mono (fun r h => h.elim)).trans hF3
            have hl13 := hl1.keep hF13 (fun h => by cases h) (fun h => by cases h)
            have hm13 := hF13.1 _ _ _ (fun h => by cases h) hm1
            refine z_callVi (pc := 74) _ (c_jAdd l 1 (B 13 1) 89 d q0 hl13 (fun k hk => pr_obj (hF13.1 _ _ _ (fun h => by injection h with h1 h2; injection h2 with h3 h4; omega) (hPr k hk))) (pr_obj hq3) (by omega)) rfl hm13 rfl rfl kw_229 zc_Jx4a65c_add_9ea2d ⟨Nat.le_of_ble_eq_true rfl, Nat.le_of_ble_eq_true rfl, Nat.le_of_ble_eq_true rfl, Nat.le_of_ble_eq_true rfl⟩ rfl (Nat.le_of_ble_eq_true rfl) dX7_doubles_74 (fun v G4 hv => ?_)
            obtain ⟨-, hl4, hF4⟩ := hv
            refine z_pop (pc := 77) rfl dX7_doubles_77 ?_
            refine z_iconst (pc := 78) (1) (by decide) dX7_doubles_78 ?_
            rw [← hQx]
            refine z_zret (pc := 79) rfl rfl ⟨Nat.le_of_ble_eq_true rfl, Nat.le_of_ble_eq_true rfl⟩ dX7_doubles_79 (⟨_, rfl, Or.inl ⟨⟨ha, hb, hh, by omega, fun k hk q => hj ((dbl_iff hn hinj hpr ha hb).mpr ⟨k, hk, q⟩)⟩, rfl, q0, hq0, hF4.1 _ _ _ (fun h => by rcases h with h | h <;> cases h) hq3, hl4, (hF13.mono (fun r h => Or.inl h)).trans (hF4.mono (fun r h => Or.inr h))⟩⟩)
        · refine z_al0 (pc := 0) dX7_doubles_0 ?_
          refine z_il1 (pc := 1) dX7_doubles_1 ?_
          refine z_callVrq (pc := 2) (c_findY l a0 hR hn ha) hO rfl rfl kw_291 zc_X7_find ⟨Nat.le_of_ble_eq_true rfl, Nat.le_of_ble_eq_true rfl, Nat.le_of_ble_eq_true rfl, Nat.le_of_ble_eq_true rfl⟩ (by decide) rfl (Nat.le_of_ble_eq_true rfl) dX7_doubles_2 ?_
          refine z_as3 (pc := 5) dX7_doubles_5 (by decide) ?_
          refine z_al0 (pc := 6) dX7_doubles_6 ?_
          refine z_il2 (pc := 7) dX7_doubles_7 ?_
          refine z_callVrq (pc := 8) (c_findY l b0 hR hn hb) hO rfl rfl kw_291 zc_X7_find ⟨Nat.le_of_ble_eq_true rfl, Nat.le_of_ble_eq_true rfl, Nat.le_of_ble_eq_true rfl, Nat.le_of_ble_eq_true rfl⟩ (by decide) rfl (Nat.le_of_ble_eq_true rfl) dX7_doubles_8 ?_
          refine z_as4 (pc := 11) dX7_doubles_11 (by decide) ?_
          refine z_al3 (pc := 13) dX7_doubles_13 ?_
          refine z_ifnullR (pc := 14) dX7_doubles_14 ?_
          refine z_al4 (pc := 17) dX7_doubles_17 ?_
          refine z_ifnullR (pc := 19) dX7_doubles_19 ?_
          refine z_al3 (pc := 22) dX7_doubles_22 ?_
          refine z_get (pc := 23) 1 hsa rfl iw_X5 (by decide) kw_198 rfl dX7_doubles_23 ?_
          refine z_al4 (pc := 26) dX7_doubles_26 ?_
          refine z_get (pc := 28) 1 hsb rfl iw_X5 (by decide) kw_198 rfl dX7_doubles_28 ?_
          refine z_icmp_ne (pc := 31) 36 dX7_doubles_31 rfl (fun c31 => ?_) (fun c31 => absurd c31 (hh))
          refine z_al0 (pc := 36) dX7_doubles_36 ?_
          refine z_get (pc := 37) 4 hO rfl iw_X7 (by decide) kw_122 rfl dX7_doubles_37 ?_
          refine z_callVr (pc := 40) (c_jSize l 1 (B 13 1) 89 d hl1) hm1 rfl rfl kw_153 zc_Jx4a65c_size_8abf5 ⟨Nat.le_of_ble_eq_true rfl, Nat.le_of_ble_eq_true rfl, Nat.le_of_ble_eq_true rfl, Nat.le_of_ble_eq_true rfl⟩ (by decide) rfl (Nat.le_of_ble_eq_true rfl) dX7_doubles_40 ?_
          refine z_bipush (pc := 43) (60) (by decide) dX7_doubles_43 ?_
          refine z_icmp_ge (pc := 45) 58 dX7_doubles_45 rfl (fun c45 => ?_) (fun c45 => absurd (show nI 60 ≤ nI d from (nI_leI (by omega) (by omega)).mpr (by omega)) c45)
          refine z_iconst (pc := 58) (0) (by decide) dX7_doubles_58 ?_
          rw [← hQx]
          refine z_zret (pc := 59) rfl rfl ⟨Nat.le_of_ble_eq_true rfl, Nat.le_of_ble_eq_true rfl⟩ dX7_doubles_59 (⟨_, rfl, Or.inr ⟨fun h => by have := h.2.2.2.1; omega, rfl, rfl⟩⟩)
      · refine z_al0 (pc := 0) dX7_doubles_0 ?_
        refine z_il1 (pc := 1) dX7_doubles_1 ?_
        refine z_callVrq (pc := 2) (c_findY l a0 hR hn ha) hO rfl rfl kw_291 zc_X7_find ⟨Nat.le_of_ble_eq_true rfl, Nat.le_of_ble_eq_true rfl, Nat.le_of_ble_eq_true rfl, Nat.le_of_ble_eq_true rfl⟩ (by decide) rfl (Nat.le_of_ble_eq_true rfl) dX7_doubles_2 ?_
        refine z_as3 (pc := 5) dX7_doubles_5 (by decide) ?_
        refine z_al0 (pc := 6) dX7_doubles_6 ?_
        refine z_il2 (pc := 7) dX7_doubles_7 ?_
        refine z_callVrq (pc := 8) (c_findY l b0 hR hn hb) hO rfl rfl kw_291 zc_X7_find ⟨Nat.le_of_ble_eq_true rfl, Nat.le_of_ble_eq_true rfl, Nat.le_of_ble_eq_true rfl, Nat.le_of_ble_eq_true rfl⟩ (by decide) rfl (Nat.le_of_ble_eq_true rfl) dX7_doubles_8 ?_
        refine z_as4 (pc := 11) dX7_doubles_11 (by decide) ?_
        refine z_al3 (pc := 13) dX7_doubles_13 ?_
        refine z_ifnullR (pc := 14) dX7_doubles_14 ?_
        refine z_al4 (pc := 17) dX7_doubles_17 ?_
        refine z_ifnullR (pc := 19) dX7_doubles_19 ?_
        refine z_al3 (pc := 22) dX7_doubles_22 ?_
        refine z_get (pc := 23) 1 hsa rfl iw_X5 (by decide) kw_198 rfl dX7_doubles_23 ?_
        refine z_al4 (pc := 26) dX7_doubles_26 ?_
        refine z_get (pc := 28) 1 hsb rfl iw_X5 (by decide) kw_198 rfl dX7_doubles_28 ?_
        refine z_icmp_ne (pc := 31) 36 dX7_doubles_31 rfl (fun c31 => absurd (Decidable.not_not.mp hh) c31) (fun c31 => ?_)
        refine z_iconst (pc := 34) (0) (by decide) dX7_doubles_34 ?_
        rw [← hQx]
        refine z_zret (pc := 35) rfl rfl ⟨Nat.le_of_ble_eq_true rfl, Nat.le_of_ble_eq_true rfl⟩ dX7_doubles_35 (⟨_, rfl, Or.inr ⟨fun h => hh h.2.2.1, rfl, rfl⟩⟩)
    · refine z_al0 (pc := 0) dX7_doubles_0 ?_
      refine z_il1 (pc := 1) dX7_doubles_1 ?_
      refine z_callVrq (pc := 2) (c_findY l a0 hR hn ha) hO rfl rfl kw_291 zc_X7_find ⟨Nat.le_of_ble_eq_true rfl, Nat.le_of_ble_eq_true rfl, Nat.le_of_ble_eq_true rfl, Nat.le_of_ble_eq_true rfl⟩ (by decide) rfl (Nat.le_of_ble_eq_true rfl) dX7_doubles_2 ?_
      refine z_as3 (pc := 5) dX7_doubles_5 (by decide) ?_
      refine z_al0 (pc := 6) dX7_doubles_6 ?_
      refine z_il2 (pc := 7) dX7_doubles_7 ?_
      refine z_callVrq (pc := 8) (c_findN l b0 hR hb) hO rfl rfl kw_291 zc_X7_find ⟨Nat.le_of_ble_eq_true rfl, Nat.le_of_ble_eq_true rfl, Nat.le_of_ble_eq_true rfl, Nat.le_of_ble_eq_true rfl⟩ (by decide) rfl (Nat.le_of_ble_eq_true rfl) dX7_doubles_8 ?_
      refine z_as4N (pc := 11) dX7_doubles_11 (by decide) ?_
      refine z_al3 (pc := 13) dX7_doubles_13 ?_
      refine z_ifnullR (pc := 14) dX7_doubles_14 ?_
      refine z_al4N (pc := 17) dX7_doubles_17 ?_
      refine z_ifnullN (pc := 19) 34 dX7_doubles_19 rfl ?_
      refine z_iconst (pc := 34) (0) (by decide) dX7_doubles_34 ?_
      rw [← hQx]
      refine z_zret (pc := 35) rfl rfl ⟨Nat.le_of_ble_eq_true rfl, Nat.le_of_ble_eq_true rfl⟩ dX7_doubles_35 (⟨_, rfl, Or.inr ⟨fun h => hb h.2.1, rfl, rfl⟩⟩)
  · by_cases hb : okS n b0
    · have hlb := iN_lt hb (show n < 2 ^ 31 by omega)
      have hsb := (hS _ hlb).1
      refine z_al0 (pc := 0) dX7_doubles_0 ?_
      refine z_il1 (pc := 1) dX7_doubles_1 ?_
      refine z_callVrq (pc := 2) (c_findN l a0 hR ha) hO rfl rfl kw_291 zc_X7_find ⟨Nat.le_of_ble_eq_true rfl, Nat.le_of_ble_eq_true rfl, Nat.le_of_ble_eq_true rfl, Nat.le_of_ble_eq_true rfl⟩ (by decide) rfl (Nat.le_of_ble_eq_true rfl) dX7_doubles_2 ?_
      refine z_as3N (pc := 5) dX7_doubles_5 (by decide) ?_
      refine z_al0 (pc := 6) dX7_doubles_6 ?_
      refine z_il2 (pc := 7) dX7_doubles_7 ?_
      refine z_callVrq (pc := 8) (c_findY l b0 hR hn hb) hO rfl rfl kw_291 zc_X7_find ⟨Nat.le_of_ble_eq_true rfl, Nat.le_of_ble_eq_true rfl, Nat.le_of_ble_eq_true rfl, Nat.le_of_ble_eq_true rfl⟩ (by decide) rfl (Nat.le_of_ble_eq_true rfl) dX7_doubles_8 ?_
      refine z_as4 (pc := 11) dX7_doubles_11 (by decide) ?_
      refine z_al3N (pc := 13) dX7_doubles_13 ?_
      refine z_ifnullN (pc := 14) 34 dX7_doubles_14 rfl ?_
      refine z_iconst (pc := 34) (0) (by decide) dX7_doubles_34 ?_
      rw [← hQx]
      refine z_zret (pc := 35) rfl rfl ⟨Nat.le_of_ble_eq_true rfl, Nat.le_of_ble_eq_true rfl⟩ dX7_doubles_35 (⟨_, rfl, Or.inr ⟨fun h => ha h.1, rfl, rfl⟩⟩)
    · refine z_al0 (pc := 0) dX7_doubles_0 ?_
      refine z_il1 (pc := 1) dX7_doubles_1 ?_
      refine z_callVrq (pc := 2) (c_findN l a0 hR ha) hO rfl rfl kw_291 zc_X7_find ⟨Nat.le_of_ble_eq_true rfl, Nat.le_of_ble_eq_true rfl, Nat.le_of_ble_eq_true rfl, Nat.le_of_ble_eq_true rfl⟩ (by decide) rfl (Nat.le_of_ble_eq_true rfl) dX7_doubles_2 ?_
      refine z_as3N (pc := 5) dX7_doubles_5 (by decide) ?_
      refine z_al0 (pc := 6) dX7_doubles_6 ?_
      refine z_il2 (pc := 7) dX7_doubles_7 ?_
      refine z_callVrq (pc := 8) (c_findN l b0 hR hb) hO rfl rfl kw_291 zc_X7_find ⟨Nat.le_of_ble_eq_true rfl, Nat.le_of_ble_eq_true rfl, Nat.le_of_ble_eq_true rfl, Nat.le_of_ble_eq_true rfl⟩ (by decide) rfl (Nat.le_of_ble_eq_true rfl) dX7_doubles_8 ?_
      refine z_as4N (pc := 11) dX7_doubles_11 (by decide) ?_
      refine z_al3N (pc := 13) dX7_doubles_13 ?_
      refine z_ifnullN (pc := 14) 34 dX7_doubles_14 rfl ?_
      refine z_iconst (pc := 34) (0) (by decide) dX7_doubles_34 ?_
      rw [← hQx]
      refine z_zret (pc := 35) rfl rfl ⟨Nat.le_of_ble_eq_true rfl, Nat.le_of_ble_eq_true rfl⟩ dX7_doubles_35 (⟨_, rfl, Or.inr ⟨fun h => ha h.1, rfl, rfl⟩⟩)
