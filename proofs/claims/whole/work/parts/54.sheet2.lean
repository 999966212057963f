/-! sheet -/
set_option maxRecDepth 100000 in
set_option maxHeartbeats 400000 in
theorem c_hSheet (l : Launch) {κ : zK} {G : zH} {B : Nat → Nat → Nat} {n c d w : Nat} {ln kl ep : Nat → Nat} {fo nt : Int32} {ar : Nat → Nat → Int32} {rb : Nat → Int32} {kp kb : Nat → Nat → Int32} {iK sm ky : Nat → Int32} (es : Nat → Nat) (h0 y0 v0 : Int32) (hR : RC κ G B n c d w ln fo nt ar rb kl ep kp kb iK sm ky) (hn : n ≤ 20) : Ct l yX7_sheet cX7_sheet 5 (some FieldType.int) (rmK 7 9 143 191) κ [.ref (B 0 0), .int h0, .int y0, .int v0] G (pI (fun r G2 => (okSheet n h0 y0 v0 ∧ r = nI n ∧ ∃ q kt tt am, G q = none ∧ G2 q = some ((2, 15, n), .inr (6, [.int (nI n), .int h0, .int y0, .int v0, .ref kt, .ref tt, .ref am, .int 0, .int (-1)])) ∧ zTU κ G2 kt (2 * n) 0 (fun _ => 0) (fun _ => 0) ∧ zTU κ G2 tt (2 * n + 1) 0 (fun _ => 0) (fun _ => 0) ∧ zLs κ G2 (3 + n) am 299 0 es ∧ zLs κ G2 0 (B 13 0) 29 (n + 1) (zup (B 15) n q) ∧ zFP (fun r => shNew n r ∨ r = (2, 13, 0) ∨ r = (2, 14, 0)) G G2) ∨ (¬ okSheet n h0 y0 v0 ∧ r = -1 ∧ G2 = G))) := by
  refine Ct.of (by decide +kernel) (fun v hv => by
    simp only [List.mem_cons, List.mem_nil_iff, or_false, List.not_mem_nil] at hv
    rcases hv with rfl | rfl | rfl | rfl <;> rfl) (Nat.le_of_ble_eq_true rfl) ?_
  intro p e s m args below meth cC
  refine z_L (L' := [some (.ref (B 0 0)), some (.int h0), some (.int y0), some (.int v0), none]) rfl ?_
  generalize hQx : MQ below (zQc κ _) args s _ _ (zA κ) = Qx
  have hn20 := hn
  obtain ⟨hO, hP, ⟨cols, key, f0, f1, f2, S, hA⟩, hLK, hl0, hl1, ⟨k2, es2, hl2⟩, hS, hCo, hPr⟩ := id hR
  obtain ⟨mc0, ea0, hm0, -⟩ := id hl0
  by_cases hc : n < 20
  · by_cases hh : 0 ≤ h0 ∧ h0 ≤ 5
    · by_cases hy : 0 ≤ y0 ∧ y0 ≤ 3000
      · by_cases hv : 0 ≤ v0 ∧ v0 ≤ 9
        · refine z_al0 (pc := 0) dX7_sheet_0 ?_
          refine z_get (pc := 1) 3 hO rfl iw_X7 (by decide) kw_121 rfl dX7_sheet_1 ?_
          refine z_callVr (pc := 4) (c_jSize l 0 (B 13 0) 29 n hl0) hm0 rfl rfl kw_153 zc_Jx4a65c_size_8abf5 ⟨Nat.le_of_ble_eq_true rfl, Nat.le_of_ble_eq_true rfl, Nat.le_of_ble_eq_true rfl, Nat.le_of_ble_eq_true rfl⟩ (by decide) rfl (Nat.le_of_ble_eq_true rfl) dX7_sheet_4 ?_
          refine z_is4 (pc := 7) dX7_sheet_7 (by decide) ?_
          refine z_il4 (pc := 9) dX7_sheet_9 ?_
          refine z_bipush (pc := 11) (20) (by decide) dX7_sheet_11 ?_
          refine z_icmp_ge (pc := 13) 40 dX7_sheet_13 rfl (fun c13 => absurd c13 (fun q => absurd ((nI_leI (by omega) (by omega)).mp (show nI 20 ≤ nI n from q)) (by omega))) (fun c13 => ?_)
          refine z_il1 (pc := 16) dX7_sheet_16 ?_
          refine z_callSr (pc := 17) (c_isHand l h0) kw_157 zc_X7_isHand ⟨Nat.le_of_ble_eq_true rfl, Nat.le_of_ble_eq_true rfl, Nat.le_of_ble_eq_true rfl, Nat.le_of_ble_eq_true rfl⟩ (by decide) rfl (Nat.le_of_ble_eq_true rfl) dX7_sheet_17 ?_
          refine z_ifz_eq (pc := 20) 40 dX7_sheet_20 rfl (fun c20 => absurd (hh) c20) (fun c20 => ?_)
          refine z_il2 (pc := 23) dX7_sheet_23 ?_
          refine z_sipush (pc := 24) (3000) (by decide) dX7_sheet_24 ?_
          refine z_callSr (pc := 27) (c_isWithin l y0 3000) kw_160 zc_X7_isWithin ⟨Nat.le_of_ble_eq_true rfl, Nat.le_of_ble_eq_true rfl, Nat.le_of_ble_eq_true rfl, Nat.le_of_ble_eq_true rfl⟩ (by decide) rfl (Nat.le_of_ble_eq_true rfl) dX7_sheet_27 ?_
          refine z_ifz_eq (pc := 30) 40 dX7_sheet_30 rfl (fun c30 => absurd (hy) c30) (fun c30 => ?_)
          refine z_il3 (pc := 33) dX7_sheet_33 ?_
          refine z_callSr (pc := 34) (c_isWords l v0) kw_163 zc_X7_isWords ⟨Nat.le_of_ble_eq_true rfl, Nat.le_of_ble_eq_true rfl, Nat.le_of_ble_eq_true rfl, Nat.le_of_ble_eq_true rfl⟩ (by decide) rfl (Nat.le_of_ble_eq_true rfl) dX7_sheet_34 ?_
          refine z_ifz_ne (pc := 37) 42 dX7_sheet_37 rfl (fun c37 => ?_) (fun c37 => absurd (hv) c37)
          refine z_al0 (pc := 42) dX7_sheet_42 ?_
          refine z_get (pc := 43) 3 hO rfl iw_X7 (by decide) kw_121 rfl dX7_sheet_43 ?_
          refine z_newg (pc := 46) (ci := 6) (2, 15, n) [.int 0, .int 0, .int 0, .int 0, .null, .null, .null, .int 0, .int 0] rfl iw_X5 tyX5 tyX5_ok kw_166 kw_167 kw_9 (fun j hj => by rcases j with _ | _ | _ | _ | _ | _ | _ | _ | _ | j <;> first | rfl | omega) ⟨Nat.le_of_ble_eq_true rfl, Nat.le_of_ble_eq_true rfl⟩ dX7_sheet_46 (fun q1 G1 hn1 _ hq1 hF1 => ?_)
          refine z_dup (pc := 49) rfl dX7_sheet_49 ?_
          refine z_il4 (pc := 50) dX7_sheet_50 ?_
          refine z_il1 (pc := 52) dX7_sheet_52 ?_
          refine z_il2 (pc := 53) dX7_sheet_53 ?_
          refine z_il3 (pc := 54) dX7_sheet_54 ?_
          refine z_callIv (pc := 55) _ (c_sInit l n (nI n) h0 y0 v0 es hq1) rfl kw_168 zc_X5_init ⟨Nat.le_of_ble_eq_true rfl, Nat.le_of_ble_eq_true rfl, Nat.le_of_ble_eq_true rfl, Nat.le_of_ble_eq_true rfl⟩ rfl (Nat.le_of_ble_eq_true rfl) dX7_sheet_55 (fun G3 hv => ?_)
          obtain ⟨kt, tt, am, hq3, hT3, hU3, hL3, hF3⟩ := hv
          have hF13 : zFP (shNew n) G G3 := (hF1.mono (fun r h => h.elim)).trans hF3
          have hl13 := hl0.keep hF13 (fun h => by rcases h with (h | h | h) | (h | h | h) | h | h | h <;> (injection h with h1 h2; injection h2 with h3 h4; omega)) (fun h => by rcases h with (h | h | h) | (h | h | h) | h | h | h <;> (injection h with h1 h2; injection h2 with h3 h4; omega))
          have hm13 := hF13.1 _ _ _ (fun h => by rcases h with (h | h | h) | (h | h | h) | h | h | h <;> (injection h with h1 h2; injection h2 with h3 h4; omega)) hm0
          refine z_callVi (pc := 58) _ (c_jAdd l 0 (B 13 0) 29 n q1 hl13 (fun k hk => sh_obj (hF13.1 _ _ _ (fun h => by rcases h with (h | h | h) | (h | h | h) | h | h | h <;> (injection h with h1 h2; injection h2 with h3 h4; omega)) (hS k hk).1)) (sh_obj hq3) (by omega)) rfl hm13 rfl rfl kw_229 zc_Jx4a65c_add_9ea2d ⟨Nat.le_of_ble_eq_true rfl, Nat.le_of_ble_eq_true rfl, Nat.le_of_ble_eq_true rfl, Nat.le_of_ble_eq_true rfl⟩ rfl (Nat.le_of_ble_eq_true rfl) dX7_sheet_58 (fun v G4 hv => ?_)
          obtain ⟨-, hl4, hF4⟩ := hv
          refine z_pop (pc := 61) rfl dX7_sheet_61 ?_
          refine z_il4 (pc := 62) dX7_sheet_62 ?_
          rw [← hQx]
          refine z_iret (pc := 64) rfl ⟨Nat.le_of_ble_eq_true rfl, Nat.le_of_ble_eq_true rfl⟩ dX7_sheet_64 (⟨_, rfl, Or.inl ⟨⟨by omega, hh, hy, hv⟩, rfl, q1, kt, tt, am, hn1, hF4.1 _ _ _ (fun h => by rcases h with h | h <;> (injection h with h1 h2; injection h2 with h3 h4; omega)) hq3, hT3.keep hF4 (fun r h q => by rcases h with h | h | h <;> rcases q with q | q <;> (rw [h] at q; cases q)), hU3.keep hF4 (fun r h q => by rcases h with h | h | h <;> rcases q with q | q <;> (rw [h] at q; cases q)), hL3.keep hF4 (fun h => by rcases h with h | h <;> (injection h with h1 h2; injection h2 with h3 h4; omega)) (fun h => by rcases h with h | h <;> (injection h with h1 h2; injection h2 with h3 h4; omega)), hl4, (hF13.mono (fun r h => Or.inl h)).trans (hF4.mono (fun r h => Or.inr h))⟩⟩)
        · refine z_al0 (pc := 0) dX7_sheet_0 ?_
          refine z_get (pc := 1) 3 hO rfl iw_X7 (by decide) kw_121 rfl dX7_sheet_1 ?_
          refine z_callVr (pc := 4) (c_jSize l 0 (B 13 0) 29 n hl0) hm0 rfl rfl kw_153 zc_Jx4a65c_size_8abf5 ⟨Nat.le_of_ble_eq_true rfl, Nat.le_of_ble_eq_true rfl, Nat.le_of_ble_eq_true rfl, Nat.le_of_ble_eq_true rfl⟩ (by decide) rfl (Nat.le_of_ble_eq_true rfl) dX7_sheet_4 ?_
          refine z_is4 (pc := 7) dX7_sheet_7 (by decide) ?_
          refine z_il4 (pc := 9) dX7_sheet_9 ?_
          refine z_bipush (pc := 11) (20) (by decide) dX7_sheet_11 ?_
          refine z_icmp_ge (pc := 13) 40 dX7_sheet_13 rfl (fun c13 => absurd c13 (fun q => absurd ((nI_leI (by omega) (by omega)).mp (show nI 20 ≤ nI n from q)) (by omega))) (fun c13 => ?_)
          refine z_il1 (pc := 16) dX7_sheet_16 ?_
          refine z_callSr (pc := 17) (c_isHand l h0) kw_157 zc_X7_isHand ⟨Nat.le_of_ble_eq_true rfl, Nat.le_of_ble_eq_true rfl, Nat.le_of_ble_eq_true rfl, Nat.le_of_ble_eq_true rfl⟩ (by decide) rfl (Nat.le_of_ble_eq_true rfl) dX7_sheet_17 ?_
          refine z_ifz_eq (pc := 20) 40 dX7_sheet_20 rfl (fun c20 => absurd (hh) c20) (fun c20 => ?_)
          refine z_il2 (pc := 23) dX7_sheet_23 ?_
          refine z_sipush (pc := 24) (3000) (by decide) dX7_sheet_24 ?_
          refine z_callSr (pc := 27) (c_isWithin l y0 3000) kw_160 zc_X7_isWithin ⟨Nat.le_of_ble_eq_true rfl, Nat.le_of_ble_eq_true rfl, Nat.le_of_ble_eq_true rfl, Nat.le_of_ble_eq_true rfl⟩ (by decide) rfl (Nat.le_of_ble_eq_true rfl) dX7_sheet_27 ?_
          refine z_ifz_eq (pc := 30) 40 dX7_sheet_30 rfl (fun c30 => absurd (hy) c30) (fun c30 => ?_)
          refine z_il3 (pc := 33) dX7_sheet_33 ?_
          refine z_callSr (pc := 34) (c_isWords l v0) kw_163 zc_X7_isWords ⟨Nat.le_of_ble_eq_true rfl, Nat.le_of_ble_eq_true rfl, Nat.le_of_ble_eq_true rfl, Nat.le_of_ble_eq_true rfl⟩ (by decide) rfl (Nat.le_of_ble_eq_true rfl) dX7_sheet_34 ?_
          refine z_ifz_ne (pc := 37) 42 dX7_sheet_37 rfl (fun c37 => absurd c37 (hv)) (fun c37 => ?_)
          refine z_iconst (pc := 40) (-1) (by decide) dX7_sheet_40 ?_
          rw [← hQx]
          refine z_iret (pc := 41) rfl ⟨Nat.le_of_ble_eq_true rfl, Nat.le_of_ble_eq_true rfl⟩ dX7_sheet_41 (⟨_, rfl, Or.inr ⟨fun h => hv h.2.2.2, rfl, rfl⟩⟩)
      · refine z_al0 (pc := 0) dX7_sheet_0 ?_
        refine z_get (pc := 1) 3 hO rfl iw_X7 (by decide) kw_121 rfl dX7_sheet_1 ?_
        refine z_callVr (pc := 4) (c_jSize l 0 (B 13 0) 29 n hl0) hm0 rfl rfl kw_153 zc_Jx4a65c_size_8abf5 ⟨Nat.le_of_ble_eq_true rfl, Nat.le_of_ble_eq_true rfl, Nat.le_of_ble_eq_true rfl, Nat.le_of_ble_eq_true rfl⟩ (by decide) rfl (Nat.le_of_ble_eq_true rfl) dX7_sheet_4 ?_
        refine z_is4 (pc := 7) dX7_sheet_7 (by decide) ?_
        refine z_il4 (pc := 9) dX7_sheet_9 ?_
        refine z_bipush (pc := 11) (20) (by decide) dX7_sheet_11 ?_
        refine z_icmp_ge (pc := 13) 40 dX7_sheet_13 rfl (fun c13 => absurd c13 (fun q => absurd ((nI_leI (by omega) (by omega)).mp (show nI 20 ≤ nI n from q)) (by omega))) (fun c13 => ?_)
        refine z_il1 (pc := 16) dX7_sheet_16 ?_
        refine z_callSr (pc := 17) (c_isHand l h0) kw_157 zc_X7_isHand ⟨Nat.le_of_ble_eq_true rfl, Nat.le_of_ble_eq_true rfl, Nat.le_of_ble_eq_true rfl, Nat.le_of_ble_eq_true rfl⟩ (by decide) rfl (Nat.le_of_ble_eq_true rfl) dX7_sheet_17 ?_
        refine z_ifz_eq (pc := 20) 40 dX7_sheet_20 rfl (fun c20 => absurd (hh) c20) (fun c20 => ?_)
        refine z_il2 (pc := 23) dX7_sheet_23 ?_
        refine z_sipush (pc := 24) (3000) (by decide) dX7_sheet_24 ?_
        refine z_callSr (pc := 27) (c_isWithin l y0 3000) kw_160 zc_X7_isWithin ⟨Nat.le_of_ble_eq_true rfl, Nat.le_of_ble_eq_true rfl, Nat.le_of_ble_eq_true rfl, Nat.le_of_ble_eq_true rfl⟩ (by decide) rfl (Nat.le_of_ble_eq_true rfl) dX7_sheet_27 ?_
        refine z_ifz_eq (pc := 30) 40 dX7_sheet_30 rfl (fun c30 => ?_) (fun c30 => absurd c30 (hy))
        refine z_iconst (pc := 40) (-1) (by decide) dX7_sheet_40 ?_
        rw [← hQx]
        refine z_iret (pc := 41) rfl ⟨Nat.le_of_ble_eq_true rfl, Nat.le_of_ble_eq_true rfl⟩ dX7_sheet_41 (⟨_, rfl, Or.inr ⟨fun h => hy h.2.2.1, rfl, rfl⟩⟩)
    · refine z_al0 (pc := 0) dX7_sheet_0 ?_
      refine z_get (pc := 1) 3 hO rfl iw_X7 (by decide) kw_121 rfl dX7_sheet_1 ?_
      refine z_callVr (pc := 4) (c_jSize l 0 (B 13 0) 29 n hl0) hm0 rfl rfl kw_153 zc_Jx4a65c_size_8abf5 ⟨Nat.le_of_ble_eq_true rfl, Nat.le_of_ble_eq_true rfl, Nat.le_of_ble_eq_true rfl, Nat.le_of_ble_eq_true rfl⟩ (by decide) rfl (Nat.le_of_ble_eq_true rfl) dX7_sheet_4 ?_
      refine z_is4 (pc := 7) dX7_sheet_7 (by decide) ?_
      refine z_il4 (pc := 9) dX7_sheet_9 ?_
      refine z_bipush (pc := 11) (20) (by decide) dX7_sheet_11 ?_
      refine z_icmp_ge (pc := 13) 40 dX7_sheet_13 rfl (fun c13 => absurd c13 (fun q => absurd ((nI_leI (by omega) (by omega)).mp (show nI 20 ≤ nI n from q)) (by omega))) (fun c13 => ?_)
      refine z_il1 (pc := 16) dX7_sheet_16 ?_
      refine z_callSr (pc := 17) (c_isHand l h0) kw_157 zc_X7_isHand ⟨Nat.le_of_ble_eq_true rfl, Nat.le_of_ble_eq_true rfl, Nat.le_of_ble_eq_true rfl, Nat.le_of_ble_eq_true rfl⟩ (by decide) rfl (Nat.le_of_ble_eq_true rfl) dX7_sheet_17 ?_
      refine z_ifz_eq (pc := 20) 40 dX7_sheet_20 rfl (fun c20 => ?_) (fun c20 => absurd c20 (hh))
      refine z_iconst (pc := 40) (-1) (by decide) dX7_sheet_40 ?_
      rw [← hQx]
      refine z_iret (pc := 41) rfl ⟨Nat.le_of_ble_eq_true rfl, Nat.le_of_ble_eq_true rfl⟩ dX7_sheet_41 (⟨_, rfl, Or.inr ⟨fun h => hh h.2.1, rfl, rfl⟩⟩)
  · refine z_al0 (pc := 0) dX7_sheet_0 ?_
    refine z_get (pc := 1) 3 hO rfl iw_X7 (by decide) kw_121 rfl dX7_sheet_1 ?_
    refine z_callVr (pc := 4) (c_jSize l 0 (B 13 0) 29 n hl0) hm0 rfl rfl kw_153 zc_Jx4a65c_size_8abf5 ⟨Nat.le_of_ble_eq_true rfl, Nat.le_of_ble_eq_true rfl, Nat.le_of_ble_eq_true rfl, Nat.le_of_ble_eq_true rfl⟩ (by decide) rfl (Nat.le_of_ble_eq_true rfl) dX7_sheet_4 ?_
    refine z_is4 (pc := 7) dX7_sheet_7 (by decide) ?_
    refine z_il4 (pc := 9) dX7_sheet_9 ?_
    refine z_bipush (pc := 11) (20) (by decide) dX7_sheet_11 ?_
    refine z_icmp_ge (pc := 13) 40 dX7_sheet_13 rfl (fun c13 => ?_) (fun c13 => absurd (show nI 20 ≤ nI n from (nI_leI (by omega) (by omega)).mpr (by omega)) c13)
    refine z_iconst (pc := 40) (-1) (by decide) dX7_sheet_40 ?_
    rw [← hQx]
    refine z_iret (pc := 41) rfl ⟨Nat.le_of_ble_eq_true rfl, Nat.le_of_ble_eq_true rfl⟩ dX7_sheet_41 (⟨_, rfl, Or.inr ⟨fun h => by have := h.1; omega, rfl, rfl⟩⟩)
