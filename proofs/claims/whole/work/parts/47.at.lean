/-! at, where it answers -/
abbrev rX7_at : Room := rmK 6 0 0 133
set_option maxRecDepth 100000 in
set_option maxHeartbeats 400000 in
theorem c_hAt (l : Launch) {κ : zK} {G : zH} {B : Nat → Nat → Nat} {n c d w : Nat} {ln kl ep : Nat → Nat} {fo nt : Int32} {ar : Nat → Nat → Int32} {rb : Nat → Int32} {kp kb : Nat → Nat → Int32} {iK sm ky : Nat → Int32} (s0 i0 q what : Int32) (hR : RC κ G B n c d w ln fo nt ar rb kl ep kp kb iK sm ky) (hT : TD n c d w ln fo nt ar rb) (hK : KN ar n c ln kl ep kp kb) (hC : CH ar n kl kp kb iK sm ky) (hok : okAt n w ln s0 i0 q what) : Ct l yX7_at cX7_at 6 (some FieldType.int) rX7_at κ [.ref (B 0 0), .int s0, .int i0, .int q, .int what] G (pI (fun r G2 => r = (if what = 0 then kn ar (iN s0) (iN i0) q false c else kn ar (iN s0) (iN i0) q true c) ∧ HQ κ G G2 B n c d w ln fo nt ar rb)) := by
  refine Ct.of (by decide +kernel) (fun v hv => by
    simp only [List.mem_cons, List.mem_nil_iff, or_false, List.not_mem_nil] at hv
    rcases hv with rfl | rfl | rfl | rfl | rfl <;> rfl) (Nat.le_of_ble_eq_true rfl) ?_
  intro p e s m args below meth cC
  refine z_L (L' := [some (.ref (B 0 0)), some (.int s0), some (.int i0), some (.int q), some (.int what), none]) rfl ?_
  generalize hQx : MQ below (zQc κ _) args s _ _ (zA κ) = Qx
  have hn20 := hT.1
  have hn := hT.1
  obtain ⟨hO, hP, ⟨cols, key, f0, f1, f2, S, hA⟩, hLK, hl0, hl1, ⟨k2, es2, hl2⟩, hS, hCo, hPr⟩ := id hR
  obtain ⟨hs, hi, hq, hw⟩ := hok
  have hla := iN_lt hs (show n < 2 ^ 31 by omega)
  have hsh := (hS _ hla).1
  obtain ⟨tp, tb, hd, htd⟩ := (hS _ hla).2.2.1
  have h24 := hT.2.2.2.2.1 _ hla
  refine z_al0 (pc := 0) dX7_at_0 ?_
  refine z_il1 (pc := 1) dX7_at_1 ?_
  refine z_callVrq (pc := 2) (c_findY l s0 hR hn hs) hO rfl rfl kw_291 zc_X7_find (by decide) (by decide) rfl (Nat.le_of_ble_eq_true rfl) dX7_at_2 ?_
  refine z_as5 (pc := 5) dX7_at_5 (by decide) ?_
  refine z_al5 (pc := 7) dX7_at_7 ?_
  refine z_ifnullR (pc := 9) dX7_at_9 ?_
  refine z_al5 (pc := 12) dX7_at_12 ?_
  refine z_il2 (pc := 14) dX7_at_14 ?_
  refine z_callVr (pc := 15) (c_sHas l (iN s0) (ln (iN s0)) i0 hsh hd) hsh rfl rfl kw_340 zc_X5_has (by decide) (by decide) rfl (Nat.le_of_ble_eq_true rfl) dX7_at_15 ?_
  refine z_ifz_eq (pc := 18) 38 dX7_at_18 rfl (fun c18 => absurd (hi) c18) (fun c18 => ?_)
  refine z_al0 (pc := 21) dX7_at_21 ?_
  refine z_il3 (pc := 22) dX7_at_22 ?_
  refine z_callVr (pc := 23) (c_isDay l q hR) hO rfl rfl kw_433 zc_X7_isDay (by decide) (by decide) rfl (Nat.le_of_ble_eq_true rfl) dX7_at_23 ?_
  refine z_ifz_eq (pc := 26) 38 dX7_at_26 rfl (fun c26 => absurd (hq) c26) (fun c26 => ?_)
  refine z_il4 (pc := 29) dX7_at_29 ?_
  refine z_iconst (pc := 31) (1) (by decide) dX7_at_31 ?_
  refine z_callSr (pc := 32) (c_isWithin l what 1) kw_160 zc_X7_isWithin (by decide) (by decide) rfl (Nat.le_of_ble_eq_true rfl) dX7_at_32 ?_
  refine z_ifz_ne (pc := 35) 46 dX7_at_35 rfl (fun c35 => ?_) (fun c35 => absurd (hw) c35)
  refine z_al0 (pc := 46) dX7_at_46 ?_
  refine z_il3 (pc := 47) dX7_at_47 ?_
  refine z_callVv (pc := 48) _ (c_hTurn l q hR hT hK hC) rfl hO rfl rfl kw_437 zc_X7_turnTo (by decide) rfl (Nat.le_of_ble_eq_true rfl) dX7_at_48 (fun G2 hv => ?_)
  obtain ⟨kl2, ep2, kp2, kb2, iK2, hR2, hK2, hC2, hq2, hF2⟩ := hv
  obtain ⟨hO2, -, -, -, -, -, -, hS2, -, -⟩ := id hR2
  have hsh2 := (hS2 _ hla).1
  have hk2 := (hS2 _ hla).2.1
  obtain ⟨ka_, kb_, hk1, -⟩ := id hk2
  obtain ⟨g, rfl, hg⟩ := ix_in hi.1 hi.2 (by omega)
  have hkn := kp_kn hK2 hT hq2 hla hg
  have hkl := (hq2 _ hla).1
  refine z_il4 (pc := 51) dX7_at_51 ?_
  refine z_if_ne (pc := 53) 68 dX7_at_53 rfl (fun c53 => ?_) (fun c53 => ?_)
  · clear hsh; have hsh := hsh2
    refine z_al5 (pc := 68) dX7_at_68 ?_
    refine z_get (pc := 70) 4 hsh rfl iw_X5 (by decide) kw_205 rfl dX7_at_70 ?_
    refine z_il2 (pc := 73) dX7_at_73 ?_
    refine z_callVr (pc := 74) (c_tBeats l (2 * iN s0) (kl2 (iN s0)) (nI g) hk2) hk1 rfl rfl kw_716 zc_X6_beatsAt (by decide) (by decide) rfl (Nat.le_of_ble_eq_true rfl) dX7_at_74 ?_
    rw [← hQx]
    refine z_iret (pc := 77) rfl (by decide) dX7_at_77 (⟨_, rfl, by rw [iN_nI (by omega)]; rw [if_neg c53, hkl, pAt_n hg h24]; exact hkn.2, kl2, ep2, kp2, kb2, iK2, sm, ky, hR2, hK2, hC2, tn_2 hF2⟩)
  · clear hsh; have hsh := hsh2
    refine z_al5 (pc := 56) dX7_at_56 ?_
    refine z_get (pc := 58) 4 hsh rfl iw_X5 (by decide) kw_205 rfl dX7_at_58 ?_
    refine z_il2 (pc := 61) dX7_at_61 ?_
    refine z_callVr (pc := 62) (c_tPitch l (2 * iN s0) (kl2 (iN s0)) (nI g) hk2) hk1 rfl rfl kw_715 zc_X6_pitchAt (by decide) (by decide) rfl (Nat.le_of_ble_eq_true rfl) dX7_at_62 ?_
    refine z_goto (pc := 65) 77 dX7_at_65 rfl ?_
    rw [← hQx]
    refine z_iret (pc := 77) rfl (by decide) dX7_at_77 (⟨_, rfl, by rw [iN_nI (by omega)]; rw [if_pos c53, hkl, pAt_n hg h24]; exact hkn.1, kl2, ep2, kp2, kb2, iK2, sm, ky, hR2, hK2, hC2, tn_2 hF2⟩)
