/-! gathering a family -/
def gth (ar : Nat → Nat → Int32) (D : Nat → Nat → Int32) (q bar : Int32) (n a : Nat) : Nat → Nat × (Nat → Nat)
  | 0 => (0 + 1, zup (fun _ => 0) 0 a)
  | h + 1 => if h < (gth ar D q bar n a h).1 then alk ar (D ((gth ar D q bar n a h).2 h)) q bar (gth ar D q bar n a h) n else gth ar D q bar n a h
theorem gth_GT {ar : Nat → Nat → Int32} {D : Nat → Nat → Int32} {q bar : Int32} {n a : Nat} (ha : a < n) : ∀ h, GT n (gth ar D q bar n a h)
  | 0 => GT.add (x := (0, fun _ => 0)) ⟨fun g hg => absurd hg (Nat.not_lt_zero _), fun g h hg => absurd hg (Nat.not_lt_zero _)⟩ ha (fun ⟨g, hg, _⟩ => absurd hg (Nat.not_lt_zero _))
  | h + 1 => by
    have ih := gth_GT (ar := ar) (D := D) (q := q) (bar := bar) ha h
    unfold gth
    split
    · exact alk_GT ih n (Nat.le_refl _)
    · exact ih
theorem gth_stop {ar : Nat → Nat → Int32} {D : Nat → Nat → Int32} {q bar : Int32} {n a h : Nat} (hs : ¬ h < (gth ar D q bar n a h).1) : ∀ d, gth ar D q bar n a (h + d) = gth ar D q bar n a h
  | 0 => rfl
  | d + 1 => by
    have ih := gth_stop hs d
    show (if h + d < (gth ar D q bar n a (h + d)).1 then _ else gth ar D q bar n a (h + d)) = _
    rw [if_neg (by rw [ih]; omega), ih]
theorem KF.tn {κ : zK} {G G2 : zH} {B : Nat → Nat → Nat} {m0 : Nat} {es : Nat → Nat} (h : zLs κ G 2 (B 13 2) 29 m0 es) (hF : zFP isTn G G2) : zLs κ G2 2 (B 13 2) 29 m0 es := zLs.keep h hF (fun q => by have := q.2; simp only at this; omega) (fun q => by have := q.2; simp only at this; omega)
theorem ga_2 {G G2 : zH} (h : zFP isGa G G2) : zFP is2 G G2 := h.mono (fun r q => by rcases q with q | q | q; exact q.1; rw [q]; rw [q])
theorem fl_2 {G G2 : zH} (h : zFL 2 G G2) : zFP is2 G G2 := h.mono (fun r q => by rcases q with q | q <;> rw [q])
theorem HQ.to {κ : zK} {G G1 G2 : zH} {B : Nat → Nat → Nat} {n c d w : Nat} {ln : Nat → Nat} {fo nt : Int32} {ar : Nat → Nat → Int32} {rb : Nat → Int32} (h0 : zFP is2 G G1) (h : HQ κ G1 G2 B n c d w ln fo nt ar rb) : HQ κ G G2 B n c d w ln fo nt ar rb := by
  obtain ⟨kl2, ep2, kp2, kb2, iK2, sm2, ky2, h1, h2, h3, h4⟩ := h
  exact ⟨kl2, ep2, kp2, kb2, iK2, sm2, ky2, h1, h2, h3, h0.trans h4⟩
set_option maxRecDepth 100000 in
set_option maxHeartbeats 400000 in
theorem c_hGather (l : Launch) {κ : zK} {G : zH} {B : Nat → Nat → Nat} {n c d w : Nat} {ln kl ep : Nat → Nat} {fo nt : Int32} {ar : Nat → Nat → Int32} {rb : Nat → Int32} {kp kb : Nat → Nat → Int32} {iK sm ky : Nat → Int32} (a0 bar q : Int32) (D : Nat → Nat → Int32) (hR : RC κ G B n c d w ln fo nt ar rb kl ep kp kb iK sm ky) (hT : TD n c d w ln fo nt ar rb) (hK : KN ar n c ln kl ep kp kb) (hC : CH ar n kl kp kb iK sm ky) (hDD : ∀ a b, a < n → b < n → sD ar c ln q a b = D a b) : Ct l yX7_gather cX7_gather 6 (some FieldType.boolean) (rmK 8 401 11629 216) κ [.ref (B 0 0), .int a0, .int bar, .int q] G (pI (fun r G2 => (((okA n w ar a0 q ∧ 0 ≤ bar ∧ bar ≤ 10000) ∧ r = 1 ∧ KF κ G2 B (gth ar D q bar n (iN a0) 20) ∧ GT n (gth ar D q bar n (iN a0) 20)) ∨ (¬ (okA n w ar a0 q ∧ 0 ≤ bar ∧ bar ≤ 10000) ∧ r = 0)) ∧ HQ κ G G2 B n c d w ln fo nt ar rb)) := by
  refine Ct.of (by decide +kernel) (fun v hv => by
    simp only [List.mem_cons, List.mem_nil_iff, or_false, List.not_mem_nil] at hv
    rcases hv with rfl | rfl | rfl | rfl <;> rfl) (Nat.le_of_ble_eq_true rfl) ?_
  intro p e s m args below meth cC
  refine z_L (L' := [some (.ref (B 0 0)), some (.int a0), some (.int bar), some (.int q), none, none]) rfl ?_
  generalize hQx : MQ below (zQc κ _) args s _ _ (zA κ) = Qx
  have hn20 := hT.1
  obtain ⟨hO, hP, ⟨cols, key, f0, f1, f2, S, hA⟩, hLK, hl0, hl1, ⟨k2, es2, hl2⟩, hS, hCo, hPr⟩ := id hR
  obtain ⟨mc2, ea2, hm2, -⟩ := id hl2
  by_cases hk : okA n w ar a0 q
  · have hla := iN_lt hk.1 (show n < 2 ^ 31 by omega)
    by_cases hm : 0 ≤ bar ∧ bar ≤ 10000
    · skip
      refine z_al0 (pc := 0) dX7_gather_0 ?_
      refine z_get (pc := 1) 5 hO rfl iw_X7 (by decide) kw_123 rfl dX7_gather_1 ?_
      refine z_callVv (pc := 4) _ (c_jClear l 2 (B 13 2) 29 k2 hl2 (by omega)) rfl hm2 rfl rfl kw_551 zc_Jx4a65c_clear_da8c8 (by decide) rfl (Nat.le_of_ble_eq_true rfl) dX7_gather_4 (fun G1 hv => ?_)
      have hR0 := hR
      have hR := hR0.ki hv.2 ⟨_, _, hv.1⟩
      have hO := hR.1
      have hF1 := fl_2 hv.2
      have hX0 := hv.1
      refine z_al0 (pc := 7) dX7_gather_7 ?_
      refine z_il1 (pc := 8) dX7_gather_8 ?_
      refine z_il3 (pc := 9) dX7_gather_9 ?_
      refine z_callVrq (pc := 10) (c_ftY l a0 q hR hn20 hk) hO rfl rfl kw_555 zc_X7_findTrue (by decide) (by decide) rfl (Nat.le_of_ble_eq_true rfl) dX7_gather_10 ?_
      refine z_as4 (pc := 13) dX7_gather_13 (by decide) ?_
      refine z_al4 (pc := 15) dX7_gather_15 ?_
      refine z_ifnullR (pc := 17) dX7_gather_17 ?_
      refine z_il2 (pc := 20) dX7_gather_20 ?_
      refine z_sipush (pc := 21) (10000) (by decide) dX7_gather_21 ?_
      refine z_callSr (pc := 24) (c_isWithin l bar 10000) kw_160 zc_X7_isWithin (by decide) (by decide) rfl (Nat.le_of_ble_eq_true rfl) dX7_gather_24 ?_
      refine z_ifz_ne (pc := 27) 32 dX7_gather_27 rfl (fun c27 => ?_) (fun c27 => absurd (hm) c27)
      refine z_al0 (pc := 32) dX7_gather_32 ?_
      refine z_il3 (pc := 33) dX7_gather_33 ?_
      refine z_callVv (pc := 34) _ (c_hTurn l q hR hT hK hC) rfl hO rfl rfl kw_437 zc_X7_turnTo (by decide) rfl (Nat.le_of_ble_eq_true rfl) dX7_gather_34 (fun G2 hv => ?_)
      obtain ⟨kl2, ep2, kp2, kb2, iK2, hR2, hK2, hC2, hq2, hF2⟩ := hv
      obtain ⟨hO2, hP2, hA2, hLK2, -, -, -, hS2, -, -⟩ := id hR2
      have hO := hO2
      have hX2 := KF.tn hX0 hF2
      obtain ⟨mc2, ea2, hm2, -⟩ := id hX2
      have lp : ∀ (fu h : Nat) (G3 : zH) (iK3 sm3 ky3 : Nat → Int32), h + fu = 20 → RC κ G3 B n c d w ln fo nt ar rb kl2 ep2 kp2 kb2 iK3 sm3 ky3 → CH ar n kl2 kp2 kb2 iK3 sm3 ky3 → KF κ G3 B (gth ar D q bar n (iN a0) h) → zFP isGa G2 G3 → Z p l e (rmK 8 401 11629 216) s m args below meth cC yX7_gather cX7_gather 6 (some FieldType.boolean) κ Qx (1 + 20 * h) (29 + 580 * h) G3 [some (.ref (B 0 0)), some (.int a0), some (.int bar), some (.int q), some (.ref (B 15 (iN a0))), some (.int (nI h))] 50 [] := by
        intro fu
        induction fu with
        | zero =>
          intro h G3 iK3 sm3 ky3 hh hR3 hC3 hX3 hF3
          obtain ⟨hO, -, -, hLK, hl0, -, -, hS, -, -⟩ := id hR3
          obtain ⟨mc2, ea2, hm2, -⟩ := id hX3
          refine z_il5 (pc := 50) dX7_gather_50 ?_
          refine z_bipush (pc := 52) (20) (by decide) dX7_gather_52 ?_
          refine z_icmp_ge (pc := 54) 93 dX7_gather_54 rfl (fun c54 => ?_) (fun c54 => absurd (show nI 20 ≤ nI h from by rw [nI_leI (by omega) (by omega)]; omega) c54)
          refine z_iconst (pc := 93) (1) (by decide) dX7_gather_93 ?_
          rw [← hQx]
          refine z_zret (pc := 94) rfl rfl ⟨by show 1 + 20 * h ≤ 401; omega, by show 29 + 580 * h ≤ 11629; omega⟩ dX7_gather_94 (⟨_, rfl, Or.inl ⟨⟨hk, hm⟩, rfl, (by rw [show 20 = h by omega]; exact hX3), gth_GT hla 20⟩, kl2, ep2, kp2, kb2, iK3, sm3, ky3, hR3, hK2, hC3, (hF1.trans (tn_2 hF2)).trans (ga_2 hF3)⟩)
        | succ fu ih =>
          intro h G3 iK3 sm3 ky3 hh hR3 hC3 hX3 hF3
          obtain ⟨hO, -, -, hLK, hl0, -, -, hS, -, -⟩ := id hR3
          obtain ⟨mc2, ea2, hm2, -⟩ := id hX3
          have hgx := gth_GT (ar := ar) (D := D) (q := q) (bar := bar) hla h
          have hpg := pig n _ _ hgx.1 hgx.2
          by_cases hlt : h < (gth ar D q bar n (iN a0) h).1
          · have hxh := hgx.1 h hlt
            refine z_il5 (pc := 50) dX7_gather_50 ?_
            refine z_bipush (pc := 52) (20) (by decide) dX7_gather_52 ?_
            refine z_icmp_ge (pc := 54) 93 dX7_gather_54 rfl (fun c54 => absurd c54 (show ¬ nI 20 ≤ nI h from by rw [nI_leI (by omega) (by omega)]; omega)) (fun c54 => ?_)
            refine z_il5 (pc := 57) dX7_gather_57 ?_
            refine z_al0 (pc := 59) dX7_gather_59 ?_
            refine z_get (pc := 60) 5 hO rfl iw_X7 (by decide) kw_123 rfl dX7_gather_60 ?_
            refine z_callVr (pc := 63) (c_jSize l 2 (B 13 2) 29 (gth ar D q bar n (iN a0) h).1 hX3) hm2 rfl rfl kw_153 zc_Jx4a65c_size_8abf5 ⟨Nat.le_of_ble_eq_true rfl, Nat.le_of_ble_eq_true rfl, by show (1 + 20 * h) + 0 ≤ 401; omega, by show (29 + 580 * h) + 0 ≤ 11629; omega⟩ (by decide) rfl (Nat.le_of_ble_eq_true rfl) dX7_gather_63 ?_
            refine z_icmp_ge (pc := 66) 93 dX7_gather_66 rfl (fun c66 => absurd c66 (by rw [nI_leI (by omega) (by omega)]; omega)) (fun c66 => ?_)
            refine z_al0 (pc := 69) dX7_gather_69 ?_
            refine z_al0 (pc := 70) dX7_gather_70 ?_
            refine z_get (pc := 71) 5 hO rfl iw_X7 (by decide) kw_123 rfl dX7_gather_71 ?_
            refine z_il5 (pc := 74) dX7_gather_74 ?_
            skip
            refine z_callVrq (pc := 76) (c_jGet l 2 (B 13 2) 29 (gth ar D q bar n (iN a0) h).1 h hX3 hlt (by omega)) hm2 rfl rfl kw_295 zc_Jx4a65c_get_915e3 ⟨Nat.le_of_ble_eq_true rfl, Nat.le_of_ble_eq_true rfl, by show (1 + 20 * h) + 0 ≤ 401; omega, by show (29 + 580 * h) + 0 ≤ 11629; omega⟩ (by decide) rfl (Nat.le_of_ble_eq_true rfl) dX7_gather_76 ?_
            refine z_castS (pc := 79) (hS _ hxh).1 rfl kw_166 dX7_gather_79 ?_
            refine z_il2 (pc := 82) dX7_gather_82 ?_
            refine z_il3 (pc := 83) dX7_gather_83 ?_
            refine z_callVv (pc := 84) _ (c_hAddL l ((gth ar D q bar n (iN a0) h).2 h) q bar (D ((gth ar D q bar n (iN a0) h).2 h)) (gth ar D q bar n (iN a0) h) hR3 hT hK2 hC3 (fun b hb => by rw [KDq hK2 hT hq2 hxh hb]; exact hDD _ b hxh hb) hxh hX3 hgx) rfl hO rfl rfl kw_559 zc_X7_addLinked ⟨Nat.le_of_ble_eq_true rfl, Nat.le_of_ble_eq_true rfl, by show (1 + 20 * h) + 20 ≤ 401; omega, by show (29 + 580 * h) + 580 ≤ 11629; omega⟩ rfl (Nat.le_of_ble_eq_true rfl) dX7_gather_84 (fun G4 hv => ?_)
            obtain ⟨hX4, iK4, sm4, ky4, hR4, hC4, hF4⟩ := hv
            refine z_ii5 (pc := 87) (nI (h + 1)) dX7_gather_87 (nI_1 _) (by decide) ?_
            refine z_goto (pc := 90) 50 dX7_gather_90 rfl ?_
            refine z_L rfl ?_
            exact ih (h + 1) G4 iK4 sm4 ky4 (by omega) hR4 hC4 (by unfold gth; rw [if_pos hlt]; exact hX4) (hF3.trans hF4)
          · refine z_il5 (pc := 50) dX7_gather_50 ?_
            refine z_bipush (pc := 52) (20) (by decide) dX7_gather_52 ?_
            refine z_icmp_ge (pc := 54) 93 dX7_gather_54 rfl (fun c54 => absurd c54 (show ¬ nI 20 ≤ nI h from by rw [nI_leI (by omega) (by omega)]; omega)) (fun c54 => ?_)
            refine z_il5 (pc := 57) dX7_gather_57 ?_
            refine z_al0 (pc := 59) dX7_gather_59 ?_
            refine z_get (pc := 60) 5 hO rfl iw_X7 (by decide) kw_123 rfl dX7_gather_60 ?_
            refine z_callVr (pc := 63) (c_jSize l 2 (B 13 2) 29 (gth ar D q bar n (iN a0) h).1 hX3) hm2 rfl rfl kw_153 zc_Jx4a65c_size_8abf5 ⟨Nat.le_of_ble_eq_true rfl, Nat.le_of_ble_eq_true rfl, by show (1 + 20 * h) + 0 ≤ 401; omega, by show (29 + 580 * h) + 0 ≤ 11629; omega⟩ (by decide) rfl (Nat.le_of_ble_eq_true rfl) dX7_gather_63 ?_
            refine z_icmp_ge (pc := 66) 93 dX7_gather_66 rfl (fun c66 => ?_) (fun c66 => absurd (by rw [nI_leI (by omega) (by omega)]; omega) c66)
            refine z_iconst (pc := 93) (1) (by decide) dX7_gather_93 ?_
            rw [← hQx]
            refine z_zret (pc := 94) rfl rfl ⟨by show 1 + 20 * h ≤ 401; omega, by show 29 + 580 * h ≤ 11629; omega⟩ dX7_gather_94 (⟨_, rfl, Or.inl ⟨⟨hk, hm⟩, rfl, (by have e := gth_stop hlt (20 - h); rw [show h + (20 - h) = 20 by omega] at e; rw [e]; exact hX3), gth_GT hla 20⟩, kl2, ep2, kp2, kb2, iK3, sm3, ky3, hR3, hK2, hC3, (hF1.trans (tn_2 hF2)).trans (ga_2 hF3)⟩)
      refine z_al0 (pc := 37) dX7_gather_37 ?_
      refine z_get (pc := 38) 5 hO rfl iw_X7 (by decide) kw_123 rfl dX7_gather_38 ?_
      refine z_al4 (pc := 41) dX7_gather_41 ?_
      refine z_callVi (pc := 43) _ (c_jAdd l 2 (B 13 2) 29 0 (B 15 (iN a0)) (hX2.congr (es2 := fun g => B 15 ((fun _ => 0) g)) (fun g hg => absurd hg (by omega))) (fun g hg => absurd hg (by omega)) (sh_obj (hS2 _ hla).1) (by omega)) rfl hm2 rfl rfl kw_229 zc_Jx4a65c_add_9ea2d ⟨Nat.le_of_ble_eq_true rfl, Nat.le_of_ble_eq_true rfl, by show 0 + 1 ≤ 401; omega, by show 0 + 29 ≤ 11629; omega⟩ rfl (Nat.le_of_ble_eq_true rfl) dX7_gather_43 (fun v G5 hv5 => ?_)
      refine z_pop (pc := 46) rfl dX7_gather_46 ?_
      refine z_iconst (pc := 47) (0) (by decide) dX7_gather_47 ?_
      refine z_is5 (pc := 48) dX7_gather_48 (by decide) ?_
      refine z_L (L' := [some (.ref (B 0 0)), some (.int a0), some (.int bar), some (.int q), some (.ref (B 15 (iN a0))), some (.int (nI 0))]) rfl ?_
      exact lp 20 0 G5 iK2 sm ky (by omega) (hR2.ki hv5.2.2 ⟨_, _, hv5.2.1⟩) hC2 (KF.up hv5.2.1) (hv5.2.2.mono (fun r h => Or.inr h))
    · refine z_al0 (pc := 0) dX7_gather_0 ?_
      refine z_get (pc := 1) 5 hO rfl iw_X7 (by decide) kw_123 rfl dX7_gather_1 ?_
      refine z_callVv (pc := 4) _ (c_jClear l 2 (B 13 2) 29 k2 hl2 (by omega)) rfl hm2 rfl rfl kw_551 zc_Jx4a65c_clear_da8c8 (by decide) rfl (Nat.le_of_ble_eq_true rfl) dX7_gather_4 (fun G1 hv => ?_)
      have hR0 := hR
      have hR := hR0.ki hv.2 ⟨_, _, hv.1⟩
      have hO := hR.1
      have hF1 := fl_2 hv.2
      have hX0 := hv.1
      refine z_al0 (pc := 7) dX7_gather_7 ?_
      refine z_il1 (pc := 8) dX7_gather_8 ?_
      refine z_il3 (pc := 9) dX7_gather_9 ?_
      refine z_callVrq (pc := 10) (c_ftY l a0 q hR hn20 hk) hO rfl rfl kw_555 zc_X7_findTrue (by decide) (by decide) rfl (Nat.le_of_ble_eq_true rfl) dX7_gather_10 ?_
      refine z_as4 (pc := 13) dX7_gather_13 (by decide) ?_
      refine z_al4 (pc := 15) dX7_gather_15 ?_
      refine z_ifnullR (pc := 17) dX7_gather_17 ?_
      refine z_il2 (pc := 20) dX7_gather_20 ?_
      refine z_sipush (pc := 21) (10000) (by decide) dX7_gather_21 ?_
      refine z_callSr (pc := 24) (c_isWithin l bar 10000) kw_160 zc_X7_isWithin (by decide) (by decide) rfl (Nat.le_of_ble_eq_true rfl) dX7_gather_24 ?_
      refine z_ifz_ne (pc := 27) 32 dX7_gather_27 rfl (fun c27 => absurd c27 (hm)) (fun c27 => ?_)
      refine z_iconst (pc := 30) (0) (by decide) dX7_gather_30 ?_
      rw [← hQx]
      refine z_zret (pc := 31) rfl rfl (by decide) dX7_gather_31 (⟨_, rfl, Or.inr ⟨fun h => hm h.2, rfl⟩, HQ.to hF1 (HQ.rf hR hT hK hC)⟩)
  · refine z_al0 (pc := 0) dX7_gather_0 ?_
    refine z_get (pc := 1) 5 hO rfl iw_X7 (by decide) kw_123 rfl dX7_gather_1 ?_
    refine z_callVv (pc := 4) _ (c_jClear l 2 (B 13 2) 29 k2 hl2 (by omega)) rfl hm2 rfl rfl kw_551 zc_Jx4a65c_clear_da8c8 (by decide) rfl (Nat.le_of_ble_eq_true rfl) dX7_gather_4 (fun G1 hv => ?_)
    have hR0 := hR
    have hR := hR0.ki hv.2 ⟨_, _, hv.1⟩
    have hO := hR.1
    have hF1 := fl_2 hv.2
    have hX0 := hv.1
    refine z_al0 (pc := 7) dX7_gather_7 ?_
    refine z_il1 (pc := 8) dX7_gather_8 ?_
    refine z_il3 (pc := 9) dX7_gather_9 ?_
    refine z_callVrq (pc := 10) (c_ftN l a0 q hR hn20 hk) hO rfl rfl kw_555 zc_X7_findTrue (by decide) (by decide) rfl (Nat.le_of_ble_eq_true rfl) dX7_gather_10 ?_
    refine z_as4N (pc := 13) dX7_gather_13 (by decide) ?_
    refine z_al4N (pc := 15) dX7_gather_15 ?_
    refine z_ifnullN (pc := 17) 30 dX7_gather_17 rfl ?_
    refine z_iconst (pc := 30) (0) (by decide) dX7_gather_30 ?_
    rw [← hQx]
    refine z_zret (pc := 31) rfl rfl (by decide) dX7_gather_31 (⟨_, rfl, Or.inr ⟨fun h => hk h.1, rfl⟩, HQ.to hF1 (HQ.rf hR hT hK hC)⟩)
