/-! adding who is linked -/
abbrev isGa (r : zR) : Prop := isLk r ∨ r = (2, 13, 2) ∨ r = (2, 14, 2)
theorem sh_obj {G : zH} {t i : Nat} {ha ye wo : Int32} {kt tt am : Nat} {ap fg : Int32} (h : zSH G t i ha ye wo kt tt am ap fg) : zObj G t := ⟨_, _, _, _, h, rfl, kn_1001, by simp, by simp⟩
theorem KF.lk {κ : zK} {G G2 : zH} {B : Nat → Nat → Nat} {x : Nat × (Nat → Nat)} (h : KF κ G B x) (hF : zFP isLk G G2) : KF κ G2 B x := zLs.keep h hF (fun q => by have := q.2.2; simp only at this; omega) (fun q => by have := q.2.2; simp only at this; omega)
theorem alk_s {ar : Nat → Nat → Int32} {D : Nat → Int32} {q bar : Int32} {x : Nat × (Nat → Nat)} {i : Nat} : alk ar D q bar x (i + 1) = if ¬ frg ar i q ∧ (¬ ∃ g, g < (alk ar D q bar x i).1 ∧ (alk ar D q bar x i).2 g = i) ∧ D i ≤ bar then ((alk ar D q bar x i).1 + 1, zup (alk ar D q bar x i).2 (alk ar D q bar x i).1 i) else alk ar D q bar x i := rfl
theorem KF.up {κ : zK} {G : zH} {B : Nat → Nat → Nat} {m0 i : Nat} {f : Nat → Nat} (h : zLs κ G 2 (B 13 2) 29 (m0 + 1) (zup (fun g => B 15 (f g)) m0 (B 15 i))) : KF κ G B (m0 + 1, zup f m0 i) := h.congr (fun g hg => by
  show (if g = m0 then _ else _) = B 15 (if g = m0 then _ else _)
  split <;> rfl)
set_option maxRecDepth 100000 in
set_option maxHeartbeats 400000 in
theorem c_hAddL (l : Launch) {κ : zK} {G : zH} {B : Nat → Nat → Nat} {n c d w : Nat} {ln kl ep : Nat → Nat} {fo nt : Int32} {ar : Nat → Nat → Int32} {rb : Nat → Int32} {kp kb : Nat → Nat → Int32} {iK sm ky : Nat → Int32} (a : Nat) (q bar : Int32) (D : Nat → Int32) (x : Nat × (Nat → Nat)) (hR : RC κ G B n c d w ln fo nt ar rb kl ep kp kb iK sm ky) (hT : TD n c d w ln fo nt ar rb) (hK : KN ar n c ln kl ep kp kb) (hC : CH ar n kl kp kb iK sm ky) (hD : ∀ k, k < n → (KD ar kl kp kb a k).1 = D k) (ha : a < n) (hX : KF κ G B x) (hx : GT n x) : Ct l yX7_addLinked cX7_addLinked 6 none (rmK 7 20 580 191) κ [.ref (B 0 0), .ref (B 15 a), .int bar, .int q] G (pV (fun G2 => KF κ G2 B (alk ar D q bar x n) ∧ ∃ iK2 sm2 ky2, RC κ G2 B n c d w ln fo nt ar rb kl ep kp kb iK2 sm2 ky2 ∧ CH ar n kl kp kb iK2 sm2 ky2 ∧ zFP isGa G G2)) := by
  refine Ct.of (by decide +kernel) (fun v hv => by
    simp only [List.mem_cons, List.mem_nil_iff, or_false, List.not_mem_nil] at hv
    rcases hv with rfl | rfl | rfl | rfl <;> rfl) (Nat.le_of_ble_eq_true rfl) ?_
  intro p e s m args below meth cC
  refine z_L (L' := [some (.ref (B 0 0)), some (.ref (B 15 a)), some (.int bar), some (.int q), none, none]) rfl ?_
  generalize hQx : MQ below (zQc κ _) args s _ _ (zA κ) = Qx
  have hn20 := hT.1
  have lp : ∀ (fu i : Nat) (G2 : zH) (iK2 sm2 ky2 : Nat → Int32) (q5 : Option Value), i + fu = n → RC κ G2 B n c d w ln fo nt ar rb kl ep kp kb iK2 sm2 ky2 → CH ar n kl kp kb iK2 sm2 ky2 → KF κ G2 B (alk ar D q bar x i) → zFP isGa G G2 → Z p l e (rmK 7 20 580 191) s m args below meth cC yX7_addLinked cX7_addLinked 6 none κ Qx i (29 * i) G2 [some (.ref (B 0 0)), some (.ref (B 15 a)), some (.int bar), some (.int q), some (.int (nI i)), q5] 3 [] := by
    intro fu
    induction fu with
    | zero =>
      intro i G2 iK2 sm2 ky2 q5 hi hR hC hX hF
      obtain ⟨hO, hP, hA, hLK, hl0, hl1, -, hS, hCo, hPr⟩ := id hR
      obtain ⟨mc0, ea0, hm0, -⟩ := id hl0
      refine z_il4 (pc := 3) dX7_addLinked_3 ?_
      refine z_al0 (pc := 5) dX7_addLinked_5 ?_
      refine z_get (pc := 6) 3 hO rfl iw_X7 (by decide) kw_121 rfl dX7_addLinked_6 ?_
      refine z_callVr (pc := 9) (c_jSize l 0 (B 13 0) 29 n hl0) hm0 rfl rfl kw_153 zc_Jx4a65c_size_8abf5 ⟨Nat.le_of_ble_eq_true rfl, Nat.le_of_ble_eq_true rfl, by show i + 0 ≤ 20; omega, by show 29 * i + 0 ≤ 580; omega⟩ (by decide) rfl (Nat.le_of_ble_eq_true rfl) dX7_addLinked_9 ?_
      refine z_icmp_ge (pc := 12) 77 dX7_addLinked_12 rfl (fun c12 => ?_) (fun c12 => absurd (by rw [nI_leI (by omega) (by omega)]; omega) c12)
      rw [← hQx]
      refine z_vret (pc := 77) rfl ⟨by show i ≤ 20; omega, by show 29 * i ≤ 580; omega⟩ dX7_addLinked_77 (⟨rfl, by rw [show n = i by omega]; exact hX, iK2, sm2, ky2, hR, hC, hF⟩)
    | succ fu ih =>
      intro i G2 iK2 sm2 ky2 q5 hi hR hC hX hF
      obtain ⟨hO, hP, hA, hLK, hl0, hl1, -, hS, hCo, hPr⟩ := id hR
      obtain ⟨mc0, ea0, hm0, -⟩ := id hl0
      have hin : i < n := by omega
      have hgi := alk_GT (ar := ar) (D := D) (q := q) (bar := bar) hx i (by omega)
      refine z_il4 (pc := 3) dX7_addLinked_3 ?_
      refine z_al0 (pc := 5) dX7_addLinked_5 ?_
      refine z_get (pc := 6) 3 hO rfl iw_X7 (by decide) kw_121 rfl dX7_addLinked_6 ?_
      refine z_callVr (pc := 9) (c_jSize l 0 (B 13 0) 29 n hl0) hm0 rfl rfl kw_153 zc_Jx4a65c_size_8abf5 ⟨Nat.le_of_ble_eq_true rfl, Nat.le_of_ble_eq_true rfl, by show i + 0 ≤ 20; omega, by show 29 * i + 0 ≤ 580; omega⟩ (by decide) rfl (Nat.le_of_ble_eq_true rfl) dX7_addLinked_9 ?_
      refine z_icmp_ge (pc := 12) 77 dX7_addLinked_12 rfl (fun c12 => absurd c12 (by rw [nI_leI (by omega) (by omega)]; omega)) (fun c12 => ?_)
      refine z_al0 (pc := 15) dX7_addLinked_15 ?_
      refine z_get (pc := 16) 3 hO rfl iw_X7 (by decide) kw_121 rfl dX7_addLinked_16 ?_
      refine z_il4 (pc := 19) dX7_addLinked_19 ?_
      skip
      refine z_callVrq (pc := 21) (c_jGet l 0 (B 13 0) 29 n i hl0 hin (by omega)) hm0 rfl rfl kw_295 zc_Jx4a65c_get_915e3 ⟨Nat.le_of_ble_eq_true rfl, Nat.le_of_ble_eq_true rfl, by show i + 0 ≤ 20; omega, by show 29 * i + 0 ≤ 580; omega⟩ (by decide) rfl (Nat.le_of_ble_eq_true rfl) dX7_addLinked_21 ?_
      refine z_castS (pc := 24) (hS i hin).1 rfl kw_166 dX7_addLinked_24 ?_
      refine z_as5 (pc := 27) dX7_addLinked_27 (by decide) ?_
      refine z_al5 (pc := 29) dX7_addLinked_29 ?_
      refine z_il3 (pc := 31) dX7_addLinked_31 ?_
      refine z_callVr (pc := 32) (c_sForged l i q (hS i hin).1) (hS i hin).1 rfl rfl kw_377 zc_X5_isForgedBy ⟨Nat.le_of_ble_eq_true rfl, Nat.le_of_ble_eq_true rfl, by show i + 0 ≤ 20; omega, by show 29 * i + 0 ≤ 580; omega⟩ (by decide) rfl (Nat.le_of_ble_eq_true rfl) dX7_addLinked_32 ?_
      refine z_ifz_ne (pc := 35) 71 dX7_addLinked_35 rfl (fun c35 => ?_) (fun c35 => ?_)
      · refine z_ii4 (pc := 71) (nI (i + 1)) dX7_addLinked_71 (nI_1 _) (by decide) ?_
        refine z_goto (pc := 74) 3 dX7_addLinked_74 rfl ?_
        refine z_wk (show i ≤ i + 1 by omega) (show 29 * i ≤ 29 * (i + 1) by omega) ?_
        refine z_L rfl ?_
        exact ih (i + 1) G2 iK2 sm2 ky2 _ (by omega) hR hC (by rw [alk_s, if_neg (fun h => h.1 c35)]; exact hX) hF
      · refine z_al0 (pc := 38) dX7_addLinked_38 ?_
        refine z_al5 (pc := 39) dX7_addLinked_39 ?_
        refine z_callVr (pc := 41) (c_hIsG l i (alk ar D q bar x i) hR hn20 hin hX hgi) hO rfl rfl kw_563 zc_X7_isGathered ⟨Nat.le_of_ble_eq_true rfl, Nat.le_of_ble_eq_true rfl, by show i + 0 ≤ 20; omega, by show 29 * i + 0 ≤ 580; omega⟩ (by decide) rfl (Nat.le_of_ble_eq_true rfl) dX7_addLinked_41 ?_
        refine z_ifz_ne (pc := 44) 71 dX7_addLinked_44 rfl (fun c44 => ?_) (fun c44 => ?_)
        · refine z_ii4 (pc := 71) (nI (i + 1)) dX7_addLinked_71 (nI_1 _) (by decide) ?_
          refine z_goto (pc := 74) 3 dX7_addLinked_74 rfl ?_
          refine z_wk (show i ≤ i + 1 by omega) (show 29 * i ≤ 29 * (i + 1) by omega) ?_
          refine z_L rfl ?_
          exact ih (i + 1) G2 iK2 sm2 ky2 _ (by omega) hR hC (by rw [alk_s, if_neg (fun h => h.2.1 c44)]; exact hX) hF
        · refine z_al0 (pc := 47) dX7_addLinked_47 ?_
          refine z_get (pc := 48) 2 hO rfl iw_X7 (by decide) kw_120 rfl dX7_addLinked_48 ?_
          refine z_al1 (pc := 51) dX7_addLinked_51 ?_
          refine z_al5 (pc := 52) dX7_addLinked_52 ?_
          refine z_callVi (pc := 54) _ (c_Apart l a i hR hT hK hC ha hin) rfl hLK.1 rfl rfl kw_461 zc_X2_apart ⟨Nat.le_of_ble_eq_true rfl, Nat.le_of_ble_eq_true rfl, by show i + 0 ≤ 20; omega, by show 29 * i + 0 ≤ 580; omega⟩ rfl (Nat.le_of_ble_eq_true rfl) dX7_addLinked_54 (fun v G4 hv => ?_)
          obtain ⟨hr, iK4, sm4, ky4, hR4, hC4, hF4⟩ := hv
          rw [hD i hin] at hr
          have hX4 := hX.lk hF4
          clear hO hS
          obtain ⟨hO, -, -, -, -, -, -, hS, -, -⟩ := id hR4
          obtain ⟨mc2, ea2, hm2, -⟩ := id hX4
          refine z_il2 (pc := 57) dX7_addLinked_57 ?_
          refine z_icmp_gt (pc := 58) 71 dX7_addLinked_58 rfl (fun c58 => ?_) (fun c58 => ?_)
          · refine z_ii4 (pc := 71) (nI (i + 1)) dX7_addLinked_71 (nI_1 _) (by decide) ?_
            refine z_goto (pc := 74) 3 dX7_addLinked_74 rfl ?_
            refine z_wk (show i ≤ i + 1 by omega) (show 29 * i ≤ 29 * (i + 1) by omega) ?_
            refine z_L rfl ?_
            exact ih (i + 1) G4 iK4 sm4 ky4 _ (by omega) hR4 hC4 (by rw [alk_s, if_neg (fun h => absurd h.2.2 (Int32.not_le.mpr (hr ▸ c58)))]; exact hX4) (hF.trans (hF4.mono (fun r h => Or.inl h)))
          · refine z_al0 (pc := 61) dX7_addLinked_61 ?_
            refine z_get (pc := 62) 5 hO rfl iw_X7 (by decide) kw_123 rfl dX7_addLinked_62 ?_
            refine z_al5 (pc := 65) dX7_addLinked_65 ?_
            refine z_callVi (pc := 67) _ (c_jAdd l 2 (B 13 2) 29 (alk ar D q bar x i).1 (B 15 i) hX4 (fun g hg => sh_obj (hS _ (hgi.1 g hg)).1) (sh_obj (hS i hin).1) (by have := pig n ((alk ar D q bar x i).1 + 1) _ (hgi.add hin c44).1 (hgi.add hin c44).2; omega)) rfl hm2 rfl rfl kw_229 zc_Jx4a65c_add_9ea2d ⟨Nat.le_of_ble_eq_true rfl, Nat.le_of_ble_eq_true rfl, by show i + 1 ≤ 20; omega, by show 29 * i + 29 ≤ 580; omega⟩ rfl (Nat.le_of_ble_eq_true rfl) dX7_addLinked_67 (fun v G5 hv5 => ?_)
            refine z_pop (pc := 70) rfl dX7_addLinked_70 ?_
            refine z_ii4 (pc := 71) (nI (i + 1)) dX7_addLinked_71 (nI_1 _) (by decide) ?_
            refine z_goto (pc := 74) 3 dX7_addLinked_74 rfl ?_
            refine z_L rfl ?_
            exact ih (i + 1) G5 iK4 sm4 ky4 _ (by omega) (hR4.ki hv5.2.2 ⟨_, _, hv5.2.1⟩) hC4 (by rw [alk_s, if_pos ⟨c35, c44, hr ▸ Int32.not_lt.mp c58⟩]; exact KF.up hv5.2.1) ((hF.trans (hF4.mono (fun r h => Or.inl h))).trans (hv5.2.2.mono (fun r h => Or.inr h)))
  refine z_iconst (pc := 0) (0) (by decide) dX7_addLinked_0 ?_
  refine z_is4 (pc := 1) dX7_addLinked_1 (by decide) ?_
  refine z_L (L' := [some (.ref (B 0 0)), some (.ref (B 15 a)), some (.int bar), some (.int q), some (.int (nI 0)), none]) rfl ?_
  exact lp n 0 G iK sm ky none (by omega) hR hC hX zFP.rf
