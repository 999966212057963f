/-! family, kin, sung as asked -/
def famC (x : Nat × (Nat → Nat)) : Nat → Int32
  | 0 => 20
  | i + 1 => imin (famC x i) (nI (x.2 i))
def sngC (ar : Nat → Nat → Int32) (x : Nat × (Nat → Nat)) : Nat → Int32
  | 0 => 0
  | i + 1 => sngC ar x i ||| (1 <<< (ar 3 (x.2 i) &&& 31))
set_option maxRecDepth 100000 in
set_option maxHeartbeats 400000 in
theorem c_hKin (l : Launch) {κ : zK} {G : zH} {B : Nat → Nat → Nat} {n c d w : Nat} {ln kl ep : Nat → Nat} {fo nt : Int32} {ar : Nat → Nat → Int32} {rb : Nat → Int32} {kp kb : Nat → Nat → Int32} {iK sm ky : Nat → Int32} (a0 bar q : Int32) (D : Nat → Nat → Int32) (hR : RC κ G B n c d w ln fo nt ar rb kl ep kp kb iK sm ky) (hT : TD n c d w ln fo nt ar rb) (hK : KN ar n c ln kl ep kp kb) (hC : CH ar n kl kp kb iK sm ky) (hDD : ∀ a b, a < n → b < n → sD ar c ln q a b = D a b) : Ct l yX7_kin cX7_kin 4 (some FieldType.int) (rmK 9 401 11629 241) κ [.ref (B 0 0), .int a0, .int bar, .int q] G (pI (fun r G2 => r = (if (okA n w ar a0 q ∧ 0 ≤ bar ∧ bar ≤ 10000) then nI (gth ar D q bar n (iN a0) 20).1 else -1) ∧ HQ κ G G2 B n c d w ln fo nt ar rb)) := by
  refine Ct.of (by decide +kernel) (fun v hv => by
    simp only [List.mem_cons, List.mem_nil_iff, or_false, List.not_mem_nil] at hv
    rcases hv with rfl | rfl | rfl | rfl <;> rfl) (Nat.le_of_ble_eq_true rfl) ?_
  intro p e s m args below meth cC
  refine z_L (L' := [some (.ref (B 0 0)), some (.int a0), some (.int bar), some (.int q)]) rfl ?_
  generalize hQx : MQ below (zQc κ _) args s _ _ (zA κ) = Qx
  have hn20 := hT.1
  obtain ⟨hO, hP, ⟨cols, key, f0, f1, f2, S, hA⟩, hLK, hl0, hl1, ⟨k2, es2, hl2⟩, hS, hCo, hPr⟩ := id hR
  refine z_al0 (pc := 0) dX7_kin_0 ?_
  refine z_il1 (pc := 1) dX7_kin_1 ?_
  refine z_il2 (pc := 2) dX7_kin_2 ?_
  refine z_il3 (pc := 3) dX7_kin_3 ?_
  refine z_callVi (pc := 4) _ (c_hGather l a0 bar q D hR hT hK hC hDD) rfl hO rfl rfl kw_547 zc_X7_gather ⟨Nat.le_of_ble_eq_true rfl, Nat.le_of_ble_eq_true rfl, Nat.le_of_ble_eq_true rfl, Nat.le_of_ble_eq_true rfl⟩ rfl (Nat.le_of_ble_eq_true rfl) dX7_kin_4 (fun v G2 hv => ?_)
  obtain ⟨hv, hH⟩ := hv
  obtain ⟨kl2, ep2, kp2, kb2, iK2, sm2, ky2, hR2, hK2, hC2, hF2⟩ := id hH
  obtain ⟨hO2, -, -, -, -, -, -, hS2, -, -⟩ := id hR2
  rcases hv with ⟨hok, rfl, hX, hx⟩ | ⟨hno, rfl⟩
  · obtain ⟨mc2, ea2, hm2, -⟩ := id hX
    have hpg := pig n _ _ hx.1 hx.2
    refine z_if_eq (pc := 7) 20 dX7_kin_7 rfl (fun h => absurd h (by decide)) (fun _ => ?_)
    refine z_al0 (pc := 10) dX7_kin_10 ?_
    refine z_get (pc := 11) 5 hO2 rfl iw_X7 (by decide) kw_123 rfl dX7_kin_11 ?_
    refine z_callVr (pc := 14) (c_jSize l 2 (B 13 2) 29 (gth ar D q bar n (iN a0) 20).1 hX) hm2 rfl rfl kw_153 zc_Jx4a65c_size_8abf5 ⟨Nat.le_of_ble_eq_true rfl, Nat.le_of_ble_eq_true rfl, Nat.le_of_ble_eq_true rfl, Nat.le_of_ble_eq_true rfl⟩ (by decide) rfl (Nat.le_of_ble_eq_true rfl) dX7_kin_14 ?_
    refine z_goto (pc := 17) 21 dX7_kin_17 rfl ?_
    rw [← hQx]
    refine z_iret (pc := 21) rfl ⟨Nat.le_of_ble_eq_true rfl, Nat.le_of_ble_eq_true rfl⟩ dX7_kin_21 (⟨_, rfl, (if_pos hok).symm, hH⟩)
  · refine z_if_eq (pc := 7) 20 dX7_kin_7 rfl (fun _ => ?_) (fun h => absurd (by decide) h)
    refine z_iconst (pc := 20) (-1) (by decide) dX7_kin_20 ?_
    rw [← hQx]
    refine z_iret (pc := 21) rfl ⟨Nat.le_of_ble_eq_true rfl, Nat.le_of_ble_eq_true rfl⟩ dX7_kin_21 (⟨_, rfl, (if_neg hno).symm, hH⟩)
set_option maxRecDepth 100000 in
set_option maxHeartbeats 400000 in
theorem c_hFamily (l : Launch) {κ : zK} {G : zH} {B : Nat → Nat → Nat} {n c d w : Nat} {ln kl ep : Nat → Nat} {fo nt : Int32} {ar : Nat → Nat → Int32} {rb : Nat → Int32} {kp kb : Nat → Nat → Int32} {iK sm ky : Nat → Int32} (a0 bar q : Int32) (D : Nat → Nat → Int32) (hR : RC κ G B n c d w ln fo nt ar rb kl ep kp kb iK sm ky) (hT : TD n c d w ln fo nt ar rb) (hK : KN ar n c ln kl ep kp kb) (hC : CH ar n kl kp kb iK sm ky) (hDD : ∀ a b, a < n → b < n → sD ar c ln q a b = D a b) : Ct l yX7_family cX7_family 6 (some FieldType.int) (rmK 9 401 11629 241) κ [.ref (B 0 0), .int a0, .int bar, .int q] G (pI (fun r G2 => r = (if (okA n w ar a0 q ∧ 0 ≤ bar ∧ bar ≤ 10000) then famC (gth ar D q bar n (iN a0) 20) (gth ar D q bar n (iN a0) 20).1 else -1) ∧ HQ κ G G2 B n c d w ln fo nt ar rb)) := by
  refine Ct.of (by decide +kernel) (fun v hv => by
    simp only [List.mem_cons, List.mem_nil_iff, or_false, List.not_mem_nil] at hv
    rcases hv with rfl | rfl | rfl | rfl <;> rfl) (Nat.le_of_ble_eq_true rfl) ?_
  intro p e s m args below meth cC
  refine z_L (L' := [some (.ref (B 0 0)), some (.int a0), some (.int bar), some (.int q), none, none]) rfl ?_
  generalize hQx : MQ below (zQc κ _) args s _ _ (zA κ) = Qx
  have hn20 := hT.1
  obtain ⟨hO, hP, ⟨cols, key, f0, f1, f2, S, hA⟩, hLK, hl0, hl1, ⟨k2, es2, hl2⟩, hS, hCo, hPr⟩ := id hR
  refine z_al0 (pc := 0) dX7_family_0 ?_
  refine z_il1 (pc := 1) dX7_family_1 ?_
  refine z_il2 (pc := 2) dX7_family_2 ?_
  refine z_il3 (pc := 3) dX7_family_3 ?_
  refine z_callVi (pc := 4) _ (c_hGather l a0 bar q D hR hT hK hC hDD) rfl hO rfl rfl kw_547 zc_X7_gather ⟨Nat.le_of_ble_eq_true rfl, Nat.le_of_ble_eq_true rfl, Nat.le_of_ble_eq_true rfl, Nat.le_of_ble_eq_true rfl⟩ rfl (Nat.le_of_ble_eq_true rfl) dX7_family_4 (fun v G2 hv => ?_)
  obtain ⟨hv, hH⟩ := hv
  obtain ⟨kl2, ep2, kp2, kb2, iK2, sm2, ky2, hR2, hK2, hC2, hF2⟩ := id hH
  obtain ⟨hO2, -, -, -, -, -, -, hS2, -, -⟩ := id hR2
  rcases hv with ⟨hok, rfl, hX, hx⟩ | ⟨hno, rfl⟩
  · obtain ⟨mc2, ea2, hm2, -⟩ := id hX
    have hpg := pig n _ _ hx.1 hx.2
    have lp : ∀ (fu i : Nat), i + fu = (gth ar D q bar n (iN a0) 20).1 → Z p l e (rmK 9 401 11629 241) s m args below meth cC yX7_family cX7_family 6 (some FieldType.int) κ Qx 401 11629 G2 [some (.ref (B 0 0)), some (.int a0), some (.int bar), some (.int q), some (.int (famC (gth ar D q bar n (iN a0) 20) i)), some (.int (nI i))] 19 [] := by
      intro fu
      induction fu with
      | zero =>
        intro i hii
        refine z_il5 (pc := 19) dX7_family_19 ?_
        refine z_al0 (pc := 21) dX7_family_21 ?_
        refine z_get (pc := 22) 5 hO2 rfl iw_X7 (by decide) kw_123 rfl dX7_family_22 ?_
        refine z_callVr (pc := 25) (c_jSize l 2 (B 13 2) 29 (gth ar D q bar n (iN a0) 20).1 hX) hm2 rfl rfl kw_153 zc_Jx4a65c_size_8abf5 ⟨Nat.le_of_ble_eq_true rfl, Nat.le_of_ble_eq_true rfl, Nat.le_of_ble_eq_true rfl, Nat.le_of_ble_eq_true rfl⟩ (by decide) rfl (Nat.le_of_ble_eq_true rfl) dX7_family_25 ?_
        refine z_icmp_ge (pc := 28) 59 dX7_family_28 rfl (fun c28 => ?_) (fun c28 => absurd (by rw [nI_leI (by omega) (by omega)]; omega) c28)
        refine z_il4 (pc := 59) dX7_family_59 ?_
        rw [← hQx]
        refine z_iret (pc := 61) rfl ⟨Nat.le_of_ble_eq_true rfl, Nat.le_of_ble_eq_true rfl⟩ dX7_family_61 (⟨_, rfl, ((if_pos hok).trans (by rw [show (gth ar D q bar n (iN a0) 20).1 = i by omega])).symm, hH⟩)
      | succ fu ih =>
        intro i hii
        have hi : i < (gth ar D q bar n (iN a0) 20).1 := by omega
        refine z_il5 (pc := 19) dX7_family_19 ?_
        refine z_al0 (pc := 21) dX7_family_21 ?_
        refine z_get (pc := 22) 5 hO2 rfl iw_X7 (by decide) kw_123 rfl dX7_family_22 ?_
        refine z_callVr (pc := 25) (c_jSize l 2 (B 13 2) 29 (gth ar D q bar n (iN a0) 20).1 hX) hm2 rfl rfl kw_153 zc_Jx4a65c_size_8abf5 ⟨Nat.le_of_ble_eq_true rfl, Nat.le_of_ble_eq_true rfl, Nat.le_of_ble_eq_true rfl, Nat.le_of_ble_eq_true rfl⟩ (by decide) rfl (Nat.le_of_ble_eq_true rfl) dX7_family_25 ?_
        refine z_icmp_ge (pc := 28) 59 dX7_family_28 rfl (fun c28 => absurd c28 (by rw [nI_leI (by omega) (by omega)]; omega)) (fun c28 => ?_)
        refine z_il4 (pc := 31) dX7_family_31 ?_
        refine z_al0 (pc := 33) dX7_family_33 ?_
        refine z_get (pc := 34) 5 hO2 rfl iw_X7 (by decide) kw_123 rfl dX7_family_34 ?_
        refine z_il5 (pc := 37) dX7_family_37 ?_
        skip
        refine z_callVrq (pc := 39) (c_jGet l 2 (B 13 2) 29 (gth ar D q bar n (iN a0) 20).1 i hX hi (by omega)) hm2 rfl rfl kw_295 zc_Jx4a65c_get_915e3 ⟨Nat.le_of_ble_eq_true rfl, Nat.le_of_ble_eq_true rfl, Nat.le_of_ble_eq_true rfl, Nat.le_of_ble_eq_true rfl⟩ (by decide) rfl (Nat.le_of_ble_eq_true rfl) dX7_family_39 ?_
        refine z_castS (pc := 42) (hS2 _ (hx.1 i hi)).1 rfl kw_166 dX7_family_42 ?_
        refine z_get (pc := 45) 0 (hS2 _ (hx.1 i hi)).1 rfl iw_X5 (by decide) kw_195 rfl dX7_family_45 ?_
        refine z_mmin (pc := 48) kw_567 kw_280 kw_12 kw_281 (by decide) (Nat.le_of_ble_eq_true rfl) dX7_family_48 ?_
        refine z_is4 (pc := 51) dX7_family_51 (by decide) ?_
        refine z_ii5 (pc := 53) (nI (i + 1)) dX7_family_53 (nI_1 _) (by decide) ?_
        refine z_goto (pc := 56) 19 dX7_family_56 rfl ?_
        refine z_L rfl ?_
        exact ih (i + 1) (by omega)
    refine z_if_ne (pc := 7) 12 dX7_family_7 rfl (fun _ => ?_) (fun h => absurd h (by decide))
    refine z_bipush (pc := 12) (20) (by decide) dX7_family_12 ?_
    refine z_is4 (pc := 14) dX7_family_14 (by decide) ?_
    refine z_iconst (pc := 16) (0) (by decide) dX7_family_16 ?_
    refine z_is5 (pc := 17) dX7_family_17 (by decide) ?_
    refine z_L (L' := [some (.ref (B 0 0)), some (.int a0), some (.int bar), some (.int q), some (.int (famC (gth ar D q bar n (iN a0) 20) 0)), some (.int (nI 0))]) rfl ?_
    exact lp (gth ar D q bar n (iN a0) 20).1 0 (by omega)
  · refine z_if_ne (pc := 7) 12 dX7_family_7 rfl (fun h => absurd h (by decide)) (fun _ => ?_)
    refine z_iconst (pc := 10) (-1) (by decide) dX7_family_10 ?_
    rw [← hQx]
    refine z_iret (pc := 11) rfl ⟨Nat.le_of_ble_eq_true rfl, Nat.le_of_ble_eq_true rfl⟩ dX7_family_11 (⟨_, rfl, (if_neg hno).symm, hH⟩)
set_option maxRecDepth 100000 in
set_option maxHeartbeats 400000 in
theorem c_hSung (l : Launch) {κ : zK} {G : zH} {B : Nat → Nat → Nat} {n c d w : Nat} {ln kl ep : Nat → Nat} {fo nt : Int32} {ar : Nat → Nat → Int32} {rb : Nat → Int32} {kp kb : Nat → Nat → Int32} {iK sm ky : Nat → Int32} (a0 bar q : Int32) (D : Nat → Nat → Int32) (hR : RC κ G B n c d w ln fo nt ar rb kl ep kp kb iK sm ky) (hT : TD n c d w ln fo nt ar rb) (hK : KN ar n c ln kl ep kp kb) (hC : CH ar n kl kp kb iK sm ky) (hDD : ∀ a b, a < n → b < n → sD ar c ln q a b = D a b) : Ct l yX7_sung cX7_sung 6 (some FieldType.int) (rmK 9 401 11629 241) κ [.ref (B 0 0), .int a0, .int bar, .int q] G (pI (fun r G2 => r = (if (okA n w ar a0 q ∧ 0 ≤ bar ∧ bar ≤ 10000) then sngC ar (gth ar D q bar n (iN a0) 20) (gth ar D q bar n (iN a0) 20).1 else -1) ∧ HQ κ G G2 B n c d w ln fo nt ar rb)) := by
  refine Ct.of (by decide +kernel) (fun v hv => by
    simp only [List.mem_cons, List.mem_nil_iff, or_false, List.not_mem_nil] at hv
    rcases hv with rfl | rfl | rfl | rfl <;> rfl) (Nat.le_of_ble_eq_true rfl) ?_
  intro p e s m args below meth cC
  refine z_L (L' := [some (.ref (B 0 0)), some (.int a0), some (.int bar), some (.int q), none, none]) rfl ?_
  generalize hQx : MQ below (zQc κ _) args s _ _ (zA κ) = Qx
  have hn20 := hT.1
  obtain ⟨hO, hP, ⟨cols, key, f0, f1, f2, S, hA⟩, hLK, hl0, hl1, ⟨k2, es2, hl2⟩, hS, hCo, hPr⟩ := id hR
  refine z_al0 (pc := 0) dX7_sung_0 ?_
  refine z_il1 (pc := 1) dX7_sung_1 ?_
  refine z_il2 (pc := 2) dX7_sung_2 ?_
  refine z_il3 (pc := 3) dX7_sung_3 ?_
  refine z_callVi (pc := 4) _ (c_hGather l a0 bar q D hR hT hK hC hDD) rfl hO rfl rfl kw_547 zc_X7_gather ⟨Nat.le_of_ble_eq_true rfl, Nat.le_of_ble_eq_true rfl, Nat.le_of_ble_eq_true rfl, Nat.le_of_ble_eq_true rfl⟩ rfl (Nat.le_of_ble_eq_true rfl) dX7_sung_4 (fun v G2 hv => ?_)
  obtain ⟨hv, hH⟩ := hv
  obtain ⟨kl2, ep2, kp2, kb2, iK2, sm2, ky2, hR2, hK2, hC2, hF2⟩ := id hH
  obtain ⟨hO2, -, -, -, -, -, -, hS2, -, -⟩ := id hR2
  rcases hv with ⟨hok, rfl, hX, hx⟩ | ⟨hno, rfl⟩
  · obtain ⟨mc2, ea2, hm2, -⟩ := id hX
    have hpg := pig n _ _ hx.1 hx.2
    have lp : ∀ (fu i : Nat), i + fu = (gth ar D q bar n (iN a0) 20).1 → Z p l e (rmK 9 401 11629 241) s m args below meth cC yX7_sung cX7_sung 6 (some FieldType.int) κ Qx 401 11629 G2 [some (.ref (B 0 0)), some (.int a0), some (.int bar), some (.int q), some (.int (sngC ar (gth ar D q bar n (iN a0) 20) i)), some (.int (nI i))] 18 [] := by
      intro fu
      induction fu with
      | zero =>
        intro i hii
        refine z_il5 (pc := 18) dX7_sung_18 ?_
        refine z_al0 (pc := 20) dX7_sung_20 ?_
        refine z_get (pc := 21) 5 hO2 rfl iw_X7 (by decide) kw_123 rfl dX7_sung_21 ?_
        refine z_callVr (pc := 24) (c_jSize l 2 (B 13 2) 29 (gth ar D q bar n (iN a0) 20).1 hX) hm2 rfl rfl kw_153 zc_Jx4a65c_size_8abf5 ⟨Nat.le_of_ble_eq_true rfl, Nat.le_of_ble_eq_true rfl, Nat.le_of_ble_eq_true rfl, Nat.le_of_ble_eq_true rfl⟩ (by decide) rfl (Nat.le_of_ble_eq_true rfl) dX7_sung_24 ?_
        refine z_icmp_ge (pc := 27) 58 dX7_sung_27 rfl (fun c27 => ?_) (fun c27 => absurd (by rw [nI_leI (by omega) (by omega)]; omega) c27)
        refine z_il4 (pc := 58) dX7_sung_58 ?_
        rw [← hQx]
        refine z_iret (pc := 60) rfl ⟨Nat.le_of_ble_eq_true rfl, Nat.le_of_ble_eq_true rfl⟩ dX7_sung_60 (⟨_, rfl, ((if_pos hok).trans (by rw [show (gth ar D q bar n (iN a0) 20).1 = i by omega])).symm, hH⟩)
      | succ fu ih =>
        intro i hii
        have hi : i < (gth ar D q bar n (iN a0) 20).1 := by omega
        refine z_il5 (pc := 18) dX7_sung_18 ?_
        refine z_al0 (pc := 20) dX7_sung_20 ?_
        refine z_get (pc := 21) 5 hO2 rfl iw_X7 (by decide) kw_123 rfl dX7_sung_21 ?_
        refine z_callVr (pc := 24) (c_jSize l 2 (B 13 2) 29 (gth ar D q bar n (iN a0) 20).1 hX) hm2 rfl rfl kw_153 zc_Jx4a65c_size_8abf5 ⟨Nat.le_of_ble_eq_true rfl, Nat.le_of_ble_eq_true rfl, Nat.le_of_ble_eq_true rfl, Nat.le_of_ble_eq_true rfl⟩ (by decide) rfl (Nat.le_of_ble_eq_true rfl) dX7_sung_24 ?_
        refine z_icmp_ge (pc := 27) 58 dX7_sung_27 rfl (fun c27 => absurd c27 (by rw [nI_leI (by omega) (by omega)]; omega)) (fun c27 => ?_)
        refine z_il4 (pc := 30) dX7_sung_30 ?_
        refine z_iconst (pc := 32) (1) (by decide) dX7_sung_32 ?_
        refine z_al0 (pc := 33) dX7_sung_33 ?_
        refine z_get (pc := 34) 5 hO2 rfl iw_X7 (by decide) kw_123 rfl dX7_sung_34 ?_
        refine z_il5 (pc := 37) dX7_sung_37 ?_
        skip
        refine z_callVrq (pc := 39) (c_jGet l 2 (B 13 2) 29 (gth ar D q bar n (iN a0) 20).1 i hX hi (by omega)) hm2 rfl rfl kw_295 zc_Jx4a65c_get_915e3 ⟨Nat.le_of_ble_eq_true rfl, Nat.le_of_ble_eq_true rfl, Nat.le_of_ble_eq_true rfl, Nat.le_of_ble_eq_true rfl⟩ (by decide) rfl (Nat.le_of_ble_eq_true rfl) dX7_sung_39 ?_
        refine z_castS (pc := 42) (hS2 _ (hx.1 i hi)).1 rfl kw_166 dX7_sung_42 ?_
        refine z_get (pc := 45) 3 (hS2 _ (hx.1 i hi)).1 rfl iw_X5 (by decide) kw_202 rfl dX7_sung_45 ?_
        refine z_ishl (pc := 48) dX7_sung_48 ?_
        refine z_ior (pc := 49) dX7_sung_49 ?_
        refine z_is4 (pc := 50) dX7_sung_50 (by decide) ?_
        refine z_ii5 (pc := 52) (nI (i + 1)) dX7_sung_52 (nI_1 _) (by decide) ?_
        refine z_goto (pc := 55) 18 dX7_sung_55 rfl ?_
        refine z_L rfl ?_
        exact ih (i + 1) (by omega)
    refine z_if_ne (pc := 7) 12 dX7_sung_7 rfl (fun _ => ?_) (fun h => absurd h (by decide))
    refine z_iconst (pc := 12) (0) (by decide) dX7_sung_12 ?_
    refine z_is4 (pc := 13) dX7_sung_13 (by decide) ?_
    refine z_iconst (pc := 15) (0) (by decide) dX7_sung_15 ?_
    refine z_is5 (pc := 16) dX7_sung_16 (by decide) ?_
    refine z_L (L' := [some (.ref (B 0 0)), some (.int a0), some (.int bar), some (.int q), some (.int (sngC ar (gth ar D q bar n (iN a0) 20) 0)), some (.int (nI 0))]) rfl ?_
    exact lp (gth ar D q bar n (iN a0) 20).1 0 (by omega)
  · refine z_if_ne (pc := 7) 12 dX7_sung_7 rfl (fun h => absurd h (by decide)) (fun _ => ?_)
    refine z_iconst (pc := 10) (-1) (by decide) dX7_sung_10 ?_
    rw [← hQx]
    refine z_iret (pc := 11) rfl ⟨Nat.le_of_ble_eq_true rfl, Nat.le_of_ble_eq_true rfl⟩ dX7_sung_11 (⟨_, rfl, (if_neg hno).symm, hH⟩)
