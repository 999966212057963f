def kinM (ar : Nat → Nat → Int32) (q : Int32) (lab : Nat → Nat) (a : Nat) : Nat → Int32
  | 0 => 0
  | k + 1 => kinM ar q lab a k + zb (¬ frg ar k q ∧ lab k = lab a)
def sungM (ar : Nat → Nat → Int32) (q : Int32) (lab : Nat → Nat) (a : Nat) : Nat → Int32
  | 0 => 0
  | k + 1 => sungM ar q lab a k ||| (if ¬ frg ar k q ∧ lab k = lab a then 1 <<< (ar 3 k &&& 31) else 0)
theorem lb_eq {ar : Nat → Nat → Int32} {q : Int32} {lab : Nat → Nat} {k a n : Nat} (hn : n ≤ 20) (hk : k < n) (ha : a < n) (hf : ¬ frg ar a q) (h : ∀ k, k < n → ¬ frg ar k q → lab k ≤ k) : lb ar q lab k = lb ar q lab a ↔ (¬ frg ar k q ∧ lab k = lab a) := by
  have h2 := h a ha hf
  rw [lb_n hf]
  by_cases hk2 : frg ar k q
  · unfold lb
    rw [if_pos hk2]
    exact ⟨fun e => absurd e.symm (nI_m1 (by omega)), fun e => absurd hk2 e.1⟩
  · rw [lb_n hk2]
    have h1 := h k hk hk2
    rw [nI_eq (by omega) (by omega)]
    exact ⟨fun e => ⟨hk2, e⟩, fun e => e.2⟩
abbrev rX8_family : Room := rmK 5 1 400 122
set_option maxRecDepth 100000 in
set_option maxHeartbeats 400000 in
theorem c_mFamily (l : Launch) {κ : zK} {G : zH} {x : Nat} {ad : Nat → Nat} {sc : Nat → Int32} {ar : Nat → Nat → Int32} (n c d w : Nat) (ln : Nat → Nat) (s0 bar q : Int32) (hM : RM κ G x ad sc ar) (hJ : MJ n c d w ln sc ar) : Ct l yX8_family cX8_family 4 (some FieldType.int) rX8_family κ [.ref x, .int s0, .int bar, .int q] G (pI (fun r G2 => ∃ sc2 ar2, RM κ G2 x ad sc2 ar2 ∧ zF 1 G G2 ∧ PS sc ar sc2 ar2 ∧ ((¬ okFam n w ar s0 bar q ∧ r = -1) ∨ (okFam n w ar s0 bar q ∧ ∃ lab, FL n ar c ln q bar lab ∧ r = nI (lab (iN s0)))))) := by
  refine Ct.of (by decide +kernel) (fun v hv => by
    simp only [List.mem_cons, List.mem_nil_iff, or_false, List.not_mem_nil] at hv
    rcases hv with rfl | rfl | rfl | rfl <;> rfl) (Nat.le_of_ble_eq_true rfl) ?_
  intro p e s m args below meth cC
  refine z_L (L' := [some (.ref x), some (.int s0), some (.int bar), some (.int q)]) rfl ?_
  generalize hQx : MQ below (zQc κ _) args s _ _ (zA κ) = Qx
  have hF : zF 1 G G := zF.rf
  refine z_al0 (pc := 0) dX8_family_0 ?_
  refine z_il1 (pc := 1) dX8_family_1 ?_
  refine z_il2 (pc := 2) dX8_family_2 ?_
  refine z_il3 (pc := 3) dX8_family_3 ?_
  refine z_callVi (pc := 4) _ (c_mFamilies l n c d w ln s0 bar q hM hJ) rfl hM.1 rfl rfl kw_932 zc_X8_families (by decide) rfl (Nat.le_of_ble_eq_true rfl) dX8_family_4 (fun r G1 h => ?_)
  obtain ⟨sc1, ar1, hM1, hF1, hPS, h0⟩ := h
  have hF := zF.trans hF hF1
  clear hF1
  replace hM := hM1
  clear hM1
  obtain ⟨b0, hb0, hr0, h⟩ : ∃ b : Prop, ∃ _ : Decidable b, r = zb b ∧ ((¬ okFam n w ar s0 bar q ∧ ¬ b) ∨ (okFam n w ar s0 bar q ∧ b ∧ ∃ lab, (∀ k, k < n → ar1 33 k = lb ar q lab k) ∧ FL n ar c ln q bar lab)) := by
    rcases h0 with ⟨h1, h2⟩ | ⟨h1, h2, h3⟩
    · exact ⟨False, inferInstance, h2, Or.inl ⟨h1, fun q => q⟩⟩
    · exact ⟨True, inferInstance, h2, Or.inr ⟨h1, trivial, h3⟩⟩
  clear h0
  subst hr0
  refine z_ifz_eq (pc := 7) 19 dX8_family_7 rfl (fun c7 => ?_) (fun c7 => ?_)
  · refine z_iconst (pc := 19) (-1) (by decide) dX8_family_19 ?_
    rw [← hQx]
    refine z_iret (pc := 20) rfl (by decide) dX8_family_20 (⟨_, rfl, _, _, hM, hF, hPS, Or.inl ⟨(h.resolve_right (fun g => c7 g.2.1)).1, rfl⟩⟩)
  · obtain ⟨hok, -, lab, h33, hFL⟩ := h.resolve_left (fun g => g.2 c7)
    obtain ⟨⟨ha0, ha1⟩, -, -, hfr⟩ := id hok
    have hn20 := hJ.2.1
    obtain ⟨a, rfl, ha⟩ := ix_in ha0 ha1 (by omega)
    rw [iN_nI (by omega)] at hfr
    have e16 : sc1 16 = nI n := (hPS.1 16 (by omega) (by omega)).trans hJ.1
    refine z_al0 (pc := 10) dX8_family_10 ?_
    refine z_mg33 (pc := 11) hM rfl dX8_family_11 ?_
    refine z_il1 (pc := 14) dX8_family_14 ?_
    refine z_mld (pc := 15) 33 20 hM rfl (by decide) rfl (by omega) dX8_family_15 ?_
    refine z_goto (pc := 16) 20 dX8_family_16 rfl ?_
    rw [← hQx]
    refine z_iret (pc := 20) rfl (by decide) dX8_family_20 (⟨_, rfl, _, _, hM, hF, hPS, Or.inr ⟨hok, lab, hFL, by rw [iN_nI (by omega), h33 a ha]; exact lb_n hfr⟩⟩)
abbrev rX8_kin : Room := rmK 5 1 400 122
set_option maxRecDepth 100000 in
set_option maxHeartbeats 400000 in
theorem c_mKin (l : Launch) {κ : zK} {G : zH} {x : Nat} {ad : Nat → Nat} {sc : Nat → Int32} {ar : Nat → Nat → Int32} (n c d w : Nat) (ln : Nat → Nat) (s0 bar q : Int32) (hM : RM κ G x ad sc ar) (hJ : MJ n c d w ln sc ar) : Ct l yX8_kin cX8_kin 6 (some FieldType.int) rX8_kin κ [.ref x, .int s0, .int bar, .int q] G (pI (fun r G2 => ∃ sc2 ar2, RM κ G2 x ad sc2 ar2 ∧ zF 1 G G2 ∧ PS sc ar sc2 ar2 ∧ ((¬ okFam n w ar s0 bar q ∧ r = -1) ∨ (okFam n w ar s0 bar q ∧ ∃ lab, FL n ar c ln q bar lab ∧ r = kinM ar q lab (iN s0) n)))) := by
  refine Ct.of (by decide +kernel) (fun v hv => by
    simp only [List.mem_cons, List.mem_nil_iff, or_false, List.not_mem_nil] at hv
    rcases hv with rfl | rfl | rfl | rfl <;> rfl) (Nat.le_of_ble_eq_true rfl) ?_
  intro p e s m args below meth cC
  refine z_L (L' := [some (.ref x), some (.int s0), some (.int bar), some (.int q), none, none]) rfl ?_
  generalize hQx : MQ below (zQc κ _) args s _ _ (zA κ) = Qx
  have hF : zF 1 G G := zF.rf
  refine z_al0 (pc := 0) dX8_kin_0 ?_
  refine z_il1 (pc := 1) dX8_kin_1 ?_
  refine z_il2 (pc := 2) dX8_kin_2 ?_
  refine z_il3 (pc := 3) dX8_kin_3 ?_
  refine z_callVi (pc := 4) _ (c_mFamilies l n c d w ln s0 bar q hM hJ) rfl hM.1 rfl rfl kw_932 zc_X8_families (by decide) rfl (Nat.le_of_ble_eq_true rfl) dX8_kin_4 (fun r G1 h => ?_)
  obtain ⟨sc1, ar1, hM1, hF1, hPS, h0⟩ := h
  have hF := zF.trans hF hF1
  clear hF1
  replace hM := hM1
  clear hM1
  obtain ⟨b0, hb0, hr0, h⟩ : ∃ b : Prop, ∃ _ : Decidable b, r = zb b ∧ ((¬ okFam n w ar s0 bar q ∧ ¬ b) ∨ (okFam n w ar s0 bar q ∧ b ∧ ∃ lab, (∀ k, k < n → ar1 33 k = lb ar q lab k) ∧ FL n ar c ln q bar lab)) := by
    rcases h0 with ⟨h1, h2⟩ | ⟨h1, h2, h3⟩
    · exact ⟨False, inferInstance, h2, Or.inl ⟨h1, fun q => q⟩⟩
    · exact ⟨True, inferInstance, h2, Or.inr ⟨h1, trivial, h3⟩⟩
  clear h0
  subst hr0
  refine z_ifz_ne (pc := 7) 12 dX8_kin_7 rfl (fun c7 => ?_) (fun c7 => ?_)
  · obtain ⟨hok, -, lab, h33, hFL⟩ := h.resolve_left (fun g => g.2 c7)
    obtain ⟨⟨ha0, ha1⟩, -, -, hfr⟩ := id hok
    have hn20 := hJ.2.1
    obtain ⟨a, rfl, ha⟩ := ix_in ha0 ha1 (by omega)
    rw [iN_nI (by omega)] at hfr
    have e16 : sc1 16 = nI n := (hPS.1 16 (by omega) (by omega)).trans hJ.1
    refine z_iconst (pc := 12) (0) (by decide) dX8_kin_12 ?_
    refine z_is4 (pc := 13) dX8_kin_13 (by decide) ?_
    refine z_iconst (pc := 15) (0) (by decide) dX8_kin_15 ?_
    refine z_is5 (pc := 16) dX8_kin_16 (by decide) ?_
    have lp : ∀ (dd k : Nat), k + dd = n → Z p l e rX8_kin s m args below meth cC yX8_kin cX8_kin 6 (some FieldType.int) κ Qx (0 + rX8_families.cells) (0 + rX8_families.slots) G1 [some (.ref x), some (.int (nI a)), some (.int bar), some (.int q), some (.int (kinM ar q lab a k)), some (.int (nI k))] 18 [] := by
      intro dd
      induction dd with
      | zero =>
        intro k hkd
        refine z_il5 (pc := 18) dX8_kin_18 ?_
        refine z_al0 (pc := 20) dX8_kin_20 ?_
        refine z_mg16 (pc := 21) hM rfl dX8_kin_21 ?_
        rw [e16]
        refine z_icmp_ge (pc := 24) 59 dX8_kin_24 rfl (fun c24 => ?_) (fun c24 => absurd (by rw [show k = n by omega]; exact Int32.le_refl _) c24)
        rw [show k = n by omega]
        refine z_il4 (pc := 59) dX8_kin_59 ?_
        rw [← hQx]
        refine z_iret (pc := 61) rfl (by decide) dX8_kin_61 (⟨_, rfl, _, _, hM, hF, hPS, Or.inr ⟨hok, lab, hFL, by rw [iN_nI (by omega)]⟩⟩)
      | succ dd ih =>
        intro k hkd
        refine z_il5 (pc := 18) dX8_kin_18 ?_
        refine z_al0 (pc := 20) dX8_kin_20 ?_
        refine z_mg16 (pc := 21) hM rfl dX8_kin_21 ?_
        rw [e16]
        refine z_icmp_ge (pc := 24) 59 dX8_kin_24 rfl (fun c24 => absurd c24 (by rw [nI_leI (by omega) (by omega)]; omega)) (fun c24 => ?_)
        have hkn : k < n := by omega
        refine z_il4 (pc := 27) dX8_kin_27 ?_
        refine z_al0 (pc := 29) dX8_kin_29 ?_
        refine z_mg33 (pc := 30) hM rfl dX8_kin_30 ?_
        refine z_il5 (pc := 33) dX8_kin_33 ?_
        refine z_mld (pc := 35) 33 20 hM rfl (by decide) rfl (by omega) dX8_kin_35 ?_
        refine z_al0 (pc := 36) dX8_kin_36 ?_
        refine z_mg33 (pc := 37) hM rfl dX8_kin_37 ?_
        refine z_il1 (pc := 40) dX8_kin_40 ?_
        refine z_mld (pc := 41) 33 20 hM rfl (by decide) rfl (by omega) dX8_kin_41 ?_
        rw [h33 k hkn, h33 a ha]
        refine z_icmp_ne (pc := 42) 49 dX8_kin_42 rfl (fun c42 => ?_) (fun c42 => ?_)
        · refine z_iconst (pc := 49) (0) (by decide) dX8_kin_49 ?_
          refine z_iadd (pc := 50) dX8_kin_50 ?_
          refine z_is4 (pc := 51) dX8_kin_51 (by decide) ?_
          refine z_ii5 (pc := 53) (nI (k + 1)) dX8_kin_53 (nI_1 _) (by decide) ?_
          refine z_goto (pc := 56) 18 dX8_kin_56 rfl ?_
          have hle := lb_eq (lab := lab) hn20 hkn ha hfr (fun k h1 h2 => (hFL.1 k h1 h2).1)
          refine z_L (L' := [some (.ref x), some (.int (nI a)), some (.int bar), some (.int q), some (.int (kinM ar q lab a (k + 1))), some (.int (nI (k + 1)))]) (by rw [show kinM ar q lab a (k + 1) = kinM ar q lab a k + zb (¬ frg ar k q ∧ lab k = lab a) from rfl, zb_f (fun h => c42 (hle.mpr h))]) ?_
          exact ih (k + 1) (by omega)
        · refine z_iconst (pc := 45) (1) (by decide) dX8_kin_45 ?_
          refine z_goto (pc := 46) 50 dX8_kin_46 rfl ?_
          refine z_iadd (pc := 50) dX8_kin_50 ?_
          refine z_is4 (pc := 51) dX8_kin_51 (by decide) ?_
          refine z_ii5 (pc := 53) (nI (k + 1)) dX8_kin_53 (nI_1 _) (by decide) ?_
          refine z_goto (pc := 56) 18 dX8_kin_56 rfl ?_
          have hle := lb_eq (lab := lab) hn20 hkn ha hfr (fun k h1 h2 => (hFL.1 k h1 h2).1)
          refine z_L (L' := [some (.ref x), some (.int (nI a)), some (.int bar), some (.int q), some (.int (kinM ar q lab a (k + 1))), some (.int (nI (k + 1)))]) (by rw [show kinM ar q lab a (k + 1) = kinM ar q lab a k + zb (¬ frg ar k q ∧ lab k = lab a) from rfl, zb_t (hle.mp c42)]) ?_
          exact ih (k + 1) (by omega)
    exact lp n 0 (by omega)
  · refine z_iconst (pc := 10) (-1) (by decide) dX8_kin_10 ?_
    rw [← hQx]
    refine z_iret (pc := 11) rfl (by decide) dX8_kin_11 (⟨_, rfl, _, _, hM, hF, hPS, Or.inl ⟨(h.resolve_right (fun g => c7 g.2.1)).1, rfl⟩⟩)
abbrev rX8_sung : Room := rmK 5 1 400 122
set_option maxRecDepth 100000 in
set_option maxHeartbeats 400000 in
theorem c_mSung (l : Launch) {κ : zK} {G : zH} {x : Nat} {ad : Nat → Nat} {sc : Nat → Int32} {ar : Nat → Nat → Int32} (n c d w : Nat) (ln : Nat → Nat) (s0 bar q : Int32) (hM : RM κ G x ad sc ar) (hJ : MJ n c d w ln sc ar) : Ct l yX8_sung cX8_sung 6 (some FieldType.int) rX8_sung κ [.ref x, .int s0, .int bar, .int q] G (pI (fun r G2 => ∃ sc2 ar2, RM κ G2 x ad sc2 ar2 ∧ zF 1 G G2 ∧ PS sc ar sc2 ar2 ∧ ((¬ okFam n w ar s0 bar q ∧ r = -1) ∨ (okFam n w ar s0 bar q ∧ ∃ lab, FL n ar c ln q bar lab ∧ r = sungM ar q lab (iN s0) n)))) := by
  refine Ct.of (by decide +kernel) (fun v hv => by
    simp only [List.mem_cons, List.mem_nil_iff, or_false, List.not_mem_nil] at hv
    rcases hv with rfl | rfl | rfl | rfl <;> rfl) (Nat.le_of_ble_eq_true rfl) ?_
  intro p e s m args below meth cC
  refine z_L (L' := [some (.ref x), some (.int s0), some (.int bar), some (.int q), none, none]) rfl ?_
  generalize hQx : MQ below (zQc κ _) args s _ _ (zA κ) = Qx
  have hF : zF 1 G G := zF.rf
  refine z_al0 (pc := 0) dX8_sung_0 ?_
  refine z_il1 (pc := 1) dX8_sung_1 ?_
  refine z_il2 (pc := 2) dX8_sung_2 ?_
  refine z_il3 (pc := 3) dX8_sung_3 ?_
  refine z_callVi (pc := 4) _ (c_mFamilies l n c d w ln s0 bar q hM hJ) rfl hM.1 rfl rfl kw_932 zc_X8_families (by decide) rfl (Nat.le_of_ble_eq_true rfl) dX8_sung_4 (fun r G1 h => ?_)
  obtain ⟨sc1, ar1, hM1, hF1, hPS, h0⟩ := h
  have hF := zF.trans hF hF1
  clear hF1
  replace hM := hM1
  clear hM1
  obtain ⟨b0, hb0, hr0, h⟩ : ∃ b : Prop, ∃ _ : Decidable b, r = zb b ∧ ((¬ okFam n w ar s0 bar q ∧ ¬ b) ∨ (okFam n w ar s0 bar q ∧ b ∧ ∃ lab, (∀ k, k < n → ar1 33 k = lb ar q lab k) ∧ FL n ar c ln q bar lab)) := by
    rcases h0 with ⟨h1, h2⟩ | ⟨h1, h2, h3⟩
    · exact ⟨False, inferInstance, h2, Or.inl ⟨h1, fun q => q⟩⟩
    · exact ⟨True, inferInstance, h2, Or.inr ⟨h1, trivial, h3⟩⟩
  clear h0
  subst hr0
  refine z_ifz_ne (pc := 7) 12 dX8_sung_7 rfl (fun c7 => ?_) (fun c7 => ?_)
  · obtain ⟨hok, -, lab, h33, hFL⟩ := h.resolve_left (fun g => g.2 c7)
    obtain ⟨⟨ha0, ha1⟩, -, -, hfr⟩ := id hok
    have hn20 := hJ.2.1
    obtain ⟨a, rfl, ha⟩ := ix_in ha0 ha1 (by omega)
    rw [iN_nI (by omega)] at hfr
    have e16 : sc1 16 = nI n := (hPS.1 16 (by omega) (by omega)).trans hJ.1
    refine z_iconst (pc := 12) (0) (by decide) dX8_sung_12 ?_
    refine z_is4 (pc := 13) dX8_sung_13 (by decide) ?_
    refine z_iconst (pc := 15) (0) (by decide) dX8_sung_15 ?_
    refine z_is5 (pc := 16) dX8_sung_16 (by decide) ?_
    have lp : ∀ (dd k : Nat), k + dd = n → Z p l e rX8_sung s m args below meth cC yX8_sung cX8_sung 6 (some FieldType.int) κ Qx (0 + rX8_families.cells) (0 + rX8_families.slots) G1 [some (.ref x), some (.int (nI a)), some (.int bar), some (.int q), some (.int (sungM ar q lab a k)), some (.int (nI k))] 18 [] := by
      intro dd
      induction dd with
      | zero =>
        intro k hkd
        refine z_il5 (pc := 18) dX8_sung_18 ?_
        refine z_al0 (pc := 20) dX8_sung_20 ?_
        refine z_mg16 (pc := 21) hM rfl dX8_sung_21 ?_
        rw [e16]
        refine z_icmp_ge (pc := 24) 67 dX8_sung_24 rfl (fun c24 => ?_) (fun c24 => absurd (by rw [show k = n by omega]; exact Int32.le_refl _) c24)
        rw [show k = n by omega]
        refine z_il4 (pc := 67) dX8_sung_67 ?_
        rw [← hQx]
        refine z_iret (pc := 69) rfl (by decide) dX8_sung_69 (⟨_, rfl, _, _, hM, hF, hPS, Or.inr ⟨hok, lab, hFL, by rw [iN_nI (by omega)]⟩⟩)
      | succ dd ih =>
        intro k hkd
        refine z_il5 (pc := 18) dX8_sung_18 ?_
        refine z_al0 (pc := 20) dX8_sung_20 ?_
        refine z_mg16 (pc := 21) hM rfl dX8_sung_21 ?_
        rw [e16]
        refine z_icmp_ge (pc := 24) 67 dX8_sung_24 rfl (fun c24 => absurd c24 (by rw [nI_leI (by omega) (by omega)]; omega)) (fun c24 => ?_)
        have hkn : k < n := by omega
        refine z_il4 (pc := 27) dX8_sung_27 ?_
        refine z_al0 (pc := 29) dX8_sung_29 ?_
        refine z_mg33 (pc := 30) hM rfl dX8_sung_30 ?_
        refine z_il5 (pc := 33) dX8_sung_33 ?_
        refine z_mld (pc := 35) 33 20 hM rfl (by decide) rfl (by omega) dX8_sung_35 ?_
        refine z_al0 (pc := 36) dX8_sung_36 ?_
        refine z_mg33 (pc := 37) hM rfl dX8_sung_37 ?_
        refine z_il1 (pc := 40) dX8_sung_40 ?_
        refine z_mld (pc := 41) 33 20 hM rfl (by decide) rfl (by omega) dX8_sung_41 ?_
        rw [h33 k hkn, h33 a ha]
        refine z_icmp_ne (pc := 42) 57 dX8_sung_42 rfl (fun c42 => ?_) (fun c42 => ?_)
        · refine z_iconst (pc := 57) (0) (by decide) dX8_sung_57 ?_
          refine z_ior (pc := 58) dX8_sung_58 ?_
          refine z_is4 (pc := 59) dX8_sung_59 (by decide) ?_
          refine z_ii5 (pc := 61) (nI (k + 1)) dX8_sung_61 (nI_1 _) (by decide) ?_
          refine z_goto (pc := 64) 18 dX8_sung_64 rfl ?_
          have hle := lb_eq (lab := lab) hn20 hkn ha hfr (fun k h1 h2 => (hFL.1 k h1 h2).1)
          refine z_L (L' := [some (.ref x), some (.int (nI a)), some (.int bar), some (.int q), some (.int (sungM ar q lab a (k + 1))), some (.int (nI (k + 1)))]) (by rw [show sungM ar q lab a (k + 1) = sungM ar q lab a k ||| (if ¬ frg ar k q ∧ lab k = lab a then 1 <<< (ar 3 k &&& 31) else 0) from rfl, if_neg (fun h => c42 (hle.mpr h))]) ?_
          exact ih (k + 1) (by omega)
        · refine z_iconst (pc := 45) (1) (by decide) dX8_sung_45 ?_
          refine z_al0 (pc := 46) dX8_sung_46 ?_
          refine z_mg3 (pc := 47) hM rfl dX8_sung_47 ?_
          refine z_il5 (pc := 50) dX8_sung_50 ?_
          refine z_mld (pc := 52) 3 20 hM rfl (by decide) rfl (by omega) dX8_sung_52 ?_
          refine z_ishl (pc := 53) dX8_sung_53 ?_
          refine z_goto (pc := 54) 58 dX8_sung_54 rfl ?_
          refine z_ior (pc := 58) dX8_sung_58 ?_
          refine z_is4 (pc := 59) dX8_sung_59 (by decide) ?_
          refine z_ii5 (pc := 61) (nI (k + 1)) dX8_sung_61 (nI_1 _) (by decide) ?_
          refine z_goto (pc := 64) 18 dX8_sung_64 rfl ?_
          have hle := lb_eq (lab := lab) hn20 hkn ha hfr (fun k h1 h2 => (hFL.1 k h1 h2).1)
          refine z_L (L' := [some (.ref x), some (.int (nI a)), some (.int bar), some (.int q), some (.int (sungM ar q lab a (k + 1))), some (.int (nI (k + 1)))]) (by rw [show sungM ar q lab a (k + 1) = sungM ar q lab a k ||| (if ¬ frg ar k q ∧ lab k = lab a then 1 <<< (ar 3 k &&& 31) else 0) from rfl, if_pos (hle.mp c42), hPS.2 3 (by omega) (by omega)]) ?_
          exact ih (k + 1) (by omega)
    exact lp n 0 (by omega)
  · refine z_iconst (pc := 10) (-1) (by decide) dX8_sung_10 ?_
    rw [← hQx]
    refine z_iret (pc := 11) rfl (by decide) dX8_sung_11 (⟨_, rfl, _, _, hM, hF, hPS, Or.inl ⟨(h.resolve_right (fun g => c7 g.2.1)).1, rfl⟩⟩)
