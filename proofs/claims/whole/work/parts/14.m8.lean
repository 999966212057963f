abbrev okA (n w : Nat) (ar : Nat → Nat → Int32) (a q : Int32) : Prop := okS n a ∧ (0 ≤ q ∧ q ≤ nI w) ∧ ¬ frg ar (iN a) q
theorem frg_ps {sc sc2 : Nat → Int32} {ar ar2 : Nat → Nat → Int32} (g : PS sc ar sc2 ar2) (j : Nat) (q : Int32) : frg ar2 j q ↔ frg ar j q := by unfold frg; rw [g.2 5 (by omega) (by omega)]
theorem erl_ps {sc sc2 : Nat → Int32} {ar ar2 : Nat → Nat → Int32} (g : PS sc ar sc2 ar2) (s t : Nat) : erl ar2 s t ↔ erl ar s t := by unfold erl; rw [g.2 2 (by omega) (by omega)]
/-- the source as the reference looks for it -/
def srcM (ar : Nat → Nat → Int32) (D : Nat → Int32) (a : Nat) (q : Int32) : Nat → Option (Nat × Int32)
  | 0 => none
  | k + 1 => if k = a ∨ ¬ erl ar k a ∨ frg ar k q then srcM ar D a q k else match srcM ar D a q k with
    | none => some (k, D k)
    | some (b, f) => if f < D k ∨ (D k = f ∧ ¬ erl ar k b) then some (b, f) else some (k, D k)
def bM (o : Option (Nat × Int32)) : Int32 := match o with
  | none => -1
  | some (b, _) => nI b
def srcR (ar : Nat → Nat → Int32) (o : Option (Nat × Int32)) : Int32 := match o with
  | none => -1
  | some (b, f) => if f < ar 15 4 then nI b else -1
def chgR (ar : Nat → Nat → Int32) (o : Option (Nat × Int32)) : Int32 := match o with
  | none => ar 15 4
  | some (_, f) => if f < ar 15 4 then f else ar 15 4
theorem srcM_lt (ar : Nat → Nat → Int32) (D : Nat → Int32) (a : Nat) (q : Int32) : ∀ k b f, srcM ar D a q k = some (b, f) → b < k
  | 0, _, _, h => by cases h
  | k + 1, b, f, h => by
    unfold srcM at h
    split at h
    · have := srcM_lt ar D a q k b f h; omega
    · cases h2 : srcM ar D a q k with
      | none => rw [h2] at h; cases h; omega
      | some y =>
        obtain ⟨b2, f2⟩ := y
        rw [h2] at h
        simp only at h
        split at h
        · cases h; have := srcM_lt ar D a q k _ _ h2; omega
        · cases h; omega
theorem srcM_skip {ar : Nat → Nat → Int32} {D : Nat → Int32} {a k : Nat} {q : Int32} (h : k = a ∨ ¬ erl ar k a ∨ frg ar k q) : srcM ar D a q (k + 1) = srcM ar D a q k := if_pos h
theorem srcM_none {ar : Nat → Nat → Int32} {D : Nat → Int32} {a k : Nat} {q : Int32} (h : ¬ (k = a ∨ ¬ erl ar k a ∨ frg ar k q)) (h2 : srcM ar D a q k = none) : srcM ar D a q (k + 1) = some (k, D k) := by
  unfold srcM; rw [if_neg h, h2]
theorem srcM_old {ar : Nat → Nat → Int32} {D : Nat → Int32} {a k b : Nat} {f q : Int32} (h : ¬ (k = a ∨ ¬ erl ar k a ∨ frg ar k q)) (h2 : srcM ar D a q k = some (b, f)) (h3 : f < D k ∨ (D k = f ∧ ¬ erl ar k b)) : srcM ar D a q (k + 1) = some (b, f) := by
  unfold srcM; rw [if_neg h, h2]; exact if_pos h3
theorem srcM_new {ar : Nat → Nat → Int32} {D : Nat → Int32} {a k b : Nat} {f q : Int32} (h : ¬ (k = a ∨ ¬ erl ar k a ∨ frg ar k q)) (h2 : srcM ar D a q k = some (b, f)) (h3 : ¬ (f < D k ∨ (D k = f ∧ ¬ erl ar k b))) : srcM ar D a q (k + 1) = some (k, D k) := by
  unfold srcM; rw [if_neg h, h2]; exact if_neg h3
theorem nI_m1 {n : Nat} (h : n < 2 ^ 31) : ¬ nI n = -1 := fun q => by rw [i_eq, nI_toInt h, i_m1] at q; omega
abbrev rX8_isEarlier : Room := rmK 0 0 0 0
set_option maxRecDepth 100000 in
set_option maxHeartbeats 400000 in
theorem c_mIsEarlier (l : Launch) {κ : zK} {G : zH} {x : Nat} {ad : Nat → Nat} {sc : Nat → Int32} {ar : Nat → Nat → Int32} (a b : Nat) (hM : RM κ G x ad sc ar) (ha : a < 20) (hb : b < 20) : Ct l yX8_isEarlier cX8_isEarlier 3 (some FieldType.boolean) rX8_isEarlier κ [.ref x, .int (nI a), .int (nI b)] G (zP (zb (erl ar a b)) G) := by
  refine Ct.of (by decide +kernel) (fun v hv => by
    simp only [List.mem_cons, List.mem_nil_iff, or_false, List.not_mem_nil] at hv
    rcases hv with rfl | rfl | rfl <;> rfl) (Nat.le_of_ble_eq_true rfl) ?_
  intro p e s m args below meth cC
  refine z_L (L' := [some (.ref x), some (.int (nI a)), some (.int (nI b))]) rfl ?_
  generalize hQx : MQ below (zQc κ _) args s _ _ (zA κ) = Qx
  refine z_al0 (pc := 0) dX8_isEarlier_0 ?_
  refine z_mg2 (pc := 1) hM rfl dX8_isEarlier_1 ?_
  refine z_il1 (pc := 4) dX8_isEarlier_4 ?_
  refine z_mld (pc := 5) 2 20 hM rfl (by decide) rfl (by omega) dX8_isEarlier_5 ?_
  refine z_al0 (pc := 6) dX8_isEarlier_6 ?_
  refine z_mg2 (pc := 7) hM rfl dX8_isEarlier_7 ?_
  refine z_il2 (pc := 10) dX8_isEarlier_10 ?_
  refine z_mld (pc := 11) 2 20 hM rfl (by decide) rfl (by omega) dX8_isEarlier_11 ?_
  refine z_icmp_lt (pc := 12) 35 dX8_isEarlier_12 rfl (fun c12 => ?_) (fun c12 => ?_)
  · refine z_iconst (pc := 35) (1) (by decide) dX8_isEarlier_35 ?_
    refine z_goto (pc := 36) 40 dX8_isEarlier_36 rfl ?_
    rw [← hQx]
    refine z_zret (pc := 40) rfl rfl (by decide) dX8_isEarlier_40 (⟨_, rfl, (zb_t (by unfold erl; simp only [i_lt, i_le, i_eq] at *; omega)).symm, rfl⟩)
  · refine z_al0 (pc := 15) dX8_isEarlier_15 ?_
    refine z_mg2 (pc := 16) hM rfl dX8_isEarlier_16 ?_
    refine z_il1 (pc := 19) dX8_isEarlier_19 ?_
    refine z_mld (pc := 20) 2 20 hM rfl (by decide) rfl (by omega) dX8_isEarlier_20 ?_
    refine z_al0 (pc := 21) dX8_isEarlier_21 ?_
    refine z_mg2 (pc := 22) hM rfl dX8_isEarlier_22 ?_
    refine z_il2 (pc := 25) dX8_isEarlier_25 ?_
    refine z_mld (pc := 26) 2 20 hM rfl (by decide) rfl (by omega) dX8_isEarlier_26 ?_
    refine z_icmp_ne (pc := 27) 39 dX8_isEarlier_27 rfl (fun c27 => ?_) (fun c27 => ?_)
    · refine z_iconst (pc := 39) (0) (by decide) dX8_isEarlier_39 ?_
      rw [← hQx]
      refine z_zret (pc := 40) rfl rfl (by decide) dX8_isEarlier_40 (⟨_, rfl, (zb_f (by unfold erl; simp only [i_lt, i_le, i_eq] at *; omega)).symm, rfl⟩)
    · refine z_il1 (pc := 30) dX8_isEarlier_30 ?_
      refine z_il2 (pc := 31) dX8_isEarlier_31 ?_
      refine z_icmp_ge (pc := 32) 39 dX8_isEarlier_32 rfl (fun c32 => ?_) (fun c32 => ?_)
      · refine z_iconst (pc := 39) (0) (by decide) dX8_isEarlier_39 ?_
        rw [← hQx]
        refine z_zret (pc := 40) rfl rfl (by decide) dX8_isEarlier_40 (⟨_, rfl, (zb_f (by unfold erl; simp only [i_lt, i_le, i_eq] at *; omega)).symm, rfl⟩)
      · refine z_iconst (pc := 35) (1) (by decide) dX8_isEarlier_35 ?_
        refine z_goto (pc := 36) 40 dX8_isEarlier_36 rfl ?_
        rw [← hQx]
        refine z_zret (pc := 40) rfl rfl (by decide) dX8_isEarlier_40 (⟨_, rfl, (zb_t (by unfold erl; simp only [i_lt, i_le, i_eq] at *; omega)).symm, rfl⟩)
abbrev rX8_isAsked : Room := rmK 2 0 0 43
set_option maxRecDepth 100000 in
set_option maxHeartbeats 400000 in
theorem c_mIsAsked (l : Launch) {κ : zK} {G : zH} {x : Nat} {ad : Nat → Nat} {sc : Nat → Int32} {ar : Nat → Nat → Int32} (n c d w : Nat) (ln : Nat → Nat) (a0 q : Int32) (hM : RM κ G x ad sc ar) (hJ : MJ n c d w ln sc ar) : Ct l yX8_isAsked cX8_isAsked 3 (some FieldType.boolean) rX8_isAsked κ [.ref x, .int a0, .int q] G (pI (fun r G2 => r = zb (okA n w ar a0 q) ∧ RM κ G2 x ad (sup sc 0 0) ar ∧ zF 1 G G2)) := by
  refine Ct.of (by decide +kernel) (fun v hv => by
    simp only [List.mem_cons, List.mem_nil_iff, or_false, List.not_mem_nil] at hv
    rcases hv with rfl | rfl | rfl <;> rfl) (Nat.le_of_ble_eq_true rfl) ?_
  intro p e s m args below meth cC
  refine z_L (L' := [some (.ref x), some (.int a0), some (.int q)]) rfl ?_
  generalize hQx : MQ below (zQc κ _) args s _ _ (zA κ) = Qx
  have hF : zF 1 G G := zF.rf
  refine z_al0 (pc := 0) dX8_isAsked_0 ?_
  refine z_iconst (pc := 1) (0) (by decide) dX8_isAsked_1 ?_
  refine z_mp0 (pc := 2) hM rfl dX8_isAsked_2 (fun G1 hM1 hF1 => ?_)
  have hF := zF.trans hF hF1
  clear hF1
  replace hM := hM1
  clear hM1
  have e16 : sup sc 0 0 16 = nI n := hJ.1
  have e19 : sup sc 0 0 19 = nI w := hJ.2.2.2.2.2.2.1
  refine z_al0 (pc := 5) dX8_isAsked_5 ?_
  refine z_il1 (pc := 6) dX8_isAsked_6 ?_
  refine z_callVr (pc := 7) (c_mIsSheet l a0 hM) hM.1 rfl rfl kw_844 zc_X8_isSheet (by decide) (by decide) rfl (Nat.le_of_ble_eq_true rfl) dX8_isAsked_7 ?_
  rw [e16]
  refine z_ifz_eq (pc := 10) 34 dX8_isAsked_10 rfl (fun c10 => ?_) (fun c10 => ?_)
  · refine z_iconst (pc := 34) (0) (by decide) dX8_isAsked_34 ?_
    rw [← hQx]
    refine z_zret (pc := 35) rfl rfl (by decide) dX8_isAsked_35 (by first | exact ⟨_, rfl, (zb_t ⟨c10, c18, by rw [iN_nI (by omega)]; exact c27⟩).symm, hM, hF⟩ | exact ⟨_, rfl, (zb_f (fun h => c10 h.1)).symm, hM, hF⟩ | exact ⟨_, rfl, (zb_f (fun h => c18 h.2.1)).symm, hM, hF⟩ | exact ⟨_, rfl, (zb_f (fun h => h.2.2 (by rw [iN_nI (by omega)]; exact c27))).symm, hM, hF⟩)
  · refine z_al0 (pc := 13) dX8_isAsked_13 ?_
    refine z_il2 (pc := 14) dX8_isAsked_14 ?_
    refine z_callVr (pc := 15) (c_mIsDay l q hM) hM.1 rfl rfl kw_875 zc_X8_isDay (by decide) (by decide) rfl (Nat.le_of_ble_eq_true rfl) dX8_isAsked_15 ?_
    rw [e19]
    refine z_ifz_eq (pc := 18) 34 dX8_isAsked_18 rfl (fun c18 => ?_) (fun c18 => ?_)
    · refine z_iconst (pc := 34) (0) (by decide) dX8_isAsked_34 ?_
      rw [← hQx]
      refine z_zret (pc := 35) rfl rfl (by decide) dX8_isAsked_35 (by first | exact ⟨_, rfl, (zb_t ⟨c10, c18, by rw [iN_nI (by omega)]; exact c27⟩).symm, hM, hF⟩ | exact ⟨_, rfl, (zb_f (fun h => c10 h.1)).symm, hM, hF⟩ | exact ⟨_, rfl, (zb_f (fun h => c18 h.2.1)).symm, hM, hF⟩ | exact ⟨_, rfl, (zb_f (fun h => h.2.2 (by rw [iN_nI (by omega)]; exact c27))).symm, hM, hF⟩)
    · have hn20 := hJ.2.1
      obtain ⟨ha0, ha1⟩ := id c10
      obtain ⟨a, rfl, ha⟩ := ix_in ha0 ha1 (by omega)
      refine z_al0 (pc := 21) dX8_isAsked_21 ?_
      refine z_il1 (pc := 22) dX8_isAsked_22 ?_
      refine z_il2 (pc := 23) dX8_isAsked_23 ?_
      refine z_callVr (pc := 24) (c_mIsForged l a q hM (by omega)) hM.1 rfl rfl kw_936 zc_X8_isForged (by decide) (by decide) rfl (Nat.le_of_ble_eq_true rfl) dX8_isAsked_24 ?_
      refine z_ifz_ne (pc := 27) 34 dX8_isAsked_27 rfl (fun c27 => ?_) (fun c27 => ?_)
      · refine z_iconst (pc := 34) (0) (by decide) dX8_isAsked_34 ?_
        rw [← hQx]
        refine z_zret (pc := 35) rfl rfl (by decide) dX8_isAsked_35 (by first | exact ⟨_, rfl, (zb_t ⟨c10, c18, by rw [iN_nI (by omega)]; exact c27⟩).symm, hM, hF⟩ | exact ⟨_, rfl, (zb_f (fun h => c10 h.1)).symm, hM, hF⟩ | exact ⟨_, rfl, (zb_f (fun h => c18 h.2.1)).symm, hM, hF⟩ | exact ⟨_, rfl, (zb_f (fun h => h.2.2 (by rw [iN_nI (by omega)]; exact c27))).symm, hM, hF⟩)
      · refine z_iconst (pc := 30) (1) (by decide) dX8_isAsked_30 ?_
        refine z_goto (pc := 31) 35 dX8_isAsked_31 rfl ?_
        rw [← hQx]
        refine z_zret (pc := 35) rfl rfl (by decide) dX8_isAsked_35 (by first | exact ⟨_, rfl, (zb_t ⟨c10, c18, by rw [iN_nI (by omega)]; exact c27⟩).symm, hM, hF⟩ | exact ⟨_, rfl, (zb_f (fun h => c10 h.1)).symm, hM, hF⟩ | exact ⟨_, rfl, (zb_f (fun h => c18 h.2.1)).symm, hM, hF⟩ | exact ⟨_, rfl, (zb_f (fun h => h.2.2 (by rw [iN_nI (by omega)]; exact c27))).symm, hM, hF⟩)
abbrev rX8_sourceOf : Room := rmK 4 0 0 94
set_option maxRecDepth 100000 in
set_option maxHeartbeats 400000 in
theorem c_mSourceOf (l : Launch) {κ : zK} {G : zH} {x : Nat} {ad : Nat → Nat} {sc : Nat → Int32} {ar : Nat → Nat → Int32} (n c d w : Nat) (ln : Nat → Nat) (a : Nat) (q : Int32) (hM : RM κ G x ad sc ar) (hJ : MJ n c d w ln sc ar) (ha : a < n) : Ct l yX8_sourceOf cX8_sourceOf 6 (some FieldType.int) rX8_sourceOf κ [.ref x, .int (nI a), .int q] G (pI (fun r G2 => r = srcR ar (srcM ar (sD ar c ln q a) a q n) ∧ ∃ sc2 ar2, RM κ G2 x ad sc2 ar2 ∧ zF 1 G G2 ∧ PS sc ar sc2 ar2 ∧ (∀ b f, (srcM ar (sD ar c ln q a) a q n) = some (b, f) → sc2 34 = f))) := by
  refine Ct.of (by decide +kernel) (fun v hv => by
    simp only [List.mem_cons, List.mem_nil_iff, or_false, List.not_mem_nil] at hv
    rcases hv with rfl | rfl | rfl <;> rfl) (Nat.le_of_ble_eq_true rfl) ?_
  intro p e s m args below meth cC
  refine z_L (L' := [some (.ref x), some (.int (nI a)), some (.int q), none, none, none]) rfl ?_
  generalize hQx : MQ below (zQc κ _) args s _ _ (zA κ) = Qx
  have hF : zF 1 G G := zF.rf
  have hn20 := hJ.2.1
  have lp : ∀ (dd k : Nat) (G1 : zH) (sc1 : Nat → Int32) (ar1 : Nat → Nat → Int32) (w5 : Option Value), k + dd = n → RM κ G1 x ad sc1 ar1 → zF 1 G G1 → PS sc ar sc1 ar1 → (∀ b f, (srcM ar (sD ar c ln q a) a q k) = some (b, f) → sc1 34 = f) → Z p l e rX8_sourceOf s m args below meth cC yX8_sourceOf cX8_sourceOf 6 (some FieldType.int) κ Qx 0 0 G1 [some (.ref x), some (.int (nI a)), some (.int q), some (.int (bM (srcM ar (sD ar c ln q a) a q k))), some (.int (nI k)), w5] 5 [] := by
    intro dd
    induction dd with
    | zero =>
      intro k G1 sc1 ar1 w5 hkd hM hF hPS h34
      rcases hs : (srcM ar (sD ar c ln q a) a q k) with _ | ⟨b, f⟩
      · refine z_il4 (pc := 5) dX8_sourceOf_5 ?_
        refine z_al0 (pc := 7) dX8_sourceOf_7 ?_
        refine z_mg16 (pc := 8) hM rfl dX8_sourceOf_8 ?_
        rw [show sc1 16 = nI n from (hPS.1 16 (by omega) (by omega)).trans hJ.1]
        refine z_icmp_ge (pc := 11) 104 dX8_sourceOf_11 rfl (fun c11 => ?_) (fun c11 => absurd (by rw [show k = n by omega]; exact Int32.le_refl _) c11)
        rw [show k = n by omega] at hs h34 ⊢
        refine z_il3 (pc := 104) dX8_sourceOf_104 ?_
        refine z_iconst (pc := 105) (-1) (by decide) dX8_sourceOf_105 ?_
        refine z_icmp_eq (pc := 106) 126 dX8_sourceOf_106 rfl (fun c106 => ?_) (fun c106 => absurd (rfl) c106)
        skip
        refine z_iconst (pc := 126) (-1) (by decide) dX8_sourceOf_126 ?_
        rw [← hQx]
        refine z_iret (pc := 127) rfl (by decide) dX8_sourceOf_127 (⟨_, rfl, by unfold srcR; rw [hs], _, _, hM, hF, hPS, h34⟩)
      · refine z_il4 (pc := 5) dX8_sourceOf_5 ?_
        refine z_al0 (pc := 7) dX8_sourceOf_7 ?_
        refine z_mg16 (pc := 8) hM rfl dX8_sourceOf_8 ?_
        rw [show sc1 16 = nI n from (hPS.1 16 (by omega) (by omega)).trans hJ.1]
        refine z_icmp_ge (pc := 11) 104 dX8_sourceOf_11 rfl (fun c11 => ?_) (fun c11 => absurd (by rw [show k = n by omega]; exact Int32.le_refl _) c11)
        rw [show k = n by omega] at hs h34 ⊢
        refine z_il3 (pc := 104) dX8_sourceOf_104 ?_
        refine z_iconst (pc := 105) (-1) (by decide) dX8_sourceOf_105 ?_
        refine z_icmp_eq (pc := 106) 126 dX8_sourceOf_106 rfl (fun c106 => absurd c106 (nI_m1 (by have := srcM_lt _ _ _ _ _ _ _ hs; omega))) (fun c106 => ?_)
        refine z_al0 (pc := 109) dX8_sourceOf_109 ?_
        refine z_mg34 (pc := 110) hM rfl dX8_sourceOf_110 ?_
        refine z_al0 (pc := 113) dX8_sourceOf_113 ?_
        refine z_mg15 (pc := 114) hM rfl dX8_sourceOf_114 ?_
        refine z_iconst (pc := 117) (4) (by decide) dX8_sourceOf_117 ?_
        refine z_mld (pc := 118) 15 5 hM rfl (by decide) (show (4 : Int32) = nI 4 from rfl) (by decide) dX8_sourceOf_118 ?_
        rw [hPS.2 15 (by omega) (by omega), h34 _ _ hs]
        refine z_icmp_ge (pc := 119) 126 dX8_sourceOf_119 rfl (fun c119 => ?_) (fun c119 => ?_)
        · refine z_iconst (pc := 126) (-1) (by decide) dX8_sourceOf_126 ?_
          rw [← hQx]
          refine z_iret (pc := 127) rfl (by decide) dX8_sourceOf_127 (⟨_, rfl, by unfold srcR; rw [hs]; exact (if_neg (Int32.not_lt.mpr c119)).symm, _, _, hM, hF, hPS, h34⟩)
        · refine z_il3 (pc := 122) dX8_sourceOf_122 ?_
          refine z_goto (pc := 123) 127 dX8_sourceOf_123 rfl ?_
          rw [← hQx]
          refine z_iret (pc := 127) rfl (by decide) dX8_sourceOf_127 (⟨_, rfl, by unfold srcR; rw [hs]; exact (if_pos (Int32.not_le.mp c119)).symm, _, _, hM, hF, hPS, h34⟩)
    | succ dd ih =>
      intro k G1 sc1 ar1 w5 hkd hM hF hPS h34
      have hkn : k < n := by omega
      have hJ1 := hJ.ps hPS
      have hlk := hJ1.2.2.2.2.2.2.2.2.1 k hkn
      have hla := hJ1.2.2.2.2.2.2.2.2.1 a ha
      rcases hs : (srcM ar (sD ar c ln q a) a q k) with _ | ⟨b, f⟩
      · refine z_il4 (pc := 5) dX8_sourceOf_5 ?_
        refine z_al0 (pc := 7) dX8_sourceOf_7 ?_
        refine z_mg16 (pc := 8) hM rfl dX8_sourceOf_8 ?_
        rw [show sc1 16 = nI n from (hPS.1 16 (by omega) (by omega)).trans hJ.1]
        refine z_icmp_ge (pc := 11) 104 dX8_sourceOf_11 rfl (fun c11 => absurd c11 (by rw [nI_leI (by omega) (by omega)]; omega)) (fun c11 => ?_)
        refine z_il4 (pc := 14) dX8_sourceOf_14 ?_
        refine z_il1 (pc := 16) dX8_sourceOf_16 ?_
        skip
        refine z_icmp_eq (pc := 17) 98 dX8_sourceOf_17 rfl (fun c17 => ?_) (fun c17 => ?_)
        · refine z_ii4 (pc := 98) (nI (k + 1)) dX8_sourceOf_98 (nI_1 _) (by decide) ?_
          refine z_goto (pc := 101) 5 dX8_sourceOf_101 rfl ?_
          have hn := (srcM_skip (D := (sD ar c ln q a)) (Or.inl ((nI_eq (by omega) (by omega)).mp c17))).trans hs
          refine z_L (L' := [some (.ref x), some (.int (nI a)), some (.int q), some (.int (bM (srcM ar (sD ar c ln q a) a q (k + 1)))), some (.int (nI (k + 1))), w5]) (by rw [hn]) ?_
          exact ih (k + 1) _ _ _ _ (by omega) hM hF hPS (fun b f h => h34 b f (hs.trans (hn.symm.trans h)))
        · refine z_al0 (pc := 20) dX8_sourceOf_20 ?_
          refine z_il4 (pc := 21) dX8_sourceOf_21 ?_
          refine z_il1 (pc := 23) dX8_sourceOf_23 ?_
          refine z_callVr (pc := 24) (c_mIsEarlier l k a hM (by omega) (by omega)) hM.1 rfl rfl kw_960 zc_X8_isEarlier (by decide) (by decide) rfl (Nat.le_of_ble_eq_true rfl) dX8_sourceOf_24 ?_
          rw [zb_c (erl_ps hPS k a)]
          refine z_ifz_eq (pc := 27) 98 dX8_sourceOf_27 rfl (fun c27 => ?_) (fun c27 => ?_)
          · refine z_ii4 (pc := 98) (nI (k + 1)) dX8_sourceOf_98 (nI_1 _) (by decide) ?_
            refine z_goto (pc := 101) 5 dX8_sourceOf_101 rfl ?_
            have hn := (srcM_skip (D := (sD ar c ln q a)) (Or.inr (Or.inl c27))).trans hs
            refine z_L (L' := [some (.ref x), some (.int (nI a)), some (.int q), some (.int (bM (srcM ar (sD ar c ln q a) a q (k + 1)))), some (.int (nI (k + 1))), w5]) (by rw [hn]) ?_
            exact ih (k + 1) _ _ _ _ (by omega) hM hF hPS (fun b f h => h34 b f (hs.trans (hn.symm.trans h)))
          · refine z_al0 (pc := 30) dX8_sourceOf_30 ?_
            refine z_il4 (pc := 31) dX8_sourceOf_31 ?_
            refine z_il2 (pc := 33) dX8_sourceOf_33 ?_
            refine z_callVr (pc := 34) (c_mIsForged l k q hM (by omega)) hM.1 rfl rfl kw_936 zc_X8_isForged (by decide) (by decide) rfl (Nat.le_of_ble_eq_true rfl) dX8_sourceOf_34 ?_
            rw [zb_c (frg_ps hPS k q)]
            refine z_ifz_eq (pc := 37) 43 dX8_sourceOf_37 rfl (fun c37 => ?_) (fun c37 => ?_)
            · refine z_al0 (pc := 43) dX8_sourceOf_43 ?_
              refine z_il1 (pc := 44) dX8_sourceOf_44 ?_
              refine z_il4 (pc := 45) dX8_sourceOf_45 ?_
              refine z_il2 (pc := 47) dX8_sourceOf_47 ?_
              refine z_callVi (pc := 48) _ (c_mFar l a k (ln a) (ln k) c q hM (by omega) (by omega) hla.1 hla.2 hlk.1 hlk.2 hJ1.2.2.1 hJ1.2.2.2.1) rfl hM.1 rfl rfl kw_891 zc_X8_far (by decide) rfl (Nat.le_of_ble_eq_true rfl) dX8_sourceOf_48 (fun r G1 h => ?_)
              obtain ⟨sc2, ar2, rfl, hM1, hF1, hI⟩ := h
              have hPS2 := hPS.trans hI.ps
              rw [show sc2 27 = sD ar c ln q a k from hI.d.trans (sD_ps hPS c ln q a k)]
              have h34b : sc2 34 = sc1 34 := hI.1 34 (by omega) (by omega) (by omega) (by omega)
              have hF := zF.trans hF hF1
              clear hF1
              replace hM := hM1
              clear hM1
              refine z_is5 (pc := 51) dX8_sourceOf_51 (by decide) ?_
              refine z_il3 (pc := 53) dX8_sourceOf_53 ?_
              refine z_iconst (pc := 54) (-1) (by decide) dX8_sourceOf_54 ?_
              refine z_icmp_eq (pc := 55) 89 dX8_sourceOf_55 rfl (fun c55 => ?_) (fun c55 => absurd (rfl) c55)
              refine z_il4 (pc := 89) dX8_sourceOf_89 ?_
              refine z_is3 (pc := 91) dX8_sourceOf_91 (by decide) ?_
              refine z_al0 (pc := 92) dX8_sourceOf_92 ?_
              refine z_il5 (pc := 93) dX8_sourceOf_93 ?_
              refine z_mp34 (pc := 95) hM rfl dX8_sourceOf_95 (fun G1 hM1 hF1 => ?_)
              have hF := zF.trans hF hF1
              clear hF1
              replace hM := hM1
              clear hM1
              refine z_ii4 (pc := 98) (nI (k + 1)) dX8_sourceOf_98 (nI_1 _) (by decide) ?_
              refine z_goto (pc := 101) 5 dX8_sourceOf_101 rfl ?_
              have hPS3 := hPS2.trans (PS.sc0 34 (sD ar c ln q a k) (by omega))
              have hn := srcM_none (D := (sD ar c ln q a)) (fun h => h.elim (fun h => c17 ((nI_eq (by omega) (by omega)).mpr h)) (fun h => h.elim (fun h => h c27) (fun h => c37 h))) hs
              refine z_L (L' := [some (.ref x), some (.int (nI a)), some (.int q), some (.int (bM (srcM ar (sD ar c ln q a) a q (k + 1)))), some (.int (nI (k + 1))), _]) (by rw [hn]; rfl) ?_
              exact ih (k + 1) _ _ _ _ (by omega) hM hF hPS3 (fun b f h => by rw [hn] at h; cases h; rfl)
            · refine z_goto (pc := 40) 98 dX8_sourceOf_40 rfl ?_
              refine z_ii4 (pc := 98) (nI (k + 1)) dX8_sourceOf_98 (nI_1 _) (by decide) ?_
              refine z_goto (pc := 101) 5 dX8_sourceOf_101 rfl ?_
              have hn := (srcM_skip (D := (sD ar c ln q a)) (Or.inr (Or.inr c37))).trans hs
              refine z_L (L' := [some (.ref x), some (.int (nI a)), some (.int q), some (.int (bM (srcM ar (sD ar c ln q a) a q (k + 1)))), some (.int (nI (k + 1))), w5]) (by rw [hn]) ?_
              exact ih (k + 1) _ _ _ _ (by omega) hM hF hPS (fun b f h => h34 b f (hs.trans (hn.symm.trans h)))
      · refine z_il4 (pc := 5) dX8_sourceOf_5 ?_
        refine z_al0 (pc := 7) dX8_sourceOf_7 ?_
        refine z_mg16 (pc := 8) hM rfl dX8_sourceOf_8 ?_
        rw [show sc1 16 = nI n from (hPS.1 16 (by omega) (by omega)).trans hJ.1]
        refine z_icmp_ge (pc := 11) 104 dX8_sourceOf_11 rfl (fun c11 => absurd c11 (by rw [nI_leI (by omega) (by omega)]; omega)) (fun c11 => ?_)
        refine z_il4 (pc := 14) dX8_sourceOf_14 ?_
        refine z_il1 (pc := 16) dX8_sourceOf_16 ?_
        skip
        refine z_icmp_eq (pc := 17) 98 dX8_sourceOf_17 rfl (fun c17 => ?_) (fun c17 => ?_)
        · refine z_ii4 (pc := 98) (nI (k + 1)) dX8_sourceOf_98 (nI_1 _) (by decide) ?_
          refine z_goto (pc := 101) 5 dX8_sourceOf_101 rfl ?_
          have hn := (srcM_skip (D := (sD ar c ln q a)) (Or.inl ((nI_eq (by omega) (by omega)).mp c17))).trans hs
          refine z_L (L' := [some (.ref x), some (.int (nI a)), some (.int q), some (.int (bM (srcM ar (sD ar c ln q a) a q (k + 1)))), some (.int (nI (k + 1))), w5]) (by rw [hn]) ?_
          exact ih (k + 1) _ _ _ _ (by omega) hM hF hPS (fun b f h => h34 b f (hs.trans (hn.symm.trans h)))
        · refine z_al0 (pc := 20) dX8_sourceOf_20 ?_
          refine z_il4 (pc := 21) dX8_sourceOf_21 ?_
          refine z_il1 (pc := 23) dX8_sourceOf_23 ?_
          refine z_callVr (pc := 24) (c_mIsEarlier l k a hM (by omega) (by omega)) hM.1 rfl rfl kw_960 zc_X8_isEarlier (by decide) (by decide) rfl (Nat.le_of_ble_eq_true rfl) dX8_sourceOf_24 ?_
          rw [zb_c (erl_ps hPS k a)]
          refine z_ifz_eq (pc := 27) 98 dX8_sourceOf_27 rfl (fun c27 => ?_) (fun c27 => ?_)
          · refine z_ii4 (pc := 98) (nI (k + 1)) dX8_sourceOf_98 (nI_1 _) (by decide) ?_
            refine z_goto (pc := 101) 5 dX8_sourceOf_101 rfl ?_
            have hn := (srcM_skip (D := (sD ar c ln q a)) (Or.inr (Or.inl c27))).trans hs
            refine z_L (L' := [some (.ref x), some (.int (nI a)), some (.int q), some (.int (bM (srcM ar (sD ar c ln q a) a q (k + 1)))), some (.int (nI (k + 1))), w5]) (by rw [hn]) ?_
            exact ih (k + 1) _ _ _ _ (by omega) hM hF hPS (fun b f h => h34 b f (hs.trans (hn.symm.trans h)))
          · refine z_al0 (pc := 30) dX8_sourceOf_30 ?_
            refine z_il4 (pc := 31) dX8_sourceOf_31 ?_
            refine z_il2 (pc := 33) dX8_sourceOf_33 ?_
            refine z_callVr (pc := 34) (c_mIsForged l k q hM (by omega)) hM.1 rfl rfl kw_936 zc_X8_isForged (by decide) (by decide) rfl (Nat.le_of_ble_eq_true rfl) dX8_sourceOf_34 ?_
            rw [zb_c (frg_ps hPS k q)]
            refine z_ifz_eq (pc := 37) 43 dX8_sourceOf_37 rfl (fun c37 => ?_) (fun c37 => ?_)
            · refine z_al0 (pc := 43) dX8_sourceOf_43 ?_
              refine z_il1 (pc := 44) dX8_sourceOf_44 ?_
              refine z_il4 (pc := 45) dX8_sourceOf_45 ?_
              refine z_il2 (pc := 47) dX8_sourceOf_47 ?_
              refine z_callVi (pc := 48) _ (c_mFar l a k (ln a) (ln k) c q hM (by omega) (by omega) hla.1 hla.2 hlk.1 hlk.2 hJ1.2.2.1 hJ1.2.2.2.1) rfl hM.1 rfl rfl kw_891 zc_X8_far (by decide) rfl (Nat.le_of_ble_eq_true rfl) dX8_sourceOf_48 (fun r G1 h => ?_)
              obtain ⟨sc2, ar2, rfl, hM1, hF1, hI⟩ := h
              have hPS2 := hPS.trans hI.ps
              rw [show sc2 27 = sD ar c ln q a k from hI.d.trans (sD_ps hPS c ln q a k)]
              have h34b : sc2 34 = sc1 34 := hI.1 34 (by omega) (by omega) (by omega) (by omega)
              have hF := zF.trans hF hF1
              clear hF1
              replace hM := hM1
              clear hM1
              refine z_is5 (pc := 51) dX8_sourceOf_51 (by decide) ?_
              refine z_il3 (pc := 53) dX8_sourceOf_53 ?_
              refine z_iconst (pc := 54) (-1) (by decide) dX8_sourceOf_54 ?_
              refine z_icmp_eq (pc := 55) 89 dX8_sourceOf_55 rfl (fun c55 => absurd c55 (nI_m1 (by have := srcM_lt _ _ _ _ _ _ _ hs; omega))) (fun c55 => ?_)
              refine z_il5 (pc := 58) dX8_sourceOf_58 ?_
              refine z_al0 (pc := 60) dX8_sourceOf_60 ?_
              refine z_mg34 (pc := 61) hM rfl dX8_sourceOf_61 ?_
              rw [h34b, h34 _ _ hs]
              refine z_icmp_gt (pc := 64) 98 dX8_sourceOf_64 rfl (fun c64 => ?_) (fun c64 => ?_)
              · refine z_ii4 (pc := 98) (nI (k + 1)) dX8_sourceOf_98 (nI_1 _) (by decide) ?_
                refine z_goto (pc := 101) 5 dX8_sourceOf_101 rfl ?_
                have hn := srcM_old (fun h => h.elim (fun h => c17 ((nI_eq (by omega) (by omega)).mpr h)) (fun h => h.elim (fun h => h c27) (fun h => c37 h))) hs (Or.inl c64)
                refine z_L (L' := [some (.ref x), some (.int (nI a)), some (.int q), some (.int (bM (srcM ar (sD ar c ln q a) a q (k + 1)))), some (.int (nI (k + 1))), _]) (by rw [hn]) ?_
                exact ih (k + 1) _ _ _ _ (by omega) hM hF hPS2 (fun b f h => by rw [h34b]; exact h34 b f (hs.trans (hn.symm.trans h)))
              · refine z_il5 (pc := 67) dX8_sourceOf_67 ?_
                refine z_al0 (pc := 69) dX8_sourceOf_69 ?_
                refine z_mg34 (pc := 70) hM rfl dX8_sourceOf_70 ?_
                rw [h34b, h34 _ _ hs]
                refine z_icmp_ne (pc := 73) 89 dX8_sourceOf_73 rfl (fun c73 => ?_) (fun c73 => ?_)
                · refine z_il4 (pc := 89) dX8_sourceOf_89 ?_
                  refine z_is3 (pc := 91) dX8_sourceOf_91 (by decide) ?_
                  refine z_al0 (pc := 92) dX8_sourceOf_92 ?_
                  refine z_il5 (pc := 93) dX8_sourceOf_93 ?_
                  refine z_mp34 (pc := 95) hM rfl dX8_sourceOf_95 (fun G1 hM1 hF1 => ?_)
                  have hF := zF.trans hF hF1
                  clear hF1
                  replace hM := hM1
                  clear hM1
                  refine z_ii4 (pc := 98) (nI (k + 1)) dX8_sourceOf_98 (nI_1 _) (by decide) ?_
                  refine z_goto (pc := 101) 5 dX8_sourceOf_101 rfl ?_
                  have hPS3 := hPS2.trans (PS.sc0 34 (sD ar c ln q a k) (by omega))
                  have hn := srcM_new (fun h => h.elim (fun h => c17 ((nI_eq (by omega) (by omega)).mpr h)) (fun h => h.elim (fun h => h c27) (fun h => c37 h))) hs (fun h => h.elim c64 (fun h => c73 h.1))
                  refine z_L (L' := [some (.ref x), some (.int (nI a)), some (.int q), some (.int (bM (srcM ar (sD ar c ln q a) a q (k + 1)))), some (.int (nI (k + 1))), _]) (by rw [hn]; rfl) ?_
                  exact ih (k + 1) _ _ _ _ (by omega) hM hF hPS3 (fun b f h => by rw [hn] at h; cases h; rfl)
                · refine z_al0 (pc := 76) dX8_sourceOf_76 ?_
                  refine z_il4 (pc := 77) dX8_sourceOf_77 ?_
                  refine z_il3 (pc := 79) dX8_sourceOf_79 ?_
                  refine z_callVr (pc := 80) (c_mIsEarlier l k b hM (by omega) (by have := srcM_lt _ _ _ _ _ _ _ hs; omega)) hM.1 rfl rfl kw_960 zc_X8_isEarlier (by decide) (by decide) rfl (Nat.le_of_ble_eq_true rfl) dX8_sourceOf_80 ?_
                  rw [zb_c (erl_ps hPS2 k b)]
                  refine z_ifz_ne (pc := 83) 89 dX8_sourceOf_83 rfl (fun c83 => ?_) (fun c83 => ?_)
                  · refine z_il4 (pc := 89) dX8_sourceOf_89 ?_
                    refine z_is3 (pc := 91) dX8_sourceOf_91 (by decide) ?_
                    refine z_al0 (pc := 92) dX8_sourceOf_92 ?_
                    refine z_il5 (pc := 93) dX8_sourceOf_93 ?_
                    refine z_mp34 (pc := 95) hM rfl dX8_sourceOf_95 (fun G1 hM1 hF1 => ?_)
                    have hF := zF.trans hF hF1
                    clear hF1
                    replace hM := hM1
                    clear hM1
                    refine z_ii4 (pc := 98) (nI (k + 1)) dX8_sourceOf_98 (nI_1 _) (by decide) ?_
                    refine z_goto (pc := 101) 5 dX8_sourceOf_101 rfl ?_
                    have hPS3 := hPS2.trans (PS.sc0 34 (sD ar c ln q a k) (by omega))
                    have hn := srcM_new (fun h => h.elim (fun h => c17 ((nI_eq (by omega) (by omega)).mpr h)) (fun h => h.elim (fun h => h c27) (fun h => c37 h))) hs (fun h => h.elim c64 (fun h => h.2 c83))
                    refine z_L (L' := [some (.ref x), some (.int (nI a)), some (.int q), some (.int (bM (srcM ar (sD ar c ln q a) a q (k + 1)))), some (.int (nI (k + 1))), _]) (by rw [hn]; rfl) ?_
                    exact ih (k + 1) _ _ _ _ (by omega) hM hF hPS3 (fun b f h => by rw [hn] at h; cases h; rfl)
                  · refine z_goto (pc := 86) 98 dX8_sourceOf_86 rfl ?_
                    refine z_ii4 (pc := 98) (nI (k + 1)) dX8_sourceOf_98 (nI_1 _) (by decide) ?_
                    refine z_goto (pc := 101) 5 dX8_sourceOf_101 rfl ?_
                    have hn := srcM_old (fun h => h.elim (fun h => c17 ((nI_eq (by omega) (by omega)).mpr h)) (fun h => h.elim (fun h => h c27) (fun h => c37 h))) hs (Or.inr ⟨c73, c83⟩)
                    refine z_L (L' := [some (.ref x), some (.int (nI a)), some (.int q), some (.int (bM (srcM ar (sD ar c ln q a) a q (k + 1)))), some (.int (nI (k + 1))), _]) (by rw [hn]) ?_
                    exact ih (k + 1) _ _ _ _ (by omega) hM hF hPS2 (fun b f h => by rw [h34b]; exact h34 b f (hs.trans (hn.symm.trans h)))
            · refine z_goto (pc := 40) 98 dX8_sourceOf_40 rfl ?_
              refine z_ii4 (pc := 98) (nI (k + 1)) dX8_sourceOf_98 (nI_1 _) (by decide) ?_
              refine z_goto (pc := 101) 5 dX8_sourceOf_101 rfl ?_
              have hn := (srcM_skip (D := (sD ar c ln q a)) (Or.inr (Or.inr c37))).trans hs
              refine z_L (L' := [some (.ref x), some (.int (nI a)), some (.int q), some (.int (bM (srcM ar (sD ar c ln q a) a q (k + 1)))), some (.int (nI (k + 1))), w5]) (by rw [hn]) ?_
              exact ih (k + 1) _ _ _ _ (by omega) hM hF hPS (fun b f h => h34 b f (hs.trans (hn.symm.trans h)))
  refine z_iconst (pc := 0) (-1) (by decide) dX8_sourceOf_0 ?_
  refine z_is3 (pc := 1) dX8_sourceOf_1 (by decide) ?_
  refine z_iconst (pc := 2) (0) (by decide) dX8_sourceOf_2 ?_
  refine z_is4 (pc := 3) dX8_sourceOf_3 (by decide) ?_
  exact lp n 0 _ _ _ _ (by omega) hM hF PS.rf (fun b f h => by cases h)
