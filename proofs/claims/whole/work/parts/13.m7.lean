/-! what holds of the state between calls, as far as the walk needs it: n sheets, c corrections, d doubles, day w, ln i notes of sheet i -/
def MJ (n c d w : Nat) (ln : Nat → Nat) (sc : Nat → Int32) (ar : Nat → Nat → Int32) : Prop :=
  sc 16 = nI n ∧ n ≤ 20 ∧ sc 17 = nI c ∧ c ≤ 200 ∧ sc 18 = nI d ∧ d ≤ 60 ∧ sc 19 = nI w ∧ w ≤ 1000 ∧ (∀ i, i < n → ar 4 i = nI (ln i) ∧ ln i ≤ 24) ∧ ∀ k, k < d → ∃ a b, a < n ∧ b < n ∧ ar 13 k = nI a ∧ ar 14 k = nI b
theorem MJ.ps {n c d w : Nat} {ln : Nat → Nat} {sc sc2 : Nat → Int32} {ar ar2 : Nat → Nat → Int32} (h : MJ n c d w ln sc ar) (g : PS sc ar sc2 ar2) : MJ n c d w ln sc2 ar2 := by
  obtain ⟨h1, h2, h3, h4, h5, h6, h7, h8, h9, h10⟩ := h
  refine ⟨by rw [g.1 16 (by omega) (by omega)]; exact h1, h2, by rw [g.1 17 (by omega) (by omega)]; exact h3, h4, by rw [g.1 18 (by omega) (by omega)]; exact h5, h6, by rw [g.1 19 (by omega) (by omega)]; exact h7, h8, ?_, ?_⟩
  · rw [g.2 4 (by omega) (by omega)]; exact h9
  · rw [g.2 13 (by omega) (by omega), g.2 14 (by omega) (by omega)]; exact h10
abbrev iN (x : Int32) : Nat := x.toNatClampNeg
theorem iN_nI {n : Nat} (h : n < 2 ^ 31) : iN (nI n) = n := nI_clamp h
abbrev okS (n : Nat) (a : Int32) : Prop := 0 ≤ a ∧ a < nI n
abbrev ok2 (n w : Nat) (a b q : Int32) : Prop := okS n a ∧ okS n b ∧ 0 ≤ q ∧ q ≤ nI w
abbrev frg (ar : Nat → Nat → Int32) (j : Nat) (q : Int32) : Prop := ar 5 j ≠ -1 ∧ ar 5 j ≤ q
abbrev erl (ar : Nat → Nat → Int32) (s t : Nat) : Prop := ar 2 s < ar 2 t ∨ ar 2 s = ar 2 t ∧ nI s < nI t
/-- the distance, and the key told -/
def sTL (ar : Nat → Nat → Int32) (c : Nat) (ln : Nat → Nat) (q : Int32) (a b : Nat) (k0 : Int32) : Int32 × Int32 := tl (fun i => dK ar c q a b (ln a) (ln b) (keyAt i)) k0 25
def sD (ar : Nat → Nat → Int32) (c : Nat) (ln : Nat → Nat) (q : Int32) (a b : Nat) : Int32 := (sTL ar c ln q a b 0).1
def sK (ar : Nat → Nat → Int32) (c : Nat) (ln : Nat → Nat) (q : Int32) (a b : Nat) : Int32 := (sTL ar c ln q a b 0).2
theorem tl_fst (f : Nat → Int32) (k0 k1 : Int32) : ∀ n, (tl f k0 n).1 = (tl f k1 n).1
  | 0 => rfl
  | n + 1 => by
    unfold tl
    rw [tl_fst f k0 k1 n]
    split
    · rfl
    · exact tl_fst f k0 k1 n
/-- the key told doesn't hang on the key that was told before -/
def TLok (ar : Nat → Nat → Int32) (c n : Nat) (ln : Nat → Nat) : Prop := ∀ (a b : Nat) (q k0 : Int32), a < n → b < n → sTL ar c ln q a b k0 = sTL ar c ln q a b 0
theorem dK_congr {ar ar2 : Nat → Nat → Int32} (h : ∀ k, k < 20 → ar2 k = ar k) (c : Nat) (q : Int32) (t u nt nu : Nat) (key : Int32) : dK ar2 c q t u nt nu key = dK ar c q t u nt nu key := by
  unfold dK
  rw [h 15 (by omega)]
  simp only [fun s i b => kn_congr h s i q b c]
theorem dK_ps {sc sc2 : Nat → Int32} {ar ar2 : Nat → Nat → Int32} (g : PS sc ar sc2 ar2) (c : Nat) (q : Int32) (t u nt nu : Nat) (key : Int32) : dK ar2 c q t u nt nu key = dK ar c q t u nt nu key := by
  unfold dK
  rw [g.2 15 (by omega) (by omega)]
  have hk : ∀ s i b cc, kn ar2 s i q b cc = kn ar s i q b cc := by
    intro s i b cc
    induction cc with
    | zero => unfold kn; rw [g.2 6 (by omega) (by omega), g.2 7 (by omega) (by omega)]
    | succ cc ih => unfold kn; rw [ih, g.2 8 (by omega) (by omega), g.2 9 (by omega) (by omega), g.2 10 (by omega) (by omega), g.2 11 (by omega) (by omega), g.2 12 (by omega) (by omega)]
  simp only [hk]
theorem sTL_ps {sc sc2 : Nat → Int32} {ar ar2 : Nat → Nat → Int32} (g : PS sc ar sc2 ar2) (c : Nat) (ln : Nat → Nat) (q : Int32) (a b : Nat) (k0 : Int32) : sTL ar2 c ln q a b k0 = sTL ar c ln q a b k0 := by
  unfold sTL
  simp only [dK_ps g]
theorem sD_ps {sc sc2 : Nat → Int32} {ar ar2 : Nat → Nat → Int32} (g : PS sc ar sc2 ar2) (c : Nat) (ln : Nat → Nat) (q : Int32) (a b : Nat) : sD ar2 c ln q a b = sD ar c ln q a b := by unfold sD; rw [sTL_ps g]
/-- an answer that leaves what lasts as it was -/
abbrev qP (F : Int32) (κ : zK) (G : zH) (x : Nat) (ad : Nat → Nat) (sc : Nat → Int32) (ar : Nat → Nat → Int32) : Option Value → zH → Prop := pI (fun r G2 => r = F ∧ ∃ sc2 ar2, RM κ G2 x ad sc2 ar2 ∧ zF 1 G G2 ∧ PS sc ar sc2 ar2)
theorem FI.d {sc sc1 : Nat → Int32} {ar ar1 : Nat → Nat → Int32} {a b c : Nat} {q : Int32} {ln : Nat → Nat} (h : FI sc ar sc1 ar1 a b (ln a) (ln b) c q 25) : sc1 27 = sD ar c ln q a b := by
  have := h.2.2.2.1
  unfold sD sTL
  rw [tl_fst _ 0 (sc 28), ← this]
abbrev rX8_isPair : Room := rmK 2 0 0 43
set_option maxRecDepth 100000 in
set_option maxHeartbeats 400000 in
theorem c_mIsPair (l : Launch) {κ : zK} {G : zH} {x : Nat} {ad : Nat → Nat} {sc : Nat → Int32} {ar : Nat → Nat → Int32} (n c d w : Nat) (ln : Nat → Nat) (a0 b0 q : Int32) (hM : RM κ G x ad sc ar) (hJ : MJ n c d w ln sc ar) : Ct l yX8_isPair cX8_isPair 4 (some FieldType.boolean) rX8_isPair κ [.ref x, .int a0, .int b0, .int q] G (pI (fun r G2 => r = zb (ok2 n w a0 b0 q) ∧ RM κ G2 x ad (sup sc 0 0) ar ∧ zF 1 G G2)) := by
  refine Ct.of (by decide +kernel) (fun v hv => by
    simp only [List.mem_cons, List.mem_nil_iff, or_false, List.not_mem_nil] at hv
    rcases hv with rfl | rfl | rfl | rfl <;> rfl) (Nat.le_of_ble_eq_true rfl) ?_
  intro p e s m args below meth cC
  refine z_L (L' := [some (.ref x), some (.int a0), some (.int b0), some (.int q)]) rfl ?_
  generalize hQx : MQ below (zQc κ _) args s _ _ (zA κ) = Qx
  have hF : zF 1 G G := zF.rf
  refine z_al0 (pc := 0) dX8_isPair_0 ?_
  refine z_iconst (pc := 1) (0) (by decide) dX8_isPair_1 ?_
  refine z_mp0 (pc := 2) hM rfl dX8_isPair_2 (fun G1 hM1 hF1 => ?_)
  have hF := zF.trans hF hF1
  clear hF1
  replace hM := hM1
  clear hM1
  have e16 : sup sc 0 0 16 = nI n := hJ.1
  have e19 : sup sc 0 0 19 = nI w := hJ.2.2.2.2.2.2.1
  refine z_al0 (pc := 5) dX8_isPair_5 ?_
  refine z_il1 (pc := 6) dX8_isPair_6 ?_
  refine z_callVr (pc := 7) (c_mIsSheet l a0 hM) hM.1 rfl rfl kw_844 zc_X8_isSheet (by decide) (by decide) rfl (Nat.le_of_ble_eq_true rfl) dX8_isPair_7 ?_
  rw [e16]
  refine z_ifz_eq (pc := 10) 33 dX8_isPair_10 rfl (fun c10 => ?_) (fun c10 => ?_)
  · refine z_iconst (pc := 33) (0) (by decide) dX8_isPair_33 ?_
    rw [← hQx]
    refine z_zret (pc := 34) rfl rfl (by decide) dX8_isPair_34 (by first | exact ⟨_, rfl, (zb_t ⟨c10, c18, c26⟩).symm, hM, hF⟩ | exact ⟨_, rfl, (zb_f (fun h => c10 h.1)).symm, hM, hF⟩ | exact ⟨_, rfl, (zb_f (fun h => c18 h.2.1)).symm, hM, hF⟩ | exact ⟨_, rfl, (zb_f (fun h => c26 h.2.2)).symm, hM, hF⟩)
  · refine z_al0 (pc := 13) dX8_isPair_13 ?_
    refine z_il2 (pc := 14) dX8_isPair_14 ?_
    refine z_callVr (pc := 15) (c_mIsSheet l b0 hM) hM.1 rfl rfl kw_844 zc_X8_isSheet (by decide) (by decide) rfl (Nat.le_of_ble_eq_true rfl) dX8_isPair_15 ?_
    rw [e16]
    refine z_ifz_eq (pc := 18) 33 dX8_isPair_18 rfl (fun c18 => ?_) (fun c18 => ?_)
    · refine z_iconst (pc := 33) (0) (by decide) dX8_isPair_33 ?_
      rw [← hQx]
      refine z_zret (pc := 34) rfl rfl (by decide) dX8_isPair_34 (by first | exact ⟨_, rfl, (zb_t ⟨c10, c18, c26⟩).symm, hM, hF⟩ | exact ⟨_, rfl, (zb_f (fun h => c10 h.1)).symm, hM, hF⟩ | exact ⟨_, rfl, (zb_f (fun h => c18 h.2.1)).symm, hM, hF⟩ | exact ⟨_, rfl, (zb_f (fun h => c26 h.2.2)).symm, hM, hF⟩)
    · refine z_al0 (pc := 21) dX8_isPair_21 ?_
      refine z_il3 (pc := 22) dX8_isPair_22 ?_
      refine z_callVr (pc := 23) (c_mIsDay l q hM) hM.1 rfl rfl kw_875 zc_X8_isDay (by decide) (by decide) rfl (Nat.le_of_ble_eq_true rfl) dX8_isPair_23 ?_
      rw [e19]
      refine z_ifz_eq (pc := 26) 33 dX8_isPair_26 rfl (fun c26 => ?_) (fun c26 => ?_)
      · refine z_iconst (pc := 33) (0) (by decide) dX8_isPair_33 ?_
        rw [← hQx]
        refine z_zret (pc := 34) rfl rfl (by decide) dX8_isPair_34 (by first | exact ⟨_, rfl, (zb_t ⟨c10, c18, c26⟩).symm, hM, hF⟩ | exact ⟨_, rfl, (zb_f (fun h => c10 h.1)).symm, hM, hF⟩ | exact ⟨_, rfl, (zb_f (fun h => c18 h.2.1)).symm, hM, hF⟩ | exact ⟨_, rfl, (zb_f (fun h => c26 h.2.2)).symm, hM, hF⟩)
      · refine z_iconst (pc := 29) (1) (by decide) dX8_isPair_29 ?_
        refine z_goto (pc := 30) 34 dX8_isPair_30 rfl ?_
        rw [← hQx]
        refine z_zret (pc := 34) rfl rfl (by decide) dX8_isPair_34 (by first | exact ⟨_, rfl, (zb_t ⟨c10, c18, c26⟩).symm, hM, hF⟩ | exact ⟨_, rfl, (zb_f (fun h => c10 h.1)).symm, hM, hF⟩ | exact ⟨_, rfl, (zb_f (fun h => c18 h.2.1)).symm, hM, hF⟩ | exact ⟨_, rfl, (zb_f (fun h => c26 h.2.2)).symm, hM, hF⟩)
abbrev rX8_distance : Room := rmK 4 0 0 94
set_option maxRecDepth 100000 in
set_option maxHeartbeats 400000 in
theorem c_mDistance (l : Launch) {κ : zK} {G : zH} {x : Nat} {ad : Nat → Nat} {sc : Nat → Int32} {ar : Nat → Nat → Int32} (n c d w : Nat) (ln : Nat → Nat) (a0 b0 q : Int32) (hM : RM κ G x ad sc ar) (hJ : MJ n c d w ln sc ar) : Ct l yX8_distance cX8_distance 4 (some FieldType.int) rX8_distance κ [.ref x, .int a0, .int b0, .int q] G (qP (if ok2 n w a0 b0 q then sD ar c ln q (iN a0) (iN b0) else -1) κ G x ad sc ar) := by
  refine Ct.of (by decide +kernel) (fun v hv => by
    simp only [List.mem_cons, List.mem_nil_iff, or_false, List.not_mem_nil] at hv
    rcases hv with rfl | rfl | rfl | rfl <;> rfl) (Nat.le_of_ble_eq_true rfl) ?_
  intro p e s m args below meth cC
  refine z_L (L' := [some (.ref x), some (.int a0), some (.int b0), some (.int q)]) rfl ?_
  generalize hQx : MQ below (zQc κ _) args s _ _ (zA κ) = Qx
  have hF : zF 1 G G := zF.rf
  refine z_al0 (pc := 0) dX8_distance_0 ?_
  refine z_il1 (pc := 1) dX8_distance_1 ?_
  refine z_il2 (pc := 2) dX8_distance_2 ?_
  refine z_il3 (pc := 3) dX8_distance_3 ?_
  refine z_callVi (pc := 4) _ (c_mIsPair l n c d w ln a0 b0 q hM hJ) rfl hM.1 rfl rfl kw_887 zc_X8_isPair (by decide) rfl (Nat.le_of_ble_eq_true rfl) dX8_distance_4 (fun r G1 h => ?_)
  obtain ⟨rfl, hM1, hF1⟩ := h
  have hF := zF.trans hF hF1
  clear hF1
  replace hM := hM1
  clear hM1
  refine z_ifz_eq (pc := 7) 20 dX8_distance_7 rfl (fun c7 => ?_) (fun c7 => ?_)
  · refine z_iconst (pc := 20) (-1) (by decide) dX8_distance_20 ?_
    rw [← hQx]
    refine z_iret (pc := 21) rfl (by decide) dX8_distance_21 (⟨_, rfl, (if_neg c7).symm, _, _, hM, hF, PS.sc0 0 0 (by omega)⟩)
  · obtain ⟨⟨ha0, ha1⟩, ⟨hb0, hb1⟩, hq⟩ := c7
    obtain ⟨a, rfl, ha⟩ := ix_in ha0 ha1 (by have := hJ.2.1; omega)
    obtain ⟨b, rfl, hb⟩ := ix_in hb0 hb1 (by have := hJ.2.1; omega)
    have hn20 := hJ.2.1
    have hla := hJ.2.2.2.2.2.2.2.2.1 a ha
    have hlb := hJ.2.2.2.2.2.2.2.2.1 b hb
    have hok : ok2 n w (nI a) (nI b) q := ⟨⟨ha0, ha1⟩, ⟨hb0, hb1⟩, hq⟩
    have hPS : PS sc ar (sup sc 0 0) ar := PS.sc0 0 0 (by omega)
    refine z_al0 (pc := 10) dX8_distance_10 ?_
    refine z_il1 (pc := 11) dX8_distance_11 ?_
    refine z_il2 (pc := 12) dX8_distance_12 ?_
    refine z_il3 (pc := 13) dX8_distance_13 ?_
    refine z_callVi (pc := 14) _ (c_mFar l a b (ln a) (ln b) c q hM (by omega) (by omega) hla.1 hla.2 hlb.1 hlb.2 hJ.2.2.1 hJ.2.2.2.1) rfl hM.1 rfl rfl kw_891 zc_X8_far (by decide) rfl (Nat.le_of_ble_eq_true rfl) dX8_distance_14 (fun r G1 h => ?_)
    obtain ⟨sc1, ar1, rfl, hM1, hF1, hI⟩ := h
    have hF := zF.trans hF hF1
    clear hF1
    replace hM := hM1
    clear hM1
    refine z_goto (pc := 17) 21 dX8_distance_17 rfl ?_
    rw [← hQx]
    refine z_iret (pc := 21) rfl (by decide) dX8_distance_21 (⟨_, rfl, by rw [if_pos hok, iN_nI (by omega), iN_nI (by omega)]; exact hI.d, _, _, hM, hF, hPS.trans hI.ps⟩)
abbrev rX8_key : Room := rmK 4 0 0 94
set_option maxRecDepth 100000 in
set_option maxHeartbeats 400000 in
theorem c_mKey (l : Launch) {κ : zK} {G : zH} {x : Nat} {ad : Nat → Nat} {sc : Nat → Int32} {ar : Nat → Nat → Int32} (n c d w : Nat) (ln : Nat → Nat) (a0 b0 q : Int32) (hM : RM κ G x ad sc ar) (hJ : MJ n c d w ln sc ar) (hTL : TLok ar c n ln) : Ct l yX8_key cX8_key 5 (some FieldType.int) rX8_key κ [.ref x, .int a0, .int b0, .int q] G (qP (if ok2 n w a0 b0 q then sK ar c ln q (iN a0) (iN b0) else 100) κ G x ad sc ar) := by
  refine Ct.of (by decide +kernel) (fun v hv => by
    simp only [List.mem_cons, List.mem_nil_iff, or_false, List.not_mem_nil] at hv
    rcases hv with rfl | rfl | rfl | rfl <;> rfl) (Nat.le_of_ble_eq_true rfl) ?_
  intro p e s m args below meth cC
  refine z_L (L' := [some (.ref x), some (.int a0), some (.int b0), some (.int q), none]) rfl ?_
  generalize hQx : MQ below (zQc κ _) args s _ _ (zA κ) = Qx
  have hF : zF 1 G G := zF.rf
  refine z_al0 (pc := 0) dX8_key_0 ?_
  refine z_il1 (pc := 1) dX8_key_1 ?_
  refine z_il2 (pc := 2) dX8_key_2 ?_
  refine z_il3 (pc := 3) dX8_key_3 ?_
  refine z_callVi (pc := 4) _ (c_mIsPair l n c d w ln a0 b0 q hM hJ) rfl hM.1 rfl rfl kw_887 zc_X8_isPair (by decide) rfl (Nat.le_of_ble_eq_true rfl) dX8_key_4 (fun r G1 h => ?_)
  obtain ⟨rfl, hM1, hF1⟩ := h
  have hF := zF.trans hF hF1
  clear hF1
  replace hM := hM1
  clear hM1
  refine z_ifz_ne (pc := 7) 13 dX8_key_7 rfl (fun c7 => ?_) (fun c7 => ?_)
  · obtain ⟨⟨ha0, ha1⟩, ⟨hb0, hb1⟩, hq⟩ := c7
    obtain ⟨a, rfl, ha⟩ := ix_in ha0 ha1 (by have := hJ.2.1; omega)
    obtain ⟨b, rfl, hb⟩ := ix_in hb0 hb1 (by have := hJ.2.1; omega)
    have hn20 := hJ.2.1
    have hla := hJ.2.2.2.2.2.2.2.2.1 a ha
    have hlb := hJ.2.2.2.2.2.2.2.2.1 b hb
    have hok : ok2 n w (nI a) (nI b) q := ⟨⟨ha0, ha1⟩, ⟨hb0, hb1⟩, hq⟩
    have hPS : PS sc ar (sup sc 0 0) ar := PS.sc0 0 0 (by omega)
    refine z_al0 (pc := 13) dX8_key_13 ?_
    refine z_il1 (pc := 14) dX8_key_14 ?_
    refine z_il2 (pc := 15) dX8_key_15 ?_
    refine z_il3 (pc := 16) dX8_key_16 ?_
    refine z_callVi (pc := 17) _ (c_mFar l a b (ln a) (ln b) c q hM (by omega) (by omega) hla.1 hla.2 hlb.1 hlb.2 hJ.2.2.1 hJ.2.2.2.1) rfl hM.1 rfl rfl kw_891 zc_X8_far (by decide) rfl (Nat.le_of_ble_eq_true rfl) dX8_key_17 (fun r G1 h => ?_)
    obtain ⟨sc1, ar1, rfl, hM1, hF1, hI⟩ := h
    have hF := zF.trans hF hF1
    clear hF1
    replace hM := hM1
    clear hM1
    refine z_is4 (pc := 20) dX8_key_20 (by decide) ?_
    refine z_al0 (pc := 22) dX8_key_22 ?_
    refine z_mg28 (pc := 23) hM rfl dX8_key_23 ?_
    rw [← hQx]
    refine z_iret (pc := 26) rfl (by decide) dX8_key_26 (⟨_, rfl, by rw [if_pos hok, iN_nI (by omega), iN_nI (by omega)]; exact (congrArg Prod.snd hI.2.2.2.1).trans (congrArg Prod.snd (hTL a b q _ ha hb)), _, _, hM, hF, hPS.trans hI.ps⟩)
  · refine z_bipush (pc := 10) (100) (by decide) dX8_key_10 ?_
    rw [← hQx]
    refine z_iret (pc := 12) rfl (by decide) dX8_key_12 (⟨_, rfl, (if_neg c7).symm, _, _, hM, hF, PS.sc0 0 0 (by omega)⟩)
/-- the columns of the alignment told: s0 of them, counted from the last one back -/
def PT (ar : Nat → Nat → Int32) (c : Nat) (ln : Nat → Nat) (q : Int32) (a b : Nat) (s : Nat) : Nat × Nat := pst (dD ar c q a b (sK ar c ln q a b)) (dC ar c q a b (sK ar c ln q a b)) (dA ar c q a) (ln a, ln b) s
def isCols (ar : Nat → Nat → Int32) (c : Nat) (ln : Nat → Nat) (q : Int32) (a b s0 : Nat) : Prop := PT ar c ln q a b s0 = (0, 0) ∧ s0 ≤ 48 ∧ ∀ k, k < s0 → PT ar c ln q a b k ≠ (0, 0)
def colT (ar : Nat → Nat → Int32) (c : Nat) (ln : Nat → Nat) (q : Int32) (a b k : Nat) : Int32 := eT (dD ar c q a b (sK ar c ln q a b)) (dC ar c q a b (sK ar c ln q a b)) (dA ar c q a) (PT ar c ln q a b k)
def colU (ar : Nat → Nat → Int32) (c : Nat) (ln : Nat → Nat) (q : Int32) (a b k : Nat) : Int32 := eU (dD ar c q a b (sK ar c ln q a b)) (dC ar c q a b (sK ar c ln q a b)) (dA ar c q a) (PT ar c ln q a b k)
def colC (ar : Nat → Nat → Int32) (c : Nat) (ln : Nat → Nat) (q : Int32) (a b k : Nat) : Int32 := eC (dD ar c q a b (sK ar c ln q a b)) (dC ar c q a b (sK ar c ln q a b)) (dA ar c q a) (dA ar c q b) (PT ar c ln q a b k)
theorem isCols.one {ar : Nat → Nat → Int32} {c : Nat} {ln : Nat → Nat} {q : Int32} {a b s0 s1 : Nat} (h : isCols ar c ln q a b s0) (g : isCols ar c ln q a b s1) : s0 = s1 := by
  rcases Nat.lt_trichotomy s0 s1 with q1 | q1 | q1
  · exact absurd h.1 (g.2.2 s0 q1)
  · exact q1
  · exact absurd g.1 (h.2.2 s1 q1)
theorem AL.cols {sc sc2 : Nat → Int32} {ar ar2 : Nat → Nat → Int32} {a b c s0 : Nat} {q : Int32} {ln : Nat → Nat} (h : AL sc ar sc2 ar2 a b (ln a) (ln b) c q (sK ar c ln q a b) s0) (ha : ln a ≤ 24) (hb : ln b ≤ 24) : isCols ar c ln q a b s0 ∧ ∀ k, k < s0 → ar2 29 k = colT ar c ln q a b k ∧ ar2 30 k = colU ar c ln q a b k ∧ ar2 31 k = colC ar c ln q a b k := by
  obtain ⟨-, -, -, -, -, arP, hV⟩ := h
  obtain ⟨-, h2, h3, -, -, h6⟩ := hV
  exact ⟨⟨h2.symm, by omega, fun k hk => (h6 k hk).1⟩, fun k hk => (h6 k hk).2⟩
/-- what column answers, the number of columns being s0 -/
def sCol (ar : Nat → Nat → Int32) (c : Nat) (ln : Nat → Nat) (q : Int32) (a b s0 : Nat) (i what : Int32) : Int32 :=
  if 0 ≤ i ∧ i < nI s0 then (if what = 0 then colT ar c ln q a b (s0 - 1 - iN i) else if what = 1 then colU ar c ln q a b (s0 - 1 - iN i) else if what = 2 then colC ar c ln q a b (s0 - 1 - iN i) else -1) else -1
abbrev rX8_column : Room := rmK 5 0 0 123
set_option maxRecDepth 100000 in
set_option maxHeartbeats 400000 in
theorem c_mColumn (l : Launch) {κ : zK} {G : zH} {x : Nat} {ad : Nat → Nat} {sc : Nat → Int32} {ar : Nat → Nat → Int32} (n c d w : Nat) (ln : Nat → Nat) (a0 b0 q i0 what : Int32) (hM : RM κ G x ad sc ar) (hJ : MJ n c d w ln sc ar) (hTL : TLok ar c n ln) : Ct l yX8_column cX8_column 7 (some FieldType.int) rX8_column κ [.ref x, .int a0, .int b0, .int q, .int i0, .int what] G (pI (fun r G2 => ∃ sc2 ar2, RM κ G2 x ad sc2 ar2 ∧ zF 1 G G2 ∧ PS sc ar sc2 ar2 ∧ ((¬ ok2 n w a0 b0 q ∧ r = -1) ∨ (ok2 n w a0 b0 q ∧ ∃ s0, isCols ar c ln q (iN a0) (iN b0) s0 ∧ r = sCol ar c ln q (iN a0) (iN b0) s0 i0 what)))) := by
  refine Ct.of (by decide +kernel) (fun v hv => by
    simp only [List.mem_cons, List.mem_nil_iff, or_false, List.not_mem_nil] at hv
    rcases hv with rfl | rfl | rfl | rfl | rfl | rfl <;> rfl) (Nat.le_of_ble_eq_true rfl) ?_
  intro p e s m args below meth cC
  refine z_L (L' := [some (.ref x), some (.int a0), some (.int b0), some (.int q), some (.int i0), some (.int what), none]) rfl ?_
  generalize hQx : MQ below (zQc κ _) args s _ _ (zA κ) = Qx
  have hF : zF 1 G G := zF.rf
  refine z_al0 (pc := 0) dX8_column_0 ?_
  refine z_il1 (pc := 1) dX8_column_1 ?_
  refine z_il2 (pc := 2) dX8_column_2 ?_
  refine z_il3 (pc := 3) dX8_column_3 ?_
  refine z_callVi (pc := 4) _ (c_mIsPair l n c d w ln a0 b0 q hM hJ) rfl hM.1 rfl rfl kw_887 zc_X8_isPair (by decide) rfl (Nat.le_of_ble_eq_true rfl) dX8_column_4 (fun r G1 h => ?_)
  obtain ⟨rfl, hM1, hF1⟩ := h
  have hF := zF.trans hF hF1
  clear hF1
  replace hM := hM1
  clear hM1
  refine z_ifz_ne (pc := 7) 12 dX8_column_7 rfl (fun c7 => ?_) (fun c7 => ?_)
  · obtain ⟨⟨ha0, ha1⟩, ⟨hb0, hb1⟩, hq⟩ := c7
    obtain ⟨a, rfl, ha⟩ := ix_in ha0 ha1 (by have := hJ.2.1; omega)
    obtain ⟨b, rfl, hb⟩ := ix_in hb0 hb1 (by have := hJ.2.1; omega)
    have hn20 := hJ.2.1
    have hla := hJ.2.2.2.2.2.2.2.2.1 a ha
    have hlb := hJ.2.2.2.2.2.2.2.2.1 b hb
    have hok : ok2 n w (nI a) (nI b) q := ⟨⟨ha0, ha1⟩, ⟨hb0, hb1⟩, hq⟩
    have hPS : PS sc ar (sup sc 0 0) ar := PS.sc0 0 0 (by omega)
    refine z_al0 (pc := 12) dX8_column_12 ?_
    refine z_il1 (pc := 13) dX8_column_13 ?_
    refine z_il2 (pc := 14) dX8_column_14 ?_
    refine z_il3 (pc := 15) dX8_column_15 ?_
    refine z_callVv (pc := 16) _ (c_mAlign l a b (ln a) (ln b) c q hM (by omega) (by omega) hla.1 hla.2 hlb.1 hlb.2 hJ.2.2.1 hJ.2.2.2.1) rfl hM.1 rfl rfl kw_924 zc_X8_align (by decide) rfl (Nat.le_of_ble_eq_true rfl) dX8_column_16 (fun G1 h => ?_)
    obtain ⟨sc1, ar1, s0, hM1, hF1, hI⟩ := h
    rw [show (tl _ _ 25).2 = sK ar c ln q a b from congrArg Prod.snd (hTL a b q _ ha hb)] at hI
    have hF := zF.trans hF hF1
    clear hF1
    replace hM := hM1
    clear hM1
    have hC := hI.cols hla.2 hlb.2
    have hs48 := hC.1.2.1
    have e32 : sc1 32 = nI s0 := hI.2.2.1
    refine z_il4 (pc := 19) dX8_column_19 ?_
    refine z_if_lt (pc := 21) 33 dX8_column_21 rfl (fun c21 => ?_) (fun c21 => ?_)
    · refine z_iconst (pc := 33) (-1) (by decide) dX8_column_33 ?_
      rw [← hQx]
      refine z_iret (pc := 34) rfl (by decide) dX8_column_34 (⟨_, rfl, _, _, hM, hF, hPS.trans hI.1, Or.inr ⟨hok, s0, by rw [iN_nI (by omega), iN_nI (by omega)]; exact hC.1, by rw [iN_nI (by omega), iN_nI (by omega)]; unfold sCol; rw [if_neg]; first | exact fun h => absurd h.1 (Int32.not_le.mpr c21) | exact fun h => c30 h.2⟩⟩)
    · refine z_il4 (pc := 24) dX8_column_24 ?_
      refine z_al0 (pc := 26) dX8_column_26 ?_
      refine z_mg32 (pc := 27) hM rfl dX8_column_27 ?_
      rw [e32]
      refine z_icmp_lt (pc := 30) 35 dX8_column_30 rfl (fun c30 => ?_) (fun c30 => ?_)
      · have hi0 : 0 ≤ i0 := Int32.not_lt.mp c21
        have hi1 : i0 < nI s0 := c30
        obtain ⟨i, rfl, hi⟩ := ix_in hi0 hi1 (by omega)
        refine z_al0 (pc := 35) dX8_column_35 ?_
        refine z_mg32 (pc := 36) hM rfl dX8_column_36 ?_
        rw [e32]
        refine z_iconst (pc := 39) (1) (by decide) dX8_column_39 ?_
        refine z_isub (pc := 40) dX8_column_40 ?_
        refine z_il4 (pc := 41) dX8_column_41 ?_
        refine z_isub (pc := 43) dX8_column_43 ?_
        rw [show nI s0 - 1 - nI i = nI (s0 - 1 - i) from by rw [show (1 : Int32) = nI 1 from rfl, pk_sub (by omega), pk_sub (by omega)]]
        refine z_is6 (pc := 44) dX8_column_44 (by decide) ?_
        refine z_il5 (pc := 46) dX8_column_46 ?_
        skip
        refine z_if_ne (pc := 48) 61 dX8_column_48 rfl (fun c48 => ?_) (fun c48 => ?_)
        · refine z_il5 (pc := 61) dX8_column_61 ?_
          refine z_iconst (pc := 63) (1) (by decide) dX8_column_63 ?_
          skip
          refine z_icmp_ne (pc := 64) 77 dX8_column_64 rfl (fun c64 => ?_) (fun c64 => ?_)
          · refine z_il5 (pc := 77) dX8_column_77 ?_
            refine z_iconst (pc := 79) (2) (by decide) dX8_column_79 ?_
            skip
            refine z_icmp_ne (pc := 80) 93 dX8_column_80 rfl (fun c80 => ?_) (fun c80 => ?_)
            · refine z_iconst (pc := 93) (-1) (by decide) dX8_column_93 ?_
              rw [← hQx]
              refine z_iret (pc := 94) rfl (by decide) dX8_column_94 (⟨_, rfl, _, _, hM, hF, hPS.trans hI.1, Or.inr ⟨hok, s0, by rw [iN_nI (by omega), iN_nI (by omega)]; exact hC.1, by rw [iN_nI (by omega), iN_nI (by omega)]; unfold sCol; rw [iN_nI (by omega), if_pos ⟨hi0, hi1⟩]; first | rw [if_pos ‹what = 0›]; exact (hC.2 _ (by omega)).1 | rw [if_neg ‹¬ what = 0›, if_pos ‹what = 1›]; exact (hC.2 _ (by omega)).2.1 | rw [if_neg ‹¬ what = 0›, if_neg ‹¬ what = 1›, if_pos ‹what = 2›]; exact (hC.2 _ (by omega)).2.2 | rw [if_neg ‹¬ what = 0›, if_neg ‹¬ what = 1›, if_neg ‹¬ what = 2›]⟩⟩)
            · refine z_al0 (pc := 83) dX8_column_83 ?_
              refine z_mg31 (pc := 84) hM rfl dX8_column_84 ?_
              refine z_il6 (pc := 87) dX8_column_87 ?_
              refine z_mld (pc := 89) 31 48 hM rfl (by decide) rfl (by omega) dX8_column_89 ?_
              refine z_goto (pc := 90) 94 dX8_column_90 rfl ?_
              rw [← hQx]
              refine z_iret (pc := 94) rfl (by decide) dX8_column_94 (⟨_, rfl, _, _, hM, hF, hPS.trans hI.1, Or.inr ⟨hok, s0, by rw [iN_nI (by omega), iN_nI (by omega)]; exact hC.1, by rw [iN_nI (by omega), iN_nI (by omega)]; unfold sCol; rw [iN_nI (by omega), if_pos ⟨hi0, hi1⟩]; first | rw [if_pos ‹what = 0›]; exact (hC.2 _ (by omega)).1 | rw [if_neg ‹¬ what = 0›, if_pos ‹what = 1›]; exact (hC.2 _ (by omega)).2.1 | rw [if_neg ‹¬ what = 0›, if_neg ‹¬ what = 1›, if_pos ‹what = 2›]; exact (hC.2 _ (by omega)).2.2 | rw [if_neg ‹¬ what = 0›, if_neg ‹¬ what = 1›, if_neg ‹¬ what = 2›]⟩⟩)
          · refine z_al0 (pc := 67) dX8_column_67 ?_
            refine z_mg30 (pc := 68) hM rfl dX8_column_68 ?_
            refine z_il6 (pc := 71) dX8_column_71 ?_
            refine z_mld (pc := 73) 30 48 hM rfl (by decide) rfl (by omega) dX8_column_73 ?_
            refine z_goto (pc := 74) 94 dX8_column_74 rfl ?_
            rw [← hQx]
            refine z_iret (pc := 94) rfl (by decide) dX8_column_94 (⟨_, rfl, _, _, hM, hF, hPS.trans hI.1, Or.inr ⟨hok, s0, by rw [iN_nI (by omega), iN_nI (by omega)]; exact hC.1, by rw [iN_nI (by omega), iN_nI (by omega)]; unfold sCol; rw [iN_nI (by omega), if_pos ⟨hi0, hi1⟩]; first | rw [if_pos ‹what = 0›]; exact (hC.2 _ (by omega)).1 | rw [if_neg ‹¬ what = 0›, if_pos ‹what = 1›]; exact (hC.2 _ (by omega)).2.1 | rw [if_neg ‹¬ what = 0›, if_neg ‹¬ what = 1›, if_pos ‹what = 2›]; exact (hC.2 _ (by omega)).2.2 | rw [if_neg ‹¬ what = 0›, if_neg ‹¬ what = 1›, if_neg ‹¬ what = 2›]⟩⟩)
        · refine z_al0 (pc := 51) dX8_column_51 ?_
          refine z_mg29 (pc := 52) hM rfl dX8_column_52 ?_
          refine z_il6 (pc := 55) dX8_column_55 ?_
          refine z_mld (pc := 57) 29 48 hM rfl (by decide) rfl (by omega) dX8_column_57 ?_
          refine z_goto (pc := 58) 94 dX8_column_58 rfl ?_
          rw [← hQx]
          refine z_iret (pc := 94) rfl (by decide) dX8_column_94 (⟨_, rfl, _, _, hM, hF, hPS.trans hI.1, Or.inr ⟨hok, s0, by rw [iN_nI (by omega), iN_nI (by omega)]; exact hC.1, by rw [iN_nI (by omega), iN_nI (by omega)]; unfold sCol; rw [iN_nI (by omega), if_pos ⟨hi0, hi1⟩]; first | rw [if_pos ‹what = 0›]; exact (hC.2 _ (by omega)).1 | rw [if_neg ‹¬ what = 0›, if_pos ‹what = 1›]; exact (hC.2 _ (by omega)).2.1 | rw [if_neg ‹¬ what = 0›, if_neg ‹¬ what = 1›, if_pos ‹what = 2›]; exact (hC.2 _ (by omega)).2.2 | rw [if_neg ‹¬ what = 0›, if_neg ‹¬ what = 1›, if_neg ‹¬ what = 2›]⟩⟩)
      · refine z_iconst (pc := 33) (-1) (by decide) dX8_column_33 ?_
        rw [← hQx]
        refine z_iret (pc := 34) rfl (by decide) dX8_column_34 (⟨_, rfl, _, _, hM, hF, hPS.trans hI.1, Or.inr ⟨hok, s0, by rw [iN_nI (by omega), iN_nI (by omega)]; exact hC.1, by rw [iN_nI (by omega), iN_nI (by omega)]; unfold sCol; rw [if_neg]; first | exact fun h => absurd h.1 (Int32.not_le.mpr c21) | exact fun h => c30 h.2⟩⟩)
  · refine z_iconst (pc := 10) (-1) (by decide) dX8_column_10 ?_
    rw [← hQx]
    refine z_iret (pc := 11) rfl (by decide) dX8_column_11 (⟨_, rfl, _, _, hM, hF, PS.sc0 0 0 (by omega), Or.inl ⟨c7, rfl⟩⟩)
