def sSrc (ar : Nat → Nat → Int32) (c : Nat) (ln : Nat → Nat) (n : Nat) (q : Int32) (a : Nat) : Option (Nat × Int32) := srcM ar (sD ar c ln q a) a q n
theorem srcM_ps {sc sc2 : Nat → Int32} {ar ar2 : Nat → Nat → Int32} (g : PS sc ar sc2 ar2) (D : Nat → Int32) (a : Nat) (q : Int32) : ∀ k, srcM ar2 D a q k = srcM ar D a q k
  | 0 => rfl
  | k + 1 => by
    unfold srcM
    rw [srcM_ps g D a q k]
    simp only [erl_ps g, frg_ps g]
theorem sSrc_ps {sc sc2 : Nat → Int32} {ar ar2 : Nat → Nat → Int32} (g : PS sc ar sc2 ar2) (c : Nat) (ln : Nat → Nat) (n : Nat) (q : Int32) (a : Nat) : sSrc ar2 c ln n q a = sSrc ar c ln n q a := by
  unfold sSrc
  rw [srcM_ps g, show sD ar2 c ln q a = sD ar c ln q a from funext fun b => sD_ps g c ln q a b]
theorem srcR_ps {sc sc2 : Nat → Int32} {ar ar2 : Nat → Nat → Int32} (g : PS sc ar sc2 ar2) (o : Option (Nat × Int32)) : srcR ar2 o = srcR ar o := by unfold srcR; rw [g.2 15 (by omega) (by omega)]
theorem chgR_ps {sc sc2 : Nat → Int32} {ar ar2 : Nat → Nat → Int32} (g : PS sc ar sc2 ar2) (o : Option (Nat × Int32)) : chgR ar2 o = chgR ar o := by unfold chgR; rw [g.2 15 (by omega) (by omega)]
/-- the sum of the changes of the first k sheets -/
def sAll (ar : Nat → Nat → Int32) (c : Nat) (ln : Nat → Nat) (n : Nat) (q : Int32) : Nat → Int32
  | 0 => 0
  | k + 1 => sAll ar c ln n q k + (if frg ar k q then 0 else chgR ar (sSrc ar c ln n q k))
/-- how many of the first k sheets are as near to a as 'most' -/
def sDbt (ar : Nat → Nat → Int32) (D : Nat → Int32) (a b : Nat) (q most : Int32) : Nat → Int32
  | 0 => 0
  | k + 1 => sDbt ar D a b q most k + zb (k ≠ b ∧ k ≠ a ∧ erl ar k a ∧ ¬ frg ar k q ∧ D k ≤ most)
def dbtR (ar : Nat → Nat → Int32) (D : Nat → Int32) (a : Nat) (q margin : Int32) (n : Nat) (o : Option (Nat × Int32)) : Int32 := match o with
  | none => 0
  | some (b, f) => if f < ar 15 4 then sDbt ar D a b q (f + margin) n else 0
abbrev rX8_source : Room := rmK 5 0 0 119
set_option maxRecDepth 100000 in
set_option maxHeartbeats 400000 in
theorem c_mSource (l : Launch) {κ : zK} {G : zH} {x : Nat} {ad : Nat → Nat} {sc : Nat → Int32} {ar : Nat → Nat → Int32} (n c d w : Nat) (ln : Nat → Nat) (a0 q : Int32) (hM : RM κ G x ad sc ar) (hJ : MJ n c d w ln sc ar) : Ct l yX8_source cX8_source 3 (some FieldType.int) rX8_source κ [.ref x, .int a0, .int q] G (qP (if okA n w ar a0 q then srcR ar (sSrc ar c ln n q (iN a0)) else -1) κ G x ad sc ar) := by
  refine Ct.of (by decide +kernel) (fun v hv => by
    simp only [List.mem_cons, List.mem_nil_iff, or_false, List.not_mem_nil] at hv
    rcases hv with rfl | rfl | rfl <;> rfl) (Nat.le_of_ble_eq_true rfl) ?_
  intro p e s m args below meth cC
  refine z_L (L' := [some (.ref x), some (.int a0), some (.int q)]) rfl ?_
  generalize hQx : MQ below (zQc κ _) args s _ _ (zA κ) = Qx
  have hF : zF 1 G G := zF.rf
  refine z_al0 (pc := 0) dX8_source_0 ?_
  refine z_il1 (pc := 1) dX8_source_1 ?_
  refine z_il2 (pc := 2) dX8_source_2 ?_
  refine z_callVi (pc := 3) _ (c_mIsAsked l n c d w ln a0 q hM hJ) rfl hM.1 rfl rfl kw_952 zc_X8_isAsked (by decide) rfl (Nat.le_of_ble_eq_true rfl) dX8_source_3 (fun r G1 h => ?_)
  obtain ⟨rfl, hM1, hF1⟩ := h
  have hF := zF.trans hF hF1
  clear hF1
  replace hM := hM1
  clear hM1
  refine z_ifz_eq (pc := 6) 18 dX8_source_6 rfl (fun c6 => ?_) (fun c6 => ?_)
  · refine z_iconst (pc := 18) (-1) (by decide) dX8_source_18 ?_
    rw [← hQx]
    refine z_iret (pc := 19) rfl (by decide) dX8_source_19 (⟨_, rfl, (if_neg c6).symm, _, _, hM, hF, PS.sc0 0 0 (by omega)⟩)
  · obtain ⟨⟨ha0, ha1⟩, hq, hfr⟩ := id c6
    have hn20 := hJ.2.1
    obtain ⟨a, rfl, ha⟩ := ix_in ha0 ha1 (by omega)
    have hPS : PS sc ar (sup sc 0 0) ar := PS.sc0 0 0 (by omega)
    have hJ1 := hJ.ps hPS
    refine z_al0 (pc := 9) dX8_source_9 ?_
    refine z_il1 (pc := 10) dX8_source_10 ?_
    refine z_il2 (pc := 11) dX8_source_11 ?_
    refine z_callVi (pc := 12) _ (c_mSourceOf l n c d w ln a q hM hJ1 ha) rfl hM.1 rfl rfl kw_956 zc_X8_sourceOf (by decide) rfl (Nat.le_of_ble_eq_true rfl) dX8_source_12 (fun r G1 h => ?_)
    obtain ⟨rfl, sc2, ar2, hM1, hF1, hPS2, h34⟩ := h
    replace hPS := hPS.trans hPS2
    have hF := zF.trans hF hF1
    clear hF1
    replace hM := hM1
    clear hM1
    refine z_goto (pc := 15) 19 dX8_source_15 rfl ?_
    rw [← hQx]
    refine z_iret (pc := 19) rfl (by decide) dX8_source_19 (⟨_, rfl, by rw [if_pos c6, iN_nI (by omega)]; rfl, _, _, hM, hF, hPS⟩)
abbrev rX8_changesOf : Room := rmK 5 0 0 119
set_option maxRecDepth 100000 in
set_option maxHeartbeats 400000 in
theorem c_mChangesOf (l : Launch) {κ : zK} {G : zH} {x : Nat} {ad : Nat → Nat} {sc : Nat → Int32} {ar : Nat → Nat → Int32} (n c d w : Nat) (ln : Nat → Nat) (a : Nat) (q : Int32) (hM : RM κ G x ad sc ar) (hJ : MJ n c d w ln sc ar) (ha : a < n) : Ct l yX8_changesOf cX8_changesOf 3 (some FieldType.int) rX8_changesOf κ [.ref x, .int (nI a), .int q] G (qP (chgR ar (sSrc ar c ln n q a)) κ G x ad sc ar) := by
  refine Ct.of (by decide +kernel) (fun v hv => by
    simp only [List.mem_cons, List.mem_nil_iff, or_false, List.not_mem_nil] at hv
    rcases hv with rfl | rfl | rfl <;> rfl) (Nat.le_of_ble_eq_true rfl) ?_
  intro p e s m args below meth cC
  refine z_L (L' := [some (.ref x), some (.int (nI a)), some (.int q)]) rfl ?_
  generalize hQx : MQ below (zQc κ _) args s _ _ (zA κ) = Qx
  have hF : zF 1 G G := zF.rf
  refine z_al0 (pc := 0) dX8_changesOf_0 ?_
  refine z_il1 (pc := 1) dX8_changesOf_1 ?_
  refine z_il2 (pc := 2) dX8_changesOf_2 ?_
  refine z_callVi (pc := 3) _ (c_mSourceOf l n c d w ln a q hM hJ ha) rfl hM.1 rfl rfl kw_956 zc_X8_sourceOf (by decide) rfl (Nat.le_of_ble_eq_true rfl) dX8_changesOf_3 (fun r G1 h => ?_)
  obtain ⟨rfl, sc2, ar2, hM1, hF1, hPS, h34⟩ := h
  have hF := zF.trans hF hF1
  clear hF1
  replace hM := hM1
  clear hM1
  have h34 : ∀ b f, sSrc ar c ln n q a = some (b, f) → sc2 34 = f := h34
  rw [show srcM ar (sD ar c ln q a) a q n = sSrc ar c ln n q a from rfl]
  have hlt : ∀ b f, sSrc ar c ln n q a = some (b, f) → b < n := srcM_lt _ _ _ _ _
  generalize hs : sSrc ar c ln n q a = so at h34 hlt ⊢
  refine z_iconst (pc := 6) (-1) (by decide) dX8_changesOf_6 ?_
  refine z_icmp_ne (pc := 7) 19 dX8_changesOf_7 rfl (fun c7 => ?_) (fun c7 => ?_)
  · refine z_al0 (pc := 19) dX8_changesOf_19 ?_
    refine z_mg34 (pc := 20) hM rfl dX8_changesOf_20 ?_
    rw [← hQx]
    refine z_iret (pc := 23) rfl (by decide) dX8_changesOf_23 (⟨_, rfl, by
      rcases so with _ | ⟨b, f⟩
      · exact absurd rfl c7
      · rw [h34 b f rfl, hs]
        unfold srcR at c7
        unfold chgR
        by_cases hf : f < ar 15 4
        · exact (if_pos hf).symm
        · exact absurd (if_neg hf) c7, _, _, hM, hF, hPS⟩)
  · refine z_al0 (pc := 10) dX8_changesOf_10 ?_
    refine z_mg15 (pc := 11) hM rfl dX8_changesOf_11 ?_
    refine z_iconst (pc := 14) (4) (by decide) dX8_changesOf_14 ?_
    refine z_mld (pc := 15) 15 5 hM rfl (by decide) (show (4 : Int32) = nI 4 from rfl) (by decide) dX8_changesOf_15 ?_
    refine z_goto (pc := 16) 23 dX8_changesOf_16 rfl ?_
    rw [← hQx]
    refine z_iret (pc := 23) rfl (by decide) dX8_changesOf_23 (⟨_, rfl, by
      rw [hPS.2 15 (by omega) (by omega)]
      rcases so with _ | ⟨b, f⟩
      · rw [hs]; rfl
      · rw [hs]
        unfold srcR at c7
        unfold chgR
        by_cases hf : f < ar 15 4
        · have := (if_pos hf).symm.trans c7
          exact absurd this (nI_m1 (by have := hlt b f rfl; have := hJ.2.1; omega))
        · exact (if_neg hf).symm, _, _, hM, hF, hPS⟩)
abbrev rX8_changes : Room := rmK 6 0 0 141
set_option maxRecDepth 100000 in
set_option maxHeartbeats 400000 in
theorem c_mChanges (l : Launch) {κ : zK} {G : zH} {x : Nat} {ad : Nat → Nat} {sc : Nat → Int32} {ar : Nat → Nat → Int32} (n c d w : Nat) (ln : Nat → Nat) (a0 q : Int32) (hM : RM κ G x ad sc ar) (hJ : MJ n c d w ln sc ar) : Ct l yX8_changes cX8_changes 3 (some FieldType.int) rX8_changes κ [.ref x, .int a0, .int q] G (qP (if okA n w ar a0 q then chgR ar (sSrc ar c ln n q (iN a0)) else -1) κ G x ad sc ar) := by
  refine Ct.of (by decide +kernel) (fun v hv => by
    simp only [List.mem_cons, List.mem_nil_iff, or_false, List.not_mem_nil] at hv
    rcases hv with rfl | rfl | rfl <;> rfl) (Nat.le_of_ble_eq_true rfl) ?_
  intro p e s m args below meth cC
  refine z_L (L' := [some (.ref x), some (.int a0), some (.int q)]) rfl ?_
  generalize hQx : MQ below (zQc κ _) args s _ _ (zA κ) = Qx
  have hF : zF 1 G G := zF.rf
  refine z_al0 (pc := 0) dX8_changes_0 ?_
  refine z_il1 (pc := 1) dX8_changes_1 ?_
  refine z_il2 (pc := 2) dX8_changes_2 ?_
  refine z_callVi (pc := 3) _ (c_mIsAsked l n c d w ln a0 q hM hJ) rfl hM.1 rfl rfl kw_952 zc_X8_isAsked (by decide) rfl (Nat.le_of_ble_eq_true rfl) dX8_changes_3 (fun r G1 h => ?_)
  obtain ⟨rfl, hM1, hF1⟩ := h
  have hF := zF.trans hF hF1
  clear hF1
  replace hM := hM1
  clear hM1
  refine z_ifz_eq (pc := 6) 18 dX8_changes_6 rfl (fun c6 => ?_) (fun c6 => ?_)
  · refine z_iconst (pc := 18) (-1) (by decide) dX8_changes_18 ?_
    rw [← hQx]
    refine z_iret (pc := 19) rfl (by decide) dX8_changes_19 (⟨_, rfl, (if_neg c6).symm, _, _, hM, hF, PS.sc0 0 0 (by omega)⟩)
  · obtain ⟨⟨ha0, ha1⟩, hq, hfr⟩ := id c6
    have hn20 := hJ.2.1
    obtain ⟨a, rfl, ha⟩ := ix_in ha0 ha1 (by omega)
    have hPS : PS sc ar (sup sc 0 0) ar := PS.sc0 0 0 (by omega)
    have hJ1 := hJ.ps hPS
    refine z_al0 (pc := 9) dX8_changes_9 ?_
    refine z_il1 (pc := 10) dX8_changes_10 ?_
    refine z_il2 (pc := 11) dX8_changes_11 ?_
    refine z_callVi (pc := 12) _ (c_mChangesOf l n c d w ln a q hM hJ1 ha) rfl hM.1 rfl rfl kw_968 zc_X8_changesOf (by decide) rfl (Nat.le_of_ble_eq_true rfl) dX8_changes_12 (fun r G1 h => ?_)
    obtain ⟨rfl, sc2, ar2, hM1, hF1, hPS2⟩ := h
    replace hPS := hPS.trans hPS2
    have hF := zF.trans hF hF1
    clear hF1
    replace hM := hM1
    clear hM1
    refine z_goto (pc := 15) 19 dX8_changes_15 rfl ?_
    rw [← hQx]
    refine z_iret (pc := 19) rfl (by decide) dX8_changes_19 (⟨_, rfl, by rw [if_pos c6, iN_nI (by omega)], _, _, hM, hF, hPS⟩)
abbrev rX8_all : Room := rmK 6 0 0 141
set_option maxRecDepth 100000 in
set_option maxHeartbeats 400000 in
theorem c_mAll (l : Launch) {κ : zK} {G : zH} {x : Nat} {ad : Nat → Nat} {sc : Nat → Int32} {ar : Nat → Nat → Int32} (n c d w : Nat) (ln : Nat → Nat) (q : Int32) (hM : RM κ G x ad sc ar) (hJ : MJ n c d w ln sc ar) : Ct l yX8_all cX8_all 4 (some FieldType.int) rX8_all κ [.ref x, .int q] G (qP (if 0 ≤ q ∧ q ≤ nI w then sAll ar c ln n q n else -1) κ G x ad sc ar) := by
  refine Ct.of (by decide +kernel) (fun v hv => by
    simp only [List.mem_cons, List.mem_nil_iff, or_false, List.not_mem_nil] at hv
    rcases hv with rfl | rfl <;> rfl) (Nat.le_of_ble_eq_true rfl) ?_
  intro p e s m args below meth cC
  refine z_L (L' := [some (.ref x), some (.int q), none, none]) rfl ?_
  generalize hQx : MQ below (zQc κ _) args s _ _ (zA κ) = Qx
  have hF : zF 1 G G := zF.rf
  have hn20 := hJ.2.1
  have e19 : sup sc 0 0 19 = nI w := hJ.2.2.2.2.2.2.1
  have lp : (0 ≤ q ∧ q ≤ nI w) → ∀ (dd k : Nat) (G1 : zH) (sc1 : Nat → Int32) (ar1 : Nat → Nat → Int32), k + dd = n → RM κ G1 x ad sc1 ar1 → zF 1 G G1 → PS sc ar sc1 ar1 → Z p l e rX8_all s m args below meth cC yX8_all cX8_all 4 (some FieldType.int) κ Qx 0 0 G1 [some (.ref x), some (.int q), some (.int (sAll ar c ln n q k)), some (.int (nI k))] 19 [] := by
    intro hq dd
    induction dd with
    | zero =>
      intro k G1 sc1 ar1 hkd hM hF hPS
      refine z_il3 (pc := 19) dX8_all_19 ?_
      refine z_al0 (pc := 20) dX8_all_20 ?_
      refine z_mg16 (pc := 21) hM rfl dX8_all_21 ?_
      rw [show sc1 16 = nI n from (hPS.1 16 (by omega) (by omega)).trans hJ.1]
      refine z_icmp_ge (pc := 24) 55 dX8_all_24 rfl (fun c24 => ?_) (fun c24 => absurd (by rw [show k = n by omega]; exact Int32.le_refl _) c24)
      rw [show k = n by omega]
      refine z_il2 (pc := 55) dX8_all_55 ?_
      rw [← hQx]
      refine z_iret (pc := 56) rfl (by decide) dX8_all_56 (⟨_, rfl, (if_pos hq).symm, _, _, hM, hF, hPS⟩)
    | succ dd ih =>
      intro k G1 sc1 ar1 hkd hM hF hPS
      refine z_il3 (pc := 19) dX8_all_19 ?_
      refine z_al0 (pc := 20) dX8_all_20 ?_
      refine z_mg16 (pc := 21) hM rfl dX8_all_21 ?_
      rw [show sc1 16 = nI n from (hPS.1 16 (by omega) (by omega)).trans hJ.1]
      refine z_icmp_ge (pc := 24) 55 dX8_all_24 rfl (fun c24 => absurd c24 (by rw [nI_leI (by omega) (by omega)]; omega)) (fun c24 => ?_)
      have hkn : k < n := by omega
      refine z_il2 (pc := 27) dX8_all_27 ?_
      refine z_al0 (pc := 28) dX8_all_28 ?_
      refine z_il3 (pc := 29) dX8_all_29 ?_
      refine z_il1 (pc := 30) dX8_all_30 ?_
      refine z_callVr (pc := 31) (c_mIsForged l k q hM (by omega)) hM.1 rfl rfl kw_936 zc_X8_isForged (by decide) (by decide) rfl (Nat.le_of_ble_eq_true rfl) dX8_all_31 ?_
      rw [zb_c (frg_ps hPS k q)]
      refine z_ifz_eq (pc := 34) 41 dX8_all_34 rfl (fun c34 => ?_) (fun c34 => ?_)
      · refine z_al0 (pc := 41) dX8_all_41 ?_
        refine z_il3 (pc := 42) dX8_all_42 ?_
        refine z_il1 (pc := 43) dX8_all_43 ?_
        refine z_callVi (pc := 44) _ (c_mChangesOf l n c d w ln k q hM (hJ.ps hPS) hkn) rfl hM.1 rfl rfl kw_968 zc_X8_changesOf (by decide) rfl (Nat.le_of_ble_eq_true rfl) dX8_all_44 (fun r G1 h => ?_)
        obtain ⟨rfl, sc2, ar2, hM1, hF1, hPS2⟩ := h
        rw [chgR_ps hPS, sSrc_ps hPS]
        replace hPS := hPS.trans hPS2
        have hF := zF.trans hF hF1
        clear hF1
        replace hM := hM1
        clear hM1
        refine z_iadd (pc := 47) dX8_all_47 ?_
        refine z_is2 (pc := 48) dX8_all_48 (by decide) ?_
        refine z_ii3 (pc := 49) (nI (k + 1)) dX8_all_49 (nI_1 _) (by decide) ?_
        refine z_goto (pc := 52) 19 dX8_all_52 rfl ?_
        refine z_L (L' := [some (.ref x), some (.int q), some (.int (sAll ar c ln n q (k + 1))), some (.int (nI (k + 1)))]) (by rw [show sAll ar c ln n q (k + 1) = sAll ar c ln n q k + (if frg ar k q then 0 else chgR ar (sSrc ar c ln n q k)) from rfl, if_neg c34]) ?_
        exact ih (k + 1) _ _ _ (by omega) hM hF hPS
      · refine z_iconst (pc := 37) (0) (by decide) dX8_all_37 ?_
        refine z_goto (pc := 38) 47 dX8_all_38 rfl ?_
        refine z_iadd (pc := 47) dX8_all_47 ?_
        refine z_is2 (pc := 48) dX8_all_48 (by decide) ?_
        refine z_ii3 (pc := 49) (nI (k + 1)) dX8_all_49 (nI_1 _) (by decide) ?_
        refine z_goto (pc := 52) 19 dX8_all_52 rfl ?_
        refine z_L (L' := [some (.ref x), some (.int q), some (.int (sAll ar c ln n q (k + 1))), some (.int (nI (k + 1)))]) (by rw [show sAll ar c ln n q (k + 1) = sAll ar c ln n q k + (if frg ar k q then 0 else chgR ar (sSrc ar c ln n q k)) from rfl, if_pos c34]) ?_
        exact ih (k + 1) _ _ _ (by omega) hM hF hPS
  refine z_al0 (pc := 0) dX8_all_0 ?_
  refine z_iconst (pc := 1) (0) (by decide) dX8_all_1 ?_
  refine z_mp0 (pc := 2) hM rfl dX8_all_2 (fun G1 hM1 hF1 => ?_)
  have hF := zF.trans hF hF1
  clear hF1
  replace hM := hM1
  clear hM1
  refine z_al0 (pc := 5) dX8_all_5 ?_
  refine z_il1 (pc := 6) dX8_all_6 ?_
  refine z_callVr (pc := 7) (c_mIsDay l q hM) hM.1 rfl rfl kw_875 zc_X8_isDay (by decide) (by decide) rfl (Nat.le_of_ble_eq_true rfl) dX8_all_7 ?_
  rw [e19]
  refine z_ifz_ne (pc := 10) 15 dX8_all_10 rfl (fun c10 => ?_) (fun c10 => ?_)
  · refine z_iconst (pc := 15) (0) (by decide) dX8_all_15 ?_
    refine z_is2 (pc := 16) dX8_all_16 (by decide) ?_
    refine z_iconst (pc := 17) (0) (by decide) dX8_all_17 ?_
    refine z_is3 (pc := 18) dX8_all_18 (by decide) ?_
    exact lp c10 n 0 _ _ _ (by omega) hM hF (PS.sc0 0 0 (by omega))
  · refine z_iconst (pc := 13) (-1) (by decide) dX8_all_13 ?_
    rw [← hQx]
    refine z_iret (pc := 14) rfl (by decide) dX8_all_14 (⟨_, rfl, (if_neg c10).symm, _, _, hM, hF, PS.sc0 0 0 (by omega)⟩)
abbrev rX8_doubt : Room := rmK 5 0 0 119
set_option maxRecDepth 100000 in
set_option maxHeartbeats 400000 in
theorem c_mDoubt (l : Launch) {κ : zK} {G : zH} {x : Nat} {ad : Nat → Nat} {sc : Nat → Int32} {ar : Nat → Nat → Int32} (n c d w : Nat) (ln : Nat → Nat) (a0 mg q : Int32) (hM : RM κ G x ad sc ar) (hJ : MJ n c d w ln sc ar) : Ct l yX8_doubt cX8_doubt 8 (some FieldType.int) rX8_doubt κ [.ref x, .int a0, .int mg, .int q] G (qP (if okA n w ar a0 q ∧ 0 ≤ mg ∧ mg ≤ 10000 then dbtR ar (sD ar c ln q (iN a0)) (iN a0) q mg n (sSrc ar c ln n q (iN a0)) else -1) κ G x ad sc ar) := by
  refine Ct.of (by decide +kernel) (fun v hv => by
    simp only [List.mem_cons, List.mem_nil_iff, or_false, List.not_mem_nil] at hv
    rcases hv with rfl | rfl | rfl | rfl <;> rfl) (Nat.le_of_ble_eq_true rfl) ?_
  intro p e s m args below meth cC
  refine z_L (L' := [some (.ref x), some (.int a0), some (.int mg), some (.int q), none, none, none, none]) rfl ?_
  generalize hQx : MQ below (zQc κ _) args s _ _ (zA κ) = Qx
  have hF : zF 1 G G := zF.rf
  have hn20 := hJ.2.1
  refine z_al0 (pc := 0) dX8_doubt_0 ?_
  refine z_il1 (pc := 1) dX8_doubt_1 ?_
  refine z_il3 (pc := 2) dX8_doubt_2 ?_
  refine z_callVi (pc := 3) _ (c_mIsAsked l n c d w ln a0 q hM hJ) rfl hM.1 rfl rfl kw_952 zc_X8_isAsked (by decide) rfl (Nat.le_of_ble_eq_true rfl) dX8_doubt_3 (fun r G1 h => ?_)
  obtain ⟨rfl, hM1, hF1⟩ := h
  have hF := zF.trans hF hF1
  clear hF1
  replace hM := hM1
  clear hM1
  refine z_ifz_eq (pc := 6) 20 dX8_doubt_6 rfl (fun c6 => ?_) (fun c6 => ?_)
  · refine z_iconst (pc := 20) (-1) (by decide) dX8_doubt_20 ?_
    rw [← hQx]
    refine z_iret (pc := 21) rfl (by decide) dX8_doubt_21 (⟨_, rfl, (if_neg (fun h => c6 h.1)).symm, _, _, hM, hF, PS.sc0 0 0 (by omega)⟩)
  · refine z_il2 (pc := 9) dX8_doubt_9 ?_
    refine z_iconst (pc := 10) (0) (by decide) dX8_doubt_10 ?_
    refine z_sipush (pc := 11) (10000) (by decide) dX8_doubt_11 ?_
    refine z_callSr (pc := 14) (c_mIsIn l mg 0 10000) kw_837 zc_X8_isIn (by decide) (by decide) rfl (Nat.le_of_ble_eq_true rfl) dX8_doubt_14 ?_
    refine z_ifz_ne (pc := 17) 22 dX8_doubt_17 rfl (fun c17 => ?_) (fun c17 => ?_)
    · obtain ⟨⟨ha0, ha1⟩, hq, hfr⟩ := id c6
      have hn20 := hJ.2.1
      obtain ⟨a, rfl, ha⟩ := ix_in ha0 ha1 (by omega)
      have hPS : PS sc ar (sup sc 0 0) ar := PS.sc0 0 0 (by omega)
      have hJ1 := hJ.ps hPS
      refine z_al0 (pc := 22) dX8_doubt_22 ?_
      refine z_il1 (pc := 23) dX8_doubt_23 ?_
      refine z_il3 (pc := 24) dX8_doubt_24 ?_
      refine z_callVi (pc := 25) _ (c_mSourceOf l n c d w ln a q hM hJ1 ha) rfl hM.1 rfl rfl kw_956 zc_X8_sourceOf (by decide) rfl (Nat.le_of_ble_eq_true rfl) dX8_doubt_25 (fun r G1 h => ?_)
      obtain ⟨rfl, sc2, ar2, hM1, hF1, hPS2, h34⟩ := h
      replace hPS := hPS.trans hPS2
      have hF := zF.trans hF hF1
      clear hF1
      replace hM := hM1
      clear hM1
      have h34 : ∀ b f, sSrc ar c ln n q a = some (b, f) → sc2 34 = f := h34
      have hltn : ∀ b f, sSrc ar c ln n q a = some (b, f) → b < n := srcM_lt _ _ _ _ _
      have hok : okA n w ar (nI a) q := c6
      have hmg : 0 ≤ mg ∧ mg ≤ 10000 := c17
      refine z_is4 (pc := 28) dX8_doubt_28 (by decide) ?_
      rw [show srcM ar (sD ar c ln q a) a q n = sSrc ar c ln n q a from rfl]
      rcases hs : sSrc ar c ln n q a with _ | ⟨b, f⟩
      · refine z_il4 (pc := 30) dX8_doubt_30 ?_
        refine z_iconst (pc := 32) (-1) (by decide) dX8_doubt_32 ?_
        refine z_icmp_ne (pc := 33) 38 dX8_doubt_33 rfl (fun c33 => absurd (rfl) c33) (fun c33 => ?_)
        refine z_iconst (pc := 36) (0) (by decide) dX8_doubt_36 ?_
        rw [← hQx]
        refine z_iret (pc := 37) rfl (by decide) dX8_doubt_37 (⟨_, rfl, by rw [if_pos ⟨hok, hmg⟩, iN_nI (by omega), hs]; rfl, _, _, hM, hF, hPS⟩)
      · by_cases hlt : f < ar 15 4
        · rw [show srcR ar (some (b, f)) = nI b from if_pos hlt]
          have hb : b < n := hltn b f hs
          refine z_il4 (pc := 30) dX8_doubt_30 ?_
          refine z_iconst (pc := 32) (-1) (by decide) dX8_doubt_32 ?_
          refine z_icmp_ne (pc := 33) 38 dX8_doubt_33 rfl (fun c33 => ?_) (fun c33 => absurd c33 (nI_m1 (by omega)))
          refine z_al0 (pc := 38) dX8_doubt_38 ?_
          refine z_mg34 (pc := 39) hM rfl dX8_doubt_39 ?_
          rw [h34 b f hs]
          refine z_il2 (pc := 42) dX8_doubt_42 ?_
          refine z_iadd (pc := 43) dX8_doubt_43 ?_
          refine z_is5 (pc := 44) dX8_doubt_44 (by decide) ?_
          refine z_iconst (pc := 46) (0) (by decide) dX8_doubt_46 ?_
          refine z_is6 (pc := 47) dX8_doubt_47 (by decide) ?_
          refine z_iconst (pc := 49) (0) (by decide) dX8_doubt_49 ?_
          refine z_is7 (pc := 50) dX8_doubt_50 (by decide) ?_
          have lp : ∀ (dd k : Nat) (G1 : zH) (sc1 : Nat → Int32) (ar1 : Nat → Nat → Int32), k + dd = n → RM κ G1 x ad sc1 ar1 → zF 1 G G1 → PS sc ar sc1 ar1 → Z p l e rX8_doubt s m args below meth cC yX8_doubt cX8_doubt 8 (some FieldType.int) κ Qx 0 0 G1 [some (.ref x), some (.int (nI a)), some (.int mg), some (.int q), some (.int (nI b)), some (.int (f + mg)), some (.int (sDbt ar (sD ar c ln q a) a b q (f + mg) k)), some (.int (nI k))] 52 [] := by
            intro dd
            induction dd with
            | zero =>
              intro k G1 sc1 ar1 hkd hM hF hPS
              refine z_il7 (pc := 52) dX8_doubt_52 ?_
              refine z_al0 (pc := 54) dX8_doubt_54 ?_
              refine z_mg16 (pc := 55) hM rfl dX8_doubt_55 ?_
              rw [show sc1 16 = nI n from (hPS.1 16 (by omega) (by omega)).trans hJ.1]
              refine z_icmp_ge (pc := 58) 123 dX8_doubt_58 rfl (fun c58 => ?_) (fun c58 => absurd (by rw [show k = n by omega]; exact Int32.le_refl _) c58)
              rw [show k = n by omega]
              refine z_il6 (pc := 123) dX8_doubt_123 ?_
              rw [← hQx]
              refine z_iret (pc := 125) rfl (by decide) dX8_doubt_125 (⟨_, rfl, by rw [if_pos ⟨hok, hmg⟩, iN_nI (by omega), hs]; unfold dbtR; exact (if_pos hlt).symm, _, _, hM, hF, hPS⟩)
            | succ dd ih =>
              intro k G1 sc1 ar1 hkd hM hF hPS
              refine z_il7 (pc := 52) dX8_doubt_52 ?_
              refine z_al0 (pc := 54) dX8_doubt_54 ?_
              refine z_mg16 (pc := 55) hM rfl dX8_doubt_55 ?_
              rw [show sc1 16 = nI n from (hPS.1 16 (by omega) (by omega)).trans hJ.1]
              refine z_icmp_ge (pc := 58) 123 dX8_doubt_58 rfl (fun c58 => absurd c58 (by rw [nI_leI (by omega) (by omega)]; omega)) (fun c58 => ?_)
              have hkn : k < n := by omega
              have hJ1 := hJ.ps hPS
              have hlk := hJ1.2.2.2.2.2.2.2.2.1 k hkn
              have hla := hJ1.2.2.2.2.2.2.2.2.1 a ha
              refine z_il6 (pc := 61) dX8_doubt_61 ?_
              refine z_il7 (pc := 63) dX8_doubt_63 ?_
              refine z_il4 (pc := 65) dX8_doubt_65 ?_
              refine z_icmp_eq (pc := 67) 113 dX8_doubt_67 rfl (fun c67 => ?_) (fun c67 => ?_)
              · refine z_iconst (pc := 113) (0) (by decide) dX8_doubt_113 ?_
                refine z_iadd (pc := 114) dX8_doubt_114 ?_
                refine z_is6 (pc := 115) dX8_doubt_115 (by decide) ?_
                refine z_ii7 (pc := 117) (nI (k + 1)) dX8_doubt_117 (nI_1 _) (by decide) ?_
                refine z_goto (pc := 120) 52 dX8_doubt_120 rfl ?_
                refine z_L (L' := [some (.ref x), some (.int (nI a)), some (.int mg), some (.int q), some (.int (nI b)), some (.int (f + mg)), some (.int (sDbt ar (sD ar c ln q a) a b q (f + mg) (k + 1))), some (.int (nI (k + 1)))]) (by rw [show sDbt ar (sD ar c ln q a) a b q (f + mg) (k + 1) = sDbt ar (sD ar c ln q a) a b q (f + mg) k + zb _ from rfl, zb_f (fun h => h.1 ((nI_eq (by omega) (by omega)).mp c67))]) ?_
                exact ih (k + 1) _ _ _ (by omega) hM hF hPS
              · refine z_il7 (pc := 70) dX8_doubt_70 ?_
                refine z_il1 (pc := 72) dX8_doubt_72 ?_
                refine z_icmp_eq (pc := 73) 113 dX8_doubt_73 rfl (fun c73 => ?_) (fun c73 => ?_)
                · refine z_iconst (pc := 113) (0) (by decide) dX8_doubt_113 ?_
                  refine z_iadd (pc := 114) dX8_doubt_114 ?_
                  refine z_is6 (pc := 115) dX8_doubt_115 (by decide) ?_
                  refine z_ii7 (pc := 117) (nI (k + 1)) dX8_doubt_117 (nI_1 _) (by decide) ?_
                  refine z_goto (pc := 120) 52 dX8_doubt_120 rfl ?_
                  refine z_L (L' := [some (.ref x), some (.int (nI a)), some (.int mg), some (.int q), some (.int (nI b)), some (.int (f + mg)), some (.int (sDbt ar (sD ar c ln q a) a b q (f + mg) (k + 1))), some (.int (nI (k + 1)))]) (by rw [show sDbt ar (sD ar c ln q a) a b q (f + mg) (k + 1) = sDbt ar (sD ar c ln q a) a b q (f + mg) k + zb _ from rfl, zb_f (fun h => h.2.1 ((nI_eq (by omega) (by omega)).mp c73))]) ?_
                  exact ih (k + 1) _ _ _ (by omega) hM hF hPS
                · refine z_al0 (pc := 76) dX8_doubt_76 ?_
                  refine z_il7 (pc := 77) dX8_doubt_77 ?_
                  refine z_il1 (pc := 79) dX8_doubt_79 ?_
                  refine z_callVr (pc := 80) (c_mIsEarlier l k a hM (by omega) (by omega)) hM.1 rfl rfl kw_960 zc_X8_isEarlier (by decide) (by decide) rfl (Nat.le_of_ble_eq_true rfl) dX8_doubt_80 ?_
                  rw [zb_c (erl_ps hPS k a)]
                  refine z_ifz_eq (pc := 83) 113 dX8_doubt_83 rfl (fun c83 => ?_) (fun c83 => ?_)
                  · refine z_iconst (pc := 113) (0) (by decide) dX8_doubt_113 ?_
                    refine z_iadd (pc := 114) dX8_doubt_114 ?_
                    refine z_is6 (pc := 115) dX8_doubt_115 (by decide) ?_
                    refine z_ii7 (pc := 117) (nI (k + 1)) dX8_doubt_117 (nI_1 _) (by decide) ?_
                    refine z_goto (pc := 120) 52 dX8_doubt_120 rfl ?_
                    refine z_L (L' := [some (.ref x), some (.int (nI a)), some (.int mg), some (.int q), some (.int (nI b)), some (.int (f + mg)), some (.int (sDbt ar (sD ar c ln q a) a b q (f + mg) (k + 1))), some (.int (nI (k + 1)))]) (by rw [show sDbt ar (sD ar c ln q a) a b q (f + mg) (k + 1) = sDbt ar (sD ar c ln q a) a b q (f + mg) k + zb _ from rfl, zb_f (fun h => c83 h.2.2.1)]) ?_
                    exact ih (k + 1) _ _ _ (by omega) hM hF hPS
                  · refine z_al0 (pc := 86) dX8_doubt_86 ?_
                    refine z_il7 (pc := 87) dX8_doubt_87 ?_
                    refine z_il3 (pc := 89) dX8_doubt_89 ?_
                    refine z_callVr (pc := 90) (c_mIsForged l k q hM (by omega)) hM.1 rfl rfl kw_936 zc_X8_isForged (by decide) (by decide) rfl (Nat.le_of_ble_eq_true rfl) dX8_doubt_90 ?_
                    rw [zb_c (frg_ps hPS k q)]
                    refine z_ifz_ne (pc := 93) 113 dX8_doubt_93 rfl (fun c93 => ?_) (fun c93 => ?_)
                    · refine z_iconst (pc := 113) (0) (by decide) dX8_doubt_113 ?_
                      refine z_iadd (pc := 114) dX8_doubt_114 ?_
                      refine z_is6 (pc := 115) dX8_doubt_115 (by decide) ?_
                      refine z_ii7 (pc := 117) (nI (k + 1)) dX8_doubt_117 (nI_1 _) (by decide) ?_
                      refine z_goto (pc := 120) 52 dX8_doubt_120 rfl ?_
                      refine z_L (L' := [some (.ref x), some (.int (nI a)), some (.int mg), some (.int q), some (.int (nI b)), some (.int (f + mg)), some (.int (sDbt ar (sD ar c ln q a) a b q (f + mg) (k + 1))), some (.int (nI (k + 1)))]) (by rw [show sDbt ar (sD ar c ln q a) a b q (f + mg) (k + 1) = sDbt ar (sD ar c ln q a) a b q (f + mg) k + zb _ from rfl, zb_f (fun h => h.2.2.2.1 c93)]) ?_
                      exact ih (k + 1) _ _ _ (by omega) hM hF hPS
                    · refine z_al0 (pc := 96) dX8_doubt_96 ?_
                      refine z_il1 (pc := 97) dX8_doubt_97 ?_
                      refine z_il7 (pc := 98) dX8_doubt_98 ?_
                      refine z_il3 (pc := 100) dX8_doubt_100 ?_
                      refine z_callVi (pc := 101) _ (c_mFar l a k (ln a) (ln k) c q hM (by omega) (by omega) hla.1 hla.2 hlk.1 hlk.2 hJ1.2.2.1 hJ1.2.2.2.1) rfl hM.1 rfl rfl kw_891 zc_X8_far (by decide) rfl (Nat.le_of_ble_eq_true rfl) dX8_doubt_101 (fun r G1 h => ?_)
                      obtain ⟨sc2, ar2, rfl, hM1, hF1, hI⟩ := h
                      rw [show sc2 27 = sD ar c ln q a k from hI.d.trans (sD_ps hPS c ln q a k)]
                      replace hPS := hPS.trans hI.ps
                      have hF := zF.trans hF hF1
                      clear hF1
                      replace hM := hM1
                      clear hM1
                      refine z_il5 (pc := 104) dX8_doubt_104 ?_
                      refine z_icmp_gt (pc := 106) 113 dX8_doubt_106 rfl (fun c106 => ?_) (fun c106 => ?_)
                      · refine z_iconst (pc := 113) (0) (by decide) dX8_doubt_113 ?_
                        refine z_iadd (pc := 114) dX8_doubt_114 ?_
                        refine z_is6 (pc := 115) dX8_doubt_115 (by decide) ?_
                        refine z_ii7 (pc := 117) (nI (k + 1)) dX8_doubt_117 (nI_1 _) (by decide) ?_
                        refine z_goto (pc := 120) 52 dX8_doubt_120 rfl ?_
                        refine z_L (L' := [some (.ref x), some (.int (nI a)), some (.int mg), some (.int q), some (.int (nI b)), some (.int (f + mg)), some (.int (sDbt ar (sD ar c ln q a) a b q (f + mg) (k + 1))), some (.int (nI (k + 1)))]) (by rw [show sDbt ar (sD ar c ln q a) a b q (f + mg) (k + 1) = sDbt ar (sD ar c ln q a) a b q (f + mg) k + zb _ from rfl, zb_f (fun h => absurd h.2.2.2.2 (Int32.not_le.mpr c106))]) ?_
                        exact ih (k + 1) _ _ _ (by omega) hM hF hPS
                      · refine z_iconst (pc := 109) (1) (by decide) dX8_doubt_109 ?_
                        refine z_goto (pc := 110) 114 dX8_doubt_110 rfl ?_
                        refine z_iadd (pc := 114) dX8_doubt_114 ?_
                        refine z_is6 (pc := 115) dX8_doubt_115 (by decide) ?_
                        refine z_ii7 (pc := 117) (nI (k + 1)) dX8_doubt_117 (nI_1 _) (by decide) ?_
                        refine z_goto (pc := 120) 52 dX8_doubt_120 rfl ?_
                        refine z_L (L' := [some (.ref x), some (.int (nI a)), some (.int mg), some (.int q), some (.int (nI b)), some (.int (f + mg)), some (.int (sDbt ar (sD ar c ln q a) a b q (f + mg) (k + 1))), some (.int (nI (k + 1)))]) (by rw [show sDbt ar (sD ar c ln q a) a b q (f + mg) (k + 1) = sDbt ar (sD ar c ln q a) a b q (f + mg) k + zb _ from rfl, zb_t ⟨fun h => c67 ((nI_eq (by omega) (by omega)).mpr h), fun h => c73 ((nI_eq (by omega) (by omega)).mpr h), c83, c93, Int32.not_lt.mp c106⟩]) ?_
                        exact ih (k + 1) _ _ _ (by omega) hM hF hPS
          exact lp n 0 _ _ _ (by omega) hM hF hPS
        · rw [show srcR ar (some (b, f)) = -1 from if_neg hlt]
          refine z_il4 (pc := 30) dX8_doubt_30 ?_
          refine z_iconst (pc := 32) (-1) (by decide) dX8_doubt_32 ?_
          refine z_icmp_ne (pc := 33) 38 dX8_doubt_33 rfl (fun c33 => absurd (rfl) c33) (fun c33 => ?_)
          refine z_iconst (pc := 36) (0) (by decide) dX8_doubt_36 ?_
          rw [← hQx]
          refine z_iret (pc := 37) rfl (by decide) dX8_doubt_37 (⟨_, rfl, by rw [if_pos ⟨hok, hmg⟩, iN_nI (by omega), hs]; exact (if_neg hlt).symm, _, _, hM, hF, hPS⟩)
    · refine z_iconst (pc := 20) (-1) (by decide) dX8_doubt_20 ?_
      rw [← hQx]
      refine z_iret (pc := 21) rfl (by decide) dX8_doubt_21 (⟨_, rfl, (if_neg (fun h => c17 h.2)).symm, _, _, hM, hF, PS.sc0 0 0 (by omega)⟩)
