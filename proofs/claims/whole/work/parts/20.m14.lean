/-! habits: what columns of two notes add up to -/
theorem kn_ps {sc sc2 : Nat → Int32} {ar ar2 : Nat → Nat → Int32} (g : PS sc ar sc2 ar2) (s i : Nat) (q : Int32) (b : Bool) : ∀ cc, kn ar2 s i q b cc = kn ar s i q b cc
  | 0 => by unfold kn; rw [g.2 6 (by omega) (by omega), g.2 7 (by omega) (by omega)]
  | cc + 1 => by unfold kn; rw [kn_ps g s i q b cc, g.2 8 (by omega) (by omega), g.2 9 (by omega) (by omega), g.2 10 (by omega) (by omega), g.2 11 (by omega) (by omega), g.2 12 (by omega) (by omega)]
theorem sK_ps {sc sc2 : Nat → Int32} {ar ar2 : Nat → Nat → Int32} (g : PS sc ar sc2 ar2) (c : Nat) (ln : Nat → Nat) (q : Int32) (a b : Nat) : sK ar2 c ln q a b = sK ar c ln q a b := by unfold sK; rw [sTL_ps g]
theorem dD_ps {sc sc2 : Nat → Int32} {ar ar2 : Nat → Nat → Int32} (g : PS sc ar sc2 ar2) (c : Nat) (q : Int32) (a b : Nat) (key : Int32) : dD ar2 c q a b key = dD ar c q a b key := by
  unfold dD; rw [g.2 15 (by omega) (by omega)]; simp only [kn_ps g]
theorem dC_ps {sc sc2 : Nat → Int32} {ar ar2 : Nat → Nat → Int32} (g : PS sc ar sc2 ar2) (c : Nat) (q : Int32) (a b : Nat) (key : Int32) : dC ar2 c q a b key = dC ar c q a b key := by
  unfold dC; rw [g.2 15 (by omega) (by omega)]; simp only [kn_ps g]
theorem dA_ps {sc sc2 : Nat → Int32} {ar ar2 : Nat → Nat → Int32} (g : PS sc ar sc2 ar2) (c : Nat) (q : Int32) (a : Nat) : dA ar2 c q a = dA ar c q a := by
  unfold dA; rw [g.2 15 (by omega) (by omega)]; simp only [kn_ps g]
theorem PT_ps {sc sc2 : Nat → Int32} {ar ar2 : Nat → Nat → Int32} (g : PS sc ar sc2 ar2) (c : Nat) (ln : Nat → Nat) (q : Int32) (a b s : Nat) : PT ar2 c ln q a b s = PT ar c ln q a b s := by unfold PT; rw [sK_ps g, dD_ps g, dC_ps g, dA_ps g]
theorem isCols_ps {sc sc2 : Nat → Int32} {ar ar2 : Nat → Nat → Int32} (g : PS sc ar sc2 ar2) (c : Nat) (ln : Nat → Nat) (q : Int32) (a b s : Nat) : isCols ar2 c ln q a b s ↔ isCols ar c ln q a b s := by unfold isCols; simp only [PT_ps g]
theorem colT_ps {sc sc2 : Nat → Int32} {ar ar2 : Nat → Nat → Int32} (g : PS sc ar sc2 ar2) (c : Nat) (ln : Nat → Nat) (q : Int32) (a b s : Nat) : colT ar2 c ln q a b s = colT ar c ln q a b s := by unfold colT; rw [sK_ps g, dD_ps g, dC_ps g, dA_ps g, PT_ps g]
theorem colU_ps {sc sc2 : Nat → Int32} {ar ar2 : Nat → Nat → Int32} (g : PS sc ar sc2 ar2) (c : Nat) (ln : Nat → Nat) (q : Int32) (a b s : Nat) : colU ar2 c ln q a b s = colU ar c ln q a b s := by unfold colU; rw [sK_ps g, dD_ps g, dC_ps g, dA_ps g, PT_ps g]
theorem pst_le {D c2 : Nat → Nat → Int32} {a1 : Nat → Int32} {nt nu : Nat} : ∀ s, (pst D c2 a1 (nt, nu) s).1 ≤ nt ∧ (pst D c2 a1 (nt, nu) s).2 ≤ nu
  | 0 => ⟨Nat.le_refl _, Nat.le_refl _⟩
  | s + 1 => by
    have h := pst_le (D := D) (c2 := c2) (a1 := a1) (nt := nt) (nu := nu) s
    show (nxt D c2 a1 (pst D c2 a1 (nt, nu) s)).1 ≤ nt ∧ (nxt D c2 a1 (pst D c2 a1 (nt, nu) s)).2 ≤ nu
    unfold nxt
    split
    · exact ⟨by show _ - 1 ≤ _; omega, by show _ - 1 ≤ _; omega⟩
    · split
      · exact ⟨by show _ - 1 ≤ _; omega, h.2⟩
      · exact ⟨h.1, by show _ - 1 ≤ _; omega⟩
theorem colT_in (ar : Nat → Nat → Int32) (c : Nat) (ln : Nat → Nat) (q : Int32) (a b k : Nat) : colT ar c ln q a b k = -1 ∨ ∃ i, colT ar c ln q a b k = nI i ∧ i < ln a := by
  unfold colT eT
  have h := pst_le (D := dD ar c q a b (sK ar c ln q a b)) (c2 := dC ar c q a b (sK ar c ln q a b)) (a1 := dA ar c q a) (nt := ln a) (nu := ln b) k
  split
  · rename_i h2
    refine Or.inr ⟨_, rfl, ?_⟩
    unfold PT at h2 ⊢
    rcases h2 with h2 | h2
    · have := h2.1; omega
    · have := h2.2.1; omega
  · exact Or.inl rfl
theorem colU_in (ar : Nat → Nat → Int32) (c : Nat) (ln : Nat → Nat) (q : Int32) (a b k : Nat) (hk : PT ar c ln q a b k ≠ (0, 0)) : colU ar c ln q a b k = -1 ∨ ∃ i, colU ar c ln q a b k = nI i ∧ i < ln b := by
  unfold colU eU
  have h := pst_le (D := dD ar c q a b (sK ar c ln q a b)) (c2 := dC ar c q a b (sK ar c ln q a b)) (a1 := dA ar c q a) (nt := ln a) (nu := ln b) k
  split
  · exact Or.inl rfl
  · rename_i h2
    refine Or.inr ⟨_, rfl, ?_⟩
    unfold PT at h2 hk ⊢
    by_cases e : 0 < (pst (dD ar c q a b (sK ar c ln q a b)) (dC ar c q a b (sK ar c ln q a b)) (dA ar c q a) (ln a, ln b) k).2
    · omega
    · exfalso
      generalize hx : pst (dD ar c q a b (sK ar c ln q a b)) (dC ar c q a b (sK ar c ln q a b)) (dA ar c q a) (ln a, ln b) k = x0 at *
      obtain ⟨i, j⟩ := x0
      simp only at *
      have hj : j = 0 := by omega
      subst hj
      rcases i with _ | i
      · exact hk rfl
      · exact h2 ⟨fun g => by have := g.2.1; omega, by omega, dD_00 ar c q a b _ i⟩
abbrev met (ar : Nat → Nat → Int32) (c : Nat) (ln : Nat → Nat) (q : Int32) (a b k : Nat) : Prop := colT ar c ln q a b k ≠ -1 ∧ colU ar c ln q a b k ≠ -1 ∧ kn ar a (iN (colT ar c ln q a b k)) q false c ≠ -1 ∧ kn ar b (iN (colU ar c ln q a b k)) q false c ≠ -1
def mterm (ar : Nat → Nat → Int32) (c : Nat) (ln : Nat → Nat) (q : Int32) (a b k : Nat) : Int32 := kn ar a (iN (colT ar c ln q a b k)) q false c + sK ar c ln q a b - kn ar b (iN (colU ar c ln q a b k)) q false c
def cS (ar : Nat → Nat → Int32) (c : Nat) (ln : Nat → Nat) (q : Int32) (a b : Nat) (acc : Int32) : Nat → Int32
  | 0 => acc
  | k + 1 => if met ar c ln q a b k then cS ar c ln q a b acc k + mterm ar c ln q a b k else cS ar c ln q a b acc k
def cN (ar : Nat → Nat → Int32) (c : Nat) (ln : Nat → Nat) (q : Int32) (a b : Nat) (acc : Int32) : Nat → Int32
  | 0 => acc
  | k + 1 => if met ar c ln q a b k then cN ar c ln q a b acc k + 1 else cN ar c ln q a b acc k
def hTT (ar : Nat → Nat → Int32) (b1 : Int32) (k : Nat) : Nat := if ar 1 (iN (ar 13 k)) = b1 then iN (ar 13 k) else iN (ar 14 k)
def hUU (ar : Nat → Nat → Int32) (b1 : Int32) (k : Nat) : Nat := if hTT ar b1 k = iN (ar 13 k) then iN (ar 14 k) else iN (ar 13 k)
abbrev hRel (ar : Nat → Nat → Int32) (b1 b2 q : Int32) (k : Nat) : Prop := ar 1 (hTT ar b1 k) = b1 ∧ ar 1 (hUU ar b1 k) = b2 ∧ ¬ frg ar (hTT ar b1 k) q ∧ ¬ frg ar (hUU ar b1 k) q
def habS (ar : Nat → Nat → Int32) (c : Nat) (ln : Nat → Nat) (b1 b2 q : Int32) (S : Nat → Nat) : Nat → Int32
  | 0 => 0
  | k + 1 => if hRel ar b1 b2 q k then cS ar c ln q (hTT ar b1 k) (hUU ar b1 k) (habS ar c ln b1 b2 q S k) (S k) else habS ar c ln b1 b2 q S k
def habN (ar : Nat → Nat → Int32) (c : Nat) (ln : Nat → Nat) (b1 b2 q : Int32) (S : Nat → Nat) : Nat → Int32
  | 0 => 0
  | k + 1 => if hRel ar b1 b2 q k then cN ar c ln q (hTT ar b1 k) (hUU ar b1 k) (habN ar c ln b1 b2 q S k) (S k) else habN ar c ln b1 b2 q S k
theorem habS_congr {ar : Nat → Nat → Int32} {c : Nat} {ln : Nat → Nat} {b1 b2 q : Int32} {S S2 : Nat → Nat} : ∀ k, (∀ j, j < k → hRel ar b1 b2 q j → S j = S2 j) → habS ar c ln b1 b2 q S k = habS ar c ln b1 b2 q S2 k
  | 0, _ => rfl
  | k + 1, h => by
    unfold habS
    rw [habS_congr k (fun j hj => h j (by omega))]
    split
    · rename_i hr; rw [h k (by omega) hr]
    · rfl
theorem habN_congr {ar : Nat → Nat → Int32} {c : Nat} {ln : Nat → Nat} {b1 b2 q : Int32} {S S2 : Nat → Nat} : ∀ k, (∀ j, j < k → hRel ar b1 b2 q j → S j = S2 j) → habN ar c ln b1 b2 q S k = habN ar c ln b1 b2 q S2 k
  | 0, _ => rfl
  | k + 1, h => by
    unfold habN
    rw [habN_congr k (fun j hj => h j (by omega))]
    split
    · rename_i hr; rw [h k (by omega) hr]
    · rfl
abbrev okHab (w : Nat) (b1 b2 q what : Int32) : Prop := (0 ≤ b1 ∧ b1 ≤ 5) ∧ (0 ≤ b2 ∧ b2 ≤ 5) ∧ b1 ≠ b2 ∧ (0 ≤ q ∧ q ≤ nI w) ∧ 0 ≤ what ∧ what ≤ 1
def habC (ar : Nat → Nat → Int32) (c d : Nat) (ln : Nat → Nat) (b1 b2 q : Int32) (S : Nat → Nat) : Prop := ∀ k, k < d → hRel ar b1 b2 q k → isCols ar c ln q (hTT ar b1 k) (hUU ar b1 k) (S k)
abbrev rX8_habit : Room := rmK 5 0 0 123
set_option maxRecDepth 100000 in
set_option maxHeartbeats 400000 in
theorem c_mHabit (l : Launch) {κ : zK} {G : zH} {x : Nat} {ad : Nat → Nat} {sc : Nat → Int32} {ar : Nat → Nat → Int32} (n c d w : Nat) (ln : Nat → Nat) (b1 b2 q what : Int32) (hM : RM κ G x ad sc ar) (hJ : MJ n c d w ln sc ar) (hTL : TLok ar c n ln) : Ct l yX8_habit cX8_habit 13 (some FieldType.int) rX8_habit κ [.ref x, .int b1, .int b2, .int q, .int what] G (pI (fun r G2 => ∃ sc2 ar2, RM κ G2 x ad sc2 ar2 ∧ zF 1 G G2 ∧ PS sc ar sc2 ar2 ∧ ((¬ okHab w b1 b2 q what ∧ r = -1000000) ∨ (okHab w b1 b2 q what ∧ ∃ S, habC ar c d ln b1 b2 q S ∧ r = if what = 0 then habS ar c ln b1 b2 q S d else habN ar c ln b1 b2 q S d)))) := by
  refine Ct.of (by decide +kernel) (fun v hv => by
    simp only [List.mem_cons, List.mem_nil_iff, or_false, List.not_mem_nil] at hv
    rcases hv with rfl | rfl | rfl | rfl | rfl <;> rfl) (Nat.le_of_ble_eq_true rfl) ?_
  intro p e s m args below meth cC
  refine z_L (L' := [some (.ref x), some (.int b1), some (.int b2), some (.int q), some (.int what), none, none, none, none, none, none, none, none]) rfl ?_
  generalize hQx : MQ below (zQc κ _) args s _ _ (zA κ) = Qx
  have hF : zF 1 G G := zF.rf
  refine z_al0 (pc := 0) dX8_habit_0 ?_
  refine z_iconst (pc := 1) (0) (by decide) dX8_habit_1 ?_
  refine z_mp0 (pc := 2) hM rfl dX8_habit_2 (fun G1 hM1 hF1 => ?_)
  have hF := zF.trans hF hF1
  clear hF1
  replace hM := hM1
  clear hM1
  have e16 : sup sc 0 0 16 = nI n := hJ.1
  have e17 : sup sc 0 0 17 = nI c := hJ.2.2.1
  have e18 : sup sc 0 0 18 = nI d := hJ.2.2.2.2.1
  have e19 : sup sc 0 0 19 = nI w := hJ.2.2.2.2.2.2.1
  have hn20 := hJ.2.1
  have hc200 := hJ.2.2.2.1
  have hd60 := hJ.2.2.2.2.2.1
  have hw1000 := hJ.2.2.2.2.2.2.2.1
  refine z_il1 (pc := 5) dX8_habit_5 ?_
  refine z_iconst (pc := 6) (0) (by decide) dX8_habit_6 ?_
  refine z_iconst (pc := 7) (5) (by decide) dX8_habit_7 ?_
  refine z_callSr (pc := 8) (c_mIsIn l b1 0 5) kw_837 zc_X8_isIn (by decide) (by decide) rfl (Nat.le_of_ble_eq_true rfl) dX8_habit_8 ?_
  refine z_ifz_eq (pc := 11) 46 dX8_habit_11 rfl (fun c11 => ?_) (fun c11 => ?_)
  · refine z_ldc (pc := 46) kw_984 dX8_habit_46 ?_
    rw [← hQx]
    refine z_iret (pc := 48) rfl (by decide) dX8_habit_48 (by
      refine ⟨_, rfl, _, _, hM, hF, PS.sc0 0 0 (by omega), Or.inl ⟨?_, rfl⟩⟩
      first | exact (fun h => absurd h.1 c11) | exact (fun h => absurd h.2.1 c20) | exact (fun h => h.2.2.1 c25) | exact (fun h => absurd h.2.2.2.1 c33) | exact (fun h => absurd h.2.2.2.2 c43))
  · refine z_il2 (pc := 14) dX8_habit_14 ?_
    refine z_iconst (pc := 15) (0) (by decide) dX8_habit_15 ?_
    refine z_iconst (pc := 16) (5) (by decide) dX8_habit_16 ?_
    refine z_callSr (pc := 17) (c_mIsIn l b2 0 5) kw_837 zc_X8_isIn (by decide) (by decide) rfl (Nat.le_of_ble_eq_true rfl) dX8_habit_17 ?_
    refine z_ifz_eq (pc := 20) 46 dX8_habit_20 rfl (fun c20 => ?_) (fun c20 => ?_)
    · refine z_ldc (pc := 46) kw_984 dX8_habit_46 ?_
      rw [← hQx]
      refine z_iret (pc := 48) rfl (by decide) dX8_habit_48 (by
      refine ⟨_, rfl, _, _, hM, hF, PS.sc0 0 0 (by omega), Or.inl ⟨?_, rfl⟩⟩
      first | exact (fun h => absurd h.1 c11) | exact (fun h => absurd h.2.1 c20) | exact (fun h => h.2.2.1 c25) | exact (fun h => absurd h.2.2.2.1 c33) | exact (fun h => absurd h.2.2.2.2 c43))
    · refine z_il1 (pc := 23) dX8_habit_23 ?_
      refine z_il2 (pc := 24) dX8_habit_24 ?_
      refine z_icmp_eq (pc := 25) 46 dX8_habit_25 rfl (fun c25 => ?_) (fun c25 => ?_)
      · refine z_ldc (pc := 46) kw_984 dX8_habit_46 ?_
        rw [← hQx]
        refine z_iret (pc := 48) rfl (by decide) dX8_habit_48 (by
      refine ⟨_, rfl, _, _, hM, hF, PS.sc0 0 0 (by omega), Or.inl ⟨?_, rfl⟩⟩
      first | exact (fun h => absurd h.1 c11) | exact (fun h => absurd h.2.1 c20) | exact (fun h => h.2.2.1 c25) | exact (fun h => absurd h.2.2.2.1 c33) | exact (fun h => absurd h.2.2.2.2 c43))
      · refine z_al0 (pc := 28) dX8_habit_28 ?_
        refine z_il3 (pc := 29) dX8_habit_29 ?_
        refine z_callVr (pc := 30) (c_mIsDay l q hM) hM.1 rfl rfl kw_875 zc_X8_isDay (by decide) (by decide) rfl (Nat.le_of_ble_eq_true rfl) dX8_habit_30 ?_
        rw [e19]
        refine z_ifz_eq (pc := 33) 46 dX8_habit_33 rfl (fun c33 => ?_) (fun c33 => ?_)
        · refine z_ldc (pc := 46) kw_984 dX8_habit_46 ?_
          rw [← hQx]
          refine z_iret (pc := 48) rfl (by decide) dX8_habit_48 (by
      refine ⟨_, rfl, _, _, hM, hF, PS.sc0 0 0 (by omega), Or.inl ⟨?_, rfl⟩⟩
      first | exact (fun h => absurd h.1 c11) | exact (fun h => absurd h.2.1 c20) | exact (fun h => h.2.2.1 c25) | exact (fun h => absurd h.2.2.2.1 c33) | exact (fun h => absurd h.2.2.2.2 c43))
        · refine z_il4 (pc := 36) dX8_habit_36 ?_
          refine z_iconst (pc := 38) (0) (by decide) dX8_habit_38 ?_
          refine z_iconst (pc := 39) (1) (by decide) dX8_habit_39 ?_
          refine z_callSr (pc := 40) (c_mIsIn l what 0 1) kw_837 zc_X8_isIn (by decide) (by decide) rfl (Nat.le_of_ble_eq_true rfl) dX8_habit_40 ?_
          refine z_ifz_ne (pc := 43) 49 dX8_habit_43 rfl (fun c43 => ?_) (fun c43 => ?_)
          · have hok : okHab w b1 b2 q what := ⟨c11, c20, c25, c33, c43⟩
            refine z_iconst (pc := 49) (0) (by decide) dX8_habit_49 ?_
            refine z_is5 (pc := 50) dX8_habit_50 (by decide) ?_
            refine z_iconst (pc := 52) (0) (by decide) dX8_habit_52 ?_
            refine z_is6 (pc := 53) dX8_habit_53 (by decide) ?_
            refine z_iconst (pc := 55) (0) (by decide) dX8_habit_55 ?_
            refine z_is7 (pc := 56) dX8_habit_56 (by decide) ?_
            have lp : ∀ (dd k : Nat) (G1 : zH) (sc1 : Nat → Int32) (ar1 : Nat → Nat → Int32) (S : Nat → Nat) (w8 w9 w10 w11 w12 : Option Value), k + dd = d → RM κ G1 x ad sc1 ar1 → zF 1 G G1 → PS sc ar sc1 ar1 → habC ar c k ln b1 b2 q S → Z p l e rX8_habit s m args below meth cC yX8_habit cX8_habit 13 (some FieldType.int) κ Qx 0 0 G1 [some (.ref x), some (.int b1), some (.int b2), some (.int q), some (.int what), some (.int (habS ar c ln b1 b2 q S k)), some (.int (habN ar c ln b1 b2 q S k)), some (.int (nI k)), w8, w9, w10, w11, w12] 58 [] := by
              intro dd
              induction dd with
              | zero =>
                intro k G1 sc1 ar1 S w8 w9 w10 w11 w12 hkd hM hF hPS hS
                refine z_il7 (pc := 58) dX8_habit_58 ?_
                refine z_al0 (pc := 60) dX8_habit_60 ?_
                refine z_mg18 (pc := 61) hM rfl dX8_habit_61 ?_
                rw [show sc1 18 = nI d from (hPS.1 18 (by omega) (by omega)).trans hJ.2.2.2.2.1]
                refine z_icmp_ge (pc := 64) 294 dX8_habit_64 rfl (fun c64 => ?_) (fun c64 => absurd (by rw [show k = d by omega]; exact Int32.le_refl _) c64)
                rw [show k = d by omega] at hS ⊢
                refine z_il4 (pc := 294) dX8_habit_294 ?_
                refine z_if_ne (pc := 296) 304 dX8_habit_296 rfl (fun c296 => ?_) (fun c296 => ?_)
                · refine z_il6 (pc := 304) dX8_habit_304 ?_
                  rw [← hQx]
                  refine z_iret (pc := 306) rfl (by decide) dX8_habit_306 (⟨_, rfl, _, _, hM, hF, hPS, Or.inr ⟨hok, S, hS, (if_neg c296).symm⟩⟩)
                · refine z_il5 (pc := 299) dX8_habit_299 ?_
                  refine z_goto (pc := 301) 306 dX8_habit_301 rfl ?_
                  rw [← hQx]
                  refine z_iret (pc := 306) rfl (by decide) dX8_habit_306 (⟨_, rfl, _, _, hM, hF, hPS, Or.inr ⟨hok, S, hS, (if_pos c296).symm⟩⟩)
              | succ dd ih =>
                intro k G1 sc1 ar1 S w8 w9 w10 w11 w12 hkd hM hF hPS hS
                have hkd2 : k < d := by omega
                obtain ⟨a, b, ha, hb, h13, h14⟩ := hJ.2.2.2.2.2.2.2.2.2 k hkd2
                have p1 := hPS.2 1 (by omega) (by omega)
                have p13 := hPS.2 13 (by omega) (by omega)
                have p14 := hPS.2 14 (by omega) (by omega)
                have i13 : iN (ar 13 k) = a := by rw [h13]; exact iN_nI (by omega)
                have i14 : iN (ar 14 k) = b := by rw [h14]; exact iN_nI (by omega)
                have hJ1 := hJ.ps hPS
                have cols : ∀ (t u s0 : Nat) (sv nv : Int32) (G1 : zH) (sc2 : Nat → Int32) (ar2 : Nat → Nat → Int32), t < n → u < n → RM κ G1 x ad sc2 ar2 → zF 1 G G1 → PS sc ar sc2 ar2 → isCols ar c ln q t u s0 → sc2 28 = sK ar c ln q t u → sc2 32 = nI s0 → (∀ i, i < ln t → ar2 20 i = kn ar t i q false c) → (∀ i, i < ln u → ar2 22 i = kn ar u i q false c) → (∀ j, j < s0 → ar2 29 j = colT ar c ln q t u j ∧ ar2 30 j = colU ar c ln q t u j) → (∀ (w10 w11 w12 : Option Value), Z p l e rX8_habit s m args below meth cC yX8_habit cX8_habit 13 (some FieldType.int) κ Qx 0 0 G1 [some (.ref x), some (.int b1), some (.int b2), some (.int q), some (.int what), some (.int (cS ar c ln q t u sv s0)), some (.int (cN ar c ln q t u nv s0)), some (.int (nI k)), some (.int (nI t)), some (.int (nI u)), w10, w11, w12] 288 []) → ∀ (de j : Nat) (w11 w12 : Option Value), j + de = s0 → Z p l e rX8_habit s m args below meth cC yX8_habit cX8_habit 13 (some FieldType.int) κ Qx 0 0 G1 [some (.ref x), some (.int b1), some (.int b2), some (.int q), some (.int what), some (.int (cS ar c ln q t u sv j)), some (.int (cN ar c ln q t u nv j)), some (.int (nI k)), some (.int (nI t)), some (.int (nI u)), some (.int (nI j)), w11, w12] 190 [] := by
                  intro t u s0 sv nv G1 sc2 ar2 htn hun hM hF hPS hC h28 h32 h20 h22 h29 hk de
                  have hlt := (hJ.2.2.2.2.2.2.2.2.1 t htn).2
                  have hlu := (hJ.2.2.2.2.2.2.2.2.1 u hun).2
                  have hs48 := hC.2.1
                  induction de with
                  | zero =>
                    intro j w11 w12 hjd
                    refine z_il10 (pc := 190) dX8_habit_190 ?_
                    refine z_al0 (pc := 192) dX8_habit_192 ?_
                    refine z_mg32 (pc := 193) hM rfl dX8_habit_193 ?_
                    rw [h32]
                    refine z_icmp_ge (pc := 196) 288 dX8_habit_196 rfl (fun c196 => ?_) (fun c196 => absurd (by rw [show j = s0 by omega]; exact Int32.le_refl _) c196)
                    rw [show j = s0 by omega]
                    exact hk _ _ _
                  | succ de ih =>
                    intro j w11 w12 hjd
                    refine z_il10 (pc := 190) dX8_habit_190 ?_
                    refine z_al0 (pc := 192) dX8_habit_192 ?_
                    refine z_mg32 (pc := 193) hM rfl dX8_habit_193 ?_
                    rw [h32]
                    refine z_icmp_ge (pc := 196) 288 dX8_habit_196 rfl (fun c196 => absurd c196 (by rw [nI_leI (by omega) (by omega)]; omega)) (fun c196 => ?_)
                    have hj0 : j < s0 := by omega
                    refine z_al0 (pc := 199) dX8_habit_199 ?_
                    refine z_mg29 (pc := 200) hM rfl dX8_habit_200 ?_
                    refine z_il10 (pc := 203) dX8_habit_203 ?_
                    refine z_mld (pc := 205) 29 48 hM rfl (by decide) rfl (by omega) dX8_habit_205 ?_
                    rw [(h29 j hj0).1]
                    refine z_is11 (pc := 206) dX8_habit_206 (by decide) ?_
                    refine z_al0 (pc := 208) dX8_habit_208 ?_
                    refine z_mg30 (pc := 209) hM rfl dX8_habit_209 ?_
                    refine z_il10 (pc := 212) dX8_habit_212 ?_
                    refine z_mld (pc := 214) 30 48 hM rfl (by decide) rfl (by omega) dX8_habit_214 ?_
                    rw [(h29 j hj0).2]
                    refine z_is12 (pc := 215) dX8_habit_215 (by decide) ?_
                    refine z_il11 (pc := 217) dX8_habit_217 ?_
                    refine z_iconst (pc := 219) (-1) (by decide) dX8_habit_219 ?_
                    refine z_icmp_eq (pc := 220) 282 dX8_habit_220 rfl (fun c220 => ?_) (fun c220 => ?_)
                    · refine z_ii10 (pc := 282) (nI (j + 1)) dX8_habit_282 (nI_1 _) (by decide) ?_
                      refine z_goto (pc := 285) 190 dX8_habit_285 rfl ?_
                      refine z_L (L' := [some (.ref x), some (.int b1), some (.int b2), some (.int q), some (.int what), some (.int (cS ar c ln q t u sv (j + 1))), some (.int (cN ar c ln q t u nv (j + 1))), some (.int (nI k)), some (.int (nI t)), some (.int (nI u)), some (.int (nI (j + 1))), _, _]) (by
                        rw [show cS ar c ln q t u sv (j + 1) = cS ar c ln q t u sv j from if_neg (fun h => h.1 c220), show cN ar c ln q t u nv (j + 1) = cN ar c ln q t u nv j from if_neg (fun h => h.1 c220)]) ?_
                      exact ih (j + 1) _ _ (by omega)
                    · refine z_il12 (pc := 223) dX8_habit_223 ?_
                      refine z_iconst (pc := 225) (-1) (by decide) dX8_habit_225 ?_
                      refine z_icmp_eq (pc := 226) 282 dX8_habit_226 rfl (fun c226 => ?_) (fun c226 => ?_)
                      · refine z_ii10 (pc := 282) (nI (j + 1)) dX8_habit_282 (nI_1 _) (by decide) ?_
                        refine z_goto (pc := 285) 190 dX8_habit_285 rfl ?_
                        refine z_L (L' := [some (.ref x), some (.int b1), some (.int b2), some (.int q), some (.int what), some (.int (cS ar c ln q t u sv (j + 1))), some (.int (cN ar c ln q t u nv (j + 1))), some (.int (nI k)), some (.int (nI t)), some (.int (nI u)), some (.int (nI (j + 1))), _, _]) (by
                          rw [show cS ar c ln q t u sv (j + 1) = cS ar c ln q t u sv j from if_neg (fun h => h.2.1 c226), show cN ar c ln q t u nv (j + 1) = cN ar c ln q t u nv j from if_neg (fun h => h.2.1 c226)]) ?_
                        exact ih (j + 1) _ _ (by omega)
                      · have hT0 := c220
                        have hU0 := c226
                        obtain ⟨i, hti, hi⟩ := (colT_in ar c ln q t u j).resolve_left c220
                        obtain ⟨i2, huj, hi2⟩ := (colU_in ar c ln q t u j (hC.2.2 j hj0)).resolve_left c226
                        rw [hti, huj]
                        refine z_al0 (pc := 229) dX8_habit_229 ?_
                        refine z_mg20 (pc := 230) hM rfl dX8_habit_230 ?_
                        refine z_il11 (pc := 233) dX8_habit_233 ?_
                        refine z_mld (pc := 235) 20 24 hM rfl (by decide) rfl (by omega) dX8_habit_235 ?_
                        rw [h20 i hi]
                        refine z_iconst (pc := 236) (-1) (by decide) dX8_habit_236 ?_
                        refine z_icmp_eq (pc := 237) 282 dX8_habit_237 rfl (fun c237 => ?_) (fun c237 => ?_)
                        · refine z_ii10 (pc := 282) (nI (j + 1)) dX8_habit_282 (nI_1 _) (by decide) ?_
                          refine z_goto (pc := 285) 190 dX8_habit_285 rfl ?_
                          refine z_L (L' := [some (.ref x), some (.int b1), some (.int b2), some (.int q), some (.int what), some (.int (cS ar c ln q t u sv (j + 1))), some (.int (cN ar c ln q t u nv (j + 1))), some (.int (nI k)), some (.int (nI t)), some (.int (nI u)), some (.int (nI (j + 1))), _, _]) (by
                            rw [show cS ar c ln q t u sv (j + 1) = cS ar c ln q t u sv j from if_neg (fun h => h.2.2.1 (by rw [hti, iN_nI (by omega)]; exact c237)), show cN ar c ln q t u nv (j + 1) = cN ar c ln q t u nv j from if_neg (fun h => h.2.2.1 (by rw [hti, iN_nI (by omega)]; exact c237))]) ?_
                          exact ih (j + 1) _ _ (by omega)
                        · refine z_al0 (pc := 240) dX8_habit_240 ?_
                          refine z_mg22 (pc := 241) hM rfl dX8_habit_241 ?_
                          refine z_il12 (pc := 244) dX8_habit_244 ?_
                          refine z_mld (pc := 246) 22 24 hM rfl (by decide) rfl (by omega) dX8_habit_246 ?_
                          rw [h22 i2 hi2]
                          refine z_iconst (pc := 247) (-1) (by decide) dX8_habit_247 ?_
                          refine z_icmp_ne (pc := 248) 254 dX8_habit_248 rfl (fun c248 => ?_) (fun c248 => ?_)
                          · refine z_il5 (pc := 254) dX8_habit_254 ?_
                            refine z_al0 (pc := 256) dX8_habit_256 ?_
                            refine z_mg20 (pc := 257) hM rfl dX8_habit_257 ?_
                            refine z_il11 (pc := 260) dX8_habit_260 ?_
                            refine z_mld (pc := 262) 20 24 hM rfl (by decide) rfl (by omega) dX8_habit_262 ?_
                            rw [h20 i hi]
                            refine z_al0 (pc := 263) dX8_habit_263 ?_
                            refine z_mg28 (pc := 264) hM rfl dX8_habit_264 ?_
                            rw [h28]
                            refine z_iadd (pc := 267) dX8_habit_267 ?_
                            refine z_al0 (pc := 268) dX8_habit_268 ?_
                            refine z_mg22 (pc := 269) hM rfl dX8_habit_269 ?_
                            refine z_il12 (pc := 272) dX8_habit_272 ?_
                            refine z_mld (pc := 274) 22 24 hM rfl (by decide) rfl (by omega) dX8_habit_274 ?_
                            rw [h22 i2 hi2]
                            refine z_isub (pc := 275) dX8_habit_275 ?_
                            refine z_iadd (pc := 276) dX8_habit_276 ?_
                            refine z_is5 (pc := 277) dX8_habit_277 (by decide) ?_
                            refine z_ii6 (pc := 279) _ dX8_habit_279 rfl (by decide) ?_
                            refine z_ii10 (pc := 282) (nI (j + 1)) dX8_habit_282 (nI_1 _) (by decide) ?_
                            refine z_goto (pc := 285) 190 dX8_habit_285 rfl ?_
                            refine z_L (L' := [some (.ref x), some (.int b1), some (.int b2), some (.int q), some (.int what), some (.int (cS ar c ln q t u sv (j + 1))), some (.int (cN ar c ln q t u nv (j + 1))), some (.int (nI k)), some (.int (nI t)), some (.int (nI u)), some (.int (nI (j + 1))), _, _]) (by
                              have hmt : met ar c ln q t u j := ⟨hT0, hU0, by rw [hti, iN_nI (by omega)]; exact c237, by rw [huj, iN_nI (by omega)]; exact c248⟩
                              rw [show cS ar c ln q t u sv (j + 1) = cS ar c ln q t u sv j + mterm ar c ln q t u j from if_pos hmt, show cN ar c ln q t u nv (j + 1) = cN ar c ln q t u nv j + 1 from if_pos hmt]
                              rw [show mterm ar c ln q t u j = kn ar t i q false c + sK ar c ln q t u - kn ar u i2 q false c from by unfold mterm; rw [hti, huj, iN_nI (by omega), iN_nI (by omega)]]
                              try rfl) ?_
                            exact ih (j + 1) _ _ (by omega)
                          · refine z_goto (pc := 251) 282 dX8_habit_251 rfl ?_
                            refine z_ii10 (pc := 282) (nI (j + 1)) dX8_habit_282 (nI_1 _) (by decide) ?_
                            refine z_goto (pc := 285) 190 dX8_habit_285 rfl ?_
                            refine z_L (L' := [some (.ref x), some (.int b1), some (.int b2), some (.int q), some (.int what), some (.int (cS ar c ln q t u sv (j + 1))), some (.int (cN ar c ln q t u nv (j + 1))), some (.int (nI k)), some (.int (nI t)), some (.int (nI u)), some (.int (nI (j + 1))), _, _]) (by
                              rw [show cS ar c ln q t u sv (j + 1) = cS ar c ln q t u sv j from if_neg (fun h => h.2.2.2 (by rw [huj, iN_nI (by omega)]; exact c248)), show cN ar c ln q t u nv (j + 1) = cN ar c ln q t u nv j from if_neg (fun h => h.2.2.2 (by rw [huj, iN_nI (by omega)]; exact c248))]) ?_
                            exact ih (j + 1) _ _ (by omega)
                refine z_il7 (pc := 58) dX8_habit_58 ?_
                refine z_al0 (pc := 60) dX8_habit_60 ?_
                refine z_mg18 (pc := 61) hM rfl dX8_habit_61 ?_
                rw [show sc1 18 = nI d from (hPS.1 18 (by omega) (by omega)).trans hJ.2.2.2.2.1]
                refine z_icmp_ge (pc := 64) 294 dX8_habit_64 rfl (fun c64 => absurd c64 (by rw [nI_leI (by omega) (by omega)]; omega)) (fun c64 => ?_)
                refine z_al0 (pc := 67) dX8_habit_67 ?_
                refine z_mg1 (pc := 68) hM rfl dX8_habit_68 ?_
                refine z_al0 (pc := 71) dX8_habit_71 ?_
                refine z_mg13 (pc := 72) hM rfl dX8_habit_72 ?_
                refine z_il7 (pc := 75) dX8_habit_75 ?_
                refine z_mld (pc := 77) 13 60 hM rfl (by decide) rfl (by omega) dX8_habit_77 ?_
                rw [p13, h13]
                refine z_mld (pc := 78) 1 20 hM rfl (by decide) rfl (by omega) dX8_habit_78 ?_
                rw [p1]
                refine z_il1 (pc := 79) dX8_habit_79 ?_
                refine z_icmp_ne (pc := 80) 93 dX8_habit_80 rfl (fun c80 => ?_) (fun c80 => ?_)
                · refine z_al0 (pc := 93) dX8_habit_93 ?_
                  refine z_mg14 (pc := 94) hM rfl dX8_habit_94 ?_
                  refine z_il7 (pc := 97) dX8_habit_97 ?_
                  refine z_mld (pc := 99) 14 60 hM rfl (by decide) rfl (by omega) dX8_habit_99 ?_
                  rw [p14]
                  have hTk : hTT ar b1 k = b := by unfold hTT; rw [i13, i14, if_neg c80]
                  rw [h14]
                  refine z_is8 (pc := 100) dX8_habit_100 (by decide) ?_
                  refine z_il8 (pc := 102) dX8_habit_102 ?_
                  refine z_al0 (pc := 104) dX8_habit_104 ?_
                  refine z_mg13 (pc := 105) hM rfl dX8_habit_105 ?_
                  refine z_il7 (pc := 108) dX8_habit_108 ?_
                  refine z_mld (pc := 110) 13 60 hM rfl (by decide) rfl (by omega) dX8_habit_110 ?_
                  rw [p13, h13]
                  refine z_icmp_ne (pc := 111) 124 dX8_habit_111 rfl (fun c111 => ?_) (fun c111 => ?_)
                  · refine z_al0 (pc := 124) dX8_habit_124 ?_
                    refine z_mg13 (pc := 125) hM rfl dX8_habit_125 ?_
                    refine z_il7 (pc := 128) dX8_habit_128 ?_
                    refine z_mld (pc := 130) 13 60 hM rfl (by decide) rfl (by omega) dX8_habit_130 ?_
                    rw [p13]
                    have hUk : hUU ar b1 k = a := by unfold hUU; rw [hTk, i13, if_neg (fun e => c111 ((nI_eq (by omega) (by omega)).mpr e))]
                    rw [h13]
                    refine z_is9 (pc := 131) dX8_habit_131 (by decide) ?_
                    refine z_al0 (pc := 133) dX8_habit_133 ?_
                    refine z_mg1 (pc := 134) hM rfl dX8_habit_134 ?_
                    refine z_il8 (pc := 137) dX8_habit_137 ?_
                    refine z_mld (pc := 139) 1 20 hM rfl (by decide) rfl (by omega) dX8_habit_139 ?_
                    rw [p1]
                    refine z_il1 (pc := 140) dX8_habit_140 ?_
                    refine z_icmp_ne (pc := 141) 288 dX8_habit_141 rfl (fun c141 => ?_) (fun c141 => ?_)
                    · refine z_ii7 (pc := 288) (nI (k + 1)) dX8_habit_288 (nI_1 _) (by decide) ?_
                      refine z_goto (pc := 291) 58 dX8_habit_291 rfl ?_
                      have hno : ¬ hRel ar b1 b2 q k := (fun h => c141 (by have := h.1; rwa [hTk] at this))
                      refine z_L (L' := [some (.ref x), some (.int b1), some (.int b2), some (.int q), some (.int what), some (.int (habS ar c ln b1 b2 q S (k + 1))), some (.int (habN ar c ln b1 b2 q S (k + 1))), some (.int (nI (k + 1))), _, _, _, _, _]) (by rw [show habS ar c ln b1 b2 q S (k + 1) = _ from if_neg hno, show habN ar c ln b1 b2 q S (k + 1) = _ from if_neg hno]) ?_
                      exact ih (k + 1) _ _ _ S _ _ _ _ _ (by omega) hM hF hPS (fun j hj hr => by
                        by_cases e : j = k
                        · subst e; exact absurd hr hno
                        · exact hS j (by omega) hr)
                    · refine z_al0 (pc := 144) dX8_habit_144 ?_
                      refine z_mg1 (pc := 145) hM rfl dX8_habit_145 ?_
                      refine z_il9 (pc := 148) dX8_habit_148 ?_
                      refine z_mld (pc := 150) 1 20 hM rfl (by decide) rfl (by omega) dX8_habit_150 ?_
                      rw [p1]
                      refine z_il2 (pc := 151) dX8_habit_151 ?_
                      refine z_icmp_ne (pc := 152) 288 dX8_habit_152 rfl (fun c152 => ?_) (fun c152 => ?_)
                      · refine z_ii7 (pc := 288) (nI (k + 1)) dX8_habit_288 (nI_1 _) (by decide) ?_
                        refine z_goto (pc := 291) 58 dX8_habit_291 rfl ?_
                        have hno : ¬ hRel ar b1 b2 q k := (fun h => c152 (by have := h.2.1; rwa [hUk] at this))
                        refine z_L (L' := [some (.ref x), some (.int b1), some (.int b2), some (.int q), some (.int what), some (.int (habS ar c ln b1 b2 q S (k + 1))), some (.int (habN ar c ln b1 b2 q S (k + 1))), some (.int (nI (k + 1))), _, _, _, _, _]) (by rw [show habS ar c ln b1 b2 q S (k + 1) = _ from if_neg hno, show habN ar c ln b1 b2 q S (k + 1) = _ from if_neg hno]) ?_
                        exact ih (k + 1) _ _ _ S _ _ _ _ _ (by omega) hM hF hPS (fun j hj hr => by
                          by_cases e : j = k
                          · subst e; exact absurd hr hno
                          · exact hS j (by omega) hr)
                      · refine z_al0 (pc := 155) dX8_habit_155 ?_
                        refine z_il8 (pc := 156) dX8_habit_156 ?_
                        refine z_il3 (pc := 158) dX8_habit_158 ?_
                        refine z_callVr (pc := 159) (c_mIsForged l b q hM (by omega)) hM.1 rfl rfl kw_936 zc_X8_isForged (by decide) (by decide) rfl (Nat.le_of_ble_eq_true rfl) dX8_habit_159 ?_
                        rw [zb_c (frg_ps hPS b q)]
                        refine z_ifz_ne (pc := 162) 288 dX8_habit_162 rfl (fun c162 => ?_) (fun c162 => ?_)
                        · refine z_ii7 (pc := 288) (nI (k + 1)) dX8_habit_288 (nI_1 _) (by decide) ?_
                          refine z_goto (pc := 291) 58 dX8_habit_291 rfl ?_
                          have hno : ¬ hRel ar b1 b2 q k := (fun h => h.2.2.1 (by rw [hTk]; exact c162))
                          refine z_L (L' := [some (.ref x), some (.int b1), some (.int b2), some (.int q), some (.int what), some (.int (habS ar c ln b1 b2 q S (k + 1))), some (.int (habN ar c ln b1 b2 q S (k + 1))), some (.int (nI (k + 1))), _, _, _, _, _]) (by rw [show habS ar c ln b1 b2 q S (k + 1) = _ from if_neg hno, show habN ar c ln b1 b2 q S (k + 1) = _ from if_neg hno]) ?_
                          exact ih (k + 1) _ _ _ S _ _ _ _ _ (by omega) hM hF hPS (fun j hj hr => by
                            by_cases e : j = k
                            · subst e; exact absurd hr hno
                            · exact hS j (by omega) hr)
                        · refine z_al0 (pc := 165) dX8_habit_165 ?_
                          refine z_il9 (pc := 166) dX8_habit_166 ?_
                          refine z_il3 (pc := 168) dX8_habit_168 ?_
                          refine z_callVr (pc := 169) (c_mIsForged l a q hM (by omega)) hM.1 rfl rfl kw_936 zc_X8_isForged (by decide) (by decide) rfl (Nat.le_of_ble_eq_true rfl) dX8_habit_169 ?_
                          rw [zb_c (frg_ps hPS a q)]
                          refine z_ifz_eq (pc := 172) 178 dX8_habit_172 rfl (fun c172 => ?_) (fun c172 => ?_)
                          · refine z_al0 (pc := 178) dX8_habit_178 ?_
                            refine z_il8 (pc := 179) dX8_habit_179 ?_
                            refine z_il9 (pc := 181) dX8_habit_181 ?_
                            refine z_il3 (pc := 183) dX8_habit_183 ?_
                            refine z_callVv (pc := 184) _ (c_mAlign l b a (ln b) (ln a) c q hM (by omega) (by omega) (hJ1.2.2.2.2.2.2.2.2.1 b (by omega)).1 (hJ1.2.2.2.2.2.2.2.2.1 b (by omega)).2 (hJ1.2.2.2.2.2.2.2.2.1 a (by omega)).1 (hJ1.2.2.2.2.2.2.2.2.1 a (by omega)).2 hJ1.2.2.1 hJ1.2.2.2.1) rfl hM.1 rfl rfl kw_924 zc_X8_align (by decide) rfl (Nat.le_of_ble_eq_true rfl) dX8_habit_184 (fun G1 h => ?_)
                            obtain ⟨sc2, ar2, s0, hM1, hF1, hI⟩ := h
                            rw [show (tl _ _ 25).2 = sK ar1 c ln q b a from congrArg Prod.snd ((sTL_ps hPS c ln q b a _).trans ((hTL b a q _ (by omega) (by omega)).trans (sTL_ps hPS c ln q b a 0).symm))] at hI
                            have hF := zF.trans hF hF1
                            clear hF1
                            replace hM := hM1
                            clear hM1
                            have hC := hI.cols (hJ1.2.2.2.2.2.2.2.2.1 b (by omega)).2 (hJ1.2.2.2.2.2.2.2.2.1 a (by omega)).2
                            rw [isCols_ps hPS] at hC
                            have hPS2 := hPS.trans hI.1
                            have hrel : hRel ar b1 b2 q k := ⟨by rw [hTk]; exact c141, by rw [hUk]; exact c152, by rw [hTk]; exact c162, by rw [hUk]; exact c172⟩
                            refine z_iconst (pc := 187) (0) (by decide) dX8_habit_187 ?_
                            refine z_is10 (pc := 188) dX8_habit_188 (by decide) ?_
                            refine cols b a s0 (habS ar c ln b1 b2 q S k) (habN ar c ln b1 b2 q S k) _ sc2 ar2 (by omega) (by omega) hM hF hPS2 hC.1 (hI.2.1.trans (sK_ps hPS c ln q b a)) hI.2.2.1 (fun i hi => (hI.2.2.2.1 i hi).trans (kn_ps hPS _ _ _ _ _)) (fun i hi => (hI.2.2.2.2.1 i hi).trans (kn_ps hPS _ _ _ _ _)) (fun j hj => ⟨(hC.2 j hj).1.trans (colT_ps hPS _ _ _ _ _ _), (hC.2 j hj).2.1.trans (colU_ps hPS _ _ _ _ _ _)⟩) (fun w10 w11 w12 => ?_) s0 0 _ _ (by omega)
                            refine z_ii7 (pc := 288) (nI (k + 1)) dX8_habit_288 (nI_1 _) (by decide) ?_
                            refine z_goto (pc := 291) 58 dX8_habit_291 rfl ?_
                            have hSk : ∀ j, j < k → hRel ar b1 b2 q j → S j = upN S k s0 j := fun j hj _ => by unfold upN; rw [if_neg (by omega)]
                            refine z_L (L' := [some (.ref x), some (.int b1), some (.int b2), some (.int q), some (.int what), some (.int (habS ar c ln b1 b2 q (upN S k s0) (k + 1))), some (.int (habN ar c ln b1 b2 q (upN S k s0) (k + 1))), some (.int (nI (k + 1))), _, _, _, _, _]) (by
                              rw [show habS ar c ln b1 b2 q (upN S k s0) (k + 1) = _ from if_pos hrel, show habN ar c ln b1 b2 q (upN S k s0) (k + 1) = _ from if_pos hrel]
                              rw [← habS_congr k hSk, ← habN_congr k hSk, hTk, hUk, show upN S k s0 k = s0 from if_pos rfl]) ?_
                            refine ih (k + 1) _ sc2 ar2 (upN S k s0) _ _ _ _ _ (by omega) hM hF hPS2 (fun j hj hr => ?_)
                            by_cases e : j = k
                            · subst e
                              rw [hTk, hUk, show upN S j s0 j = s0 from if_pos rfl]
                              exact hC.1
                            · rw [← hSk j (by omega) hr]
                              exact hS j (by omega) hr
                          · refine z_goto (pc := 175) 288 dX8_habit_175 rfl ?_
                            refine z_ii7 (pc := 288) (nI (k + 1)) dX8_habit_288 (nI_1 _) (by decide) ?_
                            refine z_goto (pc := 291) 58 dX8_habit_291 rfl ?_
                            have hno : ¬ hRel ar b1 b2 q k := (fun h => h.2.2.2 (by rw [hUk]; exact c172))
                            refine z_L (L' := [some (.ref x), some (.int b1), some (.int b2), some (.int q), some (.int what), some (.int (habS ar c ln b1 b2 q S (k + 1))), some (.int (habN ar c ln b1 b2 q S (k + 1))), some (.int (nI (k + 1))), _, _, _, _, _]) (by rw [show habS ar c ln b1 b2 q S (k + 1) = _ from if_neg hno, show habN ar c ln b1 b2 q S (k + 1) = _ from if_neg hno]) ?_
                            exact ih (k + 1) _ _ _ S _ _ _ _ _ (by omega) hM hF hPS (fun j hj hr => by
                              by_cases e : j = k
                              · subst e; exact absurd hr hno
                              · exact hS j (by omega) hr)
                  · refine z_al0 (pc := 114) dX8_habit_114 ?_
                    refine z_mg14 (pc := 115) hM rfl dX8_habit_115 ?_
                    refine z_il7 (pc := 118) dX8_habit_118 ?_
                    refine z_mld (pc := 120) 14 60 hM rfl (by decide) rfl (by omega) dX8_habit_120 ?_
                    refine z_goto (pc := 121) 131 dX8_habit_121 rfl ?_
                    rw [p14]
                    have hUk : hUU ar b1 k = b := by unfold hUU; rw [hTk, i13, i14, if_pos ((nI_eq (by omega) (by omega)).mp c111)]
                    rw [h14]
                    refine z_is9 (pc := 131) dX8_habit_131 (by decide) ?_
                    refine z_al0 (pc := 133) dX8_habit_133 ?_
                    refine z_mg1 (pc := 134) hM rfl dX8_habit_134 ?_
                    refine z_il8 (pc := 137) dX8_habit_137 ?_
                    refine z_mld (pc := 139) 1 20 hM rfl (by decide) rfl (by omega) dX8_habit_139 ?_
                    rw [p1]
                    refine z_il1 (pc := 140) dX8_habit_140 ?_
                    refine z_icmp_ne (pc := 141) 288 dX8_habit_141 rfl (fun c141 => ?_) (fun c141 => ?_)
                    · refine z_ii7 (pc := 288) (nI (k + 1)) dX8_habit_288 (nI_1 _) (by decide) ?_
                      refine z_goto (pc := 291) 58 dX8_habit_291 rfl ?_
                      have hno : ¬ hRel ar b1 b2 q k := (fun h => c141 (by have := h.1; rwa [hTk] at this))
                      refine z_L (L' := [some (.ref x), some (.int b1), some (.int b2), some (.int q), some (.int what), some (.int (habS ar c ln b1 b2 q S (k + 1))), some (.int (habN ar c ln b1 b2 q S (k + 1))), some (.int (nI (k + 1))), _, _, _, _, _]) (by rw [show habS ar c ln b1 b2 q S (k + 1) = _ from if_neg hno, show habN ar c ln b1 b2 q S (k + 1) = _ from if_neg hno]) ?_
                      exact ih (k + 1) _ _ _ S _ _ _ _ _ (by omega) hM hF hPS (fun j hj hr => by
                        by_cases e : j = k
                        · subst e; exact absurd hr hno
                        · exact hS j (by omega) hr)
                    · refine z_al0 (pc := 144) dX8_habit_144 ?_
                      refine z_mg1 (pc := 145) hM rfl dX8_habit_145 ?_
                      refine z_il9 (pc := 148) dX8_habit_148 ?_
                      refine z_mld (pc := 150) 1 20 hM rfl (by decide) rfl (by omega) dX8_habit_150 ?_
                      rw [p1]
                      refine z_il2 (pc := 151) dX8_habit_151 ?_
                      refine z_icmp_ne (pc := 152) 288 dX8_habit_152 rfl (fun c152 => ?_) (fun c152 => ?_)
                      · refine z_ii7 (pc := 288) (nI (k + 1)) dX8_habit_288 (nI_1 _) (by decide) ?_
                        refine z_goto (pc := 291) 58 dX8_habit_291 rfl ?_
                        have hno : ¬ hRel ar b1 b2 q k := (fun h => c152 (by have := h.2.1; rwa [hUk] at this))
                        refine z_L (L' := [some (.ref x), some (.int b1), some (.int b2), some (.int q), some (.int what), some (.int (habS ar c ln b1 b2 q S (k + 1))), some (.int (habN ar c ln b1 b2 q S (k + 1))), some (.int (nI (k + 1))), _, _, _, _, _]) (by rw [show habS ar c ln b1 b2 q S (k + 1) = _ from if_neg hno, show habN ar c ln b1 b2 q S (k + 1) = _ from if_neg hno]) ?_
                        exact ih (k + 1) _ _ _ S _ _ _ _ _ (by omega) hM hF hPS (fun j hj hr => by
                          by_cases e : j = k
                          · subst e; exact absurd hr hno
                          · exact hS j (by omega) hr)
                      · refine z_al0 (pc := 155) dX8_habit_155 ?_
                        refine z_il8 (pc := 156) dX8_habit_156 ?_
                        refine z_il3 (pc := 158) dX8_habit_158 ?_
                        refine z_callVr (pc := 159) (c_mIsForged l b q hM (by omega)) hM.1 rfl rfl kw_936 zc_X8_isForged (by decide) (by decide) rfl (Nat.le_of_ble_eq_true rfl) dX8_habit_159 ?_
                        rw [zb_c (frg_ps hPS b q)]
                        refine z_ifz_ne (pc := 162) 288 dX8_habit_162 rfl (fun c162 => ?_) (fun c162 => ?_)
                        · refine z_ii7 (pc := 288) (nI (k + 1)) dX8_habit_288 (nI_1 _) (by decide) ?_
                          refine z_goto (pc := 291) 58 dX8_habit_291 rfl ?_
                          have hno : ¬ hRel ar b1 b2 q k := (fun h => h.2.2.1 (by rw [hTk]; exact c162))
                          refine z_L (L' := [some (.ref x), some (.int b1), some (.int b2), some (.int q), some (.int what), some (.int (habS ar c ln b1 b2 q S (k + 1))), some (.int (habN ar c ln b1 b2 q S (k + 1))), some (.int (nI (k + 1))), _, _, _, _, _]) (by rw [show habS ar c ln b1 b2 q S (k + 1) = _ from if_neg hno, show habN ar c ln b1 b2 q S (k + 1) = _ from if_neg hno]) ?_
                          exact ih (k + 1) _ _ _ S _ _ _ _ _ (by omega) hM hF hPS (fun j hj hr => by
                            by_cases e : j = k
                            · subst e; exact absurd hr hno
                            · exact hS j (by omega) hr)
                        · refine z_al0 (pc := 165) dX8_habit_165 ?_
                          refine z_il9 (pc := 166) dX8_habit_166 ?_
                          refine z_il3 (pc := 168) dX8_habit_168 ?_
                          refine z_callVr (pc := 169) (c_mIsForged l b q hM (by omega)) hM.1 rfl rfl kw_936 zc_X8_isForged (by decide) (by decide) rfl (Nat.le_of_ble_eq_true rfl) dX8_habit_169 ?_
                          rw [zb_c (frg_ps hPS b q)]
                          refine z_ifz_eq (pc := 172) 178 dX8_habit_172 rfl (fun c172 => ?_) (fun c172 => ?_)
                          · refine z_al0 (pc := 178) dX8_habit_178 ?_
                            refine z_il8 (pc := 179) dX8_habit_179 ?_
                            refine z_il9 (pc := 181) dX8_habit_181 ?_
                            refine z_il3 (pc := 183) dX8_habit_183 ?_
                            refine z_callVv (pc := 184) _ (c_mAlign l b b (ln b) (ln b) c q hM (by omega) (by omega) (hJ1.2.2.2.2.2.2.2.2.1 b (by omega)).1 (hJ1.2.2.2.2.2.2.2.2.1 b (by omega)).2 (hJ1.2.2.2.2.2.2.2.2.1 b (by omega)).1 (hJ1.2.2.2.2.2.2.2.2.1 b (by omega)).2 hJ1.2.2.1 hJ1.2.2.2.1) rfl hM.1 rfl rfl kw_924 zc_X8_align (by decide) rfl (Nat.le_of_ble_eq_true rfl) dX8_habit_184 (fun G1 h => ?_)
                            obtain ⟨sc2, ar2, s0, hM1, hF1, hI⟩ := h
                            rw [show (tl _ _ 25).2 = sK ar1 c ln q b b from congrArg Prod.snd ((sTL_ps hPS c ln q b b _).trans ((hTL b b q _ (by omega) (by omega)).trans (sTL_ps hPS c ln q b b 0).symm))] at hI
                            have hF := zF.trans hF hF1
                            clear hF1
                            replace hM := hM1
                            clear hM1
                            have hC := hI.cols (hJ1.2.2.2.2.2.2.2.2.1 b (by omega)).2 (hJ1.2.2.2.2.2.2.2.2.1 b (by omega)).2
                            rw [isCols_ps hPS] at hC
                            have hPS2 := hPS.trans hI.1
                            have hrel : hRel ar b1 b2 q k := ⟨by rw [hTk]; exact c141, by rw [hUk]; exact c152, by rw [hTk]; exact c162, by rw [hUk]; exact c172⟩
                            refine z_iconst (pc := 187) (0) (by decide) dX8_habit_187 ?_
                            refine z_is10 (pc := 188) dX8_habit_188 (by decide) ?_
                            refine cols b b s0 (habS ar c ln b1 b2 q S k) (habN ar c ln b1 b2 q S k) _ sc2 ar2 (by omega) (by omega) hM hF hPS2 hC.1 (hI.2.1.trans (sK_ps hPS c ln q b b)) hI.2.2.1 (fun i hi => (hI.2.2.2.1 i hi).trans (kn_ps hPS _ _ _ _ _)) (fun i hi => (hI.2.2.2.2.1 i hi).trans (kn_ps hPS _ _ _ _ _)) (fun j hj => ⟨(hC.2 j hj).1.trans (colT_ps hPS _ _ _ _ _ _), (hC.2 j hj).2.1.trans (colU_ps hPS _ _ _ _ _ _)⟩) (fun w10 w11 w12 => ?_) s0 0 _ _ (by omega)
                            refine z_ii7 (pc := 288) (nI (k + 1)) dX8_habit_288 (nI_1 _) (by decide) ?_
                            refine z_goto (pc := 291) 58 dX8_habit_291 rfl ?_
                            have hSk : ∀ j, j < k → hRel ar b1 b2 q j → S j = upN S k s0 j := fun j hj _ => by unfold upN; rw [if_neg (by omega)]
                            refine z_L (L' := [some (.ref x), some (.int b1), some (.int b2), some (.int q), some (.int what), some (.int (habS ar c ln b1 b2 q (upN S k s0) (k + 1))), some (.int (habN ar c ln b1 b2 q (upN S k s0) (k + 1))), some (.int (nI (k + 1))), _, _, _, _, _]) (by
                              rw [show habS ar c ln b1 b2 q (upN S k s0) (k + 1) = _ from if_pos hrel, show habN ar c ln b1 b2 q (upN S k s0) (k + 1) = _ from if_pos hrel]
                              rw [← habS_congr k hSk, ← habN_congr k hSk, hTk, hUk, show upN S k s0 k = s0 from if_pos rfl]) ?_
                            refine ih (k + 1) _ sc2 ar2 (upN S k s0) _ _ _ _ _ (by omega) hM hF hPS2 (fun j hj hr => ?_)
                            by_cases e : j = k
                            · subst e
                              rw [hTk, hUk, show upN S j s0 j = s0 from if_pos rfl]
                              exact hC.1
                            · rw [← hSk j (by omega) hr]
                              exact hS j (by omega) hr
                          · refine z_goto (pc := 175) 288 dX8_habit_175 rfl ?_
                            refine z_ii7 (pc := 288) (nI (k + 1)) dX8_habit_288 (nI_1 _) (by decide) ?_
                            refine z_goto (pc := 291) 58 dX8_habit_291 rfl ?_
                            have hno : ¬ hRel ar b1 b2 q k := (fun h => h.2.2.2 (by rw [hUk]; exact c172))
                            refine z_L (L' := [some (.ref x), some (.int b1), some (.int b2), some (.int q), some (.int what), some (.int (habS ar c ln b1 b2 q S (k + 1))), some (.int (habN ar c ln b1 b2 q S (k + 1))), some (.int (nI (k + 1))), _, _, _, _, _]) (by rw [show habS ar c ln b1 b2 q S (k + 1) = _ from if_neg hno, show habN ar c ln b1 b2 q S (k + 1) = _ from if_neg hno]) ?_
                            exact ih (k + 1) _ _ _ S _ _ _ _ _ (by omega) hM hF hPS (fun j hj hr => by
                              by_cases e : j = k
                              · subst e; exact absurd hr hno
                              · exact hS j (by omega) hr)
                · refine z_al0 (pc := 83) dX8_habit_83 ?_
                  refine z_mg13 (pc := 84) hM rfl dX8_habit_84 ?_
                  refine z_il7 (pc := 87) dX8_habit_87 ?_
                  refine z_mld (pc := 89) 13 60 hM rfl (by decide) rfl (by omega) dX8_habit_89 ?_
                  refine z_goto (pc := 90) 100 dX8_habit_90 rfl ?_
                  rw [p13]
                  have hTk : hTT ar b1 k = a := by unfold hTT; rw [i13, if_pos c80]
                  rw [h13]
                  refine z_is8 (pc := 100) dX8_habit_100 (by decide) ?_
                  refine z_il8 (pc := 102) dX8_habit_102 ?_
                  refine z_al0 (pc := 104) dX8_habit_104 ?_
                  refine z_mg13 (pc := 105) hM rfl dX8_habit_105 ?_
                  refine z_il7 (pc := 108) dX8_habit_108 ?_
                  refine z_mld (pc := 110) 13 60 hM rfl (by decide) rfl (by omega) dX8_habit_110 ?_
                  rw [p13, h13]
                  refine z_icmp_ne (pc := 111) 124 dX8_habit_111 rfl (fun c111 => ?_) (fun c111 => ?_)
                  · refine z_al0 (pc := 124) dX8_habit_124 ?_
                    refine z_mg13 (pc := 125) hM rfl dX8_habit_125 ?_
                    refine z_il7 (pc := 128) dX8_habit_128 ?_
                    refine z_mld (pc := 130) 13 60 hM rfl (by decide) rfl (by omega) dX8_habit_130 ?_
                    rw [p13]
                    have hUk : hUU ar b1 k = a := by unfold hUU; rw [hTk, i13, if_neg (fun e => c111 ((nI_eq (by omega) (by omega)).mpr e))]
                    rw [h13]
                    refine z_is9 (pc := 131) dX8_habit_131 (by decide) ?_
                    refine z_al0 (pc := 133) dX8_habit_133 ?_
                    refine z_mg1 (pc := 134) hM rfl dX8_habit_134 ?_
                    refine z_il8 (pc := 137) dX8_habit_137 ?_
                    refine z_mld (pc := 139) 1 20 hM rfl (by decide) rfl (by omega) dX8_habit_139 ?_
                    rw [p1]
                    refine z_il1 (pc := 140) dX8_habit_140 ?_
                    refine z_icmp_ne (pc := 141) 288 dX8_habit_141 rfl (fun c141 => ?_) (fun c141 => ?_)
                    · refine z_ii7 (pc := 288) (nI (k + 1)) dX8_habit_288 (nI_1 _) (by decide) ?_
                      refine z_goto (pc := 291) 58 dX8_habit_291 rfl ?_
                      have hno : ¬ hRel ar b1 b2 q k := (fun h => c141 (by have := h.1; rwa [hTk] at this))
                      refine z_L (L' := [some (.ref x), some (.int b1), some (.int b2), some (.int q), some (.int what), some (.int (habS ar c ln b1 b2 q S (k + 1))), some (.int (habN ar c ln b1 b2 q S (k + 1))), some (.int (nI (k + 1))), _, _, _, _, _]) (by rw [show habS ar c ln b1 b2 q S (k + 1) = _ from if_neg hno, show habN ar c ln b1 b2 q S (k + 1) = _ from if_neg hno]) ?_
                      exact ih (k + 1) _ _ _ S _ _ _ _ _ (by omega) hM hF hPS (fun j hj hr => by
                        by_cases e : j = k
                        · subst e; exact absurd hr hno
                        · exact hS j (by omega) hr)
                    · refine z_al0 (pc := 144) dX8_habit_144 ?_
                      refine z_mg1 (pc := 145) hM rfl dX8_habit_145 ?_
                      refine z_il9 (pc := 148) dX8_habit_148 ?_
                      refine z_mld (pc := 150) 1 20 hM rfl (by decide) rfl (by omega) dX8_habit_150 ?_
                      rw [p1]
                      refine z_il2 (pc := 151) dX8_habit_151 ?_
                      refine z_icmp_ne (pc := 152) 288 dX8_habit_152 rfl (fun c152 => ?_) (fun c152 => ?_)
                      · refine z_ii7 (pc := 288) (nI (k + 1)) dX8_habit_288 (nI_1 _) (by decide) ?_
                        refine z_goto (pc := 291) 58 dX8_habit_291 rfl ?_
                        have hno : ¬ hRel ar b1 b2 q k := (fun h => c152 (by have := h.2.1; rwa [hUk] at this))
                        refine z_L (L' := [some (.ref x), some (.int b1), some (.int b2), some (.int q), some (.int what), some (.int (habS ar c ln b1 b2 q S (k + 1))), some (.int (habN ar c ln b1 b2 q S (k + 1))), some (.int (nI (k + 1))), _, _, _, _, _]) (by rw [show habS ar c ln b1 b2 q S (k + 1) = _ from if_neg hno, show habN ar c ln b1 b2 q S (k + 1) = _ from if_neg hno]) ?_
                        exact ih (k + 1) _ _ _ S _ _ _ _ _ (by omega) hM hF hPS (fun j hj hr => by
                          by_cases e : j = k
                          · subst e; exact absurd hr hno
                          · exact hS j (by omega) hr)
                      · refine z_al0 (pc := 155) dX8_habit_155 ?_
                        refine z_il8 (pc := 156) dX8_habit_156 ?_
                        refine z_il3 (pc := 158) dX8_habit_158 ?_
                        refine z_callVr (pc := 159) (c_mIsForged l a q hM (by omega)) hM.1 rfl rfl kw_936 zc_X8_isForged (by decide) (by decide) rfl (Nat.le_of_ble_eq_true rfl) dX8_habit_159 ?_
                        rw [zb_c (frg_ps hPS a q)]
                        refine z_ifz_ne (pc := 162) 288 dX8_habit_162 rfl (fun c162 => ?_) (fun c162 => ?_)
                        · refine z_ii7 (pc := 288) (nI (k + 1)) dX8_habit_288 (nI_1 _) (by decide) ?_
                          refine z_goto (pc := 291) 58 dX8_habit_291 rfl ?_
                          have hno : ¬ hRel ar b1 b2 q k := (fun h => h.2.2.1 (by rw [hTk]; exact c162))
                          refine z_L (L' := [some (.ref x), some (.int b1), some (.int b2), some (.int q), some (.int what), some (.int (habS ar c ln b1 b2 q S (k + 1))), some (.int (habN ar c ln b1 b2 q S (k + 1))), some (.int (nI (k + 1))), _, _, _, _, _]) (by rw [show habS ar c ln b1 b2 q S (k + 1) = _ from if_neg hno, show habN ar c ln b1 b2 q S (k + 1) = _ from if_neg hno]) ?_
                          exact ih (k + 1) _ _ _ S _ _ _ _ _ (by omega) hM hF hPS (fun j hj hr => by
                            by_cases e : j = k
                            · subst e; exact absurd hr hno
                            · exact hS j (by omega) hr)
                        · refine z_al0 (pc := 165) dX8_habit_165 ?_
                          refine z_il9 (pc := 166) dX8_habit_166 ?_
                          refine z_il3 (pc := 168) dX8_habit_168 ?_
                          refine z_callVr (pc := 169) (c_mIsForged l a q hM (by omega)) hM.1 rfl rfl kw_936 zc_X8_isForged (by decide) (by decide) rfl (Nat.le_of_ble_eq_true rfl) dX8_habit_169 ?_
                          rw [zb_c (frg_ps hPS a q)]
                          refine z_ifz_eq (pc := 172) 178 dX8_habit_172 rfl (fun c172 => ?_) (fun c172 => ?_)
                          · refine z_al0 (pc := 178) dX8_habit_178 ?_
                            refine z_il8 (pc := 179) dX8_habit_179 ?_
                            refine z_il9 (pc := 181) dX8_habit_181 ?_
                            refine z_il3 (pc := 183) dX8_habit_183 ?_
                            refine z_callVv (pc := 184) _ (c_mAlign l a a (ln a) (ln a) c q hM (by omega) (by omega) (hJ1.2.2.2.2.2.2.2.2.1 a (by omega)).1 (hJ1.2.2.2.2.2.2.2.2.1 a (by omega)).2 (hJ1.2.2.2.2.2.2.2.2.1 a (by omega)).1 (hJ1.2.2.2.2.2.2.2.2.1 a (by omega)).2 hJ1.2.2.1 hJ1.2.2.2.1) rfl hM.1 rfl rfl kw_924 zc_X8_align (by decide) rfl (Nat.le_of_ble_eq_true rfl) dX8_habit_184 (fun G1 h => ?_)
                            obtain ⟨sc2, ar2, s0, hM1, hF1, hI⟩ := h
                            rw [show (tl _ _ 25).2 = sK ar1 c ln q a a from congrArg Prod.snd ((sTL_ps hPS c ln q a a _).trans ((hTL a a q _ (by omega) (by omega)).trans (sTL_ps hPS c ln q a a 0).symm))] at hI
                            have hF := zF.trans hF hF1
                            clear hF1
                            replace hM := hM1
                            clear hM1
                            have hC := hI.cols (hJ1.2.2.2.2.2.2.2.2.1 a (by omega)).2 (hJ1.2.2.2.2.2.2.2.2.1 a (by omega)).2
                            rw [isCols_ps hPS] at hC
                            have hPS2 := hPS.trans hI.1
                            have hrel : hRel ar b1 b2 q k := ⟨by rw [hTk]; exact c141, by rw [hUk]; exact c152, by rw [hTk]; exact c162, by rw [hUk]; exact c172⟩
                            refine z_iconst (pc := 187) (0) (by decide) dX8_habit_187 ?_
                            refine z_is10 (pc := 188) dX8_habit_188 (by decide) ?_
                            refine cols a a s0 (habS ar c ln b1 b2 q S k) (habN ar c ln b1 b2 q S k) _ sc2 ar2 (by omega) (by omega) hM hF hPS2 hC.1 (hI.2.1.trans (sK_ps hPS c ln q a a)) hI.2.2.1 (fun i hi => (hI.2.2.2.1 i hi).trans (kn_ps hPS _ _ _ _ _)) (fun i hi => (hI.2.2.2.2.1 i hi).trans (kn_ps hPS _ _ _ _ _)) (fun j hj => ⟨(hC.2 j hj).1.trans (colT_ps hPS _ _ _ _ _ _), (hC.2 j hj).2.1.trans (colU_ps hPS _ _ _ _ _ _)⟩) (fun w10 w11 w12 => ?_) s0 0 _ _ (by omega)
                            refine z_ii7 (pc := 288) (nI (k + 1)) dX8_habit_288 (nI_1 _) (by decide) ?_
                            refine z_goto (pc := 291) 58 dX8_habit_291 rfl ?_
                            have hSk : ∀ j, j < k → hRel ar b1 b2 q j → S j = upN S k s0 j := fun j hj _ => by unfold upN; rw [if_neg (by omega)]
                            refine z_L (L' := [some (.ref x), some (.int b1), some (.int b2), some (.int q), some (.int what), some (.int (habS ar c ln b1 b2 q (upN S k s0) (k + 1))), some (.int (habN ar c ln b1 b2 q (upN S k s0) (k + 1))), some (.int (nI (k + 1))), _, _, _, _, _]) (by
                              rw [show habS ar c ln b1 b2 q (upN S k s0) (k + 1) = _ from if_pos hrel, show habN ar c ln b1 b2 q (upN S k s0) (k + 1) = _ from if_pos hrel]
                              rw [← habS_congr k hSk, ← habN_congr k hSk, hTk, hUk, show upN S k s0 k = s0 from if_pos rfl]) ?_
                            refine ih (k + 1) _ sc2 ar2 (upN S k s0) _ _ _ _ _ (by omega) hM hF hPS2 (fun j hj hr => ?_)
                            by_cases e : j = k
                            · subst e
                              rw [hTk, hUk, show upN S j s0 j = s0 from if_pos rfl]
                              exact hC.1
                            · rw [← hSk j (by omega) hr]
                              exact hS j (by omega) hr
                          · refine z_goto (pc := 175) 288 dX8_habit_175 rfl ?_
                            refine z_ii7 (pc := 288) (nI (k + 1)) dX8_habit_288 (nI_1 _) (by decide) ?_
                            refine z_goto (pc := 291) 58 dX8_habit_291 rfl ?_
                            have hno : ¬ hRel ar b1 b2 q k := (fun h => h.2.2.2 (by rw [hUk]; exact c172))
                            refine z_L (L' := [some (.ref x), some (.int b1), some (.int b2), some (.int q), some (.int what), some (.int (habS ar c ln b1 b2 q S (k + 1))), some (.int (habN ar c ln b1 b2 q S (k + 1))), some (.int (nI (k + 1))), _, _, _, _, _]) (by rw [show habS ar c ln b1 b2 q S (k + 1) = _ from if_neg hno, show habN ar c ln b1 b2 q S (k + 1) = _ from if_neg hno]) ?_
                            exact ih (k + 1) _ _ _ S _ _ _ _ _ (by omega) hM hF hPS (fun j hj hr => by
                              by_cases e : j = k
                              · subst e; exact absurd hr hno
                              · exact hS j (by omega) hr)
                  · refine z_al0 (pc := 114) dX8_habit_114 ?_
                    refine z_mg14 (pc := 115) hM rfl dX8_habit_115 ?_
                    refine z_il7 (pc := 118) dX8_habit_118 ?_
                    refine z_mld (pc := 120) 14 60 hM rfl (by decide) rfl (by omega) dX8_habit_120 ?_
                    refine z_goto (pc := 121) 131 dX8_habit_121 rfl ?_
                    rw [p14]
                    have hUk : hUU ar b1 k = b := by unfold hUU; rw [hTk, i13, i14, if_pos ((nI_eq (by omega) (by omega)).mp c111)]
                    rw [h14]
                    refine z_is9 (pc := 131) dX8_habit_131 (by decide) ?_
                    refine z_al0 (pc := 133) dX8_habit_133 ?_
                    refine z_mg1 (pc := 134) hM rfl dX8_habit_134 ?_
                    refine z_il8 (pc := 137) dX8_habit_137 ?_
                    refine z_mld (pc := 139) 1 20 hM rfl (by decide) rfl (by omega) dX8_habit_139 ?_
                    rw [p1]
                    refine z_il1 (pc := 140) dX8_habit_140 ?_
                    refine z_icmp_ne (pc := 141) 288 dX8_habit_141 rfl (fun c141 => ?_) (fun c141 => ?_)
                    · refine z_ii7 (pc := 288) (nI (k + 1)) dX8_habit_288 (nI_1 _) (by decide) ?_
                      refine z_goto (pc := 291) 58 dX8_habit_291 rfl ?_
                      have hno : ¬ hRel ar b1 b2 q k := (fun h => c141 (by have := h.1; rwa [hTk] at this))
                      refine z_L (L' := [some (.ref x), some (.int b1), some (.int b2), some (.int q), some (.int what), some (.int (habS ar c ln b1 b2 q S (k + 1))), some (.int (habN ar c ln b1 b2 q S (k + 1))), some (.int (nI (k + 1))), _, _, _, _, _]) (by rw [show habS ar c ln b1 b2 q S (k + 1) = _ from if_neg hno, show habN ar c ln b1 b2 q S (k + 1) = _ from if_neg hno]) ?_
                      exact ih (k + 1) _ _ _ S _ _ _ _ _ (by omega) hM hF hPS (fun j hj hr => by
                        by_cases e : j = k
                        · subst e; exact absurd hr hno
                        · exact hS j (by omega) hr)
                    · refine z_al0 (pc := 144) dX8_habit_144 ?_
                      refine z_mg1 (pc := 145) hM rfl dX8_habit_145 ?_
                      refine z_il9 (pc := 148) dX8_habit_148 ?_
                      refine z_mld (pc := 150) 1 20 hM rfl (by decide) rfl (by omega) dX8_habit_150 ?_
                      rw [p1]
                      refine z_il2 (pc := 151) dX8_habit_151 ?_
                      refine z_icmp_ne (pc := 152) 288 dX8_habit_152 rfl (fun c152 => ?_) (fun c152 => ?_)
                      · refine z_ii7 (pc := 288) (nI (k + 1)) dX8_habit_288 (nI_1 _) (by decide) ?_
                        refine z_goto (pc := 291) 58 dX8_habit_291 rfl ?_
                        have hno : ¬ hRel ar b1 b2 q k := (fun h => c152 (by have := h.2.1; rwa [hUk] at this))
                        refine z_L (L' := [some (.ref x), some (.int b1), some (.int b2), some (.int q), some (.int what), some (.int (habS ar c ln b1 b2 q S (k + 1))), some (.int (habN ar c ln b1 b2 q S (k + 1))), some (.int (nI (k + 1))), _, _, _, _, _]) (by rw [show habS ar c ln b1 b2 q S (k + 1) = _ from if_neg hno, show habN ar c ln b1 b2 q S (k + 1) = _ from if_neg hno]) ?_
                        exact ih (k + 1) _ _ _ S _ _ _ _ _ (by omega) hM hF hPS (fun j hj hr => by
                          by_cases e : j = k
                          · subst e; exact absurd hr hno
                          · exact hS j (by omega) hr)
                      · refine z_al0 (pc := 155) dX8_habit_155 ?_
                        refine z_il8 (pc := 156) dX8_habit_156 ?_
                        refine z_il3 (pc := 158) dX8_habit_158 ?_
                        refine z_callVr (pc := 159) (c_mIsForged l a q hM (by omega)) hM.1 rfl rfl kw_936 zc_X8_isForged (by decide) (by decide) rfl (Nat.le_of_ble_eq_true rfl) dX8_habit_159 ?_
                        rw [zb_c (frg_ps hPS a q)]
                        refine z_ifz_ne (pc := 162) 288 dX8_habit_162 rfl (fun c162 => ?_) (fun c162 => ?_)
                        · refine z_ii7 (pc := 288) (nI (k + 1)) dX8_habit_288 (nI_1 _) (by decide) ?_
                          refine z_goto (pc := 291) 58 dX8_habit_291 rfl ?_
                          have hno : ¬ hRel ar b1 b2 q k := (fun h => h.2.2.1 (by rw [hTk]; exact c162))
                          refine z_L (L' := [some (.ref x), some (.int b1), some (.int b2), some (.int q), some (.int what), some (.int (habS ar c ln b1 b2 q S (k + 1))), some (.int (habN ar c ln b1 b2 q S (k + 1))), some (.int (nI (k + 1))), _, _, _, _, _]) (by rw [show habS ar c ln b1 b2 q S (k + 1) = _ from if_neg hno, show habN ar c ln b1 b2 q S (k + 1) = _ from if_neg hno]) ?_
                          exact ih (k + 1) _ _ _ S _ _ _ _ _ (by omega) hM hF hPS (fun j hj hr => by
                            by_cases e : j = k
                            · subst e; exact absurd hr hno
                            · exact hS j (by omega) hr)
                        · refine z_al0 (pc := 165) dX8_habit_165 ?_
                          refine z_il9 (pc := 166) dX8_habit_166 ?_
                          refine z_il3 (pc := 168) dX8_habit_168 ?_
                          refine z_callVr (pc := 169) (c_mIsForged l b q hM (by omega)) hM.1 rfl rfl kw_936 zc_X8_isForged (by decide) (by decide) rfl (Nat.le_of_ble_eq_true rfl) dX8_habit_169 ?_
                          rw [zb_c (frg_ps hPS b q)]
                          refine z_ifz_eq (pc := 172) 178 dX8_habit_172 rfl (fun c172 => ?_) (fun c172 => ?_)
                          · refine z_al0 (pc := 178) dX8_habit_178 ?_
                            refine z_il8 (pc := 179) dX8_habit_179 ?_
                            refine z_il9 (pc := 181) dX8_habit_181 ?_
                            refine z_il3 (pc := 183) dX8_habit_183 ?_
                            refine z_callVv (pc := 184) _ (c_mAlign l a b (ln a) (ln b) c q hM (by omega) (by omega) (hJ1.2.2.2.2.2.2.2.2.1 a (by omega)).1 (hJ1.2.2.2.2.2.2.2.2.1 a (by omega)).2 (hJ1.2.2.2.2.2.2.2.2.1 b (by omega)).1 (hJ1.2.2.2.2.2.2.2.2.1 b (by omega)).2 hJ1.2.2.1 hJ1.2.2.2.1) rfl hM.1 rfl rfl kw_924 zc_X8_align (by decide) rfl (Nat.le_of_ble_eq_true rfl) dX8_habit_184 (fun G1 h => ?_)
                            obtain ⟨sc2, ar2, s0, hM1, hF1, hI⟩ := h
                            rw [show (tl _ _ 25).2 = sK ar1 c ln q a b from congrArg Prod.snd ((sTL_ps hPS c ln q a b _).trans ((hTL a b q _ (by omega) (by omega)).trans (sTL_ps hPS c ln q a b 0).symm))] at hI
                            have hF := zF.trans hF hF1
                            clear hF1
                            replace hM := hM1
                            clear hM1
                            have hC := hI.cols (hJ1.2.2.2.2.2.2.2.2.1 a (by omega)).2 (hJ1.2.2.2.2.2.2.2.2.1 b (by omega)).2
                            rw [isCols_ps hPS] at hC
                            have hPS2 := hPS.trans hI.1
                            have hrel : hRel ar b1 b2 q k := ⟨by rw [hTk]; exact c141, by rw [hUk]; exact c152, by rw [hTk]; exact c162, by rw [hUk]; exact c172⟩
                            refine z_iconst (pc := 187) (0) (by decide) dX8_habit_187 ?_
                            refine z_is10 (pc := 188) dX8_habit_188 (by decide) ?_
                            refine cols a b s0 (habS ar c ln b1 b2 q S k) (habN ar c ln b1 b2 q S k) _ sc2 ar2 (by omega) (by omega) hM hF hPS2 hC.1 (hI.2.1.trans (sK_ps hPS c ln q a b)) hI.2.2.1 (fun i hi => (hI.2.2.2.1 i hi).trans (kn_ps hPS _ _ _ _ _)) (fun i hi => (hI.2.2.2.2.1 i hi).trans (kn_ps hPS _ _ _ _ _)) (fun j hj => ⟨(hC.2 j hj).1.trans (colT_ps hPS _ _ _ _ _ _), (hC.2 j hj).2.1.trans (colU_ps hPS _ _ _ _ _ _)⟩) (fun w10 w11 w12 => ?_) s0 0 _ _ (by omega)
                            refine z_ii7 (pc := 288) (nI (k + 1)) dX8_habit_288 (nI_1 _) (by decide) ?_
                            refine z_goto (pc := 291) 58 dX8_habit_291 rfl ?_
                            have hSk : ∀ j, j < k → hRel ar b1 b2 q j → S j = upN S k s0 j := fun j hj _ => by unfold upN; rw [if_neg (by omega)]
                            refine z_L (L' := [some (.ref x), some (.int b1), some (.int b2), some (.int q), some (.int what), some (.int (habS ar c ln b1 b2 q (upN S k s0) (k + 1))), some (.int (habN ar c ln b1 b2 q (upN S k s0) (k + 1))), some (.int (nI (k + 1))), _, _, _, _, _]) (by
                              rw [show habS ar c ln b1 b2 q (upN S k s0) (k + 1) = _ from if_pos hrel, show habN ar c ln b1 b2 q (upN S k s0) (k + 1) = _ from if_pos hrel]
                              rw [← habS_congr k hSk, ← habN_congr k hSk, hTk, hUk, show upN S k s0 k = s0 from if_pos rfl]) ?_
                            refine ih (k + 1) _ sc2 ar2 (upN S k s0) _ _ _ _ _ (by omega) hM hF hPS2 (fun j hj hr => ?_)
                            by_cases e : j = k
                            · subst e
                              rw [hTk, hUk, show upN S j s0 j = s0 from if_pos rfl]
                              exact hC.1
                            · rw [← hSk j (by omega) hr]
                              exact hS j (by omega) hr
                          · refine z_goto (pc := 175) 288 dX8_habit_175 rfl ?_
                            refine z_ii7 (pc := 288) (nI (k + 1)) dX8_habit_288 (nI_1 _) (by decide) ?_
                            refine z_goto (pc := 291) 58 dX8_habit_291 rfl ?_
                            have hno : ¬ hRel ar b1 b2 q k := (fun h => h.2.2.2 (by rw [hUk]; exact c172))
                            refine z_L (L' := [some (.ref x), some (.int b1), some (.int b2), some (.int q), some (.int what), some (.int (habS ar c ln b1 b2 q S (k + 1))), some (.int (habN ar c ln b1 b2 q S (k + 1))), some (.int (nI (k + 1))), _, _, _, _, _]) (by rw [show habS ar c ln b1 b2 q S (k + 1) = _ from if_neg hno, show habN ar c ln b1 b2 q S (k + 1) = _ from if_neg hno]) ?_
                            exact ih (k + 1) _ _ _ S _ _ _ _ _ (by omega) hM hF hPS (fun j hj hr => by
                              by_cases e : j = k
                              · subst e; exact absurd hr hno
                              · exact hS j (by omega) hr)
            exact lp d 0 _ _ _ (fun _ => 0) _ _ _ _ _ (by omega) hM hF (PS.sc0 0 0 (by omega)) (fun k h => absurd h (Nat.not_lt_zero _))
          · refine z_ldc (pc := 46) kw_984 dX8_habit_46 ?_
            rw [← hQx]
            refine z_iret (pc := 48) rfl (by decide) dX8_habit_48 (by
      refine ⟨_, rfl, _, _, hM, hF, PS.sc0 0 0 (by omega), Or.inl ⟨?_, rfl⟩⟩
      first | exact (fun h => absurd h.1 c11) | exact (fun h => absurd h.2.1 c20) | exact (fun h => h.2.2.1 c25) | exact (fun h => absurd h.2.2.2.1 c33) | exact (fun h => absurd h.2.2.2.2 c43))
