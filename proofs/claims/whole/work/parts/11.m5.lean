/-! far: the keys one after the other; the first with the least sum -/
/-- the keys in the order in which they are tried: 0, -1, 1, -2, 2 .. -/
def keyAt (n : Nat) : Int32 := if n % 2 = 0 then nI (n / 2) else -1 * nI ((n + 1) / 2)
def tl (f : Nat → Int32) (k0 : Int32) : Nat → Int32 × Int32
  | 0 => (2147483647, k0)
  | n + 1 => if f n < (tl f k0 n).1 then (f n, keyAt n) else tl f k0 n
/-- the sum of two tunes as known on a day, by the number of the key -/
def dK (ar : Nat → Nat → Int32) (c0 : Nat) (q : Int32) (t0 u0 nt nu : Nat) (key : Int32) : Int32 := dp (ar 15) (fun i => kn ar t0 i q false c0) (fun i => kn ar t0 i q true c0) (fun i => kn ar u0 i q false c0) (fun i => kn ar u0 i q true c0) key nt nu
def FI (sc : Nat → Int32) (ar : Nat → Nat → Int32) (sc1 : Nat → Int32) (ar1 : Nat → Nat → Int32) (t0 u0 nt nu c0 : Nat) (q : Int32) (N : Nat) : Prop :=
  (∀ k, k ≠ 25 → k ≠ 26 → k ≠ 27 → k ≠ 28 → sc1 k = sc k) ∧ sc1 25 = nI nt ∧ sc1 26 = nI nu ∧ (sc1 27, sc1 28) = tl (fun n => dK ar c0 q t0 u0 nt nu (keyAt n)) (sc 28) N ∧ (∀ k, k ≠ 20 → k ≠ 21 → k ≠ 22 → k ≠ 23 → k ≠ 24 → ar1 k = ar k) ∧
  (∀ a, a < nt → ar1 20 a = kn ar t0 a q false c0 ∧ ar1 21 a = kn ar t0 a q true c0) ∧ (∀ a, a < nu → ar1 22 a = kn ar u0 a q false c0 ∧ ar1 23 a = kn ar u0 a q true c0)
theorem FI.dp {sc sc1 : Nat → Int32} {ar ar1 : Nat → Nat → Int32} {t0 u0 nt nu c0 N : Nat} {q : Int32} (h : FI sc ar sc1 ar1 t0 u0 nt nu c0 q N) (key : Int32) : ∀ i j, i ≤ nt → j ≤ nu → dp (ar1 15) (ar1 20) (ar1 21) (ar1 22) (ar1 23) key i j = dp (ar 15) (fun i => kn ar t0 i q false c0) (fun i => kn ar t0 i q true c0) (fun i => kn ar u0 i q false c0) (fun i => kn ar u0 i q true c0) key i j :=
  dp_congr (h.2.2.2.2.1 15 (by omega) (by omega) (by omega) (by omega) (by omega)) (fun i hi => h.2.2.2.2.2.1 i hi) (fun j hj => h.2.2.2.2.2.2 j hj)
theorem FI.lay {sc sc1 : Nat → Int32} {ar ar1 ar2 : Nat → Nat → Int32} {t0 u0 nt nu c0 N : Nat} {q : Int32} (h : FI sc ar sc1 ar1 t0 u0 nt nu c0 q N) (h2 : ∀ k, k ≠ 24 → ar2 k = ar1 k) : FI sc ar sc1 ar2 t0 u0 nt nu c0 q N :=
  ⟨h.1, h.2.1, h.2.2.1, h.2.2.2.1, fun k a1 a2 a3 a4 a5 => by rw [h2 k a5]; exact h.2.2.2.2.1 k a1 a2 a3 a4 a5, fun a ha => by rw [h2 20 (by omega), h2 21 (by omega)]; exact h.2.2.2.2.2.1 a ha, fun a ha => by rw [h2 22 (by omega), h2 23 (by omega)]; exact h.2.2.2.2.2.2 a ha⟩
theorem FI.no {sc sc1 : Nat → Int32} {ar ar1 : Nat → Nat → Int32} {t0 u0 nt nu c0 N : Nat} {q key : Int32} (h : FI sc ar sc1 ar1 t0 u0 nt nu c0 q N) (hk : key = keyAt N) (hn : ¬ dK ar c0 q t0 u0 nt nu key < sc1 27) : FI sc ar sc1 ar1 t0 u0 nt nu c0 q (N + 1) := by
  refine ⟨h.1, h.2.1, h.2.2.1, ?_, h.2.2.2.2⟩
  have e : sc1 27 = (tl (fun n => dK ar c0 q t0 u0 nt nu (keyAt n)) (sc 28) N).1 := by rw [← h.2.2.2.1]
  subst hk
  show _ = if dK ar c0 q t0 u0 nt nu (keyAt N) < (tl (fun n => dK ar c0 q t0 u0 nt nu (keyAt n)) (sc 28) N).1 then (dK ar c0 q t0 u0 nt nu (keyAt N), keyAt N) else tl (fun n => dK ar c0 q t0 u0 nt nu (keyAt n)) (sc 28) N
  rw [← e, if_neg hn]
  exact h.2.2.2.1
theorem FI.yes {sc sc1 : Nat → Int32} {ar ar1 : Nat → Nat → Int32} {t0 u0 nt nu c0 N : Nat} {q key : Int32} (h : FI sc ar sc1 ar1 t0 u0 nt nu c0 q N) (hk : key = keyAt N) (hn : dK ar c0 q t0 u0 nt nu key < sc1 27) : FI sc ar (sup (sup sc1 27 (dK ar c0 q t0 u0 nt nu key)) 28 key) ar1 t0 u0 nt nu c0 q (N + 1) := by
  refine ⟨fun k a1 a2 a3 a4 => ?_, h.2.1, h.2.2.1, ?_, h.2.2.2.2⟩
  · simp only [sup, a3, a4, if_false]; exact h.1 k a1 a2 a3 a4
  have e : sc1 27 = (tl (fun n => dK ar c0 q t0 u0 nt nu (keyAt n)) (sc 28) N).1 := by rw [← h.2.2.2.1]
  subst hk
  show _ = if dK ar c0 q t0 u0 nt nu (keyAt N) < (tl (fun n => dK ar c0 q t0 u0 nt nu (keyAt n)) (sc 28) N).1 then (dK ar c0 q t0 u0 nt nu (keyAt N), keyAt N) else tl (fun n => dK ar c0 q t0 u0 nt nu (keyAt n)) (sc 28) N
  rw [← e, if_pos hn]
  rfl
theorem keyAt_o (k : Nat) : -1 * nI (k + 1) = keyAt (2 * k + 1) := by unfold keyAt; rw [if_neg (by omega), show (2 * k + 1 + 1) / 2 = k + 1 by omega]
theorem keyAt_e (k : Nat) : (1 : Int32) * nI (k + 1) = keyAt (2 * k + 1 + 1) := by unfold keyAt; rw [if_pos (by omega), show (2 * k + 1 + 1) / 2 = k + 1 by omega, Int32.one_mul]
theorem keyAt_z : (-1 : Int32) * nI 0 = keyAt 0 := by decide
abbrev rX8_far : Room := rmK 3 0 0 68
set_option maxRecDepth 100000 in
set_option maxHeartbeats 400000 in
theorem c_mFar (l : Launch) {κ : zK} {G : zH} {x : Nat} {ad : Nat → Nat} {sc : Nat → Int32} {ar : Nat → Nat → Int32} (t0 u0 nt nu c0 : Nat) (q : Int32) (hM : RM κ G x ad sc ar) (ht : t0 < 20) (hu : u0 < 20) (hlt : ar 4 t0 = nI nt) (hnt : nt ≤ 24) (hlu : ar 4 u0 = nI nu) (hnu : nu ≤ 24) (hc : sc 17 = nI c0) (hc2 : c0 ≤ 200) : Ct l yX8_far cX8_far 7 (some FieldType.int) rX8_far κ [.ref x, .int (nI t0), .int (nI u0), .int q] G (pI (fun r G2 => ∃ sc2 ar2, r = sc2 27 ∧ RM κ G2 x ad sc2 ar2 ∧ zF 1 G G2 ∧ FI sc ar sc2 ar2 t0 u0 nt nu c0 q 25)) := by
  refine Ct.of (by decide +kernel) (fun v hv => by
    simp only [List.mem_cons, List.mem_nil_iff, or_false, List.not_mem_nil] at hv
    rcases hv with rfl | rfl | rfl | rfl <;> rfl) (Nat.le_of_ble_eq_true rfl) ?_
  intro p e s m args below meth cC
  refine z_L (L' := [some (.ref x), some (.int (nI t0)), some (.int (nI u0)), some (.int q), none, none, none]) rfl ?_
  generalize hQx : MQ below (zQc κ _) args s _ _ (zA κ) = Qx
  have hF : zF 1 G G := zF.rf
  have lp : ∀ (d k : Nat) (G1 : zH) (sc1 : Nat → Int32) (ar1 : Nat → Nat → Int32) (w5 w6 : Option Value), k + d = 13 → RM κ G1 x ad sc1 ar1 → zF 1 G G1 → FI sc ar sc1 ar1 t0 u0 nt nu c0 q (2 * k - 1) → Z p l e rX8_far s m args below meth cC yX8_far cX8_far 7 (some FieldType.int) κ Qx 0 0 G1 [some (.ref x), some (.int (nI t0)), some (.int (nI u0)), some (.int q), some (.int (nI k)), w5, w6] 16 [] := by
    intro d
    induction d with
    | zero =>
      intro k G1 sc1 ar1 w5 w6 hkd hM hF hI
      refine z_il4 (pc := 16) dX8_far_16 ?_
      refine z_bipush (pc := 18) (12) (by decide) dX8_far_18 ?_
      refine z_icmp_gt (pc := 20) 95 dX8_far_20 rfl (fun c20 => ?_) (fun c20 => absurd (by rw [show k = 13 by omega]; decide) c20)
      rw [show 2 * k - 1 = 25 by omega] at hI
      refine z_al0 (pc := 95) dX8_far_95 ?_
      refine z_mg27 (pc := 96) hM rfl dX8_far_96 ?_
      rw [← hQx]
      refine z_iret (pc := 99) rfl (by decide) dX8_far_99 (⟨_, rfl, _, _, rfl, hM, hF, hI⟩)
    | succ d ih =>
      intro k G1 sc1 ar1 w5 w6 hkd hM hF hI
      have hk12 : k ≤ 12 := by omega
      rcases k with _ | k
      · refine z_il4 (pc := 16) dX8_far_16 ?_
        refine z_bipush (pc := 18) (12) (by decide) dX8_far_18 ?_
        refine z_icmp_gt (pc := 20) 95 dX8_far_20 rfl (fun c20 => absurd c20 (by rw [show (12 : Int32) = nI 12 from rfl, nI_ltI (by omega) (by omega)]; omega)) (fun c20 => ?_)
        refine z_iconst (pc := 23) (-1) (by decide) dX8_far_23 ?_
        refine z_is5 (pc := 24) dX8_far_24 (by decide) ?_
        refine z_il5 (pc := 26) dX8_far_26 ?_
        refine z_iconst (pc := 28) (2) (by decide) dX8_far_28 ?_
        refine z_icmp_ge (pc := 29) 89 dX8_far_29 rfl (fun c29 => absurd c29 (by decide)) (fun c29 => ?_)
        refine z_il4 (pc := 32) dX8_far_32 ?_
        refine z_if_ne (pc := 34) 45 dX8_far_34 rfl (fun c34 => absurd (nI_0) c34) (fun c34 => ?_)
        refine z_il5 (pc := 37) dX8_far_37 ?_
        refine z_if_le (pc := 39) 45 dX8_far_39 rfl (fun c39 => ?_) (fun c39 => absurd (by decide) c39)
        refine z_al0 (pc := 45) dX8_far_45 ?_
        refine z_il5 (pc := 46) dX8_far_46 ?_
        refine z_il4 (pc := 48) dX8_far_48 ?_
        refine z_imul (pc := 50) dX8_far_50 ?_
        refine z_callVi (pc := 51) _ (c_mLay l nt nu (-1 * nI 0) hM hI.2.1 (by omega) hI.2.2.1 (by omega)) rfl hM.1 rfl rfl kw_900 zc_X8_lay (by decide) rfl (Nat.le_of_ble_eq_true rfl) dX8_far_51 (fun r G1 h => ?_)
        obtain ⟨rfl, ar1, hM1, hF1, hL1, -⟩ := h
        rw [show dp _ _ _ _ _ (-1 * nI 0) nt nu = dK ar c0 q t0 u0 nt nu (-1 * nI 0) from hI.dp (-1 * nI 0) nt nu (Nat.le_refl _) (Nat.le_refl _)]
        replace hI := hI.lay hL1
        clear hL1
        have hF := zF.trans hF hF1
        clear hF1
        replace hM := hM1
        clear hM1
        refine z_is6 (pc := 54) dX8_far_54 (by decide) ?_
        refine z_il6 (pc := 56) dX8_far_56 ?_
        refine z_al0 (pc := 58) dX8_far_58 ?_
        refine z_mg27 (pc := 59) hM rfl dX8_far_59 ?_
        refine z_icmp_lt (pc := 62) 68 dX8_far_62 rfl (fun c62 => ?_) (fun c62 => ?_)
        · refine z_al0 (pc := 68) dX8_far_68 ?_
          refine z_il6 (pc := 69) dX8_far_69 ?_
          refine z_mp27 (pc := 71) hM rfl dX8_far_71 (fun G1 hM1 hF1 => ?_)
          have hF := zF.trans hF hF1
          clear hF1
          replace hM := hM1
          clear hM1
          refine z_al0 (pc := 74) dX8_far_74 ?_
          refine z_il5 (pc := 75) dX8_far_75 ?_
          refine z_il4 (pc := 77) dX8_far_77 ?_
          refine z_imul (pc := 79) dX8_far_79 ?_
          refine z_mp28 (pc := 80) hM rfl dX8_far_80 (fun G1 hM1 hF1 => ?_)
          have hF := zF.trans hF hF1
          clear hF1
          replace hM := hM1
          clear hM1
          first
            | replace hI := hI.yes keyAt_z ‹_›
            | replace hI := hI.no keyAt_z ‹_›
          refine z_ii5 (pc := 83) (1) dX8_far_83 (by decide) (by decide) ?_
          refine z_goto (pc := 86) 26 dX8_far_86 rfl ?_
          refine z_il5 (pc := 26) dX8_far_26 ?_
          refine z_iconst (pc := 28) (2) (by decide) dX8_far_28 ?_
          refine z_icmp_ge (pc := 29) 89 dX8_far_29 rfl (fun c29 => absurd c29 (by decide)) (fun c29 => ?_)
          refine z_il4 (pc := 32) dX8_far_32 ?_
          refine z_if_ne (pc := 34) 45 dX8_far_34 rfl (fun c34 => absurd (nI_0) c34) (fun c34 => ?_)
          refine z_il5 (pc := 37) dX8_far_37 ?_
          refine z_if_le (pc := 39) 45 dX8_far_39 rfl (fun c39 => absurd c39 (by decide)) (fun c39 => ?_)
          refine z_goto (pc := 42) 83 dX8_far_42 rfl ?_
          skip
          refine z_ii5 (pc := 83) (3) dX8_far_83 (by decide) (by decide) ?_
          refine z_goto (pc := 86) 26 dX8_far_86 rfl ?_
          refine z_il5 (pc := 26) dX8_far_26 ?_
          refine z_iconst (pc := 28) (2) (by decide) dX8_far_28 ?_
          refine z_icmp_ge (pc := 29) 89 dX8_far_29 rfl (fun c29 => ?_) (fun c29 => absurd (by decide) c29)
          refine z_ii4 (pc := 89) (nI (0 + 1)) dX8_far_89 (nI_1 _) (by decide) ?_
          refine z_goto (pc := 92) 16 dX8_far_92 rfl ?_
          exact ih 1 _ _ _ _ _ (by omega) hM hF hI
        · refine z_goto (pc := 65) 83 dX8_far_65 rfl ?_
          first
            | replace hI := hI.yes keyAt_z ‹_›
            | replace hI := hI.no keyAt_z ‹_›
          refine z_ii5 (pc := 83) (1) dX8_far_83 (by decide) (by decide) ?_
          refine z_goto (pc := 86) 26 dX8_far_86 rfl ?_
          refine z_il5 (pc := 26) dX8_far_26 ?_
          refine z_iconst (pc := 28) (2) (by decide) dX8_far_28 ?_
          refine z_icmp_ge (pc := 29) 89 dX8_far_29 rfl (fun c29 => absurd c29 (by decide)) (fun c29 => ?_)
          refine z_il4 (pc := 32) dX8_far_32 ?_
          refine z_if_ne (pc := 34) 45 dX8_far_34 rfl (fun c34 => absurd (nI_0) c34) (fun c34 => ?_)
          refine z_il5 (pc := 37) dX8_far_37 ?_
          refine z_if_le (pc := 39) 45 dX8_far_39 rfl (fun c39 => absurd c39 (by decide)) (fun c39 => ?_)
          refine z_goto (pc := 42) 83 dX8_far_42 rfl ?_
          skip
          refine z_ii5 (pc := 83) (3) dX8_far_83 (by decide) (by decide) ?_
          refine z_goto (pc := 86) 26 dX8_far_86 rfl ?_
          refine z_il5 (pc := 26) dX8_far_26 ?_
          refine z_iconst (pc := 28) (2) (by decide) dX8_far_28 ?_
          refine z_icmp_ge (pc := 29) 89 dX8_far_29 rfl (fun c29 => ?_) (fun c29 => absurd (by decide) c29)
          refine z_ii4 (pc := 89) (nI (0 + 1)) dX8_far_89 (nI_1 _) (by decide) ?_
          refine z_goto (pc := 92) 16 dX8_far_92 rfl ?_
          exact ih 1 _ _ _ _ _ (by omega) hM hF hI
      · refine z_il4 (pc := 16) dX8_far_16 ?_
        refine z_bipush (pc := 18) (12) (by decide) dX8_far_18 ?_
        refine z_icmp_gt (pc := 20) 95 dX8_far_20 rfl (fun c20 => absurd c20 (by rw [show (12 : Int32) = nI 12 from rfl, nI_ltI (by omega) (by omega)]; omega)) (fun c20 => ?_)
        refine z_iconst (pc := 23) (-1) (by decide) dX8_far_23 ?_
        refine z_is5 (pc := 24) dX8_far_24 (by decide) ?_
        refine z_il5 (pc := 26) dX8_far_26 ?_
        refine z_iconst (pc := 28) (2) (by decide) dX8_far_28 ?_
        refine z_icmp_ge (pc := 29) 89 dX8_far_29 rfl (fun c29 => absurd c29 (by decide)) (fun c29 => ?_)
        refine z_il4 (pc := 32) dX8_far_32 ?_
        refine z_if_ne (pc := 34) 45 dX8_far_34 rfl (fun c34 => ?_) (fun c34 => absurd c34 (nI_ne0 (by omega) (by omega)))
        refine z_al0 (pc := 45) dX8_far_45 ?_
        refine z_il5 (pc := 46) dX8_far_46 ?_
        refine z_il4 (pc := 48) dX8_far_48 ?_
        refine z_imul (pc := 50) dX8_far_50 ?_
        refine z_callVi (pc := 51) _ (c_mLay l nt nu (-1 * nI (k + 1)) hM hI.2.1 (by omega) hI.2.2.1 (by omega)) rfl hM.1 rfl rfl kw_900 zc_X8_lay (by decide) rfl (Nat.le_of_ble_eq_true rfl) dX8_far_51 (fun r G1 h => ?_)
        obtain ⟨rfl, ar1, hM1, hF1, hL1, -⟩ := h
        rw [show dp _ _ _ _ _ (-1 * nI (k + 1)) nt nu = dK ar c0 q t0 u0 nt nu (-1 * nI (k + 1)) from hI.dp (-1 * nI (k + 1)) nt nu (Nat.le_refl _) (Nat.le_refl _)]
        replace hI := hI.lay hL1
        clear hL1
        have hF := zF.trans hF hF1
        clear hF1
        replace hM := hM1
        clear hM1
        refine z_is6 (pc := 54) dX8_far_54 (by decide) ?_
        refine z_il6 (pc := 56) dX8_far_56 ?_
        refine z_al0 (pc := 58) dX8_far_58 ?_
        refine z_mg27 (pc := 59) hM rfl dX8_far_59 ?_
        refine z_icmp_lt (pc := 62) 68 dX8_far_62 rfl (fun c62 => ?_) (fun c62 => ?_)
        · refine z_al0 (pc := 68) dX8_far_68 ?_
          refine z_il6 (pc := 69) dX8_far_69 ?_
          refine z_mp27 (pc := 71) hM rfl dX8_far_71 (fun G1 hM1 hF1 => ?_)
          have hF := zF.trans hF hF1
          clear hF1
          replace hM := hM1
          clear hM1
          refine z_al0 (pc := 74) dX8_far_74 ?_
          refine z_il5 (pc := 75) dX8_far_75 ?_
          refine z_il4 (pc := 77) dX8_far_77 ?_
          refine z_imul (pc := 79) dX8_far_79 ?_
          refine z_mp28 (pc := 80) hM rfl dX8_far_80 (fun G1 hM1 hF1 => ?_)
          have hF := zF.trans hF hF1
          clear hF1
          replace hM := hM1
          clear hM1
          first
            | replace hI := hI.yes (keyAt_o k) ‹_›
            | replace hI := hI.no (keyAt_o k) ‹_›
          refine z_ii5 (pc := 83) (1) dX8_far_83 (by decide) (by decide) ?_
          refine z_goto (pc := 86) 26 dX8_far_86 rfl ?_
          refine z_il5 (pc := 26) dX8_far_26 ?_
          refine z_iconst (pc := 28) (2) (by decide) dX8_far_28 ?_
          refine z_icmp_ge (pc := 29) 89 dX8_far_29 rfl (fun c29 => absurd c29 (by decide)) (fun c29 => ?_)
          refine z_il4 (pc := 32) dX8_far_32 ?_
          refine z_if_ne (pc := 34) 45 dX8_far_34 rfl (fun c34 => ?_) (fun c34 => absurd c34 (nI_ne0 (by omega) (by omega)))
          refine z_al0 (pc := 45) dX8_far_45 ?_
          refine z_il5 (pc := 46) dX8_far_46 ?_
          refine z_il4 (pc := 48) dX8_far_48 ?_
          refine z_imul (pc := 50) dX8_far_50 ?_
          refine z_callVi (pc := 51) _ (c_mLay l nt nu (1 * nI (k + 1)) hM hI.2.1 (by omega) hI.2.2.1 (by omega)) rfl hM.1 rfl rfl kw_900 zc_X8_lay (by decide) rfl (Nat.le_of_ble_eq_true rfl) dX8_far_51 (fun r G1 h => ?_)
          obtain ⟨rfl, ar1, hM1, hF1, hL1, -⟩ := h
          rw [show dp _ _ _ _ _ (1 * nI (k + 1)) nt nu = dK ar c0 q t0 u0 nt nu (1 * nI (k + 1)) from hI.dp (1 * nI (k + 1)) nt nu (Nat.le_refl _) (Nat.le_refl _)]
          replace hI := hI.lay hL1
          clear hL1
          have hF := zF.trans hF hF1
          clear hF1
          replace hM := hM1
          clear hM1
          refine z_is6 (pc := 54) dX8_far_54 (by decide) ?_
          refine z_il6 (pc := 56) dX8_far_56 ?_
          refine z_al0 (pc := 58) dX8_far_58 ?_
          refine z_mg27 (pc := 59) hM rfl dX8_far_59 ?_
          refine z_icmp_lt (pc := 62) 68 dX8_far_62 rfl (fun c62 => ?_) (fun c62 => ?_)
          · refine z_al0 (pc := 68) dX8_far_68 ?_
            refine z_il6 (pc := 69) dX8_far_69 ?_
            refine z_mp27 (pc := 71) hM rfl dX8_far_71 (fun G1 hM1 hF1 => ?_)
            have hF := zF.trans hF hF1
            clear hF1
            replace hM := hM1
            clear hM1
            refine z_al0 (pc := 74) dX8_far_74 ?_
            refine z_il5 (pc := 75) dX8_far_75 ?_
            refine z_il4 (pc := 77) dX8_far_77 ?_
            refine z_imul (pc := 79) dX8_far_79 ?_
            refine z_mp28 (pc := 80) hM rfl dX8_far_80 (fun G1 hM1 hF1 => ?_)
            have hF := zF.trans hF hF1
            clear hF1
            replace hM := hM1
            clear hM1
            first
              | replace hI := hI.yes (keyAt_e k) ‹_›
              | replace hI := hI.no (keyAt_e k) ‹_›
            refine z_ii5 (pc := 83) (3) dX8_far_83 (by decide) (by decide) ?_
            refine z_goto (pc := 86) 26 dX8_far_86 rfl ?_
            refine z_il5 (pc := 26) dX8_far_26 ?_
            refine z_iconst (pc := 28) (2) (by decide) dX8_far_28 ?_
            refine z_icmp_ge (pc := 29) 89 dX8_far_29 rfl (fun c29 => ?_) (fun c29 => absurd (by decide) c29)
            refine z_ii4 (pc := 89) (nI (k + 1 + 1)) dX8_far_89 (nI_1 _) (by decide) ?_
            refine z_goto (pc := 92) 16 dX8_far_92 rfl ?_
            exact ih (k + 1 + 1) _ _ _ _ _ (by omega) hM hF hI
          · refine z_goto (pc := 65) 83 dX8_far_65 rfl ?_
            first
              | replace hI := hI.yes (keyAt_e k) ‹_›
              | replace hI := hI.no (keyAt_e k) ‹_›
            refine z_ii5 (pc := 83) (3) dX8_far_83 (by decide) (by decide) ?_
            refine z_goto (pc := 86) 26 dX8_far_86 rfl ?_
            refine z_il5 (pc := 26) dX8_far_26 ?_
            refine z_iconst (pc := 28) (2) (by decide) dX8_far_28 ?_
            refine z_icmp_ge (pc := 29) 89 dX8_far_29 rfl (fun c29 => ?_) (fun c29 => absurd (by decide) c29)
            refine z_ii4 (pc := 89) (nI (k + 1 + 1)) dX8_far_89 (nI_1 _) (by decide) ?_
            refine z_goto (pc := 92) 16 dX8_far_92 rfl ?_
            exact ih (k + 1 + 1) _ _ _ _ _ (by omega) hM hF hI
        · refine z_goto (pc := 65) 83 dX8_far_65 rfl ?_
          first
            | replace hI := hI.yes (keyAt_o k) ‹_›
            | replace hI := hI.no (keyAt_o k) ‹_›
          refine z_ii5 (pc := 83) (1) dX8_far_83 (by decide) (by decide) ?_
          refine z_goto (pc := 86) 26 dX8_far_86 rfl ?_
          refine z_il5 (pc := 26) dX8_far_26 ?_
          refine z_iconst (pc := 28) (2) (by decide) dX8_far_28 ?_
          refine z_icmp_ge (pc := 29) 89 dX8_far_29 rfl (fun c29 => absurd c29 (by decide)) (fun c29 => ?_)
          refine z_il4 (pc := 32) dX8_far_32 ?_
          refine z_if_ne (pc := 34) 45 dX8_far_34 rfl (fun c34 => ?_) (fun c34 => absurd c34 (nI_ne0 (by omega) (by omega)))
          refine z_al0 (pc := 45) dX8_far_45 ?_
          refine z_il5 (pc := 46) dX8_far_46 ?_
          refine z_il4 (pc := 48) dX8_far_48 ?_
          refine z_imul (pc := 50) dX8_far_50 ?_
          refine z_callVi (pc := 51) _ (c_mLay l nt nu (1 * nI (k + 1)) hM hI.2.1 (by omega) hI.2.2.1 (by omega)) rfl hM.1 rfl rfl kw_900 zc_X8_lay (by decide) rfl (Nat.le_of_ble_eq_true rfl) dX8_far_51 (fun r G1 h => ?_)
          obtain ⟨rfl, ar1, hM1, hF1, hL1, -⟩ := h
          rw [show dp _ _ _ _ _ (1 * nI (k + 1)) nt nu = dK ar c0 q t0 u0 nt nu (1 * nI (k + 1)) from hI.dp (1 * nI (k + 1)) nt nu (Nat.le_refl _) (Nat.le_refl _)]
          replace hI := hI.lay hL1
          clear hL1
          have hF := zF.trans hF hF1
          clear hF1
          replace hM := hM1
          clear hM1
          refine z_is6 (pc := 54) dX8_far_54 (by decide) ?_
          refine z_il6 (pc := 56) dX8_far_56 ?_
          refine z_al0 (pc := 58) dX8_far_58 ?_
          refine z_mg27 (pc := 59) hM rfl dX8_far_59 ?_
          refine z_icmp_lt (pc := 62) 68 dX8_far_62 rfl (fun c62 => ?_) (fun c62 => ?_)
          · refine z_al0 (pc := 68) dX8_far_68 ?_
            refine z_il6 (pc := 69) dX8_far_69 ?_
            refine z_mp27 (pc := 71) hM rfl dX8_far_71 (fun G1 hM1 hF1 => ?_)
            have hF := zF.trans hF hF1
            clear hF1
            replace hM := hM1
            clear hM1
            refine z_al0 (pc := 74) dX8_far_74 ?_
            refine z_il5 (pc := 75) dX8_far_75 ?_
            refine z_il4 (pc := 77) dX8_far_77 ?_
            refine z_imul (pc := 79) dX8_far_79 ?_
            refine z_mp28 (pc := 80) hM rfl dX8_far_80 (fun G1 hM1 hF1 => ?_)
            have hF := zF.trans hF hF1
            clear hF1
            replace hM := hM1
            clear hM1
            first
              | replace hI := hI.yes (keyAt_e k) ‹_›
              | replace hI := hI.no (keyAt_e k) ‹_›
            refine z_ii5 (pc := 83) (3) dX8_far_83 (by decide) (by decide) ?_
            refine z_goto (pc := 86) 26 dX8_far_86 rfl ?_
            refine z_il5 (pc := 26) dX8_far_26 ?_
            refine z_iconst (pc := 28) (2) (by decide) dX8_far_28 ?_
            refine z_icmp_ge (pc := 29) 89 dX8_far_29 rfl (fun c29 => ?_) (fun c29 => absurd (by decide) c29)
            refine z_ii4 (pc := 89) (nI (k + 1 + 1)) dX8_far_89 (nI_1 _) (by decide) ?_
            refine z_goto (pc := 92) 16 dX8_far_92 rfl ?_
            exact ih (k + 1 + 1) _ _ _ _ _ (by omega) hM hF hI
          · refine z_goto (pc := 65) 83 dX8_far_65 rfl ?_
            first
              | replace hI := hI.yes (keyAt_e k) ‹_›
              | replace hI := hI.no (keyAt_e k) ‹_›
            refine z_ii5 (pc := 83) (3) dX8_far_83 (by decide) (by decide) ?_
            refine z_goto (pc := 86) 26 dX8_far_86 rfl ?_
            refine z_il5 (pc := 26) dX8_far_26 ?_
            refine z_iconst (pc := 28) (2) (by decide) dX8_far_28 ?_
            refine z_icmp_ge (pc := 29) 89 dX8_far_29 rfl (fun c29 => ?_) (fun c29 => absurd (by decide) c29)
            refine z_ii4 (pc := 89) (nI (k + 1 + 1)) dX8_far_89 (nI_1 _) (by decide) ?_
            refine z_goto (pc := 92) 16 dX8_far_92 rfl ?_
            exact ih (k + 1 + 1) _ _ _ _ _ (by omega) hM hF hI
  refine z_al0 (pc := 0) dX8_far_0 ?_
  refine z_il1 (pc := 1) dX8_far_1 ?_
  refine z_il2 (pc := 2) dX8_far_2 ?_
  refine z_il3 (pc := 3) dX8_far_3 ?_
  refine z_callVv (pc := 4) _ (c_mReady l t0 u0 nt nu c0 q hM (by omega) (by omega) hlt (by omega) hlu (by omega) hc (by omega)) rfl hM.1 rfl rfl kw_895 zc_X8_ready (by decide) rfl (Nat.le_of_ble_eq_true rfl) dX8_far_4 (fun G1 h => ?_)
  obtain ⟨ar1, hM1, hF1, hR⟩ := h
  have hF := zF.trans hF hF1
  clear hF1
  replace hM := hM1
  clear hM1
  refine z_al0 (pc := 7) dX8_far_7 ?_
  refine z_ldc (pc := 8) kw_899 dX8_far_8 ?_
  refine z_mp27 (pc := 10) hM rfl dX8_far_10 (fun G1 hM1 hF1 => ?_)
  have hF := zF.trans hF hF1
  clear hF1
  replace hM := hM1
  clear hM1
  refine z_iconst (pc := 13) (0) (by decide) dX8_far_13 ?_
  refine z_is4 (pc := 14) dX8_far_14 (by decide) ?_
  exact lp 13 0 _ _ _ _ _ (by omega) hM hF ⟨fun k a1 a2 a3 a4 => by simp only [sup, a1, a2, a3, if_false], rfl, rfl, rfl, fun k a1 a2 a3 a4 _ => hR.1 k a1 a2 a3 a4, hR.2.1, hR.2.2⟩
