theorem imin_top (v : Int32) : (if v < 2147483647 then v else 2147483647) = v := by
  split
  · rfl
  · rename_i h
    rw [i_eq]
    rw [i_lt, i_lit 2147483647 (by decide)] at h
    rw [i_lit 2147483647 (by decide)]
    have := (i_rng v).2
    omega
theorem dp_congr {pr pr2 tp tb up ub tp2 tb2 up2 ub2 : Nat → Int32} {k : Int32} {n m : Nat} (hp : pr2 = pr) (ht : ∀ i, i < n → tp2 i = tp i ∧ tb2 i = tb i) (hu : ∀ j, j < m → up2 j = up j ∧ ub2 j = ub j) : ∀ i j, i ≤ n → j ≤ m → dp pr2 tp2 tb2 up2 ub2 k i j = dp pr tp tb up ub k i j := by
  subst hp
  intro i
  induction i with
  | zero =>
    intro j
    induction j with
    | zero => intro _ _; rfl
    | succ j ih =>
      intro h1 h2
      show dpr0 _ j + co1 pr2 (up2 j) = dpr0 _ j + co1 pr2 (up j)
      have := ih h1 (by omega)
      rw [(hu j (by omega)).1]
      exact congrArg (· + co1 pr2 (up j)) this
  | succ i ihi =>
    intro j
    induction j with
    | zero =>
      intro h1 h2
      show dp pr2 tp2 tb2 up2 ub2 k i 0 + co1 pr2 (tp2 i) = dp pr2 tp tb up ub k i 0 + co1 pr2 (tp i)
      rw [ihi 0 (by omega) h2, (ht i (by omega)).1]
    | succ j ihj =>
      intro h1 h2
      have e1 := ihi j (by omega) (by omega)
      have e2 := ihi (j + 1) (by omega) h2
      have e3 := ihj h1 (by omega)
      show imin (imin (dp pr2 tp2 tb2 up2 ub2 k i j + co2 pr2 (tp2 i) (tb2 i) (up2 j) (ub2 j) k) (dp pr2 tp2 tb2 up2 ub2 k i (j + 1) + co1 pr2 (tp2 i))) (dp pr2 tp2 tb2 up2 ub2 k (i + 1) j + co1 pr2 (up2 j)) = imin (imin (dp pr2 tp tb up ub k i j + co2 pr2 (tp i) (tb i) (up j) (ub j) k) (dp pr2 tp tb up ub k i (j + 1) + co1 pr2 (tp i))) (dp pr2 tp tb up ub k (i + 1) j + co1 pr2 (up j))
      rw [e1, e2, e3, (ht i (by omega)).1, (ht i (by omega)).2, (hu j (by omega)).1, (hu j (by omega)).2]
/-! ready: the two tunes as known lie in the arrays 20 to 23 -/
def RI (ar ar1 : Nat → Nat → Int32) (t0 u0 : Nat) (q : Int32) (c0 i j : Nat) : Prop := (∀ k, k ≠ 20 → k ≠ 21 → k ≠ 22 → k ≠ 23 → ar1 k = ar k) ∧ (∀ a, a < i → ar1 20 a = kn ar t0 a q false c0 ∧ ar1 21 a = kn ar t0 a q true c0) ∧ (∀ a, a < j → ar1 22 a = kn ar u0 a q false c0 ∧ ar1 23 a = kn ar u0 a q true c0)
abbrev kn0 := @kn
theorem RI.kn {ar ar1 : Nat → Nat → Int32} {t0 u0 : Nat} {q : Int32} {c0 i j : Nat} (h : RI ar ar1 t0 u0 q c0 i j) (s a : Nat) (b : Bool) : kn0 ar1 s a q b c0 = kn0 ar s a q b c0 := kn_congr (fun k hk => h.1 k (by omega) (by omega) (by omega) (by omega)) s a q b c0
theorem RI.kn2 {ar ar1 : Nat → Nat → Int32} {t0 u0 : Nat} {q : Int32} {c0 i j : Nat} (h : RI ar ar1 t0 u0 q c0 i j) (s a k i2 : Nat) (v : Int32) (hk : 20 ≤ k) (b : Bool) : kn0 (aup ar1 k i2 v) s a q b c0 = kn0 ar s a q b c0 := by
  rw [← h.kn s a b]
  exact kn_congr (fun k2 hk2 => by unfold aup; rw [if_neg (by omega)]) s a q b c0
theorem RI.t {ar ar1 : Nat → Nat → Int32} {t0 u0 : Nat} {q : Int32} {c0 i j : Nat} {v1 v2 : Int32} (h : RI ar ar1 t0 u0 q c0 i j) (h1 : v1 = kn0 ar t0 i q false c0) (h2 : v2 = kn0 ar t0 i q true c0) : RI ar (aup (aup ar1 20 i v1) 21 i v2) t0 u0 q c0 (i + 1) j := by
  refine ⟨fun k a1 a2 a3 a4 => ?_, fun a ha => ?_, fun a ha => ?_⟩
  · simp only [aup, a1, a2, if_false]; exact h.1 k a1 a2 a3 a4
  · by_cases e : a = i
    · subst e; simp [aup, upd, h1, h2]
    · have := h.2.1 a (by omega); simp [aup, upd, e, this]
  · have := h.2.2 a ha; simp [aup, this]
theorem RI.u {ar ar1 : Nat → Nat → Int32} {t0 u0 : Nat} {q : Int32} {c0 i j : Nat} {v1 v2 : Int32} (h : RI ar ar1 t0 u0 q c0 i j) (h1 : v1 = kn0 ar u0 j q false c0) (h2 : v2 = kn0 ar u0 j q true c0) : RI ar (aup (aup ar1 22 j v1) 23 j v2) t0 u0 q c0 i (j + 1) := by
  refine ⟨fun k a1 a2 a3 a4 => ?_, fun a ha => ?_, fun a ha => ?_⟩
  · simp only [aup, a3, a4, if_false]; exact h.1 k a1 a2 a3 a4
  · have := h.2.1 a ha; simp [aup, this]
  · by_cases e : a = j
    · subst e; simp [aup, upd, h1, h2]
    · have := h.2.2 a (by omega); simp [aup, upd, e, this]
abbrev rX8_ready : Room := rmK 1 0 0 26
set_option maxRecDepth 100000 in
set_option maxHeartbeats 400000 in
theorem c_mReady (l : Launch) {κ : zK} {G : zH} {x : Nat} {ad : Nat → Nat} {sc : Nat → Int32} {ar : Nat → Nat → Int32} (t0 u0 nt nu c0 : Nat) (q : Int32) (hM : RM κ G x ad sc ar) (ht : t0 < 20) (hu : u0 < 20) (hlt : ar 4 t0 = nI nt) (hnt : nt ≤ 24) (hlu : ar 4 u0 = nI nu) (hnu : nu ≤ 24) (hc : sc 17 = nI c0) (hc2 : c0 ≤ 200) : Ct l yX8_ready cX8_ready 5 none rX8_ready κ [.ref x, .int (nI t0), .int (nI u0), .int q] G (pV (fun G2 => ∃ ar2, RM κ G2 x ad (sup (sup sc 25 (nI nt)) 26 (nI nu)) ar2 ∧ zF 1 G G2 ∧ RI ar ar2 t0 u0 q c0 nt nu)) := by
  refine Ct.of (by decide +kernel) (fun v hv => by
    simp only [List.mem_cons, List.mem_nil_iff, or_false, List.not_mem_nil] at hv
    rcases hv with rfl | rfl | rfl | rfl <;> rfl) (Nat.le_of_ble_eq_true rfl) ?_
  intro p e s m args below meth cC
  refine z_L (L' := [some (.ref x), some (.int (nI t0)), some (.int (nI u0)), some (.int q), none]) rfl ?_
  generalize hQx : MQ below (zQc κ _) args s _ _ (zA κ) = Qx
  have lp2 : ∀ (d i : Nat) (G1 : zH) (ar1 : Nat → Nat → Int32), i + d = nu → RM κ G1 x ad (sup (sup sc 25 (nI nt)) 26 (nI nu)) ar1 → zF 1 G G1 → RI ar ar1 t0 u0 q c0 nt i → Z p l e rX8_ready s m args below meth cC yX8_ready cX8_ready 5 none κ Qx 0 0 G1 [some (.ref x), some (.int (nI t0)), some (.int (nI u0)), some (.int q), some (.int (nI i))] 73 [] := by
    intro d
    induction d with
    | zero =>
      intro i G1 ar1 hid hM hF hI
      refine z_il4 (pc := 73) dX8_ready_73 ?_
      refine z_al0 (pc := 75) dX8_ready_75 ?_
      refine z_mg26 (pc := 76) hM rfl dX8_ready_76 ?_
      rw [show sup (sup sc 25 (nI nt)) 26 (nI nu) 26 = nI nu from rfl]
      refine z_icmp_ge (pc := 79) 120 dX8_ready_79 rfl (fun c79 => ?_) (fun c79 => absurd (by rw [show i = nu by omega]; exact Int32.le_refl _) c79)
      rw [show i = nu by omega] at hI
      rw [← hQx]
      refine z_vret (pc := 120) rfl (by decide) dX8_ready_120 (⟨rfl, _, hM, hF, hI⟩)
    | succ d ih =>
      intro i G1 ar1 hid hM hF hI
      refine z_il4 (pc := 73) dX8_ready_73 ?_
      refine z_al0 (pc := 75) dX8_ready_75 ?_
      refine z_mg26 (pc := 76) hM rfl dX8_ready_76 ?_
      rw [show sup (sup sc 25 (nI nt)) 26 (nI nu) 26 = nI nu from rfl]
      refine z_icmp_ge (pc := 79) 120 dX8_ready_79 rfl (fun c79 => absurd c79 (by rw [nI_leI (by omega) (by omega)]; omega)) (fun c79 => ?_)
      refine z_al0 (pc := 82) dX8_ready_82 ?_
      refine z_mg22 (pc := 83) hM rfl dX8_ready_83 ?_
      refine z_il4 (pc := 86) dX8_ready_86 ?_
      refine z_al0 (pc := 88) dX8_ready_88 ?_
      refine z_il2 (pc := 89) dX8_ready_89 ?_
      refine z_il4 (pc := 90) dX8_ready_90 ?_
      refine z_il3 (pc := 92) dX8_ready_92 ?_
      refine z_iconst (pc := 93) (0) (by decide) dX8_ready_93 ?_
      refine z_callVr (pc := 94) (c_mKnown l u0 i c0 q false hM (by omega) (by omega) hc (by omega)) hM.1 rfl rfl kw_879 zc_X8_known (by decide) (by decide) rfl (Nat.le_of_ble_eq_true rfl) dX8_ready_94 ?_
      refine z_mst (pc := 97) 22 24 hM rfl (by decide) rfl (by omega) dX8_ready_97 (fun G1 hM1 hF1 => ?_)
      have hF := zF.trans hF hF1
      clear hF1
      replace hM := hM1
      clear hM1
      refine z_al0 (pc := 98) dX8_ready_98 ?_
      refine z_mg23 (pc := 99) hM rfl dX8_ready_99 ?_
      refine z_il4 (pc := 102) dX8_ready_102 ?_
      refine z_al0 (pc := 104) dX8_ready_104 ?_
      refine z_il2 (pc := 105) dX8_ready_105 ?_
      refine z_il4 (pc := 106) dX8_ready_106 ?_
      refine z_il3 (pc := 108) dX8_ready_108 ?_
      refine z_iconst (pc := 109) (1) (by decide) dX8_ready_109 ?_
      refine z_callVr (pc := 110) (c_mKnown l u0 i c0 q true hM (by omega) (by omega) hc (by omega)) hM.1 rfl rfl kw_879 zc_X8_known (by decide) (by decide) rfl (Nat.le_of_ble_eq_true rfl) dX8_ready_110 ?_
      refine z_mst (pc := 113) 23 24 hM rfl (by decide) rfl (by omega) dX8_ready_113 (fun G1 hM1 hF1 => ?_)
      have hF := zF.trans hF hF1
      clear hF1
      replace hM := hM1
      clear hM1
      refine z_ii4 (pc := 114) (nI (i + 1)) dX8_ready_114 (nI_1 _) (by decide) ?_
      refine z_goto (pc := 117) 73 dX8_ready_117 rfl ?_
      exact ih (i + 1) _ _ (by omega) hM hF (hI.u (hI.kn u0 i false) (hI.kn2 u0 i 22 i _ (by omega) true))
  have lp1 : ∀ (d i : Nat) (G1 : zH) (ar1 : Nat → Nat → Int32), i + d = nt → RM κ G1 x ad (sup (sup sc 25 (nI nt)) 26 (nI nu)) ar1 → zF 1 G G1 → RI ar ar1 t0 u0 q c0 i 0 → Z p l e rX8_ready s m args below meth cC yX8_ready cX8_ready 5 none κ Qx 0 0 G1 [some (.ref x), some (.int (nI t0)), some (.int (nI u0)), some (.int q), some (.int (nI i))] 23 [] := by
    intro d
    induction d with
    | zero =>
      intro i G1 ar1 hid hM hF hI
      refine z_il4 (pc := 23) dX8_ready_23 ?_
      refine z_al0 (pc := 25) dX8_ready_25 ?_
      refine z_mg25 (pc := 26) hM rfl dX8_ready_26 ?_
      rw [show sup (sup sc 25 (nI nt)) 26 (nI nu) 25 = nI nt from rfl]
      refine z_icmp_ge (pc := 29) 70 dX8_ready_29 rfl (fun c29 => ?_) (fun c29 => absurd (by rw [show i = nt by omega]; exact Int32.le_refl _) c29)
      refine z_iconst (pc := 70) (0) (by decide) dX8_ready_70 ?_
      refine z_is4 (pc := 71) dX8_ready_71 (by decide) ?_
      exact lp2 nu 0 _ _ (by omega) hM hF (by rw [← show i = nt by omega]; exact hI)
    | succ d ih =>
      intro i G1 ar1 hid hM hF hI
      refine z_il4 (pc := 23) dX8_ready_23 ?_
      refine z_al0 (pc := 25) dX8_ready_25 ?_
      refine z_mg25 (pc := 26) hM rfl dX8_ready_26 ?_
      rw [show sup (sup sc 25 (nI nt)) 26 (nI nu) 25 = nI nt from rfl]
      refine z_icmp_ge (pc := 29) 70 dX8_ready_29 rfl (fun c29 => absurd c29 (by rw [nI_leI (by omega) (by omega)]; omega)) (fun c29 => ?_)
      refine z_al0 (pc := 32) dX8_ready_32 ?_
      refine z_mg20 (pc := 33) hM rfl dX8_ready_33 ?_
      refine z_il4 (pc := 36) dX8_ready_36 ?_
      refine z_al0 (pc := 38) dX8_ready_38 ?_
      refine z_il1 (pc := 39) dX8_ready_39 ?_
      refine z_il4 (pc := 40) dX8_ready_40 ?_
      refine z_il3 (pc := 42) dX8_ready_42 ?_
      refine z_iconst (pc := 43) (0) (by decide) dX8_ready_43 ?_
      refine z_callVr (pc := 44) (c_mKnown l t0 i c0 q false hM (by omega) (by omega) hc (by omega)) hM.1 rfl rfl kw_879 zc_X8_known (by decide) (by decide) rfl (Nat.le_of_ble_eq_true rfl) dX8_ready_44 ?_
      refine z_mst (pc := 47) 20 24 hM rfl (by decide) rfl (by omega) dX8_ready_47 (fun G1 hM1 hF1 => ?_)
      have hF := zF.trans hF hF1
      clear hF1
      replace hM := hM1
      clear hM1
      refine z_al0 (pc := 48) dX8_ready_48 ?_
      refine z_mg21 (pc := 49) hM rfl dX8_ready_49 ?_
      refine z_il4 (pc := 52) dX8_ready_52 ?_
      refine z_al0 (pc := 54) dX8_ready_54 ?_
      refine z_il1 (pc := 55) dX8_ready_55 ?_
      refine z_il4 (pc := 56) dX8_ready_56 ?_
      refine z_il3 (pc := 58) dX8_ready_58 ?_
      refine z_iconst (pc := 59) (1) (by decide) dX8_ready_59 ?_
      refine z_callVr (pc := 60) (c_mKnown l t0 i c0 q true hM (by omega) (by omega) hc (by omega)) hM.1 rfl rfl kw_879 zc_X8_known (by decide) (by decide) rfl (Nat.le_of_ble_eq_true rfl) dX8_ready_60 ?_
      refine z_mst (pc := 63) 21 24 hM rfl (by decide) rfl (by omega) dX8_ready_63 (fun G1 hM1 hF1 => ?_)
      have hF := zF.trans hF hF1
      clear hF1
      replace hM := hM1
      clear hM1
      refine z_ii4 (pc := 64) (nI (i + 1)) dX8_ready_64 (nI_1 _) (by decide) ?_
      refine z_goto (pc := 67) 23 dX8_ready_67 rfl ?_
      exact ih (i + 1) _ _ (by omega) hM hF (hI.t (hI.kn t0 i false) (hI.kn2 t0 i 20 i _ (by omega) true))
  have hF : zF 1 G G := zF.rf
  refine z_al0 (pc := 0) dX8_ready_0 ?_
  refine z_al0 (pc := 1) dX8_ready_1 ?_
  refine z_mg4 (pc := 2) hM rfl dX8_ready_2 ?_
  refine z_il1 (pc := 5) dX8_ready_5 ?_
  refine z_mld (pc := 6) 4 20 hM rfl (by decide) rfl (by omega) dX8_ready_6 ?_
  rw [hlt]
  refine z_mp25 (pc := 7) hM rfl dX8_ready_7 (fun G1 hM1 hF1 => ?_)
  have hF := zF.trans hF hF1
  clear hF1
  replace hM := hM1
  clear hM1
  refine z_al0 (pc := 10) dX8_ready_10 ?_
  refine z_al0 (pc := 11) dX8_ready_11 ?_
  refine z_mg4 (pc := 12) hM rfl dX8_ready_12 ?_
  refine z_il2 (pc := 15) dX8_ready_15 ?_
  refine z_mld (pc := 16) 4 20 hM rfl (by decide) rfl (by omega) dX8_ready_16 ?_
  rw [hlu]
  refine z_mp26 (pc := 17) hM rfl dX8_ready_17 (fun G1 hM1 hF1 => ?_)
  have hF := zF.trans hF hF1
  clear hF1
  replace hM := hM1
  clear hM1
  refine z_iconst (pc := 20) (0) (by decide) dX8_ready_20 ?_
  refine z_is4 (pc := 21) dX8_ready_21 (by decide) ?_
  exact lp1 nt 0 _ _ (by omega) hM hF ⟨fun _ _ _ _ _ => rfl, fun _ h => absurd h (Nat.not_lt_zero _), fun _ h => absurd h (Nat.not_lt_zero _)⟩
