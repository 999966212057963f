/-! the alignment told: columns from the last one back -/
abbrev tw (D c2 : Nat → Nat → Int32) (i j : Nat) : Prop := 0 < i ∧ 0 < j ∧ D (i - 1) (j - 1) + c2 (i - 1) (j - 1) = D i j
abbrev fi (D c2 : Nat → Nat → Int32) (a1 : Nat → Int32) (i j : Nat) : Prop := ¬ tw D c2 i j ∧ 0 < i ∧ D (i - 1) j + a1 (i - 1) = D i j
def nxt (D c2 : Nat → Nat → Int32) (a1 : Nat → Int32) (x : Nat × Nat) : Nat × Nat := if tw D c2 x.1 x.2 then (x.1 - 1, x.2 - 1) else if fi D c2 a1 x.1 x.2 then (x.1 - 1, x.2) else (x.1, x.2 - 1)
def pst (D c2 : Nat → Nat → Int32) (a1 : Nat → Int32) (x0 : Nat × Nat) : Nat → Nat × Nat
  | 0 => x0
  | s + 1 => nxt D c2 a1 (pst D c2 a1 x0 s)
def eT (D c2 : Nat → Nat → Int32) (a1 : Nat → Int32) (x : Nat × Nat) : Int32 := if tw D c2 x.1 x.2 ∨ fi D c2 a1 x.1 x.2 then nI (x.1 - 1) else -1
def eU (D c2 : Nat → Nat → Int32) (a1 : Nat → Int32) (x : Nat × Nat) : Int32 := if fi D c2 a1 x.1 x.2 then -1 else nI (x.2 - 1)
def eC (D c2 : Nat → Nat → Int32) (a1 b1 : Nat → Int32) (x : Nat × Nat) : Int32 := if tw D c2 x.1 x.2 then c2 (x.1 - 1) (x.2 - 1) else if fi D c2 a1 x.1 x.2 then a1 (x.1 - 1) else b1 (x.2 - 1)
def AV (D c2 : Nat → Nat → Int32) (a1 b1 : Nat → Int32) (nt nu : Nat) (arP ar1 : Nat → Nat → Int32) (s i j : Nat) : Prop :=
  (∀ k, k ≠ 29 → k ≠ 30 → k ≠ 31 → ar1 k = arP k) ∧ (i, j) = pst D c2 a1 (nt, nu) s ∧ s + i + j ≤ nt + nu ∧ i ≤ nt ∧ j ≤ nu ∧ ∀ a, a < s → pst D c2 a1 (nt, nu) a ≠ (0, 0) ∧ ar1 29 a = eT D c2 a1 (pst D c2 a1 (nt, nu) a) ∧ ar1 30 a = eU D c2 a1 (pst D c2 a1 (nt, nu) a) ∧ ar1 31 a = eC D c2 a1 b1 (pst D c2 a1 (nt, nu) a)
theorem AV.step {D c2 : Nat → Nat → Int32} {a1 b1 : Nat → Int32} {nt nu : Nat} {arP ar1 : Nat → Nat → Int32} {s i j i2 j2 : Nat} {v1 v2 v3 : Int32} (h : AV D c2 a1 b1 nt nu arP ar1 s i j) (hn : (i, j) ≠ (0, 0)) (hx : nxt D c2 a1 (i, j) = (i2, j2)) (hd : i2 + j2 + 1 ≤ i + j ∧ i2 ≤ i ∧ j2 ≤ j)
    (e1 : v1 = eT D c2 a1 (i, j)) (e2 : v2 = eU D c2 a1 (i, j)) (e3 : v3 = eC D c2 a1 b1 (i, j)) : AV D c2 a1 b1 nt nu arP (aup (aup (aup ar1 29 s v1) 30 s v2) 31 s v3) (s + 1) i2 j2 := by
  obtain ⟨h1, h2, h3, h4, h5, h6⟩ := h
  refine ⟨fun k q1 q2 q3 => by simp [aup, q1, q2, q3, h1], ?_, by omega, by omega, by omega, fun a ha => ?_⟩
  · show _ = nxt D c2 a1 (pst D c2 a1 (nt, nu) s)
    rw [← h2, hx]
  · by_cases q : a = s
    · subst q
      rw [← h2]
      refine ⟨hn, ?_, ?_, ?_⟩ <;> simp [aup, upd, e1, e2, e3]
    · have := h6 a (by omega)
      refine ⟨this.1, ?_, ?_, ?_⟩ <;> simp [aup, upd, q, this]
theorem st_t {D c2 : Nat → Nat → Int32} {a1 b1 : Nat → Int32} {i j : Nat} (h : tw D c2 i j) : nxt D c2 a1 (i, j) = (i - 1, j - 1) ∧ eT D c2 a1 (i, j) = nI (i - 1) ∧ eU D c2 a1 (i, j) = nI (j - 1) ∧ eC D c2 a1 b1 (i, j) = c2 (i - 1) (j - 1) := by
  have hf : ¬ fi D c2 a1 i j := fun q => q.1 h
  exact ⟨if_pos h, if_pos (Or.inl h), if_neg hf, if_pos h⟩
theorem st_f {D c2 : Nat → Nat → Int32} {a1 b1 : Nat → Int32} {i j : Nat} (h : fi D c2 a1 i j) : nxt D c2 a1 (i, j) = (i - 1, j) ∧ eT D c2 a1 (i, j) = nI (i - 1) ∧ eU D c2 a1 (i, j) = -1 ∧ eC D c2 a1 b1 (i, j) = a1 (i - 1) :=
  ⟨(if_neg h.1).trans (if_pos h), if_pos (Or.inr h), if_pos h, (if_neg h.1).trans (if_pos h)⟩
theorem st_n {D c2 : Nat → Nat → Int32} {a1 b1 : Nat → Int32} {i j : Nat} (h : ¬ tw D c2 i j) (hf : ¬ fi D c2 a1 i j) : nxt D c2 a1 (i, j) = (i, j - 1) ∧ eT D c2 a1 (i, j) = -1 ∧ eU D c2 a1 (i, j) = nI (j - 1) ∧ eC D c2 a1 b1 (i, j) = b1 (j - 1) :=
  ⟨(if_neg h).trans (if_neg hf), if_neg (fun q => q.elim h hf), if_neg hf, (if_neg h).trans (if_neg hf)⟩
theorem sup_sup (sc : Nat → Int32) (k : Nat) (a b : Int32) : sup (sup sc k a) k b = sup sc k b := by
  funext j
  unfold sup
  split <;> rfl
/-- what lasts from call to call -/
def PS (sc : Nat → Int32) (ar : Nat → Nat → Int32) (sc2 : Nat → Int32) (ar2 : Nat → Nat → Int32) : Prop := (∀ k, 16 ≤ k → k < 20 → sc2 k = sc k) ∧ ∀ k, 1 ≤ k → k < 16 → ar2 k = ar k
theorem PS.rf {sc : Nat → Int32} {ar : Nat → Nat → Int32} : PS sc ar sc ar := ⟨fun _ _ _ => rfl, fun _ _ _ => rfl⟩
theorem PS.trans {sc sc2 sc3 : Nat → Int32} {ar ar2 ar3 : Nat → Nat → Int32} (h : PS sc ar sc2 ar2) (g : PS sc2 ar2 sc3 ar3) : PS sc ar sc3 ar3 := ⟨fun k a b => (g.1 k a b).trans (h.1 k a b), fun k a b => (g.2 k a b).trans (h.2 k a b)⟩
theorem PS.sc0 {sc : Nat → Int32} {ar : Nat → Nat → Int32} (k : Nat) (v : Int32) (hk : k < 16 ∨ 20 ≤ k) : PS sc ar (sup sc k v) ar := ⟨fun j a b => by unfold sup; rw [if_neg (by omega)], fun _ _ _ => rfl⟩
theorem FI.ps {sc sc1 : Nat → Int32} {ar ar1 : Nat → Nat → Int32} {t0 u0 nt nu c0 N : Nat} {q : Int32} (h : FI sc ar sc1 ar1 t0 u0 nt nu c0 q N) : PS sc ar sc1 ar1 := ⟨fun k a b => h.1 k (by omega) (by omega) (by omega) (by omega), fun k a b => h.2.2.2.2.1 k (by omega) (by omega) (by omega) (by omega) (by omega)⟩
/-- dp, column by column, of two tunes as known -/
def dD (ar : Nat → Nat → Int32) (c0 : Nat) (q : Int32) (t0 u0 : Nat) (key : Int32) (i j : Nat) : Int32 := dp (ar 15) (fun i => kn ar t0 i q false c0) (fun i => kn ar t0 i q true c0) (fun i => kn ar u0 i q false c0) (fun i => kn ar u0 i q true c0) key i j
def dC (ar : Nat → Nat → Int32) (c0 : Nat) (q : Int32) (t0 u0 : Nat) (key : Int32) (i j : Nat) : Int32 := co2 (ar 15) (kn ar t0 i q false c0) (kn ar t0 i q true c0) (kn ar u0 j q false c0) (kn ar u0 j q true c0) key
def dA (ar : Nat → Nat → Int32) (c0 : Nat) (q : Int32) (t0 : Nat) (i : Nat) : Int32 := co1 (ar 15) (kn ar t0 i q false c0)
theorem dD_00 (ar : Nat → Nat → Int32) (c0 : Nat) (q : Int32) (t0 u0 : Nat) (key : Int32) (i : Nat) : dD ar c0 q t0 u0 key i 0 + dA ar c0 q t0 i = dD ar c0 q t0 u0 key (i + 1) 0 := rfl
/-- what align leaves: the columns of the alignment told, s0 of them -/
def AL (sc : Nat → Int32) (ar : Nat → Nat → Int32) (sc2 : Nat → Int32) (ar2 : Nat → Nat → Int32) (t0 u0 nt nu c0 : Nat) (q key : Int32) (s0 : Nat) : Prop :=
  PS sc ar sc2 ar2 ∧ sc2 28 = key ∧ sc2 32 = nI s0 ∧ (∀ a, a < nt → ar2 20 a = kn ar t0 a q false c0) ∧ (∀ a, a < nu → ar2 22 a = kn ar u0 a q false c0) ∧
  ∃ arP, AV (dD ar c0 q t0 u0 key) (dC ar c0 q t0 u0 key) (dA ar c0 q t0) (dA ar c0 q u0) nt nu arP ar2 s0 0 0
abbrev rX8_align : Room := rmK 4 0 0 94
set_option maxRecDepth 100000 in
set_option maxHeartbeats 400000 in
theorem c_mAlign (l : Launch) {κ : zK} {G : zH} {x : Nat} {ad : Nat → Nat} {sc : Nat → Int32} {ar : Nat → Nat → Int32} (t0 u0 nt nu c0 : Nat) (q : Int32) (hM : RM κ G x ad sc ar) (ht : t0 < 20) (hu : u0 < 20) (hlt : ar 4 t0 = nI nt) (hnt : nt ≤ 24) (hlu : ar 4 u0 = nI nu) (hnu : nu ≤ 24) (hc : sc 17 = nI c0) (hc2 : c0 ≤ 200) : Ct l yX8_align cX8_align 10 none rX8_align κ [.ref x, .int (nI t0), .int (nI u0), .int q] G (pV (fun G2 => ∃ sc2 ar2 s0, RM κ G2 x ad sc2 ar2 ∧ zF 1 G G2 ∧ AL sc ar sc2 ar2 t0 u0 nt nu c0 q (tl (fun n => dK ar c0 q t0 u0 nt nu (keyAt n)) (sc 28) 25).2 s0)) := by
  refine Ct.of (by decide +kernel) (fun v hv => by
    simp only [List.mem_cons, List.mem_nil_iff, or_false, List.not_mem_nil] at hv
    rcases hv with rfl | rfl | rfl | rfl <;> rfl) (Nat.le_of_ble_eq_true rfl) ?_
  intro p e s m args below meth cC
  refine z_L (L' := [some (.ref x), some (.int (nI t0)), some (.int (nI u0)), some (.int q), none, none, none, none, none, none]) rfl ?_
  generalize hQx : MQ below (zQc κ _) args s _ _ (zA κ) = Qx
  have hF : zF 1 G G := zF.rf
  refine z_al0 (pc := 0) dX8_align_0 ?_
  refine z_il1 (pc := 1) dX8_align_1 ?_
  refine z_il2 (pc := 2) dX8_align_2 ?_
  refine z_il3 (pc := 3) dX8_align_3 ?_
  refine z_callVi (pc := 4) _ (c_mFar l t0 u0 nt nu c0 q hM (by omega) (by omega) hlt (by omega) hlu (by omega) hc (by omega)) rfl hM.1 rfl rfl kw_891 zc_X8_far (by decide) rfl (Nat.le_of_ble_eq_true rfl) dX8_align_4 (fun r G1 h => ?_)
  obtain ⟨sc1, ar1, rfl, hM1, hF1, hI⟩ := h
  have hF := zF.trans hF hF1
  clear hF1
  replace hM := hM1
  clear hM1
  refine z_is4 (pc := 7) dX8_align_7 (by decide) ?_
  refine z_al0 (pc := 9) dX8_align_9 ?_
  refine z_al0 (pc := 10) dX8_align_10 ?_
  refine z_mg28 (pc := 11) hM rfl dX8_align_11 ?_
  refine z_callVi (pc := 14) _ (c_mLay l nt nu _ hM hI.2.1 (by omega) hI.2.2.1 (by omega)) rfl hM.1 rfl rfl kw_900 zc_X8_lay (by decide) rfl (Nat.le_of_ble_eq_true rfl) dX8_align_14 (fun r G1 h => ?_)
  obtain ⟨rfl, arP, hM1, hF1, hL1, hT1⟩ := h
  have hF := zF.trans hF hF1
  clear hF1
  replace hM := hM1
  clear hM1
  refine z_is4 (pc := 17) dX8_align_17 (by decide) ?_
  refine z_al0 (pc := 19) dX8_align_19 ?_
  refine z_iconst (pc := 20) (0) (by decide) dX8_align_20 ?_
  refine z_mp32 (pc := 21) hM rfl dX8_align_21 (fun G1 hM1 hF1 => ?_)
  have hF := zF.trans hF hF1
  clear hF1
  replace hM := hM1
  clear hM1
  refine z_al0 (pc := 24) dX8_align_24 ?_
  refine z_mg25 (pc := 25) hM rfl dX8_align_25 ?_
  rw [show sup sc1 32 0 25 = nI nt from hI.2.1]
  refine z_is5 (pc := 28) dX8_align_28 (by decide) ?_
  refine z_al0 (pc := 30) dX8_align_30 ?_
  refine z_mg26 (pc := 31) hM rfl dX8_align_31 ?_
  rw [show sup sc1 32 0 26 = nI nu from hI.2.2.1]
  refine z_is6 (pc := 34) dX8_align_34 (by decide) ?_
  have hkey : sc1 28 = (tl (fun n => dK ar c0 q t0 u0 nt nu (keyAt n)) (sc 28) 25).2 := by rw [← hI.2.2.2.1]
  generalize hKK : (tl (fun n => dK ar c0 q t0 u0 nt nu (keyAt n)) (sc 28) 25).2 = key at hkey ⊢
  rw [hkey] at hT1
  have h15 : arP 15 = ar 15 := by rw [hL1 15 (by omega)]; exact hI.2.2.2.2.1 15 (by omega) (by omega) (by omega) (by omega) (by omega)
  have hT : ∀ a b, a ≤ nt → b ≤ nu → arP 24 (25 * a + b) = dD ar c0 q t0 u0 key a b := fun a b ha hb => by rw [hT1 a b ha hb]; exact hI.dp key a b ha hb
  have h2t : ∀ a, a < nt → arP 20 a = kn ar t0 a q false c0 ∧ arP 21 a = kn ar t0 a q true c0 := fun a ha => by rw [hL1 20 (by omega), hL1 21 (by omega)]; exact hI.2.2.2.2.2.1 a ha
  have h2u : ∀ a, a < nu → arP 22 a = kn ar u0 a q false c0 ∧ arP 23 a = kn ar u0 a q true c0 := fun a ha => by rw [hL1 22 (by omega), hL1 23 (by omega)]; exact hI.2.2.2.2.2.2 a ha
  have hps : ∀ (s0 : Nat) (ar1 : Nat → Nat → Int32), (∀ k, k ≠ 29 → k ≠ 30 → k ≠ 31 → ar1 k = arP k) → PS sc ar (sup sc1 32 (nI s0)) ar1 := fun s0 ar1 hv => hI.ps.trans ⟨fun k a b => by unfold sup; rw [if_neg (by omega)], fun k a b => by rw [hv k (by omega) (by omega) (by omega), hL1 k (by omega)]⟩
  have lp : ∀ (d s0 i j : Nat) (G1 : zH) (ar1 : Nat → Nat → Int32) (w4 w7 w8 w9 : Option Value), i + j ≤ d → RM κ G1 x ad (sup sc1 32 (nI s0)) ar1 → zF 1 G G1 → AV (dD ar c0 q t0 u0 key) (dC ar c0 q t0 u0 key) (dA ar c0 q t0) (dA ar c0 q u0) nt nu arP ar1 s0 i j → Z p l e rX8_align s m args below meth cC yX8_align cX8_align 10 none κ Qx 0 0 G1 [some (.ref x), some (.int (nI t0)), some (.int (nI u0)), some (.int q), w4, some (.int (nI i)), some (.int (nI j)), w7, w8, w9] 36 [] := by
    intro d
    induction d with
    | zero =>
      intro s0 i j G1 ar1 w4 w7 w8 w9 hij hM hF hV
      obtain rfl : i = 0 := by omega
      obtain rfl : j = 0 := by omega
      refine z_il5 (pc := 36) dX8_align_36 ?_
      refine z_if_gt (pc := 38) 46 dX8_align_38 rfl (fun c38 => absurd c38 (by rw [nI_0]; decide)) (fun c38 => ?_)
      refine z_il6 (pc := 41) dX8_align_41 ?_
      refine z_if_le (pc := 43) 318 dX8_align_43 rfl (fun c43 => ?_) (fun c43 => absurd (by rw [nI_0]; exact Int32.le_refl _) c43)
      rw [← hQx]
      refine z_vret (pc := 318) rfl (by decide) dX8_align_318 (by rw [hKK]; exact ⟨rfl, _, _, s0, hM, hF, hps s0 ar1 hV.1, hkey, rfl, fun a ha => (congrFun (hV.1 20 (by omega) (by omega) (by omega)) a).trans (h2t a ha).1, fun a ha => (congrFun (hV.1 22 (by omega) (by omega) (by omega)) a).trans (h2u a ha).1, arP, hV⟩)
    | succ d ih =>
      intro s0 i j G1 ar1 w4 w7 w8 w9 hij hM hF hV
      have hV3 := hV.2.2.1
      have hV4 := hV.2.2.2.1
      have hV5 := hV.2.2.2.2.1
      rcases i with _ | i
      · rcases j with _ | j
        · refine z_il5 (pc := 36) dX8_align_36 ?_
          refine z_if_gt (pc := 38) 46 dX8_align_38 rfl (fun c38 => absurd c38 (by rw [nI_0]; decide)) (fun c38 => ?_)
          refine z_il6 (pc := 41) dX8_align_41 ?_
          refine z_if_le (pc := 43) 318 dX8_align_43 rfl (fun c43 => ?_) (fun c43 => absurd (by rw [nI_0]; exact Int32.le_refl _) c43)
          rw [← hQx]
          refine z_vret (pc := 318) rfl (by decide) dX8_align_318 (by rw [hKK]; exact ⟨rfl, _, _, s0, hM, hF, hps s0 ar1 hV.1, hkey, rfl, fun a ha => (congrFun (hV.1 20 (by omega) (by omega) (by omega)) a).trans (h2t a ha).1, fun a ha => (congrFun (hV.1 22 (by omega) (by omega) (by omega)) a).trans (h2u a ha).1, arP, hV⟩)
        · refine z_il5 (pc := 36) dX8_align_36 ?_
          refine z_if_gt (pc := 38) 46 dX8_align_38 rfl (fun c38 => absurd c38 (by rw [nI_0]; decide)) (fun c38 => ?_)
          refine z_il6 (pc := 41) dX8_align_41 ?_
          refine z_if_le (pc := 43) 318 dX8_align_43 rfl (fun c43 => absurd c43 (nI_nle (by omega) (by omega))) (fun c43 => ?_)
          refine z_al0 (pc := 46) dX8_align_46 ?_
          refine z_mg24 (pc := 47) hM rfl dX8_align_47 ?_
          refine z_bipush (pc := 50) (25) (by decide) dX8_align_50 ?_
          refine z_il5 (pc := 52) dX8_align_52 ?_
          refine z_imul (pc := 54) dX8_align_54 ?_
          refine z_il6 (pc := 55) dX8_align_55 ?_
          refine z_iadd (pc := 57) dX8_align_57 ?_
          refine z_mld (pc := 58) 24 625 hM rfl (by decide) (ix25 _ _) (by omega) dX8_align_58 ?_
          rw [hV.1 24 (by omega) (by omega) (by omega), hT 0 (j + 1) (by omega) (by omega)]
          refine z_is7 (pc := 59) dX8_align_59 (by decide) ?_
          refine z_il5 (pc := 61) dX8_align_61 ?_
          refine z_if_le (pc := 63) 114 dX8_align_63 rfl (fun c63 => ?_) (fun c63 => absurd (by rw [nI_0]; exact Int32.le_refl _) c63)
          refine z_iconst (pc := 114) (0) (by decide) dX8_align_114 ?_
          refine z_is8 (pc := 115) dX8_align_115 (by decide) ?_
          refine z_il8 (pc := 117) dX8_align_117 ?_
          refine z_if_ne (pc := 119) 165 dX8_align_119 rfl (fun h => absurd h (by decide)) (fun _ => ?_)
          refine z_il5 (pc := 122) dX8_align_122 ?_
          refine z_if_le (pc := 124) 165 dX8_align_124 rfl (fun c124 => ?_) (fun c124 => absurd (by rw [nI_0]; exact Int32.le_refl _) c124)
          refine z_iconst (pc := 165) (0) (by decide) dX8_align_165 ?_
          refine z_is9 (pc := 166) dX8_align_166 (by decide) ?_
          refine z_al0 (pc := 168) dX8_align_168 ?_
          refine z_mg29 (pc := 169) hM rfl dX8_align_169 ?_
          refine z_al0 (pc := 172) dX8_align_172 ?_
          refine z_mg32 (pc := 173) hM rfl dX8_align_173 ?_
          rw [show sup sc1 32 (nI s0) 32 = nI s0 from rfl]
          refine z_il8 (pc := 176) dX8_align_176 ?_
          refine z_if_ne (pc := 178) 186 dX8_align_178 rfl (fun h => absurd h (by decide)) (fun _ => ?_)
          refine z_il9 (pc := 181) dX8_align_181 ?_
          refine z_if_eq (pc := 183) 193 dX8_align_183 rfl (fun _ => ?_) (fun h => absurd (by decide) h)
          refine z_iconst (pc := 193) (-1) (by decide) dX8_align_193 ?_
          refine z_mst (pc := 194) 29 48 hM rfl (by decide) rfl (by omega) dX8_align_194 (fun G1 hM1 hF1 => ?_)
          have hF := zF.trans hF hF1
          clear hF1
          replace hM := hM1
          clear hM1
          refine z_al0 (pc := 195) dX8_align_195 ?_
          refine z_mg30 (pc := 196) hM rfl dX8_align_196 ?_
          refine z_al0 (pc := 199) dX8_align_199 ?_
          refine z_mg32 (pc := 200) hM rfl dX8_align_200 ?_
          rw [show sup sc1 32 (nI s0) 32 = nI s0 from rfl]
          refine z_il9 (pc := 203) dX8_align_203 ?_
          refine z_if_eq (pc := 205) 212 dX8_align_205 rfl (fun _ => ?_) (fun h => absurd (by decide) h)
          refine z_il6 (pc := 212) dX8_align_212 ?_
          refine z_iconst (pc := 214) (1) (by decide) dX8_align_214 ?_
          refine z_isub (pc := 215) dX8_align_215 ?_
          rw [nI_pred]
          refine z_mst (pc := 216) 30 48 hM rfl (by decide) rfl (by omega) dX8_align_216 (fun G1 hM1 hF1 => ?_)
          have hF := zF.trans hF hF1
          clear hF1
          replace hM := hM1
          clear hM1
          skip
          refine z_al0 (pc := 217) dX8_align_217 ?_
          refine z_mg31 (pc := 218) hM rfl dX8_align_218 ?_
          refine z_al0 (pc := 221) dX8_align_221 ?_
          refine z_mg32 (pc := 222) hM rfl dX8_align_222 ?_
          rw [show sup sc1 32 (nI s0) 32 = nI s0 from rfl]
          refine z_il8 (pc := 225) dX8_align_225 ?_
          refine z_if_eq (pc := 227) 249 dX8_align_227 rfl (fun _ => ?_) (fun h => absurd (by decide) h)
          refine z_il9 (pc := 249) dX8_align_249 ?_
          refine z_if_eq (pc := 251) 270 dX8_align_251 rfl (fun _ => ?_) (fun h => absurd (by decide) h)
          refine z_al0 (pc := 270) dX8_align_270 ?_
          refine z_al0 (pc := 271) dX8_align_271 ?_
          refine z_mg22 (pc := 272) hM rfl dX8_align_272 ?_
          refine z_il6 (pc := 275) dX8_align_275 ?_
          refine z_iconst (pc := 277) (1) (by decide) dX8_align_277 ?_
          refine z_isub (pc := 278) dX8_align_278 ?_
          rw [nI_pred]
          refine z_mld (pc := 279) 22 24 hM rfl (by decide) rfl (by omega) dX8_align_279 ?_
          refine z_callVr (pc := 280) (c_mAlone l _ hM) hM.1 rfl rfl kw_912 zc_X8_alone (by decide) (by decide) rfl (Nat.le_of_ble_eq_true rfl) dX8_align_280 ?_
          simp only [aup, reduceIte, Nat.reduceEqDiff]
          rw [hV.1 15 (by omega) (by omega) (by omega), hV.1 22 (by omega) (by omega) (by omega), h15, (h2u j (by omega)).1]
          rw [show co1 (ar 15) _ = dA ar c0 q u0 j from rfl]
          refine z_mst (pc := 283) 31 48 hM rfl (by decide) rfl (by omega) dX8_align_283 (fun G1 hM1 hF1 => ?_)
          have hF := zF.trans hF hF1
          clear hF1
          replace hM := hM1
          clear hM1
          refine z_il8 (pc := 284) dX8_align_284 ?_
          refine z_if_ne (pc := 286) 294 dX8_align_286 rfl (fun h => absurd h (by decide)) (fun _ => ?_)
          refine z_il9 (pc := 289) dX8_align_289 ?_
          refine z_if_eq (pc := 291) 297 dX8_align_291 rfl (fun _ => ?_) (fun h => absurd (by decide) h)
          refine z_il9 (pc := 297) dX8_align_297 ?_
          refine z_if_ne (pc := 299) 305 dX8_align_299 rfl (fun h => absurd h (by decide)) (fun _ => ?_)
          skip
          refine z_ii6 (pc := 302) (nI j) dX8_align_302 (pk_m1 _) (by decide) ?_
          refine z_al0 (pc := 305) dX8_align_305 ?_
          refine z_dup (pc := 306) rfl dX8_align_306 ?_
          refine z_mg32 (pc := 307) hM rfl dX8_align_307 ?_
          refine z_iconst (pc := 310) (1) (by decide) dX8_align_310 ?_
          refine z_iadd (pc := 311) dX8_align_311 ?_
          rw [show sup sc1 32 (nI s0) 32 + 1 = nI (s0 + 1) from nI_1 s0]
          refine z_mp32 (pc := 312) hM rfl dX8_align_312 (fun G1 hM1 hF1 => ?_)
          have hF := zF.trans hF hF1
          clear hF1
          replace hM := hM1
          clear hM1
          rw [sup_sup] at hM
          refine z_goto (pc := 315) 36 dX8_align_315 rfl ?_
          have ht : ¬ tw (dD ar c0 q t0 u0 key) (dC ar c0 q t0 u0 key) 0 (j + 1) := fun h => by have := h.1; omega
          have hf : ¬ fi (dD ar c0 q t0 u0 key) (dC ar c0 q t0 u0 key) (dA ar c0 q t0) 0 (j + 1) := fun h => by have := h.2.1; omega
          refine ih (s0 + 1) 0 j _ _ _ _ _ _ (by omega) hM hF (hV.step (i2 := 0) (j2 := j) (by simp) (st_n (b1 := dA ar c0 q u0) ht hf).1 (by omega) (st_n (b1 := dA ar c0 q u0) ht hf).2.1.symm (st_n (b1 := dA ar c0 q u0) ht hf).2.2.1.symm (st_n (b1 := dA ar c0 q u0) ht hf).2.2.2.symm)
      · rcases j with _ | j
        · refine z_il5 (pc := 36) dX8_align_36 ?_
          refine z_if_gt (pc := 38) 46 dX8_align_38 rfl (fun c38 => ?_) (fun c38 => absurd (by rw [Int32.lt_iff_toInt_lt, nI_toInt (by omega), i_0]; omega) c38)
          refine z_al0 (pc := 46) dX8_align_46 ?_
          refine z_mg24 (pc := 47) hM rfl dX8_align_47 ?_
          refine z_bipush (pc := 50) (25) (by decide) dX8_align_50 ?_
          refine z_il5 (pc := 52) dX8_align_52 ?_
          refine z_imul (pc := 54) dX8_align_54 ?_
          refine z_il6 (pc := 55) dX8_align_55 ?_
          refine z_iadd (pc := 57) dX8_align_57 ?_
          refine z_mld (pc := 58) 24 625 hM rfl (by decide) (ix25 _ _) (by omega) dX8_align_58 ?_
          rw [hV.1 24 (by omega) (by omega) (by omega), hT (i + 1) 0 (by omega) (by omega)]
          refine z_is7 (pc := 59) dX8_align_59 (by decide) ?_
          refine z_il5 (pc := 61) dX8_align_61 ?_
          refine z_if_le (pc := 63) 114 dX8_align_63 rfl (fun c63 => absurd c63 (nI_nle (by omega) (by omega))) (fun c63 => ?_)
          refine z_il6 (pc := 66) dX8_align_66 ?_
          refine z_if_le (pc := 68) 114 dX8_align_68 rfl (fun c68 => ?_) (fun c68 => absurd (by rw [nI_0]; exact Int32.le_refl _) c68)
          refine z_iconst (pc := 114) (0) (by decide) dX8_align_114 ?_
          refine z_is8 (pc := 115) dX8_align_115 (by decide) ?_
          refine z_il8 (pc := 117) dX8_align_117 ?_
          refine z_if_ne (pc := 119) 165 dX8_align_119 rfl (fun h => absurd h (by decide)) (fun _ => ?_)
          refine z_il5 (pc := 122) dX8_align_122 ?_
          refine z_if_le (pc := 124) 165 dX8_align_124 rfl (fun c124 => absurd c124 (nI_nle (by omega) (by omega))) (fun c124 => ?_)
          refine z_al0 (pc := 127) dX8_align_127 ?_
          refine z_mg24 (pc := 128) hM rfl dX8_align_128 ?_
          refine z_bipush (pc := 131) (25) (by decide) dX8_align_131 ?_
          refine z_il5 (pc := 133) dX8_align_133 ?_
          refine z_iconst (pc := 135) (1) (by decide) dX8_align_135 ?_
          refine z_isub (pc := 136) dX8_align_136 ?_
          rw [nI_pred]
          refine z_imul (pc := 137) dX8_align_137 ?_
          refine z_il6 (pc := 138) dX8_align_138 ?_
          refine z_iadd (pc := 140) dX8_align_140 ?_
          rw [ix25]
          refine z_mld (pc := 141) 24 625 hM rfl (by decide) rfl (by omega) dX8_align_141 ?_
          rw [hV.1 24 (by omega) (by omega) (by omega), hT i 0 (by omega) (by omega)]
          refine z_al0 (pc := 142) dX8_align_142 ?_
          refine z_al0 (pc := 143) dX8_align_143 ?_
          refine z_mg20 (pc := 144) hM rfl dX8_align_144 ?_
          refine z_il5 (pc := 147) dX8_align_147 ?_
          refine z_iconst (pc := 149) (1) (by decide) dX8_align_149 ?_
          refine z_isub (pc := 150) dX8_align_150 ?_
          rw [nI_pred]
          refine z_mld (pc := 151) 20 24 hM rfl (by decide) rfl (by omega) dX8_align_151 ?_
          refine z_callVr (pc := 152) (c_mAlone l _ hM) hM.1 rfl rfl kw_912 zc_X8_alone (by decide) (by decide) rfl (Nat.le_of_ble_eq_true rfl) dX8_align_152 ?_
          rw [hV.1 15 (by omega) (by omega) (by omega), hV.1 20 (by omega) (by omega) (by omega), h15, (h2t i (by omega)).1]
          rw [show co1 (ar 15) _ = dA ar c0 q t0 i from rfl]
          refine z_iadd (pc := 155) dX8_align_155 ?_
          refine z_il7 (pc := 156) dX8_align_156 ?_
          refine z_icmp_ne (pc := 158) 165 dX8_align_158 rfl (fun c158 => absurd (dD_00 ar c0 q t0 u0 key i) c158) (fun c158 => ?_)
          refine z_iconst (pc := 161) (1) (by decide) dX8_align_161 ?_
          refine z_goto (pc := 162) 166 dX8_align_162 rfl ?_
          refine z_is9 (pc := 166) dX8_align_166 (by decide) ?_
          refine z_al0 (pc := 168) dX8_align_168 ?_
          refine z_mg29 (pc := 169) hM rfl dX8_align_169 ?_
          refine z_al0 (pc := 172) dX8_align_172 ?_
          refine z_mg32 (pc := 173) hM rfl dX8_align_173 ?_
          rw [show sup sc1 32 (nI s0) 32 = nI s0 from rfl]
          refine z_il8 (pc := 176) dX8_align_176 ?_
          refine z_if_ne (pc := 178) 186 dX8_align_178 rfl (fun h => absurd h (by decide)) (fun _ => ?_)
          refine z_il9 (pc := 181) dX8_align_181 ?_
          refine z_if_eq (pc := 183) 193 dX8_align_183 rfl (fun h => absurd h (by decide)) (fun _ => ?_)
          refine z_il5 (pc := 186) dX8_align_186 ?_
          refine z_iconst (pc := 188) (1) (by decide) dX8_align_188 ?_
          refine z_isub (pc := 189) dX8_align_189 ?_
          rw [nI_pred]
          refine z_goto (pc := 190) 194 dX8_align_190 rfl ?_
          refine z_mst (pc := 194) 29 48 hM rfl (by decide) rfl (by omega) dX8_align_194 (fun G1 hM1 hF1 => ?_)
          have hF := zF.trans hF hF1
          clear hF1
          replace hM := hM1
          clear hM1
          refine z_al0 (pc := 195) dX8_align_195 ?_
          refine z_mg30 (pc := 196) hM rfl dX8_align_196 ?_
          refine z_al0 (pc := 199) dX8_align_199 ?_
          refine z_mg32 (pc := 200) hM rfl dX8_align_200 ?_
          rw [show sup sc1 32 (nI s0) 32 = nI s0 from rfl]
          refine z_il9 (pc := 203) dX8_align_203 ?_
          refine z_if_eq (pc := 205) 212 dX8_align_205 rfl (fun h => absurd h (by decide)) (fun _ => ?_)
          refine z_iconst (pc := 208) (-1) (by decide) dX8_align_208 ?_
          refine z_goto (pc := 209) 216 dX8_align_209 rfl ?_
          skip
          refine z_mst (pc := 216) 30 48 hM rfl (by decide) rfl (by omega) dX8_align_216 (fun G1 hM1 hF1 => ?_)
          have hF := zF.trans hF hF1
          clear hF1
          replace hM := hM1
          clear hM1
          skip
          refine z_al0 (pc := 217) dX8_align_217 ?_
          refine z_mg31 (pc := 218) hM rfl dX8_align_218 ?_
          refine z_al0 (pc := 221) dX8_align_221 ?_
          refine z_mg32 (pc := 222) hM rfl dX8_align_222 ?_
          rw [show sup sc1 32 (nI s0) 32 = nI s0 from rfl]
          refine z_il8 (pc := 225) dX8_align_225 ?_
          refine z_if_eq (pc := 227) 249 dX8_align_227 rfl (fun _ => ?_) (fun h => absurd (by decide) h)
          refine z_il9 (pc := 249) dX8_align_249 ?_
          refine z_if_eq (pc := 251) 270 dX8_align_251 rfl (fun h => absurd h (by decide)) (fun _ => ?_)
          refine z_al0 (pc := 254) dX8_align_254 ?_
          refine z_al0 (pc := 255) dX8_align_255 ?_
          refine z_mg20 (pc := 256) hM rfl dX8_align_256 ?_
          refine z_il5 (pc := 259) dX8_align_259 ?_
          refine z_iconst (pc := 261) (1) (by decide) dX8_align_261 ?_
          refine z_isub (pc := 262) dX8_align_262 ?_
          rw [nI_pred]
          refine z_mld (pc := 263) 20 24 hM rfl (by decide) rfl (by omega) dX8_align_263 ?_
          refine z_callVr (pc := 264) (c_mAlone l _ hM) hM.1 rfl rfl kw_912 zc_X8_alone (by decide) (by decide) rfl (Nat.le_of_ble_eq_true rfl) dX8_align_264 ?_
          simp only [aup, reduceIte, Nat.reduceEqDiff]
          rw [hV.1 15 (by omega) (by omega) (by omega), hV.1 20 (by omega) (by omega) (by omega), h15, (h2t i (by omega)).1]
          rw [show co1 (ar 15) _ = dA ar c0 q t0 i from rfl]
          refine z_goto (pc := 267) 283 dX8_align_267 rfl ?_
          skip
          refine z_mst (pc := 283) 31 48 hM rfl (by decide) rfl (by omega) dX8_align_283 (fun G1 hM1 hF1 => ?_)
          have hF := zF.trans hF hF1
          clear hF1
          replace hM := hM1
          clear hM1
          refine z_il8 (pc := 284) dX8_align_284 ?_
          refine z_if_ne (pc := 286) 294 dX8_align_286 rfl (fun h => absurd h (by decide)) (fun _ => ?_)
          refine z_il9 (pc := 289) dX8_align_289 ?_
          refine z_if_eq (pc := 291) 297 dX8_align_291 rfl (fun h => absurd h (by decide)) (fun _ => ?_)
          refine z_ii5 (pc := 294) (nI i) dX8_align_294 (pk_m1 _) (by decide) ?_
          refine z_il9 (pc := 297) dX8_align_297 ?_
          refine z_if_ne (pc := 299) 305 dX8_align_299 rfl (fun _ => ?_) (fun h => absurd h (by decide))
          refine z_al0 (pc := 305) dX8_align_305 ?_
          refine z_dup (pc := 306) rfl dX8_align_306 ?_
          refine z_mg32 (pc := 307) hM rfl dX8_align_307 ?_
          refine z_iconst (pc := 310) (1) (by decide) dX8_align_310 ?_
          refine z_iadd (pc := 311) dX8_align_311 ?_
          rw [show sup sc1 32 (nI s0) 32 + 1 = nI (s0 + 1) from nI_1 s0]
          refine z_mp32 (pc := 312) hM rfl dX8_align_312 (fun G1 hM1 hF1 => ?_)
          have hF := zF.trans hF hF1
          clear hF1
          replace hM := hM1
          clear hM1
          rw [sup_sup] at hM
          refine z_goto (pc := 315) 36 dX8_align_315 rfl ?_
          have ht : ¬ tw (dD ar c0 q t0 u0 key) (dC ar c0 q t0 u0 key) (i + 1) 0 := fun h => by have := h.2.1; omega
          have hf : fi (dD ar c0 q t0 u0 key) (dC ar c0 q t0 u0 key) (dA ar c0 q t0) (i + 1) 0 := ⟨ht, by omega, dD_00 ar c0 q t0 u0 key i⟩
          refine ih (s0 + 1) i 0 _ _ _ _ _ _ (by omega) hM hF (hV.step (i2 := i) (j2 := 0) (by simp) (st_f (b1 := dA ar c0 q u0) hf).1 (by omega) (st_f (b1 := dA ar c0 q u0) hf).2.1.symm (st_f (b1 := dA ar c0 q u0) hf).2.2.1.symm (st_f (b1 := dA ar c0 q u0) hf).2.2.2.symm)
        · refine z_il5 (pc := 36) dX8_align_36 ?_
          refine z_if_gt (pc := 38) 46 dX8_align_38 rfl (fun c38 => ?_) (fun c38 => absurd (by rw [Int32.lt_iff_toInt_lt, nI_toInt (by omega), i_0]; omega) c38)
          refine z_al0 (pc := 46) dX8_align_46 ?_
          refine z_mg24 (pc := 47) hM rfl dX8_align_47 ?_
          refine z_bipush (pc := 50) (25) (by decide) dX8_align_50 ?_
          refine z_il5 (pc := 52) dX8_align_52 ?_
          refine z_imul (pc := 54) dX8_align_54 ?_
          refine z_il6 (pc := 55) dX8_align_55 ?_
          refine z_iadd (pc := 57) dX8_align_57 ?_
          refine z_mld (pc := 58) 24 625 hM rfl (by decide) (ix25 _ _) (by omega) dX8_align_58 ?_
          rw [hV.1 24 (by omega) (by omega) (by omega), hT (i + 1) (j + 1) (by omega) (by omega)]
          refine z_is7 (pc := 59) dX8_align_59 (by decide) ?_
          refine z_il5 (pc := 61) dX8_align_61 ?_
          refine z_if_le (pc := 63) 114 dX8_align_63 rfl (fun c63 => absurd c63 (nI_nle (by omega) (by omega))) (fun c63 => ?_)
          refine z_il6 (pc := 66) dX8_align_66 ?_
          refine z_if_le (pc := 68) 114 dX8_align_68 rfl (fun c68 => absurd c68 (nI_nle (by omega) (by omega))) (fun c68 => ?_)
          refine z_al0 (pc := 71) dX8_align_71 ?_
          refine z_mg24 (pc := 72) hM rfl dX8_align_72 ?_
          refine z_bipush (pc := 75) (25) (by decide) dX8_align_75 ?_
          refine z_il5 (pc := 77) dX8_align_77 ?_
          refine z_iconst (pc := 79) (1) (by decide) dX8_align_79 ?_
          refine z_isub (pc := 80) dX8_align_80 ?_
          rw [nI_pred]
          refine z_imul (pc := 81) dX8_align_81 ?_
          refine z_il6 (pc := 82) dX8_align_82 ?_
          refine z_iadd (pc := 84) dX8_align_84 ?_
          refine z_iconst (pc := 85) (1) (by decide) dX8_align_85 ?_
          refine z_isub (pc := 86) dX8_align_86 ?_
          rw [ix25, show nI (25 * i + (j + 1)) - 1 = nI (25 * i + j) from nI_pred _]
          refine z_mld (pc := 87) 24 625 hM rfl (by decide) rfl (by omega) dX8_align_87 ?_
          rw [hV.1 24 (by omega) (by omega) (by omega), hT i j (by omega) (by omega)]
          refine z_al0 (pc := 88) dX8_align_88 ?_
          refine z_il5 (pc := 89) dX8_align_89 ?_
          refine z_iconst (pc := 91) (1) (by decide) dX8_align_91 ?_
          refine z_isub (pc := 92) dX8_align_92 ?_
          rw [nI_pred]
          refine z_il6 (pc := 93) dX8_align_93 ?_
          refine z_iconst (pc := 95) (1) (by decide) dX8_align_95 ?_
          refine z_isub (pc := 96) dX8_align_96 ?_
          rw [nI_pred]
          refine z_al0 (pc := 97) dX8_align_97 ?_
          refine z_mg28 (pc := 98) hM rfl dX8_align_98 ?_
          rw [show sup sc1 32 (nI s0) 28 = key from hkey]
          refine z_callVr (pc := 101) (c_mOfTwo l i j key hM (by omega) (by omega)) hM.1 rfl rfl kw_904 zc_X8_ofTwo (by decide) (by decide) rfl (Nat.le_of_ble_eq_true rfl) dX8_align_101 ?_
          rw [hV.1 15 (by omega) (by omega) (by omega), hV.1 20 (by omega) (by omega) (by omega), hV.1 21 (by omega) (by omega) (by omega), hV.1 22 (by omega) (by omega) (by omega), hV.1 23 (by omega) (by omega) (by omega), h15, (h2t i (by omega)).1, (h2t i (by omega)).2, (h2u j (by omega)).1, (h2u j (by omega)).2]
          rw [show co2 (ar 15) _ _ _ _ key = dC ar c0 q t0 u0 key i j from rfl]
          refine z_iadd (pc := 104) dX8_align_104 ?_
          refine z_il7 (pc := 105) dX8_align_105 ?_
          refine z_icmp_ne (pc := 107) 114 dX8_align_107 rfl (fun c107 => ?_) (fun c107 => ?_)
          · refine z_iconst (pc := 114) (0) (by decide) dX8_align_114 ?_
            refine z_is8 (pc := 115) dX8_align_115 (by decide) ?_
            refine z_il8 (pc := 117) dX8_align_117 ?_
            refine z_if_ne (pc := 119) 165 dX8_align_119 rfl (fun h => absurd h (by decide)) (fun _ => ?_)
            refine z_il5 (pc := 122) dX8_align_122 ?_
            refine z_if_le (pc := 124) 165 dX8_align_124 rfl (fun c124 => absurd c124 (nI_nle (by omega) (by omega))) (fun c124 => ?_)
            refine z_al0 (pc := 127) dX8_align_127 ?_
            refine z_mg24 (pc := 128) hM rfl dX8_align_128 ?_
            refine z_bipush (pc := 131) (25) (by decide) dX8_align_131 ?_
            refine z_il5 (pc := 133) dX8_align_133 ?_
            refine z_iconst (pc := 135) (1) (by decide) dX8_align_135 ?_
            refine z_isub (pc := 136) dX8_align_136 ?_
            rw [nI_pred]
            refine z_imul (pc := 137) dX8_align_137 ?_
            refine z_il6 (pc := 138) dX8_align_138 ?_
            refine z_iadd (pc := 140) dX8_align_140 ?_
            rw [ix25]
            refine z_mld (pc := 141) 24 625 hM rfl (by decide) rfl (by omega) dX8_align_141 ?_
            rw [hV.1 24 (by omega) (by omega) (by omega), hT i (j + 1) (by omega) (by omega)]
            refine z_al0 (pc := 142) dX8_align_142 ?_
            refine z_al0 (pc := 143) dX8_align_143 ?_
            refine z_mg20 (pc := 144) hM rfl dX8_align_144 ?_
            refine z_il5 (pc := 147) dX8_align_147 ?_
            refine z_iconst (pc := 149) (1) (by decide) dX8_align_149 ?_
            refine z_isub (pc := 150) dX8_align_150 ?_
            rw [nI_pred]
            refine z_mld (pc := 151) 20 24 hM rfl (by decide) rfl (by omega) dX8_align_151 ?_
            refine z_callVr (pc := 152) (c_mAlone l _ hM) hM.1 rfl rfl kw_912 zc_X8_alone (by decide) (by decide) rfl (Nat.le_of_ble_eq_true rfl) dX8_align_152 ?_
            rw [hV.1 15 (by omega) (by omega) (by omega), hV.1 20 (by omega) (by omega) (by omega), h15, (h2t i (by omega)).1]
            rw [show co1 (ar 15) _ = dA ar c0 q t0 i from rfl]
            refine z_iadd (pc := 155) dX8_align_155 ?_
            refine z_il7 (pc := 156) dX8_align_156 ?_
            refine z_icmp_ne (pc := 158) 165 dX8_align_158 rfl (fun c158 => ?_) (fun c158 => ?_)
            · refine z_iconst (pc := 165) (0) (by decide) dX8_align_165 ?_
              refine z_is9 (pc := 166) dX8_align_166 (by decide) ?_
              refine z_al0 (pc := 168) dX8_align_168 ?_
              refine z_mg29 (pc := 169) hM rfl dX8_align_169 ?_
              refine z_al0 (pc := 172) dX8_align_172 ?_
              refine z_mg32 (pc := 173) hM rfl dX8_align_173 ?_
              rw [show sup sc1 32 (nI s0) 32 = nI s0 from rfl]
              refine z_il8 (pc := 176) dX8_align_176 ?_
              refine z_if_ne (pc := 178) 186 dX8_align_178 rfl (fun h => absurd h (by decide)) (fun _ => ?_)
              refine z_il9 (pc := 181) dX8_align_181 ?_
              refine z_if_eq (pc := 183) 193 dX8_align_183 rfl (fun _ => ?_) (fun h => absurd (by decide) h)
              refine z_iconst (pc := 193) (-1) (by decide) dX8_align_193 ?_
              refine z_mst (pc := 194) 29 48 hM rfl (by decide) rfl (by omega) dX8_align_194 (fun G1 hM1 hF1 => ?_)
              have hF := zF.trans hF hF1
              clear hF1
              replace hM := hM1
              clear hM1
              refine z_al0 (pc := 195) dX8_align_195 ?_
              refine z_mg30 (pc := 196) hM rfl dX8_align_196 ?_
              refine z_al0 (pc := 199) dX8_align_199 ?_
              refine z_mg32 (pc := 200) hM rfl dX8_align_200 ?_
              rw [show sup sc1 32 (nI s0) 32 = nI s0 from rfl]
              refine z_il9 (pc := 203) dX8_align_203 ?_
              refine z_if_eq (pc := 205) 212 dX8_align_205 rfl (fun _ => ?_) (fun h => absurd (by decide) h)
              refine z_il6 (pc := 212) dX8_align_212 ?_
              refine z_iconst (pc := 214) (1) (by decide) dX8_align_214 ?_
              refine z_isub (pc := 215) dX8_align_215 ?_
              rw [nI_pred]
              refine z_mst (pc := 216) 30 48 hM rfl (by decide) rfl (by omega) dX8_align_216 (fun G1 hM1 hF1 => ?_)
              have hF := zF.trans hF hF1
              clear hF1
              replace hM := hM1
              clear hM1
              skip
              refine z_al0 (pc := 217) dX8_align_217 ?_
              refine z_mg31 (pc := 218) hM rfl dX8_align_218 ?_
              refine z_al0 (pc := 221) dX8_align_221 ?_
              refine z_mg32 (pc := 222) hM rfl dX8_align_222 ?_
              rw [show sup sc1 32 (nI s0) 32 = nI s0 from rfl]
              refine z_il8 (pc := 225) dX8_align_225 ?_
              refine z_if_eq (pc := 227) 249 dX8_align_227 rfl (fun _ => ?_) (fun h => absurd (by decide) h)
              refine z_il9 (pc := 249) dX8_align_249 ?_
              refine z_if_eq (pc := 251) 270 dX8_align_251 rfl (fun _ => ?_) (fun h => absurd (by decide) h)
              refine z_al0 (pc := 270) dX8_align_270 ?_
              refine z_al0 (pc := 271) dX8_align_271 ?_
              refine z_mg22 (pc := 272) hM rfl dX8_align_272 ?_
              refine z_il6 (pc := 275) dX8_align_275 ?_
              refine z_iconst (pc := 277) (1) (by decide) dX8_align_277 ?_
              refine z_isub (pc := 278) dX8_align_278 ?_
              rw [nI_pred]
              refine z_mld (pc := 279) 22 24 hM rfl (by decide) rfl (by omega) dX8_align_279 ?_
              refine z_callVr (pc := 280) (c_mAlone l _ hM) hM.1 rfl rfl kw_912 zc_X8_alone (by decide) (by decide) rfl (Nat.le_of_ble_eq_true rfl) dX8_align_280 ?_
              simp only [aup, reduceIte, Nat.reduceEqDiff]
              rw [hV.1 15 (by omega) (by omega) (by omega), hV.1 22 (by omega) (by omega) (by omega), h15, (h2u j (by omega)).1]
              rw [show co1 (ar 15) _ = dA ar c0 q u0 j from rfl]
              refine z_mst (pc := 283) 31 48 hM rfl (by decide) rfl (by omega) dX8_align_283 (fun G1 hM1 hF1 => ?_)
              have hF := zF.trans hF hF1
              clear hF1
              replace hM := hM1
              clear hM1
              refine z_il8 (pc := 284) dX8_align_284 ?_
              refine z_if_ne (pc := 286) 294 dX8_align_286 rfl (fun h => absurd h (by decide)) (fun _ => ?_)
              refine z_il9 (pc := 289) dX8_align_289 ?_
              refine z_if_eq (pc := 291) 297 dX8_align_291 rfl (fun _ => ?_) (fun h => absurd (by decide) h)
              refine z_il9 (pc := 297) dX8_align_297 ?_
              refine z_if_ne (pc := 299) 305 dX8_align_299 rfl (fun h => absurd h (by decide)) (fun _ => ?_)
              skip
              refine z_ii6 (pc := 302) (nI j) dX8_align_302 (pk_m1 _) (by decide) ?_
              refine z_al0 (pc := 305) dX8_align_305 ?_
              refine z_dup (pc := 306) rfl dX8_align_306 ?_
              refine z_mg32 (pc := 307) hM rfl dX8_align_307 ?_
              refine z_iconst (pc := 310) (1) (by decide) dX8_align_310 ?_
              refine z_iadd (pc := 311) dX8_align_311 ?_
              rw [show sup sc1 32 (nI s0) 32 + 1 = nI (s0 + 1) from nI_1 s0]
              refine z_mp32 (pc := 312) hM rfl dX8_align_312 (fun G1 hM1 hF1 => ?_)
              have hF := zF.trans hF hF1
              clear hF1
              replace hM := hM1
              clear hM1
              rw [sup_sup] at hM
              refine z_goto (pc := 315) 36 dX8_align_315 rfl ?_
              have ht : ¬ tw (dD ar c0 q t0 u0 key) (dC ar c0 q t0 u0 key) (i + 1) (j + 1) := fun h => c107 h.2.2
              have hf : ¬ fi (dD ar c0 q t0 u0 key) (dC ar c0 q t0 u0 key) (dA ar c0 q t0) (i + 1) (j + 1) := fun h => c158 h.2.2
              refine ih (s0 + 1) (i + 1) j _ _ _ _ _ _ (by omega) hM hF (hV.step (i2 := (i + 1)) (j2 := j) (by simp) (st_n (b1 := dA ar c0 q u0) ht hf).1 (by omega) (st_n (b1 := dA ar c0 q u0) ht hf).2.1.symm (st_n (b1 := dA ar c0 q u0) ht hf).2.2.1.symm (st_n (b1 := dA ar c0 q u0) ht hf).2.2.2.symm)
            · refine z_iconst (pc := 161) (1) (by decide) dX8_align_161 ?_
              refine z_goto (pc := 162) 166 dX8_align_162 rfl ?_
              refine z_is9 (pc := 166) dX8_align_166 (by decide) ?_
              refine z_al0 (pc := 168) dX8_align_168 ?_
              refine z_mg29 (pc := 169) hM rfl dX8_align_169 ?_
              refine z_al0 (pc := 172) dX8_align_172 ?_
              refine z_mg32 (pc := 173) hM rfl dX8_align_173 ?_
              rw [show sup sc1 32 (nI s0) 32 = nI s0 from rfl]
              refine z_il8 (pc := 176) dX8_align_176 ?_
              refine z_if_ne (pc := 178) 186 dX8_align_178 rfl (fun h => absurd h (by decide)) (fun _ => ?_)
              refine z_il9 (pc := 181) dX8_align_181 ?_
              refine z_if_eq (pc := 183) 193 dX8_align_183 rfl (fun h => absurd h (by decide)) (fun _ => ?_)
              refine z_il5 (pc := 186) dX8_align_186 ?_
              refine z_iconst (pc := 188) (1) (by decide) dX8_align_188 ?_
              refine z_isub (pc := 189) dX8_align_189 ?_
              rw [nI_pred]
              refine z_goto (pc := 190) 194 dX8_align_190 rfl ?_
              refine z_mst (pc := 194) 29 48 hM rfl (by decide) rfl (by omega) dX8_align_194 (fun G1 hM1 hF1 => ?_)
              have hF := zF.trans hF hF1
              clear hF1
              replace hM := hM1
              clear hM1
              refine z_al0 (pc := 195) dX8_align_195 ?_
              refine z_mg30 (pc := 196) hM rfl dX8_align_196 ?_
              refine z_al0 (pc := 199) dX8_align_199 ?_
              refine z_mg32 (pc := 200) hM rfl dX8_align_200 ?_
              rw [show sup sc1 32 (nI s0) 32 = nI s0 from rfl]
              refine z_il9 (pc := 203) dX8_align_203 ?_
              refine z_if_eq (pc := 205) 212 dX8_align_205 rfl (fun h => absurd h (by decide)) (fun _ => ?_)
              refine z_iconst (pc := 208) (-1) (by decide) dX8_align_208 ?_
              refine z_goto (pc := 209) 216 dX8_align_209 rfl ?_
              skip
              refine z_mst (pc := 216) 30 48 hM rfl (by decide) rfl (by omega) dX8_align_216 (fun G1 hM1 hF1 => ?_)
              have hF := zF.trans hF hF1
              clear hF1
              replace hM := hM1
              clear hM1
              skip
              refine z_al0 (pc := 217) dX8_align_217 ?_
              refine z_mg31 (pc := 218) hM rfl dX8_align_218 ?_
              refine z_al0 (pc := 221) dX8_align_221 ?_
              refine z_mg32 (pc := 222) hM rfl dX8_align_222 ?_
              rw [show sup sc1 32 (nI s0) 32 = nI s0 from rfl]
              refine z_il8 (pc := 225) dX8_align_225 ?_
              refine z_if_eq (pc := 227) 249 dX8_align_227 rfl (fun _ => ?_) (fun h => absurd (by decide) h)
              refine z_il9 (pc := 249) dX8_align_249 ?_
              refine z_if_eq (pc := 251) 270 dX8_align_251 rfl (fun h => absurd h (by decide)) (fun _ => ?_)
              refine z_al0 (pc := 254) dX8_align_254 ?_
              refine z_al0 (pc := 255) dX8_align_255 ?_
              refine z_mg20 (pc := 256) hM rfl dX8_align_256 ?_
              refine z_il5 (pc := 259) dX8_align_259 ?_
              refine z_iconst (pc := 261) (1) (by decide) dX8_align_261 ?_
              refine z_isub (pc := 262) dX8_align_262 ?_
              rw [nI_pred]
              refine z_mld (pc := 263) 20 24 hM rfl (by decide) rfl (by omega) dX8_align_263 ?_
              refine z_callVr (pc := 264) (c_mAlone l _ hM) hM.1 rfl rfl kw_912 zc_X8_alone (by decide) (by decide) rfl (Nat.le_of_ble_eq_true rfl) dX8_align_264 ?_
              simp only [aup, reduceIte, Nat.reduceEqDiff]
              rw [hV.1 15 (by omega) (by omega) (by omega), hV.1 20 (by omega) (by omega) (by omega), h15, (h2t i (by omega)).1]
              rw [show co1 (ar 15) _ = dA ar c0 q t0 i from rfl]
              refine z_goto (pc := 267) 283 dX8_align_267 rfl ?_
              skip
              refine z_mst (pc := 283) 31 48 hM rfl (by decide) rfl (by omega) dX8_align_283 (fun G1 hM1 hF1 => ?_)
              have hF := zF.trans hF hF1
              clear hF1
              replace hM := hM1
              clear hM1
              refine z_il8 (pc := 284) dX8_align_284 ?_
              refine z_if_ne (pc := 286) 294 dX8_align_286 rfl (fun h => absurd h (by decide)) (fun _ => ?_)
              refine z_il9 (pc := 289) dX8_align_289 ?_
              refine z_if_eq (pc := 291) 297 dX8_align_291 rfl (fun h => absurd h (by decide)) (fun _ => ?_)
              refine z_ii5 (pc := 294) (nI i) dX8_align_294 (pk_m1 _) (by decide) ?_
              refine z_il9 (pc := 297) dX8_align_297 ?_
              refine z_if_ne (pc := 299) 305 dX8_align_299 rfl (fun _ => ?_) (fun h => absurd h (by decide))
              refine z_al0 (pc := 305) dX8_align_305 ?_
              refine z_dup (pc := 306) rfl dX8_align_306 ?_
              refine z_mg32 (pc := 307) hM rfl dX8_align_307 ?_
              refine z_iconst (pc := 310) (1) (by decide) dX8_align_310 ?_
              refine z_iadd (pc := 311) dX8_align_311 ?_
              rw [show sup sc1 32 (nI s0) 32 + 1 = nI (s0 + 1) from nI_1 s0]
              refine z_mp32 (pc := 312) hM rfl dX8_align_312 (fun G1 hM1 hF1 => ?_)
              have hF := zF.trans hF hF1
              clear hF1
              replace hM := hM1
              clear hM1
              rw [sup_sup] at hM
              refine z_goto (pc := 315) 36 dX8_align_315 rfl ?_
              have ht : ¬ tw (dD ar c0 q t0 u0 key) (dC ar c0 q t0 u0 key) (i + 1) (j + 1) := fun h => c107 h.2.2
              have hf : fi (dD ar c0 q t0 u0 key) (dC ar c0 q t0 u0 key) (dA ar c0 q t0) (i + 1) (j + 1) := ⟨ht, by omega, c158⟩
              refine ih (s0 + 1) i (j + 1) _ _ _ _ _ _ (by omega) hM hF (hV.step (i2 := i) (j2 := (j + 1)) (by simp) (st_f (b1 := dA ar c0 q u0) hf).1 (by omega) (st_f (b1 := dA ar c0 q u0) hf).2.1.symm (st_f (b1 := dA ar c0 q u0) hf).2.2.1.symm (st_f (b1 := dA ar c0 q u0) hf).2.2.2.symm)
          · refine z_iconst (pc := 110) (1) (by decide) dX8_align_110 ?_
            refine z_goto (pc := 111) 115 dX8_align_111 rfl ?_
            refine z_is8 (pc := 115) dX8_align_115 (by decide) ?_
            refine z_il8 (pc := 117) dX8_align_117 ?_
            refine z_if_ne (pc := 119) 165 dX8_align_119 rfl (fun _ => ?_) (fun h => absurd h (by decide))
            refine z_iconst (pc := 165) (0) (by decide) dX8_align_165 ?_
            refine z_is9 (pc := 166) dX8_align_166 (by decide) ?_
            refine z_al0 (pc := 168) dX8_align_168 ?_
            refine z_mg29 (pc := 169) hM rfl dX8_align_169 ?_
            refine z_al0 (pc := 172) dX8_align_172 ?_
            refine z_mg32 (pc := 173) hM rfl dX8_align_173 ?_
            rw [show sup sc1 32 (nI s0) 32 = nI s0 from rfl]
            refine z_il8 (pc := 176) dX8_align_176 ?_
            refine z_if_ne (pc := 178) 186 dX8_align_178 rfl (fun _ => ?_) (fun h => absurd h (by decide))
            refine z_il5 (pc := 186) dX8_align_186 ?_
            refine z_iconst (pc := 188) (1) (by decide) dX8_align_188 ?_
            refine z_isub (pc := 189) dX8_align_189 ?_
            rw [nI_pred]
            refine z_goto (pc := 190) 194 dX8_align_190 rfl ?_
            refine z_mst (pc := 194) 29 48 hM rfl (by decide) rfl (by omega) dX8_align_194 (fun G1 hM1 hF1 => ?_)
            have hF := zF.trans hF hF1
            clear hF1
            replace hM := hM1
            clear hM1
            refine z_al0 (pc := 195) dX8_align_195 ?_
            refine z_mg30 (pc := 196) hM rfl dX8_align_196 ?_
            refine z_al0 (pc := 199) dX8_align_199 ?_
            refine z_mg32 (pc := 200) hM rfl dX8_align_200 ?_
            rw [show sup sc1 32 (nI s0) 32 = nI s0 from rfl]
            refine z_il9 (pc := 203) dX8_align_203 ?_
            refine z_if_eq (pc := 205) 212 dX8_align_205 rfl (fun _ => ?_) (fun h => absurd (by decide) h)
            refine z_il6 (pc := 212) dX8_align_212 ?_
            refine z_iconst (pc := 214) (1) (by decide) dX8_align_214 ?_
            refine z_isub (pc := 215) dX8_align_215 ?_
            rw [nI_pred]
            refine z_mst (pc := 216) 30 48 hM rfl (by decide) rfl (by omega) dX8_align_216 (fun G1 hM1 hF1 => ?_)
            have hF := zF.trans hF hF1
            clear hF1
            replace hM := hM1
            clear hM1
            skip
            refine z_al0 (pc := 217) dX8_align_217 ?_
            refine z_mg31 (pc := 218) hM rfl dX8_align_218 ?_
            refine z_al0 (pc := 221) dX8_align_221 ?_
            refine z_mg32 (pc := 222) hM rfl dX8_align_222 ?_
            rw [show sup sc1 32 (nI s0) 32 = nI s0 from rfl]
            refine z_il8 (pc := 225) dX8_align_225 ?_
            refine z_if_eq (pc := 227) 249 dX8_align_227 rfl (fun h => absurd h (by decide)) (fun _ => ?_)
            refine z_al0 (pc := 230) dX8_align_230 ?_
            refine z_il5 (pc := 231) dX8_align_231 ?_
            refine z_iconst (pc := 233) (1) (by decide) dX8_align_233 ?_
            refine z_isub (pc := 234) dX8_align_234 ?_
            rw [nI_pred]
            refine z_il6 (pc := 235) dX8_align_235 ?_
            refine z_iconst (pc := 237) (1) (by decide) dX8_align_237 ?_
            refine z_isub (pc := 238) dX8_align_238 ?_
            rw [nI_pred]
            refine z_al0 (pc := 239) dX8_align_239 ?_
            refine z_mg28 (pc := 240) hM rfl dX8_align_240 ?_
            rw [show sup sc1 32 (nI s0) 28 = key from hkey]
            refine z_callVr (pc := 243) (c_mOfTwo l i j key hM (by omega) (by omega)) hM.1 rfl rfl kw_904 zc_X8_ofTwo (by decide) (by decide) rfl (Nat.le_of_ble_eq_true rfl) dX8_align_243 ?_
            simp only [aup, reduceIte, Nat.reduceEqDiff]
            rw [hV.1 15 (by omega) (by omega) (by omega), hV.1 20 (by omega) (by omega) (by omega), hV.1 21 (by omega) (by omega) (by omega), hV.1 22 (by omega) (by omega) (by omega), hV.1 23 (by omega) (by omega) (by omega), h15, (h2t i (by omega)).1, (h2t i (by omega)).2, (h2u j (by omega)).1, (h2u j (by omega)).2]
            rw [show co2 (ar 15) _ _ _ _ key = dC ar c0 q t0 u0 key i j from rfl]
            refine z_goto (pc := 246) 283 dX8_align_246 rfl ?_
            skip
            refine z_mst (pc := 283) 31 48 hM rfl (by decide) rfl (by omega) dX8_align_283 (fun G1 hM1 hF1 => ?_)
            have hF := zF.trans hF hF1
            clear hF1
            replace hM := hM1
            clear hM1
            refine z_il8 (pc := 284) dX8_align_284 ?_
            refine z_if_ne (pc := 286) 294 dX8_align_286 rfl (fun _ => ?_) (fun h => absurd h (by decide))
            refine z_ii5 (pc := 294) (nI i) dX8_align_294 (pk_m1 _) (by decide) ?_
            refine z_il9 (pc := 297) dX8_align_297 ?_
            refine z_if_ne (pc := 299) 305 dX8_align_299 rfl (fun h => absurd h (by decide)) (fun _ => ?_)
            skip
            refine z_ii6 (pc := 302) (nI j) dX8_align_302 (pk_m1 _) (by decide) ?_
            refine z_al0 (pc := 305) dX8_align_305 ?_
            refine z_dup (pc := 306) rfl dX8_align_306 ?_
            refine z_mg32 (pc := 307) hM rfl dX8_align_307 ?_
            refine z_iconst (pc := 310) (1) (by decide) dX8_align_310 ?_
            refine z_iadd (pc := 311) dX8_align_311 ?_
            rw [show sup sc1 32 (nI s0) 32 + 1 = nI (s0 + 1) from nI_1 s0]
            refine z_mp32 (pc := 312) hM rfl dX8_align_312 (fun G1 hM1 hF1 => ?_)
            have hF := zF.trans hF hF1
            clear hF1
            replace hM := hM1
            clear hM1
            rw [sup_sup] at hM
            refine z_goto (pc := 315) 36 dX8_align_315 rfl ?_
            have ht : tw (dD ar c0 q t0 u0 key) (dC ar c0 q t0 u0 key) (i + 1) (j + 1) := ⟨by omega, by omega, c107⟩
            have hf : ¬ fi (dD ar c0 q t0 u0 key) (dC ar c0 q t0 u0 key) (dA ar c0 q t0) (i + 1) (j + 1) := fun h => h.1 ht
            refine ih (s0 + 1) i j _ _ _ _ _ _ (by omega) hM hF (hV.step (i2 := i) (j2 := j) (by simp) (st_t (a1 := dA ar c0 q t0) (b1 := dA ar c0 q u0) ht).1 (by omega) (st_t (a1 := dA ar c0 q t0) (b1 := dA ar c0 q u0) ht).2.1.symm (st_t (a1 := dA ar c0 q t0) (b1 := dA ar c0 q u0) ht).2.2.1.symm (st_t (a1 := dA ar c0 q t0) (b1 := dA ar c0 q u0) ht).2.2.2.symm)
  exact lp (nt + nu) 0 nt nu _ _ _ _ _ _ (Nat.le_refl _) hM hF ⟨fun _ _ _ _ => rfl, rfl, by omega, Nat.le_refl _, Nat.le_refl _, fun a h => absurd h (Nat.not_lt_zero _)⟩
