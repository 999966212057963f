/-! families: links, and what they join -/
abbrev Lk (ar : Nat → Nat → Int32) (c : Nat) (ln : Nat → Nat) (q bar : Int32) (a b : Nat) : Prop := ¬ frg ar a q ∧ ¬ frg ar b q ∧ sD ar c ln q a b ≤ bar
def Rch (n : Nat) (L : Nat → Nat → Prop) (a b : Nat) : Prop := ∀ P : Nat → Prop, P a → (∀ x y, x < n → y < n → P x → (L x y ∨ L y x) → P y) → P b
theorem Rch.rf {n : Nat} {L : Nat → Nat → Prop} {a : Nat} : Rch n L a a := fun _ h _ => h
theorem Rch.step {n : Nat} {L : Nat → Nat → Prop} {a x y : Nat} (h : Rch n L a x) (hx : x < n) (hy : y < n) (hl : L x y ∨ L y x) : Rch n L a y := fun P h0 hs => hs x y hx hy (h P h0 hs) hl
theorem Rch.trans {n : Nat} {L : Nat → Nat → Prop} {a b e : Nat} (h : Rch n L a b) (g : Rch n L b e) : Rch n L a e := fun P h0 hs => g P (h P h0 hs) hs
abbrev okFam (n w : Nat) (ar : Nat → Nat → Int32) (s0 bar q : Int32) : Prop := okS n s0 ∧ (0 ≤ bar ∧ bar ≤ 10000) ∧ (0 ≤ q ∧ q ≤ nI w) ∧ ¬ frg ar (iN s0) q
def FL (n : Nat) (ar : Nat → Nat → Int32) (c : Nat) (ln : Nat → Nat) (q bar : Int32) (lab : Nat → Nat) : Prop :=
  (∀ k, k < n → ¬ frg ar k q → lab k ≤ k ∧ Rch n (Lk ar c ln q bar) k (lab k)) ∧ ∀ s t, t < s → s < n → Lk ar c ln q bar s t → lab s = lab t
def smN (f : Nat → Nat) : Nat → Nat
  | 0 => 0
  | k + 1 => smN f k + f k
theorem smN_le {f g : Nat → Nat} : ∀ {n : Nat}, (∀ k, k < n → f k ≤ g k) → smN f n ≤ smN g n
  | 0, _ => Nat.le_refl _
  | n + 1, h => Nat.add_le_add (smN_le (fun k hk => h k (by omega))) (h n (by omega))
theorem smN_lt {f g : Nat → Nat} : ∀ {n i : Nat}, (∀ k, k < n → f k ≤ g k) → i < n → f i < g i → smN f n < smN g n
  | 0, _, _, h, _ => absurd h (Nat.not_lt_zero _)
  | n + 1, i, h, hi, hl => by
    show smN f n + f n < smN g n + g n
    have h1 := h n (by omega)
    by_cases e : i = n
    · subst e
      have := smN_le (f := f) (g := g) (n := i) (fun k hk => h k (by omega))
      omega
    · have := smN_lt (f := f) (g := g) (n := n) (i := i) (fun k hk => h k (by omega)) (by omega) hl
      omega
theorem zF.fresh {m : Nat} {G G1 : zH} {la : Nat} {y : zR × va_E} (h : zF m G G1) (hl : G la = none) : zF m G (zu G1 la y) := ⟨fun a r e hr ha => by
  rw [zu_n (fun q => by rw [q, hl] at ha; cases ha)]
  exact h.1 a r e hr ha, fun a ha => h.2 a (zu_no ha)⟩
/-- a label as it lies in the array -/
def lb (ar : Nat → Nat → Int32) (q : Int32) (lab : Nat → Nat) (k : Nat) : Int32 := if frg ar k q then -1 else nI (lab k)
theorem lb_n {ar : Nat → Nat → Int32} {q : Int32} {lab : Nat → Nat} {k : Nat} (h : ¬ frg ar k q) : lb ar q lab k = nI (lab k) := if_neg h
def upN (f : Nat → Nat) (i v : Nat) : Nat → Nat := fun k => if k = i then v else f k
def PM (n : Nat) (ar : Nat → Nat → Int32) (c : Nat) (ln : Nat → Nat) (q bar : Int32) (lab lab0 : Nat → Nat) (i t : Nat) (mv : Int32) : Prop :=
  (∀ k, k < n → ¬ frg ar k q → lab k ≤ k ∧ Rch n (Lk ar c ln q bar) k (lab k)) ∧
  ((mv = 0 ∧ lab = lab0 ∧ ∀ i2 t2, t2 < i2 → (i2 < i ∨ (i2 = i ∧ t2 < t)) → Lk ar c ln q bar i2 t2 → lab i2 = lab t2) ∨ (mv = 1 ∧ smN lab n < smN lab0 n))
theorem PM.skip {n : Nat} {ar : Nat → Nat → Int32} {c : Nat} {ln : Nat → Nat} {q bar mv : Int32} {lab lab0 : Nat → Nat} {i t : Nat} (h : PM n ar c ln q bar lab lab0 i t mv) (hs : Lk ar c ln q bar i t → lab i = lab t) : PM n ar c ln q bar lab lab0 i (t + 1) mv := by
  refine ⟨h.1, h.2.elim (fun g => Or.inl ⟨g.1, g.2.1, fun i2 t2 h1 h2 hl => ?_⟩) Or.inr⟩
  by_cases e : i2 = i ∧ t2 = t
  · obtain ⟨rfl, rfl⟩ := e
    exact hs hl
  · exact g.2.2 i2 t2 h1 (by omega) hl
theorem PM.row {n : Nat} {ar : Nat → Nat → Int32} {c : Nat} {ln : Nat → Nat} {q bar mv : Int32} {lab lab0 : Nat → Nat} {i : Nat} (h : PM n ar c ln q bar lab lab0 i i mv) : PM n ar c ln q bar lab lab0 (i + 1) 0 mv :=
  ⟨h.1, h.2.elim (fun g => Or.inl ⟨g.1, g.2.1, fun i2 t2 h1 h2 hl => g.2.2 i2 t2 h1 (by omega) hl⟩) Or.inr⟩
theorem PM.join {n : Nat} {ar : Nat → Nat → Int32} {c : Nat} {ln : Nat → Nat} {q bar mv : Int32} {lab lab0 : Nat → Nat} {i t : Nat} (h : PM n ar c ln q bar lab lab0 i t mv) (hi : i < n) (ht : t < i) (hl : Lk ar c ln q bar i t) (hne : lab i ≠ lab t) : PM n ar c ln q bar (upN (upN lab i (min (lab i) (lab t))) t (min (lab i) (lab t))) lab0 i (t + 1) 1 := by
  have h1 := h.1 i hi hl.1
  have h2 := h.1 t (by omega) hl.2.1
  have hm : Rch n (Lk ar c ln q bar) i (min (lab i) (lab t)) := by
    rcases Nat.le_total (lab i) (lab t) with e | e
    · rw [Nat.min_eq_left e]; exact h1.2
    · rw [Nat.min_eq_right e]; exact (Rch.rf.step hi (by omega) (Or.inl hl)).trans h2.2
  have hm2 : Rch n (Lk ar c ln q bar) t (min (lab i) (lab t)) := (Rch.rf.step (by omega) hi (Or.inr hl)).trans hm
  have hle : ∀ k, k < n → upN (upN lab i (min (lab i) (lab t))) t (min (lab i) (lab t)) k ≤ lab k := by
    intro k _
    unfold upN
    split
    · rename_i e; subst e; omega
    · split
      · rename_i e; subst e; omega
      · exact Nat.le_refl _
  refine ⟨fun k hk hf => ?_, Or.inr ⟨rfl, ?_⟩⟩
  · have := h.1 k hk hf
    unfold upN
    split
    · rename_i e; subst e; exact ⟨by omega, hm2⟩
    · split
      · rename_i e; subst e; exact ⟨by omega, hm⟩
      · exact this
  · have hlt : smN (upN (upN lab i (min (lab i) (lab t))) t (min (lab i) (lab t))) n < smN lab n := by
      by_cases e : lab i < lab t
      · refine smN_lt hle (i := t) (by omega) ?_
        unfold upN; rw [if_pos rfl]; omega
      · refine smN_lt hle (i := i) hi ?_
        unfold upN; rw [if_neg (by omega), if_pos rfl]; omega
    rcases h.2 with g | g
    · rw [← g.2.1]; exact hlt
    · omega
abbrev rX8_families : Room := rmK 4 1 400 94
set_option maxRecDepth 100000 in
set_option maxHeartbeats 400000 in
theorem c_mFamilies (l : Launch) {κ : zK} {G : zH} {x : Nat} {ad : Nat → Nat} {sc : Nat → Int32} {ar : Nat → Nat → Int32} (n c d w : Nat) (ln : Nat → Nat) (s0 bar q : Int32) (hM : RM κ G x ad sc ar) (hJ : MJ n c d w ln sc ar) : Ct l yX8_families cX8_families 9 (some FieldType.boolean) rX8_families κ [.ref x, .int s0, .int bar, .int q] G (pI (fun r G2 => ∃ sc2 ar2, RM κ G2 x ad sc2 ar2 ∧ zF 1 G G2 ∧ PS sc ar sc2 ar2 ∧ ((¬ okFam n w ar s0 bar q ∧ r = 0) ∨ (okFam n w ar s0 bar q ∧ r = 1 ∧ ∃ lab, (∀ k, k < n → ar2 33 k = lb ar q lab k) ∧ FL n ar c ln q bar lab)))) := by
  refine Ct.of (by decide +kernel) (fun v hv => by
    simp only [List.mem_cons, List.mem_nil_iff, or_false, List.not_mem_nil] at hv
    rcases hv with rfl | rfl | rfl | rfl <;> rfl) (Nat.le_of_ble_eq_true rfl) ?_
  intro p e s m args below meth cC
  refine z_L (L' := [some (.ref x), some (.int s0), some (.int bar), some (.int q), none, none, none, none, none]) rfl ?_
  generalize hQx : MQ below (zQc κ _) args s _ _ (zA κ) = Qx
  have hF : zF 1 G G := zF.rf
  refine z_al0 (pc := 0) dX8_families_0 ?_
  refine z_iconst (pc := 1) (0) (by decide) dX8_families_1 ?_
  refine z_mp0 (pc := 2) hM rfl dX8_families_2 (fun G1 hM1 hF1 => ?_)
  have hF := zF.trans hF hF1
  clear hF1
  replace hM := hM1
  clear hM1
  have e16 : sup sc 0 0 16 = nI n := hJ.1
  have e19 : sup sc 0 0 19 = nI w := hJ.2.2.2.2.2.2.1
  have hn20 := hJ.2.1
  refine z_al0 (pc := 5) dX8_families_5 ?_
  refine z_il1 (pc := 6) dX8_families_6 ?_
  refine z_callVr (pc := 7) (c_mIsSheet l s0 hM) hM.1 rfl rfl kw_844 zc_X8_isSheet (by decide) (by decide) rfl (Nat.le_of_ble_eq_true rfl) dX8_families_7 ?_
  rw [e16]
  refine z_ifz_eq (pc := 10) 41 dX8_families_10 rfl (fun c10 => ?_) (fun c10 => ?_)
  · refine z_iconst (pc := 41) (0) (by decide) dX8_families_41 ?_
    rw [← hQx]
    refine z_zret (pc := 42) rfl rfl (by decide) dX8_families_42 (by
      refine ⟨_, rfl, _, _, hM, hF, PS.sc0 0 0 (by omega), Or.inl ⟨?_, rfl⟩⟩
      first | exact (fun h => absurd h.1 c10) | exact (fun h => absurd h.2.1 c21) | exact (fun h => absurd h.2.2.1 c29) | exact (fun h => h.2.2.2 (by rw [iN_nI (by omega)]; exact c38)))
  · refine z_il2 (pc := 13) dX8_families_13 ?_
    refine z_iconst (pc := 14) (0) (by decide) dX8_families_14 ?_
    refine z_sipush (pc := 15) (10000) (by decide) dX8_families_15 ?_
    refine z_callSr (pc := 18) (c_mIsIn l bar 0 10000) kw_837 zc_X8_isIn (by decide) (by decide) rfl (Nat.le_of_ble_eq_true rfl) dX8_families_18 ?_
    refine z_ifz_eq (pc := 21) 41 dX8_families_21 rfl (fun c21 => ?_) (fun c21 => ?_)
    · refine z_iconst (pc := 41) (0) (by decide) dX8_families_41 ?_
      rw [← hQx]
      refine z_zret (pc := 42) rfl rfl (by decide) dX8_families_42 (by
      refine ⟨_, rfl, _, _, hM, hF, PS.sc0 0 0 (by omega), Or.inl ⟨?_, rfl⟩⟩
      first | exact (fun h => absurd h.1 c10) | exact (fun h => absurd h.2.1 c21) | exact (fun h => absurd h.2.2.1 c29) | exact (fun h => h.2.2.2 (by rw [iN_nI (by omega)]; exact c38)))
    · refine z_al0 (pc := 24) dX8_families_24 ?_
      refine z_il3 (pc := 25) dX8_families_25 ?_
      refine z_callVr (pc := 26) (c_mIsDay l q hM) hM.1 rfl rfl kw_875 zc_X8_isDay (by decide) (by decide) rfl (Nat.le_of_ble_eq_true rfl) dX8_families_26 ?_
      rw [e19]
      refine z_ifz_eq (pc := 29) 41 dX8_families_29 rfl (fun c29 => ?_) (fun c29 => ?_)
      · refine z_iconst (pc := 41) (0) (by decide) dX8_families_41 ?_
        rw [← hQx]
        refine z_zret (pc := 42) rfl rfl (by decide) dX8_families_42 (by
      refine ⟨_, rfl, _, _, hM, hF, PS.sc0 0 0 (by omega), Or.inl ⟨?_, rfl⟩⟩
      first | exact (fun h => absurd h.1 c10) | exact (fun h => absurd h.2.1 c21) | exact (fun h => absurd h.2.2.1 c29) | exact (fun h => h.2.2.2 (by rw [iN_nI (by omega)]; exact c38)))
      · obtain ⟨ha0, ha1⟩ := id c10
        obtain ⟨a, rfl, ha⟩ := ix_in ha0 ha1 (by omega)
        refine z_al0 (pc := 32) dX8_families_32 ?_
        refine z_il1 (pc := 33) dX8_families_33 ?_
        refine z_il3 (pc := 34) dX8_families_34 ?_
        refine z_callVr (pc := 35) (c_mIsForged l a q hM (by omega)) hM.1 rfl rfl kw_936 zc_X8_isForged (by decide) (by decide) rfl (Nat.le_of_ble_eq_true rfl) dX8_families_35 ?_
        refine z_ifz_eq (pc := 38) 43 dX8_families_38 rfl (fun c38 => ?_) (fun c38 => ?_)
        · have hok : okFam n w ar (nI a) bar q := ⟨c10, c21, c29, by rw [iN_nI (by omega)]; exact c38⟩
          generalize nI a = s0 at hok hQx ⊢
          refine z_sipush (pc := 43) (400) (by decide) dX8_families_43 ?_
          refine z_newa (pc := 46) (atype := .boolean) (ty := .boolean) (3, 0, 0) 400 (400, .inl (fun _ => 0)) 1 kw_91 rfl rfl (fun C h => by cases h) (fun _ => rfl) rfl (by decide) (by decide) dX8_families_46 (fun la hla1 hla2 => ?_)
          have hla0 : G la = none := hF.2 la hla1
          have hM1 := hM.keep (zF.push (n := 0) (x := ((3, 0, 0), .inl (κ.2.1 1, 400, .inl (fun _ => (0 : Int32))))) hla1) (by decide)
          have hF1 := hF.fresh (la := la) (y := ((3, 0, 0), .inl (κ.2.1 1, 400, .inl (fun _ => (0 : Int32))))) hla0
          have hLk : zu _ la ((3, 0, 0), .inl (κ.2.1 1, 400, .inl (fun _ => (0 : Int32)))) la = _ := zu_s (G := G1)
          generalize zu _ la ((3, 0, 0), .inl (κ.2.1 1, 400, .inl (fun _ => (0 : Int32)))) = G2 at hM1 hF1 hLk ⊢
          replace hM := hM1
          clear hM1
          have hF := hF1
          clear hF1
          refine z_as4 (pc := 48) dX8_families_48 (by decide) ?_
          refine z_iconst (pc := 50) (0) (by decide) dX8_families_50 ?_
          refine z_is5 (pc := 51) dX8_families_51 (by decide) ?_
          have inner1 : ∀ (i : Nat), i < n → ∀ (w7 w8 : Option Value), (∀ (G1 : zH) (sc1 : Nat → Int32) (ar1 : Nat → Nat → Int32) (f : Nat → Int32), RM κ G1 x ad sc1 ar1 → zF 1 G G1 → PS sc ar sc1 ar1 → G1 la = some ((3, 0, 0), .inl (κ.2.1 1, 400, .inl f)) → (∀ k, k < i + 1 → ar1 33 k = lb ar q (fun k => k) k) → (∀ i2 t2, t2 < i2 → i2 < 20 → i2 < i + 1 → f (20 * i2 + t2) = zb (Lk ar c ln q bar i2 t2)) → Z p l e rX8_families s m args below meth cC yX8_families cX8_families 9 (some FieldType.boolean) κ Qx (0 + 1) (0 + 400) G1 [some (.ref x), some (.int s0), some (.int bar), some (.int q), some (.ref la), some (.int (nI i)), some (.int (nI i)), w7, w8] 150 []) → ∀ (dd t : Nat) (G1 : zH) (sc1 : Nat → Int32) (ar1 : Nat → Nat → Int32) (f : Nat → Int32), t + dd = i → RM κ G1 x ad sc1 ar1 → zF 1 G G1 → PS sc ar sc1 ar1 → G1 la = some ((3, 0, 0), .inl (κ.2.1 1, 400, .inl f)) → (∀ k, k < i + 1 → ar1 33 k = lb ar q (fun k => k) k) → (∀ i2 t2, t2 < i2 → i2 < 20 → (i2 < i ∨ (i2 = i ∧ t2 < t)) → f (20 * i2 + t2) = zb (Lk ar c ln q bar i2 t2)) → Z p l e rX8_families s m args below meth cC yX8_families cX8_families 9 (some FieldType.boolean) κ Qx (0 + 1) (0 + 400) G1 [some (.ref x), some (.int s0), some (.int bar), some (.int q), some (.ref la), some (.int (nI i)), some (.int (nI t)), w7, w8] 88 [] := by
            intro i hin w7 w8 hk dd
            induction dd with
            | zero =>
              intro t G1 sc1 ar1 f htd hM hF hPS hLk h33 hf
              refine z_il6 (pc := 88) dX8_families_88 ?_
              refine z_il5 (pc := 90) dX8_families_90 ?_
              refine z_icmp_ge (pc := 92) 150 dX8_families_92 rfl (fun c92 => ?_) (fun c92 => absurd (by rw [show t = i by omega]; exact Int32.le_refl _) c92)
              rw [show t = i by omega] at hf ⊢
              exact hk _ _ _ _ hM hF hPS hLk h33 (fun i2 t2 a1 a3 a2 => hf i2 t2 a1 a3 (by omega))
            | succ dd ih =>
              intro t G1 sc1 ar1 f htd hM hF hPS hLk h33 hf
              refine z_il6 (pc := 88) dX8_families_88 ?_
              refine z_il5 (pc := 90) dX8_families_90 ?_
              refine z_icmp_ge (pc := 92) 150 dX8_families_92 rfl (fun c92 => absurd c92 (by rw [nI_leI (by omega) (by omega)]; omega)) (fun c92 => ?_)
              have hJ1 := hJ.ps hPS
              have hli := hJ1.2.2.2.2.2.2.2.2.1 i hin
              have hlt := hJ1.2.2.2.2.2.2.2.2.1 t (by omega)
              refine z_al4 (pc := 95) dX8_families_95 ?_
              refine z_bipush (pc := 97) (20) (by decide) dX8_families_97 ?_
              refine z_il5 (pc := 99) dX8_families_99 ?_
              refine z_imul (pc := 101) dX8_families_101 ?_
              refine z_il6 (pc := 102) dX8_families_102 ?_
              refine z_iadd (pc := 104) dX8_families_104 ?_
              refine z_al0 (pc := 105) dX8_families_105 ?_
              refine z_il5 (pc := 106) dX8_families_106 ?_
              refine z_il3 (pc := 108) dX8_families_108 ?_
              refine z_callVr (pc := 109) (c_mIsForged l i q hM (by omega)) hM.1 rfl rfl kw_936 zc_X8_isForged (by decide) (by decide) rfl (Nat.le_of_ble_eq_true rfl) dX8_families_109 ?_
              rw [zb_c (frg_ps hPS i q)]
              refine z_ifz_ne (pc := 112) 142 dX8_families_112 rfl (fun c112 => ?_) (fun c112 => ?_)
              · refine z_iconst (pc := 142) (0) (by decide) dX8_families_142 ?_
                refine z_zast (pc := 143) _ hLk (ix20 _ _) (by omega) (by decide) dX8_families_143 ?_
                have hM1 := hM.keep (zF.up (e' := .inl (κ.2.1 1, 400, .inl (upd f (20 * i + t) (vp_nar .boolean 0)))) hLk rfl) (by decide)
                have hF1 := hF.fresh (la := la) (y := ((3, 0, 0), .inl (κ.2.1 1, 400, .inl (upd f (20 * i + t) (vp_nar .boolean 0))))) hla0
                have hLk1 : zu _ la ((3, 0, 0), .inl (κ.2.1 1, 400, .inl (upd f (20 * i + t) (vp_nar .boolean 0)))) la = _ := zu_s (G := G1)
                have hv : vp_nar .boolean 0 = zb (Lk ar c ln q bar i t) := (show vp_nar .boolean 0 = 0 from rfl).trans (zb_f (fun h => h.1 c112)).symm
                rw [hv] at hM1 hF1 hLk1 ⊢
                generalize zu _ la ((3, 0, 0), .inl (κ.2.1 1, 400, .inl (upd f (20 * i + t) (zb (Lk ar c ln q bar i t))))) = G2 at hM1 hF1 hLk1 ⊢
                refine z_ii6 (pc := 144) (nI (t + 1)) dX8_families_144 (nI_1 _) (by decide) ?_
                refine z_goto (pc := 147) 88 dX8_families_147 rfl ?_
                exact ih (t + 1) _ _ _ _ (by omega) hM1 hF1 hPS hLk1 h33 (fun i2 t2 a1 a3 a2 => by
                  unfold upd
                  by_cases e : 20 * i2 + t2 = 20 * i + t
                  · have e1 : i2 = i := by omega
                    have e2 : t2 = t := by omega
                    subst e1; subst e2
                    rw [if_pos rfl]
                  · rw [if_neg e]
                    exact hf i2 t2 a1 a3 (by omega))
              · refine z_al0 (pc := 115) dX8_families_115 ?_
                refine z_il6 (pc := 116) dX8_families_116 ?_
                refine z_il3 (pc := 118) dX8_families_118 ?_
                refine z_callVr (pc := 119) (c_mIsForged l t q hM (by omega)) hM.1 rfl rfl kw_936 zc_X8_isForged (by decide) (by decide) rfl (Nat.le_of_ble_eq_true rfl) dX8_families_119 ?_
                rw [zb_c (frg_ps hPS t q)]
                refine z_ifz_ne (pc := 122) 142 dX8_families_122 rfl (fun c122 => ?_) (fun c122 => ?_)
                · refine z_iconst (pc := 142) (0) (by decide) dX8_families_142 ?_
                  refine z_zast (pc := 143) _ hLk (ix20 _ _) (by omega) (by decide) dX8_families_143 ?_
                  have hM1 := hM.keep (zF.up (e' := .inl (κ.2.1 1, 400, .inl (upd f (20 * i + t) (vp_nar .boolean 0)))) hLk rfl) (by decide)
                  have hF1 := hF.fresh (la := la) (y := ((3, 0, 0), .inl (κ.2.1 1, 400, .inl (upd f (20 * i + t) (vp_nar .boolean 0))))) hla0
                  have hLk1 : zu _ la ((3, 0, 0), .inl (κ.2.1 1, 400, .inl (upd f (20 * i + t) (vp_nar .boolean 0)))) la = _ := zu_s (G := G1)
                  have hv : vp_nar .boolean 0 = zb (Lk ar c ln q bar i t) := (show vp_nar .boolean 0 = 0 from rfl).trans (zb_f (fun h => h.2.1 c122)).symm
                  rw [hv] at hM1 hF1 hLk1 ⊢
                  generalize zu _ la ((3, 0, 0), .inl (κ.2.1 1, 400, .inl (upd f (20 * i + t) (zb (Lk ar c ln q bar i t))))) = G2 at hM1 hF1 hLk1 ⊢
                  refine z_ii6 (pc := 144) (nI (t + 1)) dX8_families_144 (nI_1 _) (by decide) ?_
                  refine z_goto (pc := 147) 88 dX8_families_147 rfl ?_
                  exact ih (t + 1) _ _ _ _ (by omega) hM1 hF1 hPS hLk1 h33 (fun i2 t2 a1 a3 a2 => by
                    unfold upd
                    by_cases e : 20 * i2 + t2 = 20 * i + t
                    · have e1 : i2 = i := by omega
                      have e2 : t2 = t := by omega
                      subst e1; subst e2
                      rw [if_pos rfl]
                    · rw [if_neg e]
                      exact hf i2 t2 a1 a3 (by omega))
                · refine z_al0 (pc := 125) dX8_families_125 ?_
                  refine z_il5 (pc := 126) dX8_families_126 ?_
                  refine z_il6 (pc := 128) dX8_families_128 ?_
                  refine z_il3 (pc := 130) dX8_families_130 ?_
                  refine z_callVi (pc := 131) _ (c_mFar l i t (ln i) (ln t) c q hM (by omega) (by omega) hli.1 hli.2 hlt.1 hlt.2 hJ1.2.2.1 hJ1.2.2.2.1) rfl hM.1 rfl rfl kw_891 zc_X8_far (by decide) rfl (Nat.le_of_ble_eq_true rfl) dX8_families_131 (fun r G1 h => ?_)
                  obtain ⟨sc2, ar2, rfl, hM1, hF1, hI⟩ := h
                  rw [show sc2 27 = sD ar c ln q i t from hI.d.trans (sD_ps hPS c ln q i t)]
                  have hPS2 := hPS.trans hI.ps
                  have h33b : ar2 33 = ar1 33 := hI.2.2.2.2.1 33 (by omega) (by omega) (by omega) (by omega) (by omega)
                  have hF := zF.trans hF hF1
                  replace hLk := hF1.1 _ _ _ (by decide) hLk
                  clear hF1
                  replace hM := hM1
                  clear hM1
                  refine z_il2 (pc := 134) dX8_families_134 ?_
                  refine z_icmp_gt (pc := 135) 142 dX8_families_135 rfl (fun c135 => ?_) (fun c135 => ?_)
                  · refine z_iconst (pc := 142) (0) (by decide) dX8_families_142 ?_
                    refine z_zast (pc := 143) _ hLk (ix20 _ _) (by omega) (by decide) dX8_families_143 ?_
                    have hM1 := hM.keep (zF.up (e' := .inl (κ.2.1 1, 400, .inl (upd f (20 * i + t) (vp_nar .boolean 0)))) hLk rfl) (by decide)
                    have hF1 := hF.fresh (la := la) (y := ((3, 0, 0), .inl (κ.2.1 1, 400, .inl (upd f (20 * i + t) (vp_nar .boolean 0))))) hla0
                    have hLk1 : zu _ la ((3, 0, 0), .inl (κ.2.1 1, 400, .inl (upd f (20 * i + t) (vp_nar .boolean 0)))) la = _ := zu_s (G := G1)
                    have hv : vp_nar .boolean 0 = zb (Lk ar c ln q bar i t) := (show vp_nar .boolean 0 = 0 from rfl).trans (zb_f (fun h => absurd h.2.2 (Int32.not_le.mpr c135))).symm
                    rw [hv] at hM1 hF1 hLk1 ⊢
                    generalize zu _ la ((3, 0, 0), .inl (κ.2.1 1, 400, .inl (upd f (20 * i + t) (zb (Lk ar c ln q bar i t))))) = G2 at hM1 hF1 hLk1 ⊢
                    refine z_ii6 (pc := 144) (nI (t + 1)) dX8_families_144 (nI_1 _) (by decide) ?_
                    refine z_goto (pc := 147) 88 dX8_families_147 rfl ?_
                    exact ih (t + 1) _ _ _ _ (by omega) hM1 hF1 hPS2 hLk1 (fun k hk => by rw [h33b]; exact h33 k hk) (fun i2 t2 a1 a3 a2 => by
                      unfold upd
                      by_cases e : 20 * i2 + t2 = 20 * i + t
                      · have e1 : i2 = i := by omega
                        have e2 : t2 = t := by omega
                        subst e1; subst e2
                        rw [if_pos rfl]
                      · rw [if_neg e]
                        exact hf i2 t2 a1 a3 (by omega))
                  · refine z_iconst (pc := 138) (1) (by decide) dX8_families_138 ?_
                    refine z_goto (pc := 139) 143 dX8_families_139 rfl ?_
                    refine z_zast (pc := 143) _ hLk (ix20 _ _) (by omega) (by decide) dX8_families_143 ?_
                    have hM1 := hM.keep (zF.up (e' := .inl (κ.2.1 1, 400, .inl (upd f (20 * i + t) (vp_nar .boolean 1)))) hLk rfl) (by decide)
                    have hF1 := hF.fresh (la := la) (y := ((3, 0, 0), .inl (κ.2.1 1, 400, .inl (upd f (20 * i + t) (vp_nar .boolean 1))))) hla0
                    have hLk1 : zu _ la ((3, 0, 0), .inl (κ.2.1 1, 400, .inl (upd f (20 * i + t) (vp_nar .boolean 1)))) la = _ := zu_s (G := G1)
                    have hv : vp_nar .boolean 1 = zb (Lk ar c ln q bar i t) := (show vp_nar .boolean 1 = 1 from rfl).trans (zb_t ⟨c112, c122, Int32.not_lt.mp c135⟩).symm
                    rw [hv] at hM1 hF1 hLk1 ⊢
                    generalize zu _ la ((3, 0, 0), .inl (κ.2.1 1, 400, .inl (upd f (20 * i + t) (zb (Lk ar c ln q bar i t))))) = G2 at hM1 hF1 hLk1 ⊢
                    refine z_ii6 (pc := 144) (nI (t + 1)) dX8_families_144 (nI_1 _) (by decide) ?_
                    refine z_goto (pc := 147) 88 dX8_families_147 rfl ?_
                    exact ih (t + 1) _ _ _ _ (by omega) hM1 hF1 hPS2 hLk1 (fun k hk => by rw [h33b]; exact h33 k hk) (fun i2 t2 a1 a3 a2 => by
                      unfold upd
                      by_cases e : 20 * i2 + t2 = 20 * i + t
                      · have e1 : i2 = i := by omega
                        have e2 : t2 = t := by omega
                        subst e1; subst e2
                        rw [if_pos rfl]
                      · rw [if_neg e]
                        exact hf i2 t2 a1 a3 (by omega))
          have ex2 : ∀ (sc1 : Nat → Int32) (ar1 : Nat → Nat → Int32) (lab0 : Nat → Nat) (G1 : zH) (w6 w7 w8 : Option Value), PS sc ar sc1 ar1 → RM κ G1 x ad sc1 ar1 → zF 1 G G1 → (∀ k, k < n → ar1 33 k = lb ar q lab0 k) → FL n ar c ln q bar lab0 → Z p l e rX8_families s m args below meth cC yX8_families cX8_families 9 (some FieldType.boolean) κ Qx (0 + 1) (0 + 400) G1 [some (.ref x), some (.int s0), some (.int bar), some (.int q), some (.ref la), some (.int (0)), w6, w7, w8] 159 [] := by
            intro sc1 ar1 lab0 G1 w6 w7 w8 hPS hM hF h33 hFL
            refine z_il5 (pc := 159) dX8_families_159 ?_
            refine z_if_eq (pc := 161) 278 dX8_families_161 rfl (fun _ => ?_) (fun h => absurd (by decide) h)
            refine z_iconst (pc := 278) (1) (by decide) dX8_families_278 ?_
            rw [← hQx]
            refine z_zret (pc := 279) rfl rfl (by decide) dX8_families_279 (⟨_, rfl, _, _, hM, hF, hPS, Or.inr ⟨hok, rfl, lab0, h33, hFL⟩⟩)
          have ph2 : ∀ (sc1 : Nat → Int32) (arP : Nat → Nat → Int32) (f : Nat → Int32), PS sc ar sc1 arP → (∀ i2 t2, t2 < i2 → i2 < n → f (20 * i2 + t2) = zb (Lk ar c ln q bar i2 t2)) → ∀ (M0 : Nat) (lab : Nat → Nat) (G1 : zH) (ar1 : Nat → Nat → Int32) (w6 w7 w8 : Option Value), smN lab n < M0 → RM κ G1 x ad sc1 ar1 → zF 1 G G1 → G1 la = some ((3, 0, 0), .inl (κ.2.1 1, 400, .inl f)) → (∀ k, k ≠ 33 → ar1 k = arP k) → (∀ k, k < n → ar1 33 k = lb ar q lab k) → (∀ k, k < n → ¬ frg ar k q → lab k ≤ k ∧ Rch n (Lk ar c ln q bar) k (lab k)) → Z p l e rX8_families s m args below meth cC yX8_families cX8_families 9 (some FieldType.boolean) κ Qx (0 + 1) (0 + 400) G1 [some (.ref x), some (.int s0), some (.int bar), some (.int q), some (.ref la), some (.int (1)), w6, w7, w8] 159 [] := by
            intro sc1 arP f hPS hf M0
            induction M0 with
            | zero =>
              intro lab G1 ar1 w6 w7 w8 hm
              exact absurd hm (Nat.not_lt_zero _)
            | succ M0 ihM =>
              intro lab0 G1 ar1 w6 w7 w8 hm hM hF hLk hne h33 hlab
              have inner2 : ∀ (i : Nat), i < n → (∀ (G1 : zH) (ar1 : Nat → Nat → Int32) (lab : Nat → Nat) (mv : Int32) (w8 : Option Value), RM κ G1 x ad sc1 ar1 → zF 1 G G1 → G1 la = some ((3, 0, 0), .inl (κ.2.1 1, 400, .inl f)) → (∀ k, k ≠ 33 → ar1 k = arP k) → (∀ k, k < n → ar1 33 k = lb ar q lab k) → PM n ar c ln q bar lab lab0 i i mv → Z p l e rX8_families s m args below meth cC yX8_families cX8_families 9 (some FieldType.boolean) κ Qx (0 + 1) (0 + 400) G1 [some (.ref x), some (.int s0), some (.int bar), some (.int q), some (.ref la), some (.int mv), some (.int (nI i)), some (.int (nI i)), w8] 269 []) → ∀ (dd t : Nat), t + dd = i → ∀ (G1 : zH) (ar1 : Nat → Nat → Int32) (lab : Nat → Nat) (mv : Int32) (w8 : Option Value), RM κ G1 x ad sc1 ar1 → zF 1 G G1 → G1 la = some ((3, 0, 0), .inl (κ.2.1 1, 400, .inl f)) → (∀ k, k ≠ 33 → ar1 k = arP k) → (∀ k, k < n → ar1 33 k = lb ar q lab k) → PM n ar c ln q bar lab lab0 i t mv → Z p l e rX8_families s m args below meth cC yX8_families cX8_families 9 (some FieldType.boolean) κ Qx (0 + 1) (0 + 400) G1 [some (.ref x), some (.int s0), some (.int bar), some (.int q), some (.ref la), some (.int mv), some (.int (nI i)), some (.int (nI t)), w8] 182 [] := by
                intro i hin hk dd
                induction dd with
                | zero =>
                  intro t htd G1 ar1 lab mv w8 hM hF hLk hne h33 hP
                  refine z_il7 (pc := 182) dX8_families_182 ?_
                  refine z_il6 (pc := 184) dX8_families_184 ?_
                  refine z_icmp_ge (pc := 186) 269 dX8_families_186 rfl (fun c186 => ?_) (fun c186 => absurd (by rw [show t = i by omega]; exact Int32.le_refl _) c186)
                  rw [show t = i by omega] at hP ⊢
                  exact hk _ _ _ _ _ hM hF hLk hne h33 hP
                | succ dd ih =>
                  intro t htd G1 ar1 lab mv w8 hM hF hLk hne h33 hP
                  refine z_il7 (pc := 182) dX8_families_182 ?_
                  refine z_il6 (pc := 184) dX8_families_184 ?_
                  refine z_icmp_ge (pc := 186) 269 dX8_families_186 rfl (fun c186 => absurd c186 (by rw [nI_leI (by omega) (by omega)]; omega)) (fun c186 => ?_)
                  refine z_al4 (pc := 189) dX8_families_189 ?_
                  refine z_bipush (pc := 191) (20) (by decide) dX8_families_191 ?_
                  refine z_il6 (pc := 193) dX8_families_193 ?_
                  refine z_imul (pc := 195) dX8_families_195 ?_
                  refine z_il7 (pc := 196) dX8_families_196 ?_
                  refine z_iadd (pc := 198) dX8_families_198 ?_
                  refine z_zald (pc := 199) _ hLk (ix20 _ _) (by omega) (by decide) dX8_families_199 ?_
                  rw [hf i t (by omega) (by omega)]
                  refine z_ifz_eq (pc := 200) 263 dX8_families_200 rfl (fun c200 => ?_) (fun c200 => ?_)
                  · refine z_ii7 (pc := 263) (nI (t + 1)) dX8_families_263 (nI_1 _) (by decide) ?_
                    refine z_goto (pc := 266) 182 dX8_families_266 rfl ?_
                    exact ih (t + 1) (by omega) _ _ _ _ _ hM hF hLk hne h33 (hP.skip (fun h => absurd h c200))
                  · refine z_al0 (pc := 203) dX8_families_203 ?_
                    refine z_mg33 (pc := 204) hM rfl dX8_families_204 ?_
                    refine z_il6 (pc := 207) dX8_families_207 ?_
                    refine z_mld (pc := 209) 33 20 hM rfl (by decide) rfl (by omega) dX8_families_209 ?_
                    refine z_al0 (pc := 210) dX8_families_210 ?_
                    refine z_mg33 (pc := 211) hM rfl dX8_families_211 ?_
                    refine z_il7 (pc := 214) dX8_families_214 ?_
                    refine z_mld (pc := 216) 33 20 hM rfl (by decide) rfl (by omega) dX8_families_216 ?_
                    rw [h33 i hin, h33 t (by omega)]
                    refine z_icmp_ne (pc := 217) 223 dX8_families_217 rfl (fun c217 => ?_) (fun c217 => ?_)
                    · refine z_al0 (pc := 223) dX8_families_223 ?_
                      refine z_mg33 (pc := 224) hM rfl dX8_families_224 ?_
                      refine z_il6 (pc := 227) dX8_families_227 ?_
                      refine z_mld (pc := 229) 33 20 hM rfl (by decide) rfl (by omega) dX8_families_229 ?_
                      refine z_al0 (pc := 230) dX8_families_230 ?_
                      refine z_mg33 (pc := 231) hM rfl dX8_families_231 ?_
                      refine z_il7 (pc := 234) dX8_families_234 ?_
                      refine z_mld (pc := 236) 33 20 hM rfl (by decide) rfl (by omega) dX8_families_236 ?_
                      refine z_mmin (pc := 237) kw_911 kw_280 kw_12 kw_281 (by decide) (Nat.le_of_ble_eq_true rfl) dX8_families_237 ?_
                      rw [h33 i hin, h33 t (by omega)]
                      have hl : Lk ar c ln q bar i t := c200
                      have hb1 := (hP.1 i hin hl.1).1
                      have hb2 := (hP.1 t (by omega) hl.2.1).1
                      rw [lb_n hl.1, lb_n hl.2.1]
                      rw [show (if nI (lab t) < nI (lab i) then nI (lab t) else nI (lab i)) = nI (min (lab i) (lab t)) from by
                        split
                        · rename_i e; rw [nI_ltI (by omega) (by omega)] at e; rw [Nat.min_eq_right (by omega)]
                        · rename_i e; rw [nI_ltI (by omega) (by omega)] at e; rw [Nat.min_eq_left (by omega)]]
                      refine z_is8 (pc := 240) dX8_families_240 (by decide) ?_
                      refine z_al0 (pc := 242) dX8_families_242 ?_
                      refine z_mg33 (pc := 243) hM rfl dX8_families_243 ?_
                      refine z_il6 (pc := 246) dX8_families_246 ?_
                      refine z_il8 (pc := 248) dX8_families_248 ?_
                      refine z_mst (pc := 250) 33 20 hM rfl (by decide) rfl (by omega) dX8_families_250 (fun G1 hM1 hF1 => ?_)
                      have hF := zF.trans hF hF1
                      replace hLk := hF1.1 _ _ _ (by decide) hLk
                      clear hF1
                      replace hM := hM1
                      clear hM1
                      refine z_al0 (pc := 251) dX8_families_251 ?_
                      refine z_mg33 (pc := 252) hM rfl dX8_families_252 ?_
                      refine z_il7 (pc := 255) dX8_families_255 ?_
                      refine z_il8 (pc := 257) dX8_families_257 ?_
                      refine z_mst (pc := 259) 33 20 hM rfl (by decide) rfl (by omega) dX8_families_259 (fun G1 hM1 hF1 => ?_)
                      have hF := zF.trans hF hF1
                      replace hLk := hF1.1 _ _ _ (by decide) hLk
                      clear hF1
                      replace hM := hM1
                      clear hM1
                      refine z_iconst (pc := 260) (1) (by decide) dX8_families_260 ?_
                      refine z_is5 (pc := 261) dX8_families_261 (by decide) ?_
                      refine z_ii7 (pc := 263) (nI (t + 1)) dX8_families_263 (nI_1 _) (by decide) ?_
                      refine z_goto (pc := 266) 182 dX8_families_266 rfl ?_
                      exact ih (t + 1) (by omega) _ _ _ _ _ hM hF hLk (fun k hk => by simp only [aup, hk, if_false]; exact hne k hk) (fun k hk => by
                        unfold lb upN aup upd
                        by_cases e1 : k = t
                        · subst e1
                          simp [hl.2.1]
                        · by_cases e2 : k = i
                          · subst e2
                            simp [e1, hl.1]
                          · simp [e1, e2]
                            exact h33 k hk) (hP.join hin (by omega) hl (fun e => c217 (by rw [lb_n hl.1, lb_n hl.2.1, e])))
                    · refine z_goto (pc := 220) 263 dX8_families_220 rfl ?_
                      refine z_ii7 (pc := 263) (nI (t + 1)) dX8_families_263 (nI_1 _) (by decide) ?_
                      refine z_goto (pc := 266) 182 dX8_families_266 rfl ?_
                      exact ih (t + 1) (by omega) _ _ _ _ _ hM hF hLk hne h33 (hP.skip (fun h => by rw [lb_n h.1, lb_n h.2.1] at c217; exact (nI_eq (by have := (hP.1 i hin h.1).1; omega) (by have := (hP.1 t (by omega) h.2.1).1; omega)).mp c217))
              have mid2 : (∀ (G1 : zH) (ar1 : Nat → Nat → Int32) (lab : Nat → Nat) (mv : Int32) (w6 w7 w8 : Option Value), RM κ G1 x ad sc1 ar1 → zF 1 G G1 → G1 la = some ((3, 0, 0), .inl (κ.2.1 1, 400, .inl f)) → (∀ k, k ≠ 33 → ar1 k = arP k) → (∀ k, k < n → ar1 33 k = lb ar q lab k) → PM n ar c ln q bar lab lab0 n 0 mv → Z p l e rX8_families s m args below meth cC yX8_families cX8_families 9 (some FieldType.boolean) κ Qx (0 + 1) (0 + 400) G1 [some (.ref x), some (.int s0), some (.int bar), some (.int q), some (.ref la), some (.int mv), w6, w7, w8] 275 []) → ∀ (dd i : Nat), i + dd = n → ∀ (G1 : zH) (ar1 : Nat → Nat → Int32) (lab : Nat → Nat) (mv : Int32) (w7 w8 : Option Value), RM κ G1 x ad sc1 ar1 → zF 1 G G1 → G1 la = some ((3, 0, 0), .inl (κ.2.1 1, 400, .inl f)) → (∀ k, k ≠ 33 → ar1 k = arP k) → (∀ k, k < n → ar1 33 k = lb ar q lab k) → PM n ar c ln q bar lab lab0 i 0 mv → Z p l e rX8_families s m args below meth cC yX8_families cX8_families 9 (some FieldType.boolean) κ Qx (0 + 1) (0 + 400) G1 [some (.ref x), some (.int s0), some (.int bar), some (.int q), some (.ref la), some (.int mv), some (.int (nI i)), w7, w8] 170 [] := by
                intro hk dd
                induction dd with
                | zero =>
                  intro i hid G1 ar1 lab mv w7 w8 hM hF hLk hne h33 hP
                  refine z_il6 (pc := 170) dX8_families_170 ?_
                  refine z_al0 (pc := 172) dX8_families_172 ?_
                  refine z_mg16 (pc := 173) hM rfl dX8_families_173 ?_
                  rw [show sc1 16 = nI n from (hPS.1 16 (by omega) (by omega)).trans hJ.1]
                  refine z_icmp_ge (pc := 176) 275 dX8_families_176 rfl (fun c176 => ?_) (fun c176 => absurd (by rw [show i = n by omega]; exact Int32.le_refl _) c176)
                  rw [show i = n by omega] at hP ⊢
                  exact hk _ _ _ _ _ _ _ hM hF hLk hne h33 hP
                | succ dd ih =>
                  intro i hid G1 ar1 lab mv w7 w8 hM hF hLk hne h33 hP
                  refine z_il6 (pc := 170) dX8_families_170 ?_
                  refine z_al0 (pc := 172) dX8_families_172 ?_
                  refine z_mg16 (pc := 173) hM rfl dX8_families_173 ?_
                  rw [show sc1 16 = nI n from (hPS.1 16 (by omega) (by omega)).trans hJ.1]
                  refine z_icmp_ge (pc := 176) 275 dX8_families_176 rfl (fun c176 => absurd c176 (by rw [nI_leI (by omega) (by omega)]; omega)) (fun c176 => ?_)
                  refine z_iconst (pc := 179) (0) (by decide) dX8_families_179 ?_
                  refine z_is7 (pc := 180) dX8_families_180 (by decide) ?_
                  refine inner2 i (by omega) (fun G1 ar1 lab mv w8 hM hF hLk hne h33 hP => ?_) i 0 (by omega) _ _ _ _ _ hM hF hLk hne h33 hP
                  refine z_ii6 (pc := 269) (nI (i + 1)) dX8_families_269 (nI_1 _) (by decide) ?_
                  refine z_goto (pc := 272) 170 dX8_families_272 rfl ?_
                  exact ih (i + 1) (by omega) _ _ _ _ _ _ hM hF hLk hne h33 hP.row
              refine z_il5 (pc := 159) dX8_families_159 ?_
              refine z_if_eq (pc := 161) 278 dX8_families_161 rfl (fun h => absurd h (by decide)) (fun _ => ?_)
              refine z_iconst (pc := 164) (0) (by decide) dX8_families_164 ?_
              refine z_is5 (pc := 165) dX8_families_165 (by decide) ?_
              refine z_iconst (pc := 167) (0) (by decide) dX8_families_167 ?_
              refine z_is6 (pc := 168) dX8_families_168 (by decide) ?_
              refine mid2 (fun G1 ar1 lab mv w6 w7 w8 hM hF hLk hne h33 hP => ?_) n 0 (by omega) _ _ lab0 0 _ _ hM hF hLk hne h33 ⟨hlab, Or.inl ⟨rfl, rfl, fun _ _ _ h => absurd h (by omega)⟩⟩
              refine z_goto (pc := 275) 159 dX8_families_275 rfl ?_
              rcases hP.2 with ⟨rfl, -, g⟩ | ⟨rfl, g⟩
              · exact ex2 sc1 ar1 lab _ _ _ _ (hPS.trans ⟨fun _ _ _ => rfl, fun k a b => hne k (by omega)⟩) hM hF h33 ⟨hP.1, fun s t h1 h2 hl => g s t h1 (by omega) hl⟩
              · exact ihM lab _ _ _ _ _ (by omega) hM hF hLk hne h33 hP.1
          have outer1 : ∀ (dd i : Nat) (G1 : zH) (sc1 : Nat → Int32) (ar1 : Nat → Nat → Int32) (f : Nat → Int32) (w6 w7 w8 : Option Value), i + dd = n → RM κ G1 x ad sc1 ar1 → zF 1 G G1 → PS sc ar sc1 ar1 → G1 la = some ((3, 0, 0), .inl (κ.2.1 1, 400, .inl f)) → (∀ k, k < i → ar1 33 k = lb ar q (fun k => k) k) → (∀ i2 t2, t2 < i2 → i2 < 20 → i2 < i → f (20 * i2 + t2) = zb (Lk ar c ln q bar i2 t2)) → Z p l e rX8_families s m args below meth cC yX8_families cX8_families 9 (some FieldType.boolean) κ Qx (0 + 1) (0 + 400) G1 [some (.ref x), some (.int s0), some (.int bar), some (.int q), some (.ref la), some (.int (nI i)), w6, w7, w8] 53 [] := by
            intro dd
            induction dd with
            | zero =>
              intro i G1 sc1 ar1 f w6 w7 w8 hid hM hF hPS hLk h33 hf
              refine z_il5 (pc := 53) dX8_families_53 ?_
              refine z_al0 (pc := 55) dX8_families_55 ?_
              refine z_mg16 (pc := 56) hM rfl dX8_families_56 ?_
              rw [show sc1 16 = nI n from (hPS.1 16 (by omega) (by omega)).trans hJ.1]
              refine z_icmp_ge (pc := 59) 156 dX8_families_59 rfl (fun c59 => ?_) (fun c59 => absurd (by rw [show i = n by omega]; exact Int32.le_refl _) c59)
              refine z_iconst (pc := 156) (1) (by decide) dX8_families_156 ?_
              refine z_is5 (pc := 157) dX8_families_157 (by decide) ?_
              rw [show i = n by omega] at h33 hf
              exact ph2 sc1 ar1 f hPS (fun i2 t2 a1 a2 => hf i2 t2 a1 (by omega) a2) (smN (fun k => k) n + 1) (fun k => k) _ ar1 _ _ _ (by omega) hM hF hLk (fun _ _ => rfl) h33 (fun k _ _ => ⟨Nat.le_refl _, Rch.rf⟩)
            | succ dd ih =>
              intro i G1 sc1 ar1 f w6 w7 w8 hid hM hF hPS hLk h33 hf
              refine z_il5 (pc := 53) dX8_families_53 ?_
              refine z_al0 (pc := 55) dX8_families_55 ?_
              refine z_mg16 (pc := 56) hM rfl dX8_families_56 ?_
              rw [show sc1 16 = nI n from (hPS.1 16 (by omega) (by omega)).trans hJ.1]
              refine z_icmp_ge (pc := 59) 156 dX8_families_59 rfl (fun c59 => absurd c59 (by rw [nI_leI (by omega) (by omega)]; omega)) (fun c59 => ?_)
              refine z_al0 (pc := 62) dX8_families_62 ?_
              refine z_mg33 (pc := 63) hM rfl dX8_families_63 ?_
              refine z_il5 (pc := 66) dX8_families_66 ?_
              refine z_al0 (pc := 68) dX8_families_68 ?_
              refine z_il5 (pc := 69) dX8_families_69 ?_
              refine z_il3 (pc := 71) dX8_families_71 ?_
              refine z_callVr (pc := 72) (c_mIsForged l i q hM (by omega)) hM.1 rfl rfl kw_936 zc_X8_isForged (by decide) (by decide) rfl (Nat.le_of_ble_eq_true rfl) dX8_families_72 ?_
              rw [zb_c (frg_ps hPS i q)]
              refine z_ifz_eq (pc := 75) 82 dX8_families_75 rfl (fun c75 => ?_) (fun c75 => ?_)
              · refine z_il5 (pc := 82) dX8_families_82 ?_
                refine z_mst (pc := 84) 33 20 hM rfl (by decide) rfl (by omega) dX8_families_84 (fun G1 hM1 hF1 => ?_)
                have hF := zF.trans hF hF1
                replace hLk := hF1.1 _ _ _ (by decide) hLk
                clear hF1
                replace hM := hM1
                clear hM1
                refine z_iconst (pc := 85) (0) (by decide) dX8_families_85 ?_
                refine z_is6 (pc := 86) dX8_families_86 (by decide) ?_
                refine inner1 i (by omega) _ _ (fun G1 sc1 ar1 f hM hF hPS hLk h33 hf => ?_) i 0 _ _ _ _ (by omega) hM hF (hPS.trans ⟨fun _ _ _ => rfl, fun k a b => by simp only [aup]; rw [if_neg (by omega)]⟩) hLk (fun k hk => by
                  unfold aup upd
                  by_cases e : k = i
                  · subst e
                    rw [if_pos rfl, if_pos rfl]
                    exact (if_neg c75).symm
                  · rw [if_pos rfl, if_neg e]
                    exact h33 k (by omega)) (fun i2 t2 a1 a3 a2 => hf i2 t2 a1 a3 (by omega))
                refine z_ii5 (pc := 150) (nI (i + 1)) dX8_families_150 (nI_1 _) (by decide) ?_
                refine z_goto (pc := 153) 53 dX8_families_153 rfl ?_
                exact ih (i + 1) _ _ _ _ _ _ _ (by omega) hM hF hPS hLk h33 hf
              · refine z_iconst (pc := 78) (-1) (by decide) dX8_families_78 ?_
                refine z_goto (pc := 79) 84 dX8_families_79 rfl ?_
                refine z_mst (pc := 84) 33 20 hM rfl (by decide) rfl (by omega) dX8_families_84 (fun G1 hM1 hF1 => ?_)
                have hF := zF.trans hF hF1
                replace hLk := hF1.1 _ _ _ (by decide) hLk
                clear hF1
                replace hM := hM1
                clear hM1
                refine z_iconst (pc := 85) (0) (by decide) dX8_families_85 ?_
                refine z_is6 (pc := 86) dX8_families_86 (by decide) ?_
                refine inner1 i (by omega) _ _ (fun G1 sc1 ar1 f hM hF hPS hLk h33 hf => ?_) i 0 _ _ _ _ (by omega) hM hF (hPS.trans ⟨fun _ _ _ => rfl, fun k a b => by simp only [aup]; rw [if_neg (by omega)]⟩) hLk (fun k hk => by
                  unfold aup upd
                  by_cases e : k = i
                  · subst e
                    rw [if_pos rfl, if_pos rfl]
                    exact (if_pos c75).symm
                  · rw [if_pos rfl, if_neg e]
                    exact h33 k (by omega)) (fun i2 t2 a1 a3 a2 => hf i2 t2 a1 a3 (by omega))
                refine z_ii5 (pc := 150) (nI (i + 1)) dX8_families_150 (nI_1 _) (by decide) ?_
                refine z_goto (pc := 153) 53 dX8_families_153 rfl ?_
                exact ih (i + 1) _ _ _ _ _ _ _ (by omega) hM hF hPS hLk h33 hf
          exact outer1 n 0 _ _ _ _ _ _ _ (by omega) hM hF (PS.sc0 0 0 (by omega)) hLk (fun k h => absurd h (Nat.not_lt_zero _)) (fun _ _ _ _ h => absurd h (Nat.not_lt_zero _))
        · refine z_iconst (pc := 41) (0) (by decide) dX8_families_41 ?_
          rw [← hQx]
          refine z_zret (pc := 42) rfl rfl (by decide) dX8_families_42 (by
      refine ⟨_, rfl, _, _, hM, hF, PS.sc0 0 0 (by omega), Or.inl ⟨?_, rfl⟩⟩
      first | exact (fun h => absurd h.1 c10) | exact (fun h => absurd h.2.1 c21) | exact (fun h => absurd h.2.2.1 c29) | exact (fun h => h.2.2.2 (by rw [iN_nI (by omega)]; exact c38)))
