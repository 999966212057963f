/-! who is gathered -/
abbrev KF (κ : zK) (G : zH) (B : Nat → Nat → Nat) (x : Nat × (Nat → Nat)) : Prop := zLs κ G 2 (B 13 2) 29 x.1 (fun g => B 15 (x.2 g))
theorem RC.ki {κ : zK} {G : zH} {B : Nat → Nat → Nat} {n c d w : Nat} {ln kl ep : Nat → Nat} {fo nt : Int32} {ar : Nat → Nat → Int32} {rb : Nat → Int32} {kp kb : Nat → Nat → Int32} {iK sm ky : Nat → Int32} {G2 : zH} (hR : RC κ G B n c d w ln fo nt ar rb kl ep kp kb iK sm ky) (hF : zFL 2 G G2) (hL : ∃ k es, zLs κ G2 2 (B 13 2) 29 k es) : RC κ G2 B n c d w ln fo nt ar rb kl ep kp kb iK sm ky := by
  obtain ⟨hO, hP, ⟨cols, key, f0, f1, f2, S, hA⟩, hLK, hl0, hl1, -, hS, hCo, hPr⟩ := hR
  have no : ∀ a j : Nat, (a ≠ 13 ∧ a ≠ 14) ∨ j ≠ 2 → ¬ ((2, a, j) = ((2, 13, 2) : zR) ∨ (2, a, j) = ((2, 14, 2) : zR)) := fun a j ha q => by
    rcases q with q | q <;> (injection q with q1 q2; injection q2 with q3 q4; omega)
  exact ⟨hF.1 _ _ _ (no 0 0 (by omega)) hO, hP.keep hF (no _ _ (by omega)) (no _ _ (by omega)), ⟨cols, key, f0, f1, f2, S, hA.keep hF (fun a j h => no _ _ (by omega))⟩, hLK.keep hF (fun a h => no _ _ (by omega)), hl0.keep hF (no _ _ (by omega)) (no _ _ (by omega)), hl1.keep hF (no _ _ (by omega)) (no _ _ (by omega)), hL, fun i hi => (hS i hi).keep hF (fun a j h => no _ _ (by omega)), fun j hj => hF.1 _ _ _ (no _ _ (by omega)) (hCo j hj), fun j hj => hF.1 _ _ _ (no _ _ (by omega)) (hPr j hj)⟩
theorem pig : ∀ (n m : Nat) (f : Nat → Nat), (∀ p, p < m → f p < n) → (∀ p q, p < m → q < m → f p = f q → p = q) → m ≤ n
  | 0, m, f, h, _ => by
    rcases m with _ | m
    · exact Nat.le_refl _
    · exact absurd (h 0 (by omega)) (Nat.not_lt_zero _)
  | n + 1, m, f, h, hi => by
    by_cases hx : ∃ p, p < m ∧ f p = n
    · obtain ⟨p0, hp0, e0⟩ := hx
      have := pig n (m - 1) (fun p => if p = p0 then f (m - 1) else f p) (fun p hp => by
        show (if p = p0 then f (m - 1) else f p) < n
        by_cases e : p = p0
        · rw [if_pos e]
          have h1 := h (m - 1) (by omega)
          have h2 : f (m - 1) ≠ n := fun q => by have := hi (m - 1) p0 (by omega) hp0 (q.trans e0.symm); omega
          omega
        · rw [if_neg e]
          have h1 := h p (by omega)
          have h2 : f p ≠ n := fun q => e (hi p p0 (by omega) hp0 (q.trans e0.symm))
          omega) (fun p q hp hq e => by
        have e2 : (if p = p0 then f (m - 1) else f p) = (if q = p0 then f (m - 1) else f q) := e
        by_cases ep : p = p0
        · by_cases eq : q = p0
          · omega
          · rw [if_pos ep, if_neg eq] at e2
            have := hi _ _ (by omega) (by omega) e2
            omega
        · by_cases eq : q = p0
          · rw [if_neg ep, if_pos eq] at e2
            have := hi _ _ (by omega) (by omega) e2
            omega
          · rw [if_neg ep, if_neg eq] at e2
            exact hi _ _ (by omega) (by omega) e2)
      omega
    · have := pig n m f (fun p hp => by
        have h1 := h p hp
        have h2 : f p ≠ n := fun q => hx ⟨p, hp, q⟩
        omega) hi
      omega
/-- gathered: distinct sheets -/
def GT (n : Nat) (x : Nat × (Nat → Nat)) : Prop := (∀ g, g < x.1 → x.2 g < n) ∧ ∀ g h, g < x.1 → h < x.1 → x.2 g = x.2 h → g = h
theorem GT.add {n k : Nat} {x : Nat × (Nat → Nat)} (h : GT n x) (hk : k < n) (hno : ¬ ∃ g, g < x.1 ∧ x.2 g = k) : GT n (x.1 + 1, zup x.2 x.1 k) := by
  refine ⟨fun g hg => ?_, fun a b ha hb e => ?_⟩
  · show zup x.2 x.1 k g < n
    by_cases e : g = x.1
    · rw [e, zup_s]; exact hk
    · rw [zup_n e]; exact h.1 g (by have : g < x.1 + 1 := hg; omega)
  · have ha : a < x.1 + 1 := ha
    have hb : b < x.1 + 1 := hb
    have e : zup x.2 x.1 k a = zup x.2 x.1 k b := e
    by_cases e1 : a = x.1
    · by_cases e2 : b = x.1
      · omega
      · rw [e1, zup_s, zup_n e2] at e
        exact absurd ⟨b, by omega, e.symm⟩ hno
    · by_cases e2 : b = x.1
      · rw [e2, zup_s, zup_n e1] at e
        exact absurd ⟨a, by omega, e⟩ hno
      · rw [zup_n e1, zup_n e2] at e
        exact h.2 a b (by omega) (by omega) e
/-- the sheets linked to one, added -/
def alk (ar : Nat → Nat → Int32) (D : Nat → Int32) (q bar : Int32) (x : Nat × (Nat → Nat)) : Nat → Nat × (Nat → Nat)
  | 0 => x
  | i + 1 => if ¬ frg ar i q ∧ (¬ ∃ g, g < (alk ar D q bar x i).1 ∧ (alk ar D q bar x i).2 g = i) ∧ D i ≤ bar then ((alk ar D q bar x i).1 + 1, zup (alk ar D q bar x i).2 (alk ar D q bar x i).1 i) else alk ar D q bar x i
theorem alk_GT {ar : Nat → Nat → Int32} {D : Nat → Int32} {q bar : Int32} {n : Nat} {x : Nat × (Nat → Nat)} (h : GT n x) : ∀ i, i ≤ n → GT n (alk ar D q bar x i)
  | 0, _ => h
  | i + 1, hi => by
    have ih := alk_GT (ar := ar) (D := D) (q := q) (bar := bar) h i (by omega)
    unfold alk
    split
    · rename_i h2; exact ih.add (by omega) h2.2.1
    · exact ih
abbrev rX7_isGathered : Room := rmK 3 0 0 64
set_option maxRecDepth 100000 in
set_option maxHeartbeats 400000 in
theorem c_hIsG (l : Launch) {κ : zK} {G : zH} {B : Nat → Nat → Nat} {n c d w : Nat} {ln kl ep : Nat → Nat} {fo nt : Int32} {ar : Nat → Nat → Int32} {rb : Nat → Int32} {kp kb : Nat → Nat → Int32} {iK sm ky : Nat → Int32} (k : Nat) (x : Nat × (Nat → Nat)) (hR : RC κ G B n c d w ln fo nt ar rb kl ep kp kb iK sm ky) (hn : n ≤ 20) (hk : k < n) (hX : KF κ G B x) (hx : GT n x) : Ct l yX7_isGathered cX7_isGathered 3 (some FieldType.boolean) rX7_isGathered κ [.ref (B 0 0), .ref (B 15 k)] G (zP (zb (∃ g, g < x.1 ∧ x.2 g = k)) G) := by
  refine Ct.of (by decide +kernel) (fun v hv => by
    simp only [List.mem_cons, List.mem_nil_iff, or_false, List.not_mem_nil] at hv
    rcases hv with rfl | rfl <;> rfl) (Nat.le_of_ble_eq_true rfl) ?_
  intro p e s m args below meth cC
  refine z_L (L' := [some (.ref (B 0 0)), some (.ref (B 15 k)), none]) rfl ?_
  generalize hQx : MQ below (zQc κ _) args s _ _ (zA κ) = Qx
  obtain ⟨hO, hP, ⟨cols, key, f0, f1, f2, S, hA⟩, hLK, hl0, hl1, ⟨k2, es2, hl2⟩, hS, hCo, hPr⟩ := id hR
  obtain ⟨mc2, ea2, hm2, -⟩ := id hX
  have hxn := pig n x.1 x.2 hx.1 hx.2
  have lp : ∀ (fu g : Nat), g + fu = x.1 → (∀ a, a < g → ¬ x.2 a = k) → Z p l e rX7_isGathered s m args below meth cC yX7_isGathered cX7_isGathered 3 (some FieldType.boolean) κ Qx 0 0 G [some (.ref (B 0 0)), some (.ref (B 15 k)), some (.int (nI g))] 2 [] := by
    intro fu
    induction fu with
    | zero =>
      intro g hg hno
      refine z_il2 (pc := 2) dX7_isGathered_2 ?_
      refine z_al0 (pc := 3) dX7_isGathered_3 ?_
      refine z_get (pc := 4) 5 hO rfl iw_X7 (by decide) kw_123 rfl dX7_isGathered_4 ?_
      refine z_callVr (pc := 7) (c_jSize l 2 (B 13 2) 29 x.1 hX) hm2 rfl rfl kw_153 zc_Jx4a65c_size_8abf5 (by decide) (by decide) rfl (Nat.le_of_ble_eq_true rfl) dX7_isGathered_7 ?_
      refine z_icmp_ge (pc := 10) 33 dX7_isGathered_10 rfl (fun c10 => ?_) (fun c10 => absurd (by rw [nI_leI (by omega) (by omega)]; omega) c10)
      refine z_iconst (pc := 33) (0) (by decide) dX7_isGathered_33 ?_
      rw [← hQx]
      refine z_zret (pc := 34) rfl rfl (by decide) dX7_isGathered_34 (⟨_, rfl, (zb_f (fun h => by obtain ⟨a, ha, hj⟩ := h; exact hno a (by omega) hj)).symm, rfl⟩)
    | succ fu ih =>
      intro g hg hno
      have hgx : g < x.1 := by omega
      have hinj : some (B 15 (x.2 g)) = some (B 15 k) → x.2 g = k := fun e => by
        injection e with e
        have h1 := (hS _ (hx.1 g hgx)).1
        rw [e] at h1
        exact rl_inj h1 (hS k hk).1
      refine z_il2 (pc := 2) dX7_isGathered_2 ?_
      refine z_al0 (pc := 3) dX7_isGathered_3 ?_
      refine z_get (pc := 4) 5 hO rfl iw_X7 (by decide) kw_123 rfl dX7_isGathered_4 ?_
      refine z_callVr (pc := 7) (c_jSize l 2 (B 13 2) 29 x.1 hX) hm2 rfl rfl kw_153 zc_Jx4a65c_size_8abf5 (by decide) (by decide) rfl (Nat.le_of_ble_eq_true rfl) dX7_isGathered_7 ?_
      refine z_icmp_ge (pc := 10) 33 dX7_isGathered_10 rfl (fun c10 => absurd c10 (by rw [nI_leI (by omega) (by omega)]; omega)) (fun c10 => ?_)
      refine z_al0 (pc := 13) dX7_isGathered_13 ?_
      refine z_get (pc := 14) 5 hO rfl iw_X7 (by decide) kw_123 rfl dX7_isGathered_14 ?_
      refine z_il2 (pc := 17) dX7_isGathered_17 ?_
      skip
      refine z_callVrq (pc := 18) (c_jGet l 2 (B 13 2) 29 x.1 g hX hgx (by omega)) hm2 rfl rfl kw_295 zc_Jx4a65c_get_915e3 (by decide) (by decide) rfl (Nat.le_of_ble_eq_true rfl) dX7_isGathered_18 ?_
      refine z_al1 (pc := 21) dX7_isGathered_21 ?_
      refine z_acmp_ne (pc := 22) 27 dX7_isGathered_22 rfl (show _ = va_rf (some _) from rfl) (show _ = va_rf (some _) from rfl) (fun c22 => ?_) (fun c22 => ?_)
      · refine z_ii2 (pc := 27) (nI (g + 1)) dX7_isGathered_27 (nI_1 _) (by decide) ?_
        refine z_goto (pc := 30) 2 dX7_isGathered_30 rfl ?_
        refine z_L rfl ?_
        exact ih (g + 1) (by omega) (fun a ha => by
          by_cases e : a = g
          · subst e; exact fun z => c22 (by rw [z])
          · exact hno a (by omega))
      · refine z_iconst (pc := 25) (1) (by decide) dX7_isGathered_25 ?_
        rw [← hQx]
        refine z_zret (pc := 26) rfl rfl (by decide) dX7_isGathered_26 (⟨_, rfl, (zb_t ⟨g, hgx, hinj c22⟩).symm, rfl⟩)
  refine z_iconst (pc := 0) (0) (by decide) dX7_isGathered_0 ?_
  refine z_is2 (pc := 1) dX7_isGathered_1 (by decide) ?_
  refine z_L (L' := [some (.ref (B 0 0)), some (.ref (B 15 k)), some (.int (nI 0))]) rfl ?_
  exact lp x.1 0 (by omega) (fun a ha => absurd ha (by omega))
