/-! the source -/
/-- the source of a as the class looks for it: best, least -/
def csM (ar : Nat → Nat → Int32) (D : Nat → Int32) (a : Nat) (q : Int32) : Nat → Option Nat × Int32
  | 0 => (none, ar 15 4)
  | k + 1 => if erl ar k a ∧ ¬ frg ar k q then (match csM ar D a q k with
      | (none, f) => if D k < f then (some k, D k) else (none, f)
      | (some b, f) => if D k < f ∨ (D k = f ∧ erl ar k b) then (some k, D k) else (some b, f)) else csM ar D a q k
def srcB (ar : Nat → Nat → Int32) (o : Option (Nat × Int32)) : Option Nat × Int32 := match o with
  | none => (none, ar 15 4)
  | some (b, f) => if f < ar 15 4 then (some b, f) else (none, ar 15 4)
theorem csM_src (ar : Nat → Nat → Int32) (D : Nat → Int32) (a : Nat) (q : Int32) : ∀ k, csM ar D a q k = srcB ar (srcM ar D a q k)
  | 0 => rfl
  | k + 1 => by
    have ih := csM_src ar D a q k
    unfold csM srcM
    by_cases hr : erl ar k a ∧ ¬ frg ar k q
    · have hka : ¬ (k = a ∨ ¬ erl ar k a ∨ frg ar k q) := fun h => by
        rcases h with h | h | h
        · subst h
          rcases hr.1 with h1 | h1
          · exact Int32.lt_irrefl h1
          · exact Int32.lt_irrefl h1.2
        · exact h hr.1
        · exact hr.2 h
      rw [if_pos hr, if_neg hka, ih]
      generalize srcM ar D a q k = o
      rcases o with _ | ⟨b, f⟩
      · rfl
      · show (match (if f < ar 15 4 then (some b, f) else (none, ar 15 4)) with
          | (none, f) => if D k < f then (some k, D k) else (none, f)
          | (some b, f) => if D k < f ∨ (D k = f ∧ erl ar k b) then (some k, D k) else (some b, f)) = srcB ar (if f < D k ∨ (D k = f ∧ ¬ erl ar k b) then some (b, f) else some (k, D k))
        by_cases h1 : f < D k ∨ (D k = f ∧ ¬ erl ar k b)
        · have h2 : ¬ (D k < f ∨ (D k = f ∧ erl ar k b)) := fun h => by
            rcases h1 with h1 | h1 <;> rcases h with h | h
            · simp only [i_lt] at h h1; omega
            · rw [h.1] at h1; exact Int32.lt_irrefl h1
            · rw [h1.1] at h; exact Int32.lt_irrefl h
            · exact h1.2 h.2
          have h3 : ¬ D k < f := fun h => h2 (Or.inl h)
          rw [if_pos h1]
          by_cases h4 : f < ar 15 4
          · rw [if_pos h4]; show (if _ then _ else _) = srcB ar (some (b, f)); rw [if_neg h2]; exact (if_pos h4).symm
          · rw [if_neg h4]
            show (if D k < ar 15 4 then _ else _) = srcB ar (some (b, f))
            rw [if_neg (fun h => by simp only [i_lt] at *; omega)]
            exact (if_neg h4).symm
        · have h2 : D k < f ∨ (D k = f ∧ erl ar k b) := by
            by_cases h5 : D k < f
            · exact Or.inl h5
            · have h6 : ¬ f < D k := fun h => h1 (Or.inl h)
              have h7 : D k = f := by rw [i_eq]; simp only [i_lt] at *; omega
              exact Or.inr ⟨h7, Decidable.of_not_not (fun h => h1 (Or.inr ⟨h7, h⟩))⟩
          have h3 : ¬ f < D k := fun h => h1 (Or.inl h)
          rw [if_neg h1]
          by_cases h4 : f < ar 15 4
          · rw [if_pos h4]; show (if _ then _ else _) = srcB ar (some (k, D k)); rw [if_pos h2]; exact (if_pos (by simp only [i_lt] at *; omega)).symm
          · rw [if_neg h4]
            show (if D k < ar 15 4 then _ else _) = srcB ar (some (k, D k))
            rfl
    · have hka : k = a ∨ ¬ erl ar k a ∨ frg ar k q := by
        by_cases h1 : erl ar k a
        · exact Or.inr (Or.inr (Decidable.of_not_not (fun h => hr ⟨h1, h⟩)))
        · exact Or.inr (Or.inl h1)
      rw [if_neg hr, if_pos hka, ih]
theorem csM_lt (ar : Nat → Nat → Int32) (D : Nat → Int32) (a : Nat) (q : Int32) {k b : Nat} (h : (csM ar D a q k).1 = some b) : b < k := by
  rw [csM_src] at h
  cases e : srcM ar D a q k with
  | none => rw [e] at h; cases h
  | some x =>
    obtain ⟨b2, f⟩ := x
    have := srcM_lt ar D a q k b2 f e
    rw [e] at h
    unfold srcB at h
    simp only at h
    split at h
    · injection h with h; omega
    · cases h
abbrev rX7_sourceOf : Room := rmK 4 0 0 113
set_option maxRecDepth 100000 in
set_option maxHeartbeats 400000 in
theorem c_hSrcOf (l : Launch) {κ : zK} {G : zH} {B : Nat → Nat → Nat} {n c d w : Nat} {ln kl ep : Nat → Nat} {fo nt : Int32} {ar : Nat → Nat → Int32} {rb : Nat → Int32} {kp kb : Nat → Nat → Int32} {iK sm ky : Nat → Int32} (a : Nat) (q : Int32) (D : Nat → Int32) (hR : RC κ G B n c d w ln fo nt ar rb kl ep kp kb iK sm ky) (hT : TD n c d w ln fo nt ar rb) (hK : KN ar n c ln kl ep kp kb) (hC : CH ar n kl kp kb iK sm ky) (hD : ∀ k, k < n → (KD ar kl kp kb a k).1 = D k) (ha : a < n) : Ct l yX7_sourceOf cX7_sourceOf 9 (some (FieldType.object "TuneHouse$Sheet")) rX7_sourceOf κ [.ref (B 0 0), .ref (B 15 a), .int q] G (pA (fun v G2 => v = (csM ar D a q n).1.map (B 15) ∧ (∃ iK2 sm2 ky2, RC κ G2 B n c d w ln fo nt ar rb kl ep kp kb iK2 sm2 ky2 ∧ CH ar n kl kp kb iK2 sm2 ky2 ∧ zFP isLk G G2))) := by
  refine Ct.of (by decide +kernel) (fun v hv => by
    simp only [List.mem_cons, List.mem_nil_iff, or_false, List.not_mem_nil] at hv
    rcases hv with rfl | rfl | rfl <;> rfl) (Nat.le_of_ble_eq_true rfl) ?_
  intro p e s m args below meth cC
  refine z_L (L' := [some (.ref (B 0 0)), some (.ref (B 15 a)), some (.int q), none, none, none, none, none, none]) rfl ?_
  generalize hQx : MQ below (zQc κ _) args s _ _ (zA κ) = Qx
  have hn20 := hT.1
  obtain ⟨hO, hP, ⟨cols, key, f0, f1, f2, S, hA⟩, hLK, hl0, hl1, ⟨k2, es2, hl2⟩, hS, hCo, hPr⟩ := id hR
  obtain ⟨qp, hP1, hP2⟩ := id hP
  have lp : ∀ (fu k : Nat) (G2 : zH) (iK2 sm2 ky2 : Nat → Int32) (bo : Option Nat) (ls : Int32) (q6 q7 q8 : Option Value), k + fu = n → RC κ G2 B n c d w ln fo nt ar rb kl ep kp kb iK2 sm2 ky2 → CH ar n kl kp kb iK2 sm2 ky2 → zFP isLk G G2 → (bo, ls) = csM ar D a q k → Z p l e rX7_sourceOf s m args below meth cC yX7_sourceOf cX7_sourceOf 9 (some (FieldType.object "TuneHouse$Sheet")) κ Qx 0 0 G2 [some (.ref (B 0 0)), some (.ref (B 15 a)), some (.int q), some (va_rf (bo.map (B 15))), some (.int ls), some (.int (nI k)), q6, q7, q8] 14 [] := by
    intro fu
    induction fu with
    | zero =>
      intro k G2 iK2 sm2 ky2 bo ls q6 q7 q8 hkk hR hC hF hst
      obtain ⟨hO, hP, ⟨cols, key, f0, f1, f2, S, hA⟩, hLK, hl0, hl1, ⟨k2, es2, hl2⟩, hS, hCo, hPr⟩ := id hR
      obtain ⟨mc0, ea0, hm0, -⟩ := id hl0
      refine z_il5 (pc := 14) dX7_sourceOf_14 ?_
      refine z_al0 (pc := 16) dX7_sourceOf_16 ?_
      refine z_get (pc := 17) 3 hO rfl iw_X7 (by decide) kw_121 rfl dX7_sourceOf_17 ?_
      refine z_callVr (pc := 20) (c_jSize l 0 (B 13 0) 29 n hl0) hm0 rfl rfl kw_153 zc_Jx4a65c_size_8abf5 (by decide) (by decide) rfl (Nat.le_of_ble_eq_true rfl) dX7_sourceOf_20 ?_
      refine z_icmp_ge (pc := 23) 122 dX7_sourceOf_23 rfl (fun c23 => ?_) (fun c23 => absurd (by rw [nI_leI (by omega) (by omega)]; omega) c23)
      refine z_al3q (pc := 122) dX7_sourceOf_122 ?_
      rw [← hQx]
      refine z_aret (pc := 123) _ rfl rfl (Or.inl ⟨_, rfl⟩) (by decide) dX7_sourceOf_123 (⟨bo.map (B 15), rfl, by rw [show n = k by omega, ← hst], iK2, sm2, ky2, hR, hC, hF⟩)
    | succ fu ih =>
      intro k G2 iK2 sm2 ky2 bo ls q6 q7 q8 hkk hR hC hF hst
      obtain ⟨hO, hP, ⟨cols, key, f0, f1, f2, S, hA⟩, hLK, hl0, hl1, ⟨k2, es2, hl2⟩, hS, hCo, hPr⟩ := id hR
      obtain ⟨mc0, ea0, hm0, -⟩ := id hl0
      have hkn : k < n := by omega
      rcases bo with _ | b
      · refine z_L (L' := [some (.ref (B 0 0)), some (.ref (B 15 a)), some (.int q), some (.null), some (.int ls), some (.int (nI k)), q6, q7, q8]) rfl ?_
        refine z_il5 (pc := 14) dX7_sourceOf_14 ?_
        refine z_al0 (pc := 16) dX7_sourceOf_16 ?_
        refine z_get (pc := 17) 3 hO rfl iw_X7 (by decide) kw_121 rfl dX7_sourceOf_17 ?_
        refine z_callVr (pc := 20) (c_jSize l 0 (B 13 0) 29 n hl0) hm0 rfl rfl kw_153 zc_Jx4a65c_size_8abf5 (by decide) (by decide) rfl (Nat.le_of_ble_eq_true rfl) dX7_sourceOf_20 ?_
        refine z_icmp_ge (pc := 23) 122 dX7_sourceOf_23 rfl (fun c23 => absurd c23 (by rw [nI_leI (by omega) (by omega)]; omega)) (fun c23 => ?_)
        refine z_al0 (pc := 26) dX7_sourceOf_26 ?_
        refine z_get (pc := 27) 3 hO rfl iw_X7 (by decide) kw_121 rfl dX7_sourceOf_27 ?_
        refine z_il5 (pc := 30) dX7_sourceOf_30 ?_
        skip
        refine z_callVrq (pc := 32) (c_jGet l 0 (B 13 0) 29 n k hl0 hkn (by omega)) hm0 rfl rfl kw_295 zc_Jx4a65c_get_915e3 (by decide) (by decide) rfl (Nat.le_of_ble_eq_true rfl) dX7_sourceOf_32 ?_
        refine z_castS (pc := 35) (hS k hkn).1 rfl kw_166 dX7_sourceOf_35 ?_
        refine z_as6 (pc := 38) dX7_sourceOf_38 (by decide) ?_
        refine z_al6 (pc := 40) dX7_sourceOf_40 ?_
        refine z_al1 (pc := 42) dX7_sourceOf_42 ?_
        refine z_callVr (pc := 43) (c_sEarlier l k a (hS k hkn).1 (hS a ha).1) (hS k hkn).1 rfl rfl kw_588 zc_X5_isEarlierThan (by decide) (by decide) rfl (Nat.le_of_ble_eq_true rfl) dX7_sourceOf_43 ?_
        refine z_ifz_eq (pc := 46) 116 dX7_sourceOf_46 rfl (fun c46 => ?_) (fun c46 => ?_)
        · refine z_ii5 (pc := 116) (nI (k + 1)) dX7_sourceOf_116 (nI_1 _) (by decide) ?_
          refine z_goto (pc := 119) 14 dX7_sourceOf_119 rfl ?_
          refine z_L rfl ?_
          exact ih (k + 1) G2 iK2 sm2 ky2 (none) ls _ _ _ (by omega) hR hC hF (hst.trans (if_neg (fun h => c46 h.1)).symm)
        · refine z_al6 (pc := 49) dX7_sourceOf_49 ?_
          refine z_il2 (pc := 51) dX7_sourceOf_51 ?_
          refine z_callVr (pc := 52) (c_sForged l k q (hS k hkn).1) (hS k hkn).1 rfl rfl kw_377 zc_X5_isForgedBy (by decide) (by decide) rfl (Nat.le_of_ble_eq_true rfl) dX7_sourceOf_52 ?_
          refine z_ifz_ne (pc := 55) 116 dX7_sourceOf_55 rfl (fun c55 => ?_) (fun c55 => ?_)
          · refine z_ii5 (pc := 116) (nI (k + 1)) dX7_sourceOf_116 (nI_1 _) (by decide) ?_
            refine z_goto (pc := 119) 14 dX7_sourceOf_119 rfl ?_
            refine z_L rfl ?_
            exact ih (k + 1) G2 iK2 sm2 ky2 (none) ls _ _ _ (by omega) hR hC hF (hst.trans (if_neg (fun h => h.2 c55)).symm)
          · refine z_al0 (pc := 58) dX7_sourceOf_58 ?_
            refine z_get (pc := 59) 2 hO rfl iw_X7 (by decide) kw_120 rfl dX7_sourceOf_59 ?_
            refine z_al1 (pc := 62) dX7_sourceOf_62 ?_
            refine z_al6 (pc := 63) dX7_sourceOf_63 ?_
            refine z_callVi (pc := 65) _ (c_Apart l a k hR hT hK hC ha hkn) rfl hLK.1 rfl rfl kw_461 zc_X2_apart (by decide) rfl (Nat.le_of_ble_eq_true rfl) dX7_sourceOf_65 (fun v G4 hv => ?_)
            obtain ⟨hr, iK4, sm4, ky4, hR4, hC4, hF4⟩ := hv
            rw [hD k hkn] at hr
            subst hr
            clear hO hLK hS
            obtain ⟨hO, -, -, hLK, -, -, -, hS, -, -⟩ := id hR4
            refine z_is7 (pc := 68) dX7_sourceOf_68 (by decide) ?_
            refine z_al3N (pc := 70) dX7_sourceOf_70 ?_
            refine z_ifnullN (pc := 71) 85 dX7_sourceOf_71 rfl ?_
            refine z_iconst (pc := 85) (0) (by decide) dX7_sourceOf_85 ?_
            refine z_is8 (pc := 86) dX7_sourceOf_86 (by decide) ?_
            refine z_il7 (pc := 88) dX7_sourceOf_88 ?_
            refine z_il4 (pc := 90) dX7_sourceOf_90 ?_
            refine z_icmp_lt (pc := 92) 109 dX7_sourceOf_92 rfl (fun c92 => ?_) (fun c92 => ?_)
            · refine z_al6 (pc := 109) dX7_sourceOf_109 ?_
              refine z_as3 (pc := 111) dX7_sourceOf_111 (by decide) ?_
              refine z_il7 (pc := 112) dX7_sourceOf_112 ?_
              refine z_is4 (pc := 114) dX7_sourceOf_114 (by decide) ?_
              refine z_ii5 (pc := 116) (nI (k + 1)) dX7_sourceOf_116 (nI_1 _) (by decide) ?_
              refine z_goto (pc := 119) 14 dX7_sourceOf_119 rfl ?_
              refine z_L rfl ?_
              exact ih (k + 1) G4 iK4 sm4 ky4 (some k) (D k) _ _ _ (by omega) hR4 hC4 (hF.trans hF4) (by
                show _ = (if _ then (match csM ar D a q k with
                    | (none, f) => if D k < f then (some k, D k) else (none, f)
                    | (some b, f) => if D k < f ∨ (D k = f ∧ erl ar k b) then (some k, D k) else (some b, f)) else _)
                rw [if_pos ⟨c46, c55⟩, ← hst]
                exact (if_pos c92).symm)
            · refine z_il8 (pc := 95) dX7_sourceOf_95 ?_
              refine z_if_eq (pc := 97) 116 dX7_sourceOf_97 rfl (fun _ => ?_) (fun h => absurd (by decide) h)
              refine z_ii5 (pc := 116) (nI (k + 1)) dX7_sourceOf_116 (nI_1 _) (by decide) ?_
              refine z_goto (pc := 119) 14 dX7_sourceOf_119 rfl ?_
              refine z_L rfl ?_
              exact ih (k + 1) G4 iK4 sm4 ky4 (none) ls _ _ _ (by omega) hR4 hC4 (hF.trans hF4) (by
                show _ = (if _ then (match csM ar D a q k with
                    | (none, f) => if D k < f then (some k, D k) else (none, f)
                    | (some b, f) => if D k < f ∨ (D k = f ∧ erl ar k b) then (some k, D k) else (some b, f)) else _)
                rw [if_pos ⟨c46, c55⟩, ← hst]
                exact (if_neg c92).symm)
      · have hbn : b < n := by have := csM_lt ar D a q (congrArg Prod.fst hst).symm; omega
        refine z_L (L' := [some (.ref (B 0 0)), some (.ref (B 15 a)), some (.int q), some (.ref (B 15 b)), some (.int ls), some (.int (nI k)), q6, q7, q8]) rfl ?_
        refine z_il5 (pc := 14) dX7_sourceOf_14 ?_
        refine z_al0 (pc := 16) dX7_sourceOf_16 ?_
        refine z_get (pc := 17) 3 hO rfl iw_X7 (by decide) kw_121 rfl dX7_sourceOf_17 ?_
        refine z_callVr (pc := 20) (c_jSize l 0 (B 13 0) 29 n hl0) hm0 rfl rfl kw_153 zc_Jx4a65c_size_8abf5 (by decide) (by decide) rfl (Nat.le_of_ble_eq_true rfl) dX7_sourceOf_20 ?_
        refine z_icmp_ge (pc := 23) 122 dX7_sourceOf_23 rfl (fun c23 => absurd c23 (by rw [nI_leI (by omega) (by omega)]; omega)) (fun c23 => ?_)
        refine z_al0 (pc := 26) dX7_sourceOf_26 ?_
        refine z_get (pc := 27) 3 hO rfl iw_X7 (by decide) kw_121 rfl dX7_sourceOf_27 ?_
        refine z_il5 (pc := 30) dX7_sourceOf_30 ?_
        skip
        refine z_callVrq (pc := 32) (c_jGet l 0 (B 13 0) 29 n k hl0 hkn (by omega)) hm0 rfl rfl kw_295 zc_Jx4a65c_get_915e3 (by decide) (by decide) rfl (Nat.le_of_ble_eq_true rfl) dX7_sourceOf_32 ?_
        refine z_castS (pc := 35) (hS k hkn).1 rfl kw_166 dX7_sourceOf_35 ?_
        refine z_as6 (pc := 38) dX7_sourceOf_38 (by decide) ?_
        refine z_al6 (pc := 40) dX7_sourceOf_40 ?_
        refine z_al1 (pc := 42) dX7_sourceOf_42 ?_
        refine z_callVr (pc := 43) (c_sEarlier l k a (hS k hkn).1 (hS a ha).1) (hS k hkn).1 rfl rfl kw_588 zc_X5_isEarlierThan (by decide) (by decide) rfl (Nat.le_of_ble_eq_true rfl) dX7_sourceOf_43 ?_
        refine z_ifz_eq (pc := 46) 116 dX7_sourceOf_46 rfl (fun c46 => ?_) (fun c46 => ?_)
        · refine z_ii5 (pc := 116) (nI (k + 1)) dX7_sourceOf_116 (nI_1 _) (by decide) ?_
          refine z_goto (pc := 119) 14 dX7_sourceOf_119 rfl ?_
          refine z_L rfl ?_
          exact ih (k + 1) G2 iK2 sm2 ky2 (some b) ls _ _ _ (by omega) hR hC hF (hst.trans (if_neg (fun h => c46 h.1)).symm)
        · refine z_al6 (pc := 49) dX7_sourceOf_49 ?_
          refine z_il2 (pc := 51) dX7_sourceOf_51 ?_
          refine z_callVr (pc := 52) (c_sForged l k q (hS k hkn).1) (hS k hkn).1 rfl rfl kw_377 zc_X5_isForgedBy (by decide) (by decide) rfl (Nat.le_of_ble_eq_true rfl) dX7_sourceOf_52 ?_
          refine z_ifz_ne (pc := 55) 116 dX7_sourceOf_55 rfl (fun c55 => ?_) (fun c55 => ?_)
          · refine z_ii5 (pc := 116) (nI (k + 1)) dX7_sourceOf_116 (nI_1 _) (by decide) ?_
            refine z_goto (pc := 119) 14 dX7_sourceOf_119 rfl ?_
            refine z_L rfl ?_
            exact ih (k + 1) G2 iK2 sm2 ky2 (some b) ls _ _ _ (by omega) hR hC hF (hst.trans (if_neg (fun h => h.2 c55)).symm)
          · refine z_al0 (pc := 58) dX7_sourceOf_58 ?_
            refine z_get (pc := 59) 2 hO rfl iw_X7 (by decide) kw_120 rfl dX7_sourceOf_59 ?_
            refine z_al1 (pc := 62) dX7_sourceOf_62 ?_
            refine z_al6 (pc := 63) dX7_sourceOf_63 ?_
            refine z_callVi (pc := 65) _ (c_Apart l a k hR hT hK hC ha hkn) rfl hLK.1 rfl rfl kw_461 zc_X2_apart (by decide) rfl (Nat.le_of_ble_eq_true rfl) dX7_sourceOf_65 (fun v G4 hv => ?_)
            obtain ⟨hr, iK4, sm4, ky4, hR4, hC4, hF4⟩ := hv
            rw [hD k hkn] at hr
            subst hr
            clear hO hLK hS
            obtain ⟨hO, -, -, hLK, -, -, -, hS, -, -⟩ := id hR4
            refine z_is7 (pc := 68) dX7_sourceOf_68 (by decide) ?_
            refine z_al3 (pc := 70) dX7_sourceOf_70 ?_
            refine z_ifnullR (pc := 71) dX7_sourceOf_71 ?_
            refine z_il7 (pc := 74) dX7_sourceOf_74 ?_
            refine z_il4 (pc := 76) dX7_sourceOf_76 ?_
            refine z_icmp_ne (pc := 78) 85 dX7_sourceOf_78 rfl (fun c78 => ?_) (fun c78 => ?_)
            · refine z_iconst (pc := 85) (0) (by decide) dX7_sourceOf_85 ?_
              refine z_is8 (pc := 86) dX7_sourceOf_86 (by decide) ?_
              refine z_il7 (pc := 88) dX7_sourceOf_88 ?_
              refine z_il4 (pc := 90) dX7_sourceOf_90 ?_
              refine z_icmp_lt (pc := 92) 109 dX7_sourceOf_92 rfl (fun c92 => ?_) (fun c92 => ?_)
              · refine z_al6 (pc := 109) dX7_sourceOf_109 ?_
                refine z_as3 (pc := 111) dX7_sourceOf_111 (by decide) ?_
                refine z_il7 (pc := 112) dX7_sourceOf_112 ?_
                refine z_is4 (pc := 114) dX7_sourceOf_114 (by decide) ?_
                refine z_ii5 (pc := 116) (nI (k + 1)) dX7_sourceOf_116 (nI_1 _) (by decide) ?_
                refine z_goto (pc := 119) 14 dX7_sourceOf_119 rfl ?_
                refine z_L rfl ?_
                exact ih (k + 1) G4 iK4 sm4 ky4 (some k) (D k) _ _ _ (by omega) hR4 hC4 (hF.trans hF4) (by
                  show _ = (if _ then (match csM ar D a q k with
                      | (none, f) => if D k < f then (some k, D k) else (none, f)
                      | (some b, f) => if D k < f ∨ (D k = f ∧ erl ar k b) then (some k, D k) else (some b, f)) else _)
                  rw [if_pos ⟨c46, c55⟩, ← hst]
                  exact (if_pos (Or.inl c92)).symm)
              · refine z_il8 (pc := 95) dX7_sourceOf_95 ?_
                refine z_if_eq (pc := 97) 116 dX7_sourceOf_97 rfl (fun _ => ?_) (fun h => absurd (by decide) h)
                refine z_ii5 (pc := 116) (nI (k + 1)) dX7_sourceOf_116 (nI_1 _) (by decide) ?_
                refine z_goto (pc := 119) 14 dX7_sourceOf_119 rfl ?_
                refine z_L rfl ?_
                exact ih (k + 1) G4 iK4 sm4 ky4 (some b) ls _ _ _ (by omega) hR4 hC4 (hF.trans hF4) (by
                  show _ = (if _ then (match csM ar D a q k with
                      | (none, f) => if D k < f then (some k, D k) else (none, f)
                      | (some b, f) => if D k < f ∨ (D k = f ∧ erl ar k b) then (some k, D k) else (some b, f)) else _)
                  rw [if_pos ⟨c46, c55⟩, ← hst]
                  exact (if_neg (fun h => h.elim c92 (fun g => c78 g.1))).symm)
            · refine z_iconst (pc := 81) (1) (by decide) dX7_sourceOf_81 ?_
              refine z_goto (pc := 82) 86 dX7_sourceOf_82 rfl ?_
              refine z_is8 (pc := 86) dX7_sourceOf_86 (by decide) ?_
              refine z_il7 (pc := 88) dX7_sourceOf_88 ?_
              refine z_il4 (pc := 90) dX7_sourceOf_90 ?_
              refine z_icmp_lt (pc := 92) 109 dX7_sourceOf_92 rfl (fun c92 => ?_) (fun c92 => ?_)
              · refine z_al6 (pc := 109) dX7_sourceOf_109 ?_
                refine z_as3 (pc := 111) dX7_sourceOf_111 (by decide) ?_
                refine z_il7 (pc := 112) dX7_sourceOf_112 ?_
                refine z_is4 (pc := 114) dX7_sourceOf_114 (by decide) ?_
                refine z_ii5 (pc := 116) (nI (k + 1)) dX7_sourceOf_116 (nI_1 _) (by decide) ?_
                refine z_goto (pc := 119) 14 dX7_sourceOf_119 rfl ?_
                refine z_L rfl ?_
                exact ih (k + 1) G4 iK4 sm4 ky4 (some k) (D k) _ _ _ (by omega) hR4 hC4 (hF.trans hF4) (by
                  show _ = (if _ then (match csM ar D a q k with
                      | (none, f) => if D k < f then (some k, D k) else (none, f)
                      | (some b, f) => if D k < f ∨ (D k = f ∧ erl ar k b) then (some k, D k) else (some b, f)) else _)
                  rw [if_pos ⟨c46, c55⟩, ← hst]
                  exact (if_pos (Or.inl c92)).symm)
              · refine z_il8 (pc := 95) dX7_sourceOf_95 ?_
                refine z_if_eq (pc := 97) 116 dX7_sourceOf_97 rfl (fun h => absurd h (by decide)) (fun _ => ?_)
                refine z_al6 (pc := 100) dX7_sourceOf_100 ?_
                refine z_al3 (pc := 102) dX7_sourceOf_102 ?_
                refine z_callVr (pc := 103) (c_sEarlier l k b (hS k hkn).1 (hS b hbn).1) (hS k hkn).1 rfl rfl kw_588 zc_X5_isEarlierThan (by decide) (by decide) rfl (Nat.le_of_ble_eq_true rfl) dX7_sourceOf_103 ?_
                refine z_ifz_eq (pc := 106) 116 dX7_sourceOf_106 rfl (fun c106 => ?_) (fun c106 => ?_)
                · refine z_ii5 (pc := 116) (nI (k + 1)) dX7_sourceOf_116 (nI_1 _) (by decide) ?_
                  refine z_goto (pc := 119) 14 dX7_sourceOf_119 rfl ?_
                  refine z_L rfl ?_
                  exact ih (k + 1) G4 iK4 sm4 ky4 (some b) ls _ _ _ (by omega) hR4 hC4 (hF.trans hF4) (by
                    show _ = (if _ then (match csM ar D a q k with
                        | (none, f) => if D k < f then (some k, D k) else (none, f)
                        | (some b, f) => if D k < f ∨ (D k = f ∧ erl ar k b) then (some k, D k) else (some b, f)) else _)
                    rw [if_pos ⟨c46, c55⟩, ← hst]
                    exact (if_neg (fun h => h.elim c92 (fun g => c106 g.2))).symm)
                · refine z_al6 (pc := 109) dX7_sourceOf_109 ?_
                  refine z_as3 (pc := 111) dX7_sourceOf_111 (by decide) ?_
                  refine z_il7 (pc := 112) dX7_sourceOf_112 ?_
                  refine z_is4 (pc := 114) dX7_sourceOf_114 (by decide) ?_
                  refine z_ii5 (pc := 116) (nI (k + 1)) dX7_sourceOf_116 (nI_1 _) (by decide) ?_
                  refine z_goto (pc := 119) 14 dX7_sourceOf_119 rfl ?_
                  refine z_L rfl ?_
                  exact ih (k + 1) G4 iK4 sm4 ky4 (some k) (D k) _ _ _ (by omega) hR4 hC4 (hF.trans hF4) (by
                    show _ = (if _ then (match csM ar D a q k with
                        | (none, f) => if D k < f then (some k, D k) else (none, f)
                        | (some b, f) => if D k < f ∨ (D k = f ∧ erl ar k b) then (some k, D k) else (some b, f)) else _)
                    rw [if_pos ⟨c46, c55⟩, ← hst]
                    exact (if_pos (Or.inr ⟨c78, c106⟩)).symm)
  refine z_null (pc := 0) dX7_sourceOf_0 ?_
  refine z_as3N (pc := 1) dX7_sourceOf_1 (by decide) ?_
  refine z_al0 (pc := 2) dX7_sourceOf_2 ?_
  refine z_get (pc := 3) 0 hO rfl iw_X7 (by decide) kw_118 rfl dX7_sourceOf_3 ?_
  refine z_callVr (pc := 6) (c_pAnew l hP) hP1 rfl rfl kw_584 zc_X4_anew (by decide) (by decide) rfl (Nat.le_of_ble_eq_true rfl) dX7_sourceOf_6 ?_
  refine z_is4 (pc := 9) dX7_sourceOf_9 (by decide) ?_
  refine z_iconst (pc := 11) (0) (by decide) dX7_sourceOf_11 ?_
  refine z_is5 (pc := 12) dX7_sourceOf_12 (by decide) ?_
  refine z_L (L' := [some (.ref (B 0 0)), some (.ref (B 15 a)), some (.int q), some (.null), some (.int (ar 15 4)), some (.int (nI 0)), none, none, none]) rfl ?_
  exact lp n 0 G iK sm ky none (ar 15 4) none none none (by omega) hR hC zFP.rf rfl
