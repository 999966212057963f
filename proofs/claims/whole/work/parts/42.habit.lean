/-! habit as asked -/
/-- which sheet of pair k the hand v wrote -/
def shP (ar : Nat → Nat → Int32) (v : Int32) (k : Nat) : Option Nat := if ar 1 (iN (ar 13 k)) = v then some (iN (ar 13 k)) else if ar 1 (iN (ar 14 k)) = v then some (iN (ar 14 k)) else none
theorem shP_rel {ar : Nat → Nat → Int32} {b1 b2 q : Int32} {k : Nat} (hne : b1 ≠ b2) (hab : ar 1 (iN (ar 13 k)) ≠ ar 1 (iN (ar 14 k))) :
    (hRel ar b1 b2 q k → shP ar b1 k = some (hTT ar b1 k) ∧ shP ar b2 k = some (hUU ar b1 k)) ∧ ∀ t u, shP ar b1 k = some t → shP ar b2 k = some u → ¬ frg ar t q → ¬ frg ar u q → hRel ar b1 b2 q k := by
  have hd : iN (ar 13 k) ≠ iN (ar 14 k) := fun e => hab (by rw [e])
  unfold hRel shP hUU hTT
  by_cases h1 : ar 1 (iN (ar 13 k)) = b1
  · have h3 : ¬ ar 1 (iN (ar 13 k)) = b2 := fun e => hne (h1.symm.trans e)
    simp only [if_pos h1, if_true, if_neg h3]
    refine ⟨fun h => ⟨trivial, by rw [if_pos h.2.1]⟩, fun t u ht hu f1 f2 => ?_⟩
    injection ht with ht
    split at hu
    · rename_i h4
      injection hu with hu
      subst ht; subst hu
      exact ⟨h1, h4, f1, f2⟩
    · cases hu
  · have e1 : (if iN (ar 14 k) = iN (ar 13 k) then iN (ar 14 k) else iN (ar 13 k)) = iN (ar 13 k) := if_neg (fun e => hd e.symm)
    simp only [if_neg h1, e1]
    refine ⟨fun h => ⟨by rw [if_pos h.1], by rw [if_pos h.2.1]⟩, fun t u ht hu f1 f2 => ?_⟩
    split at ht
    · rename_i h4
      injection ht with ht
      split at hu
      · rename_i h5
        injection hu with hu
        subst ht; subst hu
        exact ⟨h4, h5, f1, f2⟩
      · rename_i h5
        split at hu
        · rename_i h6; exact absurd (h4.symm.trans h6) hne
        · cases hu
    · cases ht
abbrev rX7_habit : Room := rmK 6 0 0 158
theorem shP_map {ar : Nat → Nat → Int32} {B : Nat → Nat} {v : Int32} {k : Nat} : (if ar 1 (iN (ar 13 k)) = v then some (B (iN (ar 13 k))) else if ar 1 (iN (ar 14 k)) = v then some (B (iN (ar 14 k))) else none) = (shP ar v k).map B := by
  unfold shP
  split
  · rfl
  · split <;> rfl
theorem hab_no {ar : Nat → Nat → Int32} {c : Nat} {ln : Nat → Nat} {b1 b2 q what : Int32} {Sf : Nat → Nat} {k : Nat} (h : ¬ hRel ar b1 b2 q k) : (if what = 0 then habS ar c ln b1 b2 q Sf (k + 1) else habN ar c ln b1 b2 q Sf (k + 1)) = if what = 0 then habS ar c ln b1 b2 q Sf k else habN ar c ln b1 b2 q Sf k := by
  rw [show habS ar c ln b1 b2 q Sf (k + 1) = habS ar c ln b1 b2 q Sf k from if_neg h, show habN ar c ln b1 b2 q Sf (k + 1) = habN ar c ln b1 b2 q Sf k from if_neg h]
theorem hab_yes {ar : Nat → Nat → Int32} {c : Nat} {ln : Nat → Nat} {b1 b2 q what : Int32} {Sf : Nat → Nat} {k s0 : Nat} (h : hRel ar b1 b2 q k) : (if what = 0 then habS ar c ln b1 b2 q (fup Sf k s0) (k + 1) else habN ar c ln b1 b2 q (fup Sf k s0) (k + 1)) = (if what = 0 then habS ar c ln b1 b2 q Sf k else habN ar c ln b1 b2 q Sf k) + (if what = 0 then cS ar c ln q (hTT ar b1 k) (hUU ar b1 k) 0 s0 else cN ar c ln q (hTT ar b1 k) (hUU ar b1 k) 0 s0) := by
  have g1 : habS ar c ln b1 b2 q (fup Sf k s0) k = habS ar c ln b1 b2 q Sf k := habS_congr k (fun j hj _ => fup_n (by omega))
  have g2 : habN ar c ln b1 b2 q (fup Sf k s0) k = habN ar c ln b1 b2 q Sf k := habN_congr k (fun j hj _ => fup_n (by omega))
  rw [show habS ar c ln b1 b2 q (fup Sf k s0) (k + 1) = _ from if_pos h, show habN ar c ln b1 b2 q (fup Sf k s0) (k + 1) = _ from if_pos h, g1, g2, fup_s, (cS_acc (hTT ar b1 k) (hUU ar b1 k) _ s0).1, (cS_acc (hTT ar b1 k) (hUU ar b1 k) (habN ar c ln b1 b2 q Sf k) s0).2]
  split <;> rfl
set_option maxRecDepth 100000 in
set_option maxHeartbeats 400000 in
theorem c_hHabit (l : Launch) {κ : zK} {G : zH} {B : Nat → Nat → Nat} {n c d w : Nat} {ln kl ep : Nat → Nat} {fo nt : Int32} {ar : Nat → Nat → Int32} {rb : Nat → Int32} {kp kb : Nat → Nat → Int32} {iK sm ky : Nat → Int32} (b1 b2 q what : Int32) (hR : RC κ G B n c d w ln fo nt ar rb kl ep kp kb iK sm ky) (hT : TD n c d w ln fo nt ar rb) (hK : KN ar n c ln kl ep kp kb) (hC : CH ar n kl kp kb iK sm ky) : Ct l yX7_habit cX7_habit 10 (some FieldType.int) rX7_habit κ [.ref (B 0 0), .int b1, .int b2, .int q, .int what] G (pI (fun r G2 => ((¬ okHab w b1 b2 q what ∧ r = -1000000) ∨ (okHab w b1 b2 q what ∧ ∃ Sf, habC ar c d ln b1 b2 q Sf ∧ r = (if what = 0 then habS ar c ln b1 b2 q Sf d else habN ar c ln b1 b2 q Sf d))) ∧ HQ κ G G2 B n c d w ln fo nt ar rb)) := by
  refine Ct.of (by decide +kernel) (fun v hv => by
    simp only [List.mem_cons, List.mem_nil_iff, or_false, List.not_mem_nil] at hv
    rcases hv with rfl | rfl | rfl | rfl | rfl <;> rfl) (Nat.le_of_ble_eq_true rfl) ?_
  intro p e s m args below meth cC
  refine z_L (L' := [some (.ref (B 0 0)), some (.int b1), some (.int b2), some (.int q), some (.int what), none, none, none, none, none]) rfl ?_
  generalize hQx : MQ below (zQc κ _) args s _ _ (zA κ) = Qx
  have hn20 := hT.1
  have hd60 := hT.2.2.1
  obtain ⟨hO, hP, ⟨cols, key, f0, f1, f2, S, hA⟩, hLK, hl0, hl1, ⟨k2, es2, hl2⟩, hS, hCo, hPr⟩ := id hR
  by_cases hok : okHab w b1 b2 q what
  · skip
    refine z_il1 (pc := 0) dX7_habit_0 ?_
    refine z_callSr (pc := 1) (c_isHand l b1) kw_157 zc_X7_isHand (by decide) (by decide) rfl (Nat.le_of_ble_eq_true rfl) dX7_habit_1 ?_
    refine z_ifz_eq (pc := 4) 36 dX7_habit_4 rfl (fun c4 => absurd (hok.1) c4) (fun c4 => ?_)
    refine z_il2 (pc := 7) dX7_habit_7 ?_
    refine z_callSr (pc := 8) (c_isHand l b2) kw_157 zc_X7_isHand (by decide) (by decide) rfl (Nat.le_of_ble_eq_true rfl) dX7_habit_8 ?_
    refine z_ifz_eq (pc := 11) 36 dX7_habit_11 rfl (fun c11 => absurd (hok.2.1) c11) (fun c11 => ?_)
    refine z_il1 (pc := 14) dX7_habit_14 ?_
    refine z_il2 (pc := 15) dX7_habit_15 ?_
    refine z_icmp_eq (pc := 16) 36 dX7_habit_16 rfl (fun c16 => absurd c16 (hok.2.2.1)) (fun c16 => ?_)
    refine z_al0 (pc := 19) dX7_habit_19 ?_
    refine z_il3 (pc := 20) dX7_habit_20 ?_
    refine z_callVr (pc := 21) (c_isDay l q hR) hO rfl rfl kw_433 zc_X7_isDay (by decide) (by decide) rfl (Nat.le_of_ble_eq_true rfl) dX7_habit_21 ?_
    refine z_ifz_eq (pc := 24) 36 dX7_habit_24 rfl (fun c24 => absurd (hok.2.2.2.1) c24) (fun c24 => ?_)
    refine z_il4 (pc := 27) dX7_habit_27 ?_
    refine z_iconst (pc := 29) (1) (by decide) dX7_habit_29 ?_
    refine z_callSr (pc := 30) (c_isWithin l what 1) kw_160 zc_X7_isWithin (by decide) (by decide) rfl (Nat.le_of_ble_eq_true rfl) dX7_habit_30 ?_
    refine z_ifz_ne (pc := 33) 39 dX7_habit_33 rfl (fun c33 => ?_) (fun c33 => absurd (hok.2.2.2.2) c33)
    refine z_al0 (pc := 39) dX7_habit_39 ?_
    refine z_il3 (pc := 40) dX7_habit_40 ?_
    refine z_callVv (pc := 41) _ (c_hTurn l q hR hT hK hC) rfl hO rfl rfl kw_437 zc_X7_turnTo (by decide) rfl (Nat.le_of_ble_eq_true rfl) dX7_habit_41 (fun G2 hv => ?_)
    obtain ⟨kl2, ep2, kp2, kb2, iK2, hR2, hK2, hC2, hq2, hF2⟩ := hv
    have lp : ∀ (fu k : Nat) (G3 : zH) (iK3 sm3 ky3 : Nat → Int32) (ac : Int32) (Sf : Nat → Nat) (q7 q8 q9 : Option Value), k + fu = d → RC κ G3 B n c d w ln fo nt ar rb kl2 ep2 kp2 kb2 iK3 sm3 ky3 → CH ar n kl2 kp2 kb2 iK3 sm3 ky3 → zFP isLk G2 G3 → habC ar c k ln b1 b2 q Sf → ac = (if what = 0 then habS ar c ln b1 b2 q Sf k else habN ar c ln b1 b2 q Sf k) → Z p l e rX7_habit s m args below meth cC yX7_habit cX7_habit 10 (some FieldType.int) κ Qx 0 0 G3 [some (.ref (B 0 0)), some (.int b1), some (.int b2), some (.int q), some (.int what), some (.int ac), some (.int (nI k)), q7, q8, q9] 50 [] := by
      intro fu
      induction fu with
      | zero =>
        intro k G3 iK3 sm3 ky3 ac Sf q7 q8 q9 hkk hR3 hC3 hF3 hSf hv0
        obtain ⟨hO, hP, hA, hLK, hl0, hl1, -, hS, hCo, hPr⟩ := id hR3
        obtain ⟨mc1, ea1, hm1, -⟩ := id hl1
        refine z_il6 (pc := 50) dX7_habit_50 ?_
        refine z_al0 (pc := 52) dX7_habit_52 ?_
        refine z_get (pc := 53) 4 hO rfl iw_X7 (by decide) kw_122 rfl dX7_habit_53 ?_
        refine z_callVr (pc := 56) (c_jSize l 1 (B 13 1) 89 d hl1) hm1 rfl rfl kw_153 zc_Jx4a65c_size_8abf5 (by decide) (by decide) rfl (Nat.le_of_ble_eq_true rfl) dX7_habit_56 ?_
        refine z_icmp_ge (pc := 59) 141 dX7_habit_59 rfl (fun c59 => ?_) (fun c59 => absurd (by rw [nI_leI (by omega) (by omega)]; omega) c59)
        refine z_il5 (pc := 141) dX7_habit_141 ?_
        rw [← hQx]
        refine z_iret (pc := 143) rfl (by decide) dX7_habit_143 (⟨_, rfl, Or.inr ⟨hok, Sf, by rw [show d = k by omega]; exact hSf, by rw [show d = k by omega]; exact hv0⟩, kl2, ep2, kp2, kb2, iK3, sm3, ky3, hR3, hK2, hC3, (tn_2 hF2).trans (lk_2 hF3)⟩)
      | succ fu ih =>
        intro k G3 iK3 sm3 ky3 ac Sf q7 q8 q9 hkk hR3 hC3 hF3 hSf hv0
        obtain ⟨hO, hP, hA, hLK, hl0, hl1, -, hS, hCo, hPr⟩ := id hR3
        obtain ⟨mc1, ea1, hm1, -⟩ := id hl1
        have hkn : k < d := by omega
        obtain ⟨pa, pb, hpa, hpb, epa, epb, hpd⟩ := hT.2.2.2.2.2.2.2.2.2.1 k hkn
        have i13 : iN (ar 13 k) = pa := by rw [epa, iN_nI (by omega)]
        have i14 : iN (ar 14 k) = pb := by rw [epb, iN_nI (by omega)]
        have ha13 : iN (ar 13 k) < n := by rw [i13]; exact hpa
        have ha14 : iN (ar 14 k) < n := by rw [i14]; exact hpb
        have hrel := shP_rel (ar := ar) (b1 := b1) (b2 := b2) (q := q) (k := k) hok.2.2.1 (by rw [i13, i14]; exact hpd)
        have hsl : ∀ v t, shP ar v k = some t → t < n := fun v t h => by
          unfold shP at h
          split at h
          · injection h with h; omega
          · split at h
            · injection h with h; omega
            · cases h
        rcases hs1 : shP ar b1 k with _ | t
        · rcases hs2 : shP ar b2 k with _ | u
          · refine z_il6 (pc := 50) dX7_habit_50 ?_
            refine z_al0 (pc := 52) dX7_habit_52 ?_
            refine z_get (pc := 53) 4 hO rfl iw_X7 (by decide) kw_122 rfl dX7_habit_53 ?_
            refine z_callVr (pc := 56) (c_jSize l 1 (B 13 1) 89 d hl1) hm1 rfl rfl kw_153 zc_Jx4a65c_size_8abf5 (by decide) (by decide) rfl (Nat.le_of_ble_eq_true rfl) dX7_habit_56 ?_
            refine z_icmp_ge (pc := 59) 141 dX7_habit_59 rfl (fun c59 => absurd c59 (by rw [nI_leI (by omega) (by omega)]; omega)) (fun c59 => ?_)
            refine z_al0 (pc := 62) dX7_habit_62 ?_
            refine z_get (pc := 63) 4 hO rfl iw_X7 (by decide) kw_122 rfl dX7_habit_63 ?_
            refine z_il6 (pc := 66) dX7_habit_66 ?_
            skip
            refine z_callVrq (pc := 68) (c_jGet l 1 (B 13 1) 89 d k hl1 hkn (by omega)) hm1 rfl rfl kw_295 zc_Jx4a65c_get_915e3 (by decide) (by decide) rfl (Nat.le_of_ble_eq_true rfl) dX7_habit_68 ?_
            refine z_castS (pc := 71) (hPr k hkn) rfl kw_393 dX7_habit_71 ?_
            refine z_as7 (pc := 74) dX7_habit_74 (by decide) ?_
            refine z_al7 (pc := 76) dX7_habit_76 ?_
            refine z_il1 (pc := 78) dX7_habit_78 ?_
            have e79 : (if ar 1 (iN (ar 13 k)) = b1 then some (B 15 (iN (ar 13 k))) else if ar 1 (iN (ar 14 k)) = b1 then some (B 15 (iN (ar 14 k))) else none) = none := by rw [shP_map]; rw [hs1]; rfl
            refine z_callVrq (pc := 79) (v0 := none) ((c_prOf l k (iN (ar 13 k)) (iN (ar 14 k)) b1 (hPr k hkn) (hS _ ha13).1 (hS _ ha14).1).imp (fun v G2 h => by rw [e79] at h; exact h)) (hPr k hkn) rfl rfl kw_617 zc_X3_sheetOf (by decide) (by decide) rfl (Nat.le_of_ble_eq_true rfl) dX7_habit_79 ?_
            refine z_as8N (pc := 82) dX7_habit_82 (by decide) ?_
            refine z_al7 (pc := 84) dX7_habit_84 ?_
            refine z_il2 (pc := 86) dX7_habit_86 ?_
            have e87 : (if ar 1 (iN (ar 13 k)) = b2 then some (B 15 (iN (ar 13 k))) else if ar 1 (iN (ar 14 k)) = b2 then some (B 15 (iN (ar 14 k))) else none) = none := by rw [shP_map]; rw [hs2]; rfl
            refine z_callVrq (pc := 87) (v0 := none) ((c_prOf l k (iN (ar 13 k)) (iN (ar 14 k)) b2 (hPr k hkn) (hS _ ha13).1 (hS _ ha14).1).imp (fun v G2 h => by rw [e87] at h; exact h)) (hPr k hkn) rfl rfl kw_617 zc_X3_sheetOf (by decide) (by decide) rfl (Nat.le_of_ble_eq_true rfl) dX7_habit_87 ?_
            refine z_as9N (pc := 90) dX7_habit_90 (by decide) ?_
            refine z_al8N (pc := 92) dX7_habit_92 ?_
            refine z_ifnullN (pc := 94) 135 dX7_habit_94 rfl ?_
            refine z_ii6 (pc := 135) (nI (k + 1)) dX7_habit_135 (nI_1 _) (by decide) ?_
            refine z_goto (pc := 138) 50 dX7_habit_138 rfl ?_
            refine z_L rfl ?_
            exact ih (k + 1) G3 iK3 sm3 ky3 _ Sf _ _ _ (by omega) hR3 hC3 hF3 (fun g hg hr => by
              by_cases e : g = k
              · subst e; exact absurd hr (fun z => by have := (hrel.1 z).1; rw [hs1] at this; cases this)
              · exact hSf g (by omega) hr) (hv0.trans (hab_no (fun z => by have := (hrel.1 z).1; rw [hs1] at this; cases this)).symm)
          · have hu := hsl _ _ hs2
            refine z_il6 (pc := 50) dX7_habit_50 ?_
            refine z_al0 (pc := 52) dX7_habit_52 ?_
            refine z_get (pc := 53) 4 hO rfl iw_X7 (by decide) kw_122 rfl dX7_habit_53 ?_
            refine z_callVr (pc := 56) (c_jSize l 1 (B 13 1) 89 d hl1) hm1 rfl rfl kw_153 zc_Jx4a65c_size_8abf5 (by decide) (by decide) rfl (Nat.le_of_ble_eq_true rfl) dX7_habit_56 ?_
            refine z_icmp_ge (pc := 59) 141 dX7_habit_59 rfl (fun c59 => absurd c59 (by rw [nI_leI (by omega) (by omega)]; omega)) (fun c59 => ?_)
            refine z_al0 (pc := 62) dX7_habit_62 ?_
            refine z_get (pc := 63) 4 hO rfl iw_X7 (by decide) kw_122 rfl dX7_habit_63 ?_
            refine z_il6 (pc := 66) dX7_habit_66 ?_
            skip
            refine z_callVrq (pc := 68) (c_jGet l 1 (B 13 1) 89 d k hl1 hkn (by omega)) hm1 rfl rfl kw_295 zc_Jx4a65c_get_915e3 (by decide) (by decide) rfl (Nat.le_of_ble_eq_true rfl) dX7_habit_68 ?_
            refine z_castS (pc := 71) (hPr k hkn) rfl kw_393 dX7_habit_71 ?_
            refine z_as7 (pc := 74) dX7_habit_74 (by decide) ?_
            refine z_al7 (pc := 76) dX7_habit_76 ?_
            refine z_il1 (pc := 78) dX7_habit_78 ?_
            have e79 : (if ar 1 (iN (ar 13 k)) = b1 then some (B 15 (iN (ar 13 k))) else if ar 1 (iN (ar 14 k)) = b1 then some (B 15 (iN (ar 14 k))) else none) = none := by rw [shP_map]; rw [hs1]; rfl
            refine z_callVrq (pc := 79) (v0 := none) ((c_prOf l k (iN (ar 13 k)) (iN (ar 14 k)) b1 (hPr k hkn) (hS _ ha13).1 (hS _ ha14).1).imp (fun v G2 h => by rw [e79] at h; exact h)) (hPr k hkn) rfl rfl kw_617 zc_X3_sheetOf (by decide) (by decide) rfl (Nat.le_of_ble_eq_true rfl) dX7_habit_79 ?_
            refine z_as8N (pc := 82) dX7_habit_82 (by decide) ?_
            refine z_al7 (pc := 84) dX7_habit_84 ?_
            refine z_il2 (pc := 86) dX7_habit_86 ?_
            have e87 : (if ar 1 (iN (ar 13 k)) = b2 then some (B 15 (iN (ar 13 k))) else if ar 1 (iN (ar 14 k)) = b2 then some (B 15 (iN (ar 14 k))) else none) = (some (B 15 u)) := by rw [shP_map]; rw [hs2]; rfl
            refine z_callVrq (pc := 87) (v0 := (some (B 15 u))) ((c_prOf l k (iN (ar 13 k)) (iN (ar 14 k)) b2 (hPr k hkn) (hS _ ha13).1 (hS _ ha14).1).imp (fun v G2 h => by rw [e87] at h; exact h)) (hPr k hkn) rfl rfl kw_617 zc_X3_sheetOf (by decide) (by decide) rfl (Nat.le_of_ble_eq_true rfl) dX7_habit_87 ?_
            refine z_as9 (pc := 90) dX7_habit_90 (by decide) ?_
            refine z_al8N (pc := 92) dX7_habit_92 ?_
            refine z_ifnullN (pc := 94) 135 dX7_habit_94 rfl ?_
            refine z_ii6 (pc := 135) (nI (k + 1)) dX7_habit_135 (nI_1 _) (by decide) ?_
            refine z_goto (pc := 138) 50 dX7_habit_138 rfl ?_
            refine z_L rfl ?_
            exact ih (k + 1) G3 iK3 sm3 ky3 _ Sf _ _ _ (by omega) hR3 hC3 hF3 (fun g hg hr => by
              by_cases e : g = k
              · subst e; exact absurd hr (fun z => by have := (hrel.1 z).1; rw [hs1] at this; cases this)
              · exact hSf g (by omega) hr) (hv0.trans (hab_no (fun z => by have := (hrel.1 z).1; rw [hs1] at this; cases this)).symm)
        · have ht := hsl _ _ hs1
          rcases hs2 : shP ar b2 k with _ | u
          · refine z_il6 (pc := 50) dX7_habit_50 ?_
            refine z_al0 (pc := 52) dX7_habit_52 ?_
            refine z_get (pc := 53) 4 hO rfl iw_X7 (by decide) kw_122 rfl dX7_habit_53 ?_
            refine z_callVr (pc := 56) (c_jSize l 1 (B 13 1) 89 d hl1) hm1 rfl rfl kw_153 zc_Jx4a65c_size_8abf5 (by decide) (by decide) rfl (Nat.le_of_ble_eq_true rfl) dX7_habit_56 ?_
            refine z_icmp_ge (pc := 59) 141 dX7_habit_59 rfl (fun c59 => absurd c59 (by rw [nI_leI (by omega) (by omega)]; omega)) (fun c59 => ?_)
            refine z_al0 (pc := 62) dX7_habit_62 ?_
            refine z_get (pc := 63) 4 hO rfl iw_X7 (by decide) kw_122 rfl dX7_habit_63 ?_
            refine z_il6 (pc := 66) dX7_habit_66 ?_
            skip
            refine z_callVrq (pc := 68) (c_jGet l 1 (B 13 1) 89 d k hl1 hkn (by omega)) hm1 rfl rfl kw_295 zc_Jx4a65c_get_915e3 (by decide) (by decide) rfl (Nat.le_of_ble_eq_true rfl) dX7_habit_68 ?_
            refine z_castS (pc := 71) (hPr k hkn) rfl kw_393 dX7_habit_71 ?_
            refine z_as7 (pc := 74) dX7_habit_74 (by decide) ?_
            refine z_al7 (pc := 76) dX7_habit_76 ?_
            refine z_il1 (pc := 78) dX7_habit_78 ?_
            have e79 : (if ar 1 (iN (ar 13 k)) = b1 then some (B 15 (iN (ar 13 k))) else if ar 1 (iN (ar 14 k)) = b1 then some (B 15 (iN (ar 14 k))) else none) = (some (B 15 t)) := by rw [shP_map]; rw [hs1]; rfl
            refine z_callVrq (pc := 79) (v0 := (some (B 15 t))) ((c_prOf l k (iN (ar 13 k)) (iN (ar 14 k)) b1 (hPr k hkn) (hS _ ha13).1 (hS _ ha14).1).imp (fun v G2 h => by rw [e79] at h; exact h)) (hPr k hkn) rfl rfl kw_617 zc_X3_sheetOf (by decide) (by decide) rfl (Nat.le_of_ble_eq_true rfl) dX7_habit_79 ?_
            refine z_as8 (pc := 82) dX7_habit_82 (by decide) ?_
            refine z_al7 (pc := 84) dX7_habit_84 ?_
            refine z_il2 (pc := 86) dX7_habit_86 ?_
            have e87 : (if ar 1 (iN (ar 13 k)) = b2 then some (B 15 (iN (ar 13 k))) else if ar 1 (iN (ar 14 k)) = b2 then some (B 15 (iN (ar 14 k))) else none) = none := by rw [shP_map]; rw [hs2]; rfl
            refine z_callVrq (pc := 87) (v0 := none) ((c_prOf l k (iN (ar 13 k)) (iN (ar 14 k)) b2 (hPr k hkn) (hS _ ha13).1 (hS _ ha14).1).imp (fun v G2 h => by rw [e87] at h; exact h)) (hPr k hkn) rfl rfl kw_617 zc_X3_sheetOf (by decide) (by decide) rfl (Nat.le_of_ble_eq_true rfl) dX7_habit_87 ?_
            refine z_as9N (pc := 90) dX7_habit_90 (by decide) ?_
            refine z_al8 (pc := 92) dX7_habit_92 ?_
            refine z_ifnullR (pc := 94) dX7_habit_94 ?_
            refine z_al9N (pc := 97) dX7_habit_97 ?_
            refine z_ifnullN (pc := 99) 135 dX7_habit_99 rfl ?_
            refine z_ii6 (pc := 135) (nI (k + 1)) dX7_habit_135 (nI_1 _) (by decide) ?_
            refine z_goto (pc := 138) 50 dX7_habit_138 rfl ?_
            refine z_L rfl ?_
            exact ih (k + 1) G3 iK3 sm3 ky3 _ Sf _ _ _ (by omega) hR3 hC3 hF3 (fun g hg hr => by
              by_cases e : g = k
              · subst e; exact absurd hr (fun z => by have := (hrel.1 z).2; rw [hs2] at this; cases this)
              · exact hSf g (by omega) hr) (hv0.trans (hab_no (fun z => by have := (hrel.1 z).2; rw [hs2] at this; cases this)).symm)
          · have hu := hsl _ _ hs2
            refine z_il6 (pc := 50) dX7_habit_50 ?_
            refine z_al0 (pc := 52) dX7_habit_52 ?_
            refine z_get (pc := 53) 4 hO rfl iw_X7 (by decide) kw_122 rfl dX7_habit_53 ?_
            refine z_callVr (pc := 56) (c_jSize l 1 (B 13 1) 89 d hl1) hm1 rfl rfl kw_153 zc_Jx4a65c_size_8abf5 (by decide) (by decide) rfl (Nat.le_of_ble_eq_true rfl) dX7_habit_56 ?_
            refine z_icmp_ge (pc := 59) 141 dX7_habit_59 rfl (fun c59 => absurd c59 (by rw [nI_leI (by omega) (by omega)]; omega)) (fun c59 => ?_)
            refine z_al0 (pc := 62) dX7_habit_62 ?_
            refine z_get (pc := 63) 4 hO rfl iw_X7 (by decide) kw_122 rfl dX7_habit_63 ?_
            refine z_il6 (pc := 66) dX7_habit_66 ?_
            skip
            refine z_callVrq (pc := 68) (c_jGet l 1 (B 13 1) 89 d k hl1 hkn (by omega)) hm1 rfl rfl kw_295 zc_Jx4a65c_get_915e3 (by decide) (by decide) rfl (Nat.le_of_ble_eq_true rfl) dX7_habit_68 ?_
            refine z_castS (pc := 71) (hPr k hkn) rfl kw_393 dX7_habit_71 ?_
            refine z_as7 (pc := 74) dX7_habit_74 (by decide) ?_
            refine z_al7 (pc := 76) dX7_habit_76 ?_
            refine z_il1 (pc := 78) dX7_habit_78 ?_
            have e79 : (if ar 1 (iN (ar 13 k)) = b1 then some (B 15 (iN (ar 13 k))) else if ar 1 (iN (ar 14 k)) = b1 then some (B 15 (iN (ar 14 k))) else none) = (some (B 15 t)) := by rw [shP_map]; rw [hs1]; rfl
            refine z_callVrq (pc := 79) (v0 := (some (B 15 t))) ((c_prOf l k (iN (ar 13 k)) (iN (ar 14 k)) b1 (hPr k hkn) (hS _ ha13).1 (hS _ ha14).1).imp (fun v G2 h => by rw [e79] at h; exact h)) (hPr k hkn) rfl rfl kw_617 zc_X3_sheetOf (by decide) (by decide) rfl (Nat.le_of_ble_eq_true rfl) dX7_habit_79 ?_
            refine z_as8 (pc := 82) dX7_habit_82 (by decide) ?_
            refine z_al7 (pc := 84) dX7_habit_84 ?_
            refine z_il2 (pc := 86) dX7_habit_86 ?_
            have e87 : (if ar 1 (iN (ar 13 k)) = b2 then some (B 15 (iN (ar 13 k))) else if ar 1 (iN (ar 14 k)) = b2 then some (B 15 (iN (ar 14 k))) else none) = (some (B 15 u)) := by rw [shP_map]; rw [hs2]; rfl
            refine z_callVrq (pc := 87) (v0 := (some (B 15 u))) ((c_prOf l k (iN (ar 13 k)) (iN (ar 14 k)) b2 (hPr k hkn) (hS _ ha13).1 (hS _ ha14).1).imp (fun v G2 h => by rw [e87] at h; exact h)) (hPr k hkn) rfl rfl kw_617 zc_X3_sheetOf (by decide) (by decide) rfl (Nat.le_of_ble_eq_true rfl) dX7_habit_87 ?_
            refine z_as9 (pc := 90) dX7_habit_90 (by decide) ?_
            refine z_al8 (pc := 92) dX7_habit_92 ?_
            refine z_ifnullR (pc := 94) dX7_habit_94 ?_
            refine z_al9 (pc := 97) dX7_habit_97 ?_
            refine z_ifnullR (pc := 99) dX7_habit_99 ?_
            refine z_al8 (pc := 102) dX7_habit_102 ?_
            refine z_il3 (pc := 104) dX7_habit_104 ?_
            refine z_callVr (pc := 105) (c_sForged l t q (hS _ ht).1) (hS _ ht).1 rfl rfl kw_377 zc_X5_isForgedBy (by decide) (by decide) rfl (Nat.le_of_ble_eq_true rfl) dX7_habit_105 ?_
            refine z_ifz_ne (pc := 108) 135 dX7_habit_108 rfl (fun c108 => ?_) (fun c108 => ?_)
            · refine z_ii6 (pc := 135) (nI (k + 1)) dX7_habit_135 (nI_1 _) (by decide) ?_
              refine z_goto (pc := 138) 50 dX7_habit_138 rfl ?_
              refine z_L rfl ?_
              exact ih (k + 1) G3 iK3 sm3 ky3 _ Sf _ _ _ (by omega) hR3 hC3 hF3 (fun g hg hr => by
                by_cases e : g = k
                · subst e; exact absurd hr (fun z => by have := (hrel.1 z).1; rw [hs1] at this; injection this with this; exact z.2.2.1 (this ▸ c108))
                · exact hSf g (by omega) hr) (hv0.trans (hab_no (fun z => by have := (hrel.1 z).1; rw [hs1] at this; injection this with this; exact z.2.2.1 (this ▸ c108))).symm)
            · refine z_al9 (pc := 111) dX7_habit_111 ?_
              refine z_il3 (pc := 113) dX7_habit_113 ?_
              refine z_callVr (pc := 114) (c_sForged l u q (hS _ hu).1) (hS _ hu).1 rfl rfl kw_377 zc_X5_isForgedBy (by decide) (by decide) rfl (Nat.le_of_ble_eq_true rfl) dX7_habit_114 ?_
              refine z_ifz_ne (pc := 117) 135 dX7_habit_117 rfl (fun c117 => ?_) (fun c117 => ?_)
              · refine z_ii6 (pc := 135) (nI (k + 1)) dX7_habit_135 (nI_1 _) (by decide) ?_
                refine z_goto (pc := 138) 50 dX7_habit_138 rfl ?_
                refine z_L rfl ?_
                exact ih (k + 1) G3 iK3 sm3 ky3 _ Sf _ _ _ (by omega) hR3 hC3 hF3 (fun g hg hr => by
                  by_cases e : g = k
                  · subst e; exact absurd hr (fun z => by have := (hrel.1 z).2; rw [hs2] at this; injection this with this; exact z.2.2.2 (this ▸ c117))
                  · exact hSf g (by omega) hr) (hv0.trans (hab_no (fun z => by have := (hrel.1 z).2; rw [hs2] at this; injection this with this; exact z.2.2.2 (this ▸ c117))).symm)
              · refine z_il5 (pc := 120) dX7_habit_120 ?_
                refine z_al0 (pc := 122) dX7_habit_122 ?_
                refine z_al8 (pc := 123) dX7_habit_123 ?_
                refine z_al9 (pc := 125) dX7_habit_125 ?_
                refine z_il4 (pc := 127) dX7_habit_127 ?_
                refine z_callVi (pc := 129) _ (c_hHabIn l t u q what hR3 hT hK2 hC3 hq2 ht hu) rfl hO rfl rfl kw_621 zc_X7_habitIn (by decide) rfl (Nat.le_of_ble_eq_true rfl) dX7_habit_129 (fun v G4 hv => ?_)
                obtain ⟨⟨s0, hcs, hrv⟩, iK4, sm4, ky4, hR4, hC4, hF4⟩ := hv
                refine z_iadd (pc := 132) dX7_habit_132 ?_
                refine z_is5 (pc := 133) dX7_habit_133 (by decide) ?_
                refine z_ii6 (pc := 135) (nI (k + 1)) dX7_habit_135 (nI_1 _) (by decide) ?_
                refine z_goto (pc := 138) 50 dX7_habit_138 rfl ?_
                have hr1 := hrel.2 t u hs1 hs2 c108 c117
                have et : t = hTT ar b1 k := by have := (hrel.1 hr1).1; rw [hs1] at this; injection this
                have eu : u = hUU ar b1 k := by have := (hrel.1 hr1).2; rw [hs2] at this; injection this
                refine z_L rfl ?_
                exact ih (k + 1) G4 iK4 sm4 ky4 _ (fup Sf k s0) _ _ _ (by omega) hR4 hC4 (hF3.trans hF4) (fun g hg hr => by
                  by_cases e : g = k
                  · subst e; rw [fup_s, ← et, ← eu]; exact hcs
                  · rw [fup_n e]; exact hSf g (by omega) hr) (by rw [hab_yes hr1, ← et, ← eu, ← hrv, ← hv0])
    refine z_iconst (pc := 44) (0) (by decide) dX7_habit_44 ?_
    refine z_is5 (pc := 45) dX7_habit_45 (by decide) ?_
    refine z_iconst (pc := 47) (0) (by decide) dX7_habit_47 ?_
    refine z_is6 (pc := 48) dX7_habit_48 (by decide) ?_
    refine z_L (L' := [some (.ref (B 0 0)), some (.int b1), some (.int b2), some (.int q), some (.int what), some (.int 0), some (.int (nI 0)), none, none, none]) rfl ?_
    exact lp d 0 G2 iK2 sm ky 0 (fun _ => 0) none none none (by omega) hR2 hC2 zFP.rf (fun g hg => absurd hg (by omega)) (by split <;> rfl)
  · refine z_il1 (pc := 0) dX7_habit_0 ?_
    refine z_callSr (pc := 1) (c_isHand l b1) kw_157 zc_X7_isHand (by decide) (by decide) rfl (Nat.le_of_ble_eq_true rfl) dX7_habit_1 ?_
    refine z_ifz_eq (pc := 4) 36 dX7_habit_4 rfl (fun c4 => ?_) (fun c4 => ?_)
    · refine z_ldc (pc := 36) kw_616 dX7_habit_36 ?_
      rw [← hQx]
      refine z_iret (pc := 38) rfl (by decide) dX7_habit_38 (⟨_, rfl, Or.inl ⟨fun h => c4 h.1, rfl⟩, HQ.rf hR hT hK hC⟩)
    · refine z_il2 (pc := 7) dX7_habit_7 ?_
      refine z_callSr (pc := 8) (c_isHand l b2) kw_157 zc_X7_isHand (by decide) (by decide) rfl (Nat.le_of_ble_eq_true rfl) dX7_habit_8 ?_
      refine z_ifz_eq (pc := 11) 36 dX7_habit_11 rfl (fun c11 => ?_) (fun c11 => ?_)
      · refine z_ldc (pc := 36) kw_616 dX7_habit_36 ?_
        rw [← hQx]
        refine z_iret (pc := 38) rfl (by decide) dX7_habit_38 (⟨_, rfl, Or.inl ⟨fun h => c11 h.2.1, rfl⟩, HQ.rf hR hT hK hC⟩)
      · refine z_il1 (pc := 14) dX7_habit_14 ?_
        refine z_il2 (pc := 15) dX7_habit_15 ?_
        refine z_icmp_eq (pc := 16) 36 dX7_habit_16 rfl (fun c16 => ?_) (fun c16 => ?_)
        · refine z_ldc (pc := 36) kw_616 dX7_habit_36 ?_
          rw [← hQx]
          refine z_iret (pc := 38) rfl (by decide) dX7_habit_38 (⟨_, rfl, Or.inl ⟨fun h => h.2.2.1 c16, rfl⟩, HQ.rf hR hT hK hC⟩)
        · refine z_al0 (pc := 19) dX7_habit_19 ?_
          refine z_il3 (pc := 20) dX7_habit_20 ?_
          refine z_callVr (pc := 21) (c_isDay l q hR) hO rfl rfl kw_433 zc_X7_isDay (by decide) (by decide) rfl (Nat.le_of_ble_eq_true rfl) dX7_habit_21 ?_
          refine z_ifz_eq (pc := 24) 36 dX7_habit_24 rfl (fun c24 => ?_) (fun c24 => ?_)
          · refine z_ldc (pc := 36) kw_616 dX7_habit_36 ?_
            rw [← hQx]
            refine z_iret (pc := 38) rfl (by decide) dX7_habit_38 (⟨_, rfl, Or.inl ⟨fun h => c24 h.2.2.2.1, rfl⟩, HQ.rf hR hT hK hC⟩)
          · refine z_il4 (pc := 27) dX7_habit_27 ?_
            refine z_iconst (pc := 29) (1) (by decide) dX7_habit_29 ?_
            refine z_callSr (pc := 30) (c_isWithin l what 1) kw_160 zc_X7_isWithin (by decide) (by decide) rfl (Nat.le_of_ble_eq_true rfl) dX7_habit_30 ?_
            refine z_ifz_ne (pc := 33) 39 dX7_habit_33 rfl (fun c33 => ?_) (fun c33 => ?_)
            · exact absurd ⟨c4, c11, c16, c24, c33⟩ hok
            · refine z_ldc (pc := 36) kw_616 dX7_habit_36 ?_
              rw [← hQx]
              refine z_iret (pc := 38) rfl (by decide) dX7_habit_38 (⟨_, rfl, Or.inl ⟨fun h => c33 h.2.2.2.2, rfl⟩, HQ.rf hR hT hK hC⟩)
