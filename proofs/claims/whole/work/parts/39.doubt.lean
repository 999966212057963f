/-! doubt -/
def dbR (ar : Nat → Nat → Int32) (D : Nat → Int32) (a : Nat) (q mg : Int32) (n : Nat) : Option Nat → Int32
  | none => 0
  | some b => sDbt ar D a b q (D b + mg) n
theorem dbtR_cs (ar : Nat → Nat → Int32) (D : Nat → Int32) (a : Nat) (q mg : Int32) (n : Nat) : dbtR ar D a q mg n (srcM ar D a q n) = dbR ar D a q mg n (csM ar D a q n).1 := by
  have h2 := csM_2 ar D a q n
  rw [csM_src] at h2 ⊢
  generalize srcM ar D a q n = x at h2
  rcases x with _ | ⟨b, f⟩
  · rfl
  · unfold srcB at h2 ⊢
    unfold dbtR
    simp only at h2 ⊢
    split
    · rename_i hf
      rw [if_pos hf] at h2
      have := h2.1 b rfl
      simp only at this
      rw [this]
      rfl
    · rfl
theorem rl_inj {G : zH} {t k b x : Nat} {e1 e2 : va_E} (h1 : G t = some ((2, x, k), e1)) (h2 : G t = some ((2, x, b), e2)) : k = b := by
  have h := h1.symm.trans h2
  injection h with h
  exact congrArg (fun y : zR × va_E => y.1.2.2) h
theorem erl_no {ar : Nat → Nat → Int32} {k a : Nat} (h : erl ar k a) : k ≠ a := fun e => by
  subst e
  rcases h with h1 | h1
  · exact Int32.lt_irrefl h1
  · exact Int32.lt_irrefl h1.2
theorem sDbt_s (ar : Nat → Nat → Int32) (D : Nat → Int32) (a b : Nat) (q most : Int32) (k : Nat) : sDbt ar D a b q most (k + 1) = sDbt ar D a b q most k + zb (k ≠ b ∧ k ≠ a ∧ erl ar k a ∧ ¬ frg ar k q ∧ D k ≤ most) := rfl
abbrev rX7_rivalsOf : Room := rmK 4 0 0 113
set_option maxRecDepth 100000 in
set_option maxHeartbeats 400000 in
theorem c_hRiv (l : Launch) {κ : zK} {G : zH} {B : Nat → Nat → Nat} {n c d w : Nat} {ln kl ep : Nat → Nat} {fo nt : Int32} {ar : Nat → Nat → Int32} {rb : Nat → Int32} {kp kb : Nat → Nat → Int32} {iK sm ky : Nat → Int32} (a b : Nat) (q mg : Int32) (D : Nat → Int32) (hR : RC κ G B n c d w ln fo nt ar rb kl ep kp kb iK sm ky) (hT : TD n c d w ln fo nt ar rb) (hK : KN ar n c ln kl ep kp kb) (hC : CH ar n kl kp kb iK sm ky) (hD : ∀ k, k < n → (KD ar kl kp kb a k).1 = D k) (ha : a < n) (hb : b < n) : Ct l yX7_rivalsOf cX7_rivalsOf 10 (some FieldType.int) rX7_rivalsOf κ [.ref (B 0 0), .ref (B 15 a), .ref (B 15 b), .int mg, .int q] G (pI (fun r G2 => r = sDbt ar D a b q (D b + mg) n ∧ (∃ iK2 sm2 ky2, RC κ G2 B n c d w ln fo nt ar rb kl ep kp kb iK2 sm2 ky2 ∧ CH ar n kl kp kb iK2 sm2 ky2 ∧ zFP isLk G G2))) := by
  refine Ct.of (by decide +kernel) (fun v hv => by
    simp only [List.mem_cons, List.mem_nil_iff, or_false, List.not_mem_nil] at hv
    rcases hv with rfl | rfl | rfl | rfl | rfl <;> rfl) (Nat.le_of_ble_eq_true rfl) ?_
  intro p e s m args below meth cC
  refine z_L (L' := [some (.ref (B 0 0)), some (.ref (B 15 a)), some (.ref (B 15 b)), some (.int mg), some (.int q), none, none, none, none, none]) rfl ?_
  generalize hQx : MQ below (zQc κ _) args s _ _ (zA κ) = Qx
  have hn20 := hT.1
  obtain ⟨hO, hP, ⟨cols, key, f0, f1, f2, S, hA⟩, hLK, hl0, hl1, ⟨k2, es2, hl2⟩, hS, hCo, hPr⟩ := id hR
  have lp : ∀ (fu k : Nat) (G3 : zH) (iK3 sm3 ky3 : Nat → Int32) (q8 q9 : Option Value), k + fu = n → RC κ G3 B n c d w ln fo nt ar rb kl ep kp kb iK3 sm3 ky3 → CH ar n kl kp kb iK3 sm3 ky3 → zFP isLk G G3 → Z p l e rX7_rivalsOf s m args below meth cC yX7_rivalsOf cX7_rivalsOf 10 (some FieldType.int) κ Qx 0 0 G3 [some (.ref (B 0 0)), some (.ref (B 15 a)), some (.ref (B 15 b)), some (.int mg), some (.int q), some (.int (D b + mg)), some (.int (sDbt ar D a b q (D b + mg) k)), some (.int (nI k)), q8, q9] 19 [] := by
    intro fu
    induction fu with
    | zero =>
      intro k G3 iK3 sm3 ky3 q8 q9 hkk hR3 hC3 hF3
      obtain ⟨hO, hP, hA, hLK, hl0, -, -, hS, hCo, hPr⟩ := id hR3
      obtain ⟨mc0, ea0, hm0, -⟩ := id hl0
      refine z_il7 (pc := 19) dX7_rivalsOf_19 ?_
      refine z_al0 (pc := 21) dX7_rivalsOf_21 ?_
      refine z_get (pc := 22) 3 hO rfl iw_X7 (by decide) kw_121 rfl dX7_rivalsOf_22 ?_
      refine z_callVr (pc := 25) (c_jSize l 0 (B 13 0) 29 n hl0) hm0 rfl rfl kw_153 zc_Jx4a65c_size_8abf5 (by decide) (by decide) rfl (Nat.le_of_ble_eq_true rfl) dX7_rivalsOf_25 ?_
      refine z_icmp_ge (pc := 28) 106 dX7_rivalsOf_28 rfl (fun c28 => ?_) (fun c28 => absurd (by rw [nI_leI (by omega) (by omega)]; omega) c28)
      refine z_il6 (pc := 106) dX7_rivalsOf_106 ?_
      rw [← hQx]
      refine z_iret (pc := 108) rfl (by decide) dX7_rivalsOf_108 (⟨_, rfl, (by rw [show n = k by omega]), iK3, sm3, ky3, hR3, hC3, hF3⟩)
    | succ fu ih =>
      intro k G3 iK3 sm3 ky3 q8 q9 hkk hR3 hC3 hF3
      obtain ⟨hO, hP, hA, hLK, hl0, -, -, hS, hCo, hPr⟩ := id hR3
      obtain ⟨mc0, ea0, hm0, -⟩ := id hl0
      have hkn : k < n := by omega
      have hinj : some (B 15 k) = some (B 15 b) → k = b := fun e => by
        injection e with e
        have h1 := (hS k hkn).1
        have h2 := (hS b hb).1
        rw [e] at h1
        exact rl_inj h1 h2
      refine z_il7 (pc := 19) dX7_rivalsOf_19 ?_
      refine z_al0 (pc := 21) dX7_rivalsOf_21 ?_
      refine z_get (pc := 22) 3 hO rfl iw_X7 (by decide) kw_121 rfl dX7_rivalsOf_22 ?_
      refine z_callVr (pc := 25) (c_jSize l 0 (B 13 0) 29 n hl0) hm0 rfl rfl kw_153 zc_Jx4a65c_size_8abf5 (by decide) (by decide) rfl (Nat.le_of_ble_eq_true rfl) dX7_rivalsOf_25 ?_
      refine z_icmp_ge (pc := 28) 106 dX7_rivalsOf_28 rfl (fun c28 => absurd c28 (by rw [nI_leI (by omega) (by omega)]; omega)) (fun c28 => ?_)
      refine z_al0 (pc := 31) dX7_rivalsOf_31 ?_
      refine z_get (pc := 32) 3 hO rfl iw_X7 (by decide) kw_121 rfl dX7_rivalsOf_32 ?_
      refine z_il7 (pc := 35) dX7_rivalsOf_35 ?_
      skip
      refine z_callVrq (pc := 37) (c_jGet l 0 (B 13 0) 29 n k hl0 hkn (by omega)) hm0 rfl rfl kw_295 zc_Jx4a65c_get_915e3 (by decide) (by decide) rfl (Nat.le_of_ble_eq_true rfl) dX7_rivalsOf_37 ?_
      refine z_castS (pc := 40) (hS k hkn).1 rfl kw_166 dX7_rivalsOf_40 ?_
      refine z_as8 (pc := 43) dX7_rivalsOf_43 (by decide) ?_
      refine z_al8 (pc := 45) dX7_rivalsOf_45 ?_
      refine z_al2 (pc := 47) dX7_rivalsOf_47 ?_
      refine z_acmp_eq (pc := 48) 74 dX7_rivalsOf_48 rfl (show _ = va_rf (some _) from rfl) (show _ = va_rf (some _) from rfl) (fun c48 => ?_) (fun c48 => ?_)
      · refine z_iconst (pc := 74) (0) (by decide) dX7_rivalsOf_74 ?_
        refine z_is9 (pc := 75) dX7_rivalsOf_75 (by decide) ?_
        refine z_il9 (pc := 77) dX7_rivalsOf_77 ?_
        refine z_if_eq (pc := 79) 100 dX7_rivalsOf_79 rfl (fun _ => ?_) (fun h => absurd (by decide) h)
        refine z_ii7 (pc := 100) (nI (k + 1)) dX7_rivalsOf_100 (nI_1 _) (by decide) ?_
        refine z_goto (pc := 103) 19 dX7_rivalsOf_103 rfl ?_
        refine z_L (L' := [some (.ref (B 0 0)), some (.ref (B 15 a)), some (.ref (B 15 b)), some (.int mg), some (.int q), some (.int (D b + mg)), some (.int (sDbt ar D a b q (D b + mg) (k + 1))), some (.int (nI (k + 1))), _, _]) (by rw [sDbt_s, zb_f (fun h => h.1 (hinj c48))]; rw [Int32.add_zero]) ?_
        exact ih (k + 1) G3 iK3 sm3 ky3 _ _ (by omega) hR3 hC3 hF3
      · refine z_al8 (pc := 51) dX7_rivalsOf_51 ?_
        refine z_al1 (pc := 53) dX7_rivalsOf_53 ?_
        refine z_callVr (pc := 54) (c_sEarlier l k a (hS k hkn).1 (hS a ha).1) (hS k hkn).1 rfl rfl kw_588 zc_X5_isEarlierThan (by decide) (by decide) rfl (Nat.le_of_ble_eq_true rfl) dX7_rivalsOf_54 ?_
        refine z_ifz_eq (pc := 57) 74 dX7_rivalsOf_57 rfl (fun c57 => ?_) (fun c57 => ?_)
        · refine z_iconst (pc := 74) (0) (by decide) dX7_rivalsOf_74 ?_
          refine z_is9 (pc := 75) dX7_rivalsOf_75 (by decide) ?_
          refine z_il9 (pc := 77) dX7_rivalsOf_77 ?_
          refine z_if_eq (pc := 79) 100 dX7_rivalsOf_79 rfl (fun _ => ?_) (fun h => absurd (by decide) h)
          refine z_ii7 (pc := 100) (nI (k + 1)) dX7_rivalsOf_100 (nI_1 _) (by decide) ?_
          refine z_goto (pc := 103) 19 dX7_rivalsOf_103 rfl ?_
          refine z_L (L' := [some (.ref (B 0 0)), some (.ref (B 15 a)), some (.ref (B 15 b)), some (.int mg), some (.int q), some (.int (D b + mg)), some (.int (sDbt ar D a b q (D b + mg) (k + 1))), some (.int (nI (k + 1))), _, _]) (by rw [sDbt_s, zb_f (fun h => c57 h.2.2.1)]; rw [Int32.add_zero]) ?_
          exact ih (k + 1) G3 iK3 sm3 ky3 _ _ (by omega) hR3 hC3 hF3
        · refine z_al8 (pc := 60) dX7_rivalsOf_60 ?_
          refine z_il4 (pc := 62) dX7_rivalsOf_62 ?_
          refine z_callVr (pc := 64) (c_sForged l k q (hS k hkn).1) (hS k hkn).1 rfl rfl kw_377 zc_X5_isForgedBy (by decide) (by decide) rfl (Nat.le_of_ble_eq_true rfl) dX7_rivalsOf_64 ?_
          refine z_ifz_ne (pc := 67) 74 dX7_rivalsOf_67 rfl (fun c67 => ?_) (fun c67 => ?_)
          · refine z_iconst (pc := 74) (0) (by decide) dX7_rivalsOf_74 ?_
            refine z_is9 (pc := 75) dX7_rivalsOf_75 (by decide) ?_
            refine z_il9 (pc := 77) dX7_rivalsOf_77 ?_
            refine z_if_eq (pc := 79) 100 dX7_rivalsOf_79 rfl (fun _ => ?_) (fun h => absurd (by decide) h)
            refine z_ii7 (pc := 100) (nI (k + 1)) dX7_rivalsOf_100 (nI_1 _) (by decide) ?_
            refine z_goto (pc := 103) 19 dX7_rivalsOf_103 rfl ?_
            refine z_L (L' := [some (.ref (B 0 0)), some (.ref (B 15 a)), some (.ref (B 15 b)), some (.int mg), some (.int q), some (.int (D b + mg)), some (.int (sDbt ar D a b q (D b + mg) (k + 1))), some (.int (nI (k + 1))), _, _]) (by rw [sDbt_s, zb_f (fun h => h.2.2.2.1 c67)]; rw [Int32.add_zero]) ?_
            exact ih (k + 1) G3 iK3 sm3 ky3 _ _ (by omega) hR3 hC3 hF3
          · refine z_iconst (pc := 70) (1) (by decide) dX7_rivalsOf_70 ?_
            refine z_goto (pc := 71) 75 dX7_rivalsOf_71 rfl ?_
            refine z_is9 (pc := 75) dX7_rivalsOf_75 (by decide) ?_
            refine z_il9 (pc := 77) dX7_rivalsOf_77 ?_
            refine z_if_eq (pc := 79) 100 dX7_rivalsOf_79 rfl (fun h => absurd h (by decide)) (fun _ => ?_)
            refine z_al0 (pc := 82) dX7_rivalsOf_82 ?_
            refine z_get (pc := 83) 2 hO rfl iw_X7 (by decide) kw_120 rfl dX7_rivalsOf_83 ?_
            refine z_al1 (pc := 86) dX7_rivalsOf_86 ?_
            refine z_al8 (pc := 87) dX7_rivalsOf_87 ?_
            refine z_callVi (pc := 89) _ (c_Apart l a k hR3 hT hK hC3 ha hkn) rfl hLK.1 rfl rfl kw_461 zc_X2_apart (by decide) rfl (Nat.le_of_ble_eq_true rfl) dX7_rivalsOf_89 (fun v G4 hv => ?_)
            obtain ⟨hr, iK4, sm4, ky4, hR4, hC4, hF4⟩ := hv
            rw [hD k hkn] at hr
            refine z_il5 (pc := 92) dX7_rivalsOf_92 ?_
            refine z_icmp_gt (pc := 94) 100 dX7_rivalsOf_94 rfl (fun c94 => ?_) (fun c94 => ?_)
            · refine z_ii7 (pc := 100) (nI (k + 1)) dX7_rivalsOf_100 (nI_1 _) (by decide) ?_
              refine z_goto (pc := 103) 19 dX7_rivalsOf_103 rfl ?_
              refine z_L (L' := [some (.ref (B 0 0)), some (.ref (B 15 a)), some (.ref (B 15 b)), some (.int mg), some (.int q), some (.int (D b + mg)), some (.int (sDbt ar D a b q (D b + mg) (k + 1))), some (.int (nI (k + 1))), _, _]) (by rw [sDbt_s, zb_f (fun h => absurd h.2.2.2.2 (Int32.not_le.mpr (hr ▸ c94)))]; rw [Int32.add_zero]) ?_
              exact ih (k + 1) G4 iK4 sm4 ky4 _ _ (by omega) hR4 hC4 (hF3.trans hF4)
            · refine z_ii6 (pc := 97) _ dX7_rivalsOf_97 rfl (by decide) ?_
              refine z_ii7 (pc := 100) (nI (k + 1)) dX7_rivalsOf_100 (nI_1 _) (by decide) ?_
              refine z_goto (pc := 103) 19 dX7_rivalsOf_103 rfl ?_
              refine z_L (L' := [some (.ref (B 0 0)), some (.ref (B 15 a)), some (.ref (B 15 b)), some (.int mg), some (.int q), some (.int (D b + mg)), some (.int (sDbt ar D a b q (D b + mg) (k + 1))), some (.int (nI (k + 1))), _, _]) (by rw [sDbt_s, zb_t ⟨fun e => c48 (by rw [e]), erl_no c57, c57, c67, hr ▸ Int32.not_lt.mp c94⟩]; rfl) ?_
              exact ih (k + 1) G4 iK4 sm4 ky4 _ _ (by omega) hR4 hC4 (hF3.trans hF4)
  refine z_al0 (pc := 0) dX7_rivalsOf_0 ?_
  refine z_get (pc := 1) 2 hO rfl iw_X7 (by decide) kw_120 rfl dX7_rivalsOf_1 ?_
  refine z_al1 (pc := 4) dX7_rivalsOf_4 ?_
  refine z_al2 (pc := 5) dX7_rivalsOf_5 ?_
  refine z_callVi (pc := 6) _ (c_Apart l a b hR hT hK hC ha hb) rfl hLK.1 rfl rfl kw_461 zc_X2_apart (by decide) rfl (Nat.le_of_ble_eq_true rfl) dX7_rivalsOf_6 (fun v G4 hv => ?_)
  obtain ⟨hr, iK4, sm4, ky4, hR4, hC4, hF4⟩ := hv
  rw [hD b hb] at hr
  subst hr
  refine z_il3 (pc := 9) dX7_rivalsOf_9 ?_
  refine z_iadd (pc := 10) dX7_rivalsOf_10 ?_
  refine z_is5 (pc := 11) dX7_rivalsOf_11 (by decide) ?_
  refine z_iconst (pc := 13) (0) (by decide) dX7_rivalsOf_13 ?_
  refine z_is6 (pc := 14) dX7_rivalsOf_14 (by decide) ?_
  refine z_iconst (pc := 16) (0) (by decide) dX7_rivalsOf_16 ?_
  refine z_is7 (pc := 17) dX7_rivalsOf_17 (by decide) ?_
  refine z_L (L' := [some (.ref (B 0 0)), some (.ref (B 15 a)), some (.ref (B 15 b)), some (.int mg), some (.int q), some (.int (D b + mg)), some (.int (sDbt ar D a b q (D b + mg) 0)), some (.int (nI 0)), none, none]) rfl ?_
  exact lp n 0 G4 iK4 sm4 ky4 none none (by omega) hR4 hC4 hF4
abbrev rX7_doubt : Room := rmK 6 0 0 142
set_option maxRecDepth 100000 in
set_option maxHeartbeats 400000 in
theorem c_hDoubt (l : Launch) {κ : zK} {G : zH} {B : Nat → Nat → Nat} {n c d w : Nat} {ln kl ep : Nat → Nat} {fo nt : Int32} {ar : Nat → Nat → Int32} {rb : Nat → Int32} {kp kb : Nat → Nat → Int32} {iK sm ky : Nat → Int32} (a0 mg q : Int32) (D : Nat → Int32) (hR : RC κ G B n c d w ln fo nt ar rb kl ep kp kb iK sm ky) (hT : TD n c d w ln fo nt ar rb) (hK : KN ar n c ln kl ep kp kb) (hC : CH ar n kl kp kb iK sm ky) (hDD : ∀ k, k < n → sD ar c ln q (iN a0) k = D k) : Ct l yX7_doubt cX7_doubt 6 (some FieldType.int) rX7_doubt κ [.ref (B 0 0), .int a0, .int mg, .int q] G (pI (fun r G2 => r = (if okA n w ar a0 q ∧ 0 ≤ mg ∧ mg ≤ 10000 then dbR ar D (iN a0) q mg n (csM ar D (iN a0) q n).1 else -1) ∧ HQ κ G G2 B n c d w ln fo nt ar rb)) := by
  refine Ct.of (by decide +kernel) (fun v hv => by
    simp only [List.mem_cons, List.mem_nil_iff, or_false, List.not_mem_nil] at hv
    rcases hv with rfl | rfl | rfl | rfl <;> rfl) (Nat.le_of_ble_eq_true rfl) ?_
  intro p e s m args below meth cC
  refine z_L (L' := [some (.ref (B 0 0)), some (.int a0), some (.int mg), some (.int q), none, none]) rfl ?_
  generalize hQx : MQ below (zQc κ _) args s _ _ (zA κ) = Qx
  have hn20 := hT.1
  obtain ⟨hO, hP, ⟨cols, key, f0, f1, f2, S, hA⟩, hLK, hl0, hl1, ⟨k2, es2, hl2⟩, hS, hCo, hPr⟩ := id hR
  by_cases hk : okA n w ar a0 q
  · skip
    have hla := iN_lt hk.1 (show n < 2 ^ 31 by omega)
    by_cases hm : 0 ≤ mg ∧ mg ≤ 10000
    · skip
      rcases hb : (csM ar D (iN a0) q n).1 with _ | b
      · refine z_al0 (pc := 0) dX7_doubt_0 ?_
        refine z_il1 (pc := 1) dX7_doubt_1 ?_
        refine z_il3 (pc := 2) dX7_doubt_2 ?_
        refine z_callVrq (pc := 3) (c_ftY l a0 q hR hn20 hk) hO rfl rfl kw_555 zc_X7_findTrue (by decide) (by decide) rfl (Nat.le_of_ble_eq_true rfl) dX7_doubt_3 ?_
        refine z_as4 (pc := 6) dX7_doubt_6 (by decide) ?_
        refine z_al4 (pc := 8) dX7_doubt_8 ?_
        refine z_ifnullR (pc := 10) dX7_doubt_10 ?_
        refine z_il2 (pc := 13) dX7_doubt_13 ?_
        refine z_sipush (pc := 14) (10000) (by decide) dX7_doubt_14 ?_
        refine z_callSr (pc := 17) (c_isWithin l mg 10000) kw_160 zc_X7_isWithin (by decide) (by decide) rfl (Nat.le_of_ble_eq_true rfl) dX7_doubt_17 ?_
        refine z_ifz_ne (pc := 20) 25 dX7_doubt_20 rfl (fun c20 => ?_) (fun c20 => absurd (hm) c20)
        refine z_al0 (pc := 25) dX7_doubt_25 ?_
        refine z_il3 (pc := 26) dX7_doubt_26 ?_
        refine z_callVv (pc := 27) _ (c_hTurn l q hR hT hK hC) rfl hO rfl rfl kw_437 zc_X7_turnTo (by decide) rfl (Nat.le_of_ble_eq_true rfl) dX7_doubt_27 (fun G2 hv => ?_)
        obtain ⟨kl2, ep2, kp2, kb2, iK2, hR2, hK2, hC2, hq2, hF2⟩ := hv
        have hDa : ∀ k, k < n → (KD ar kl2 kp2 kb2 (iN a0) k).1 = D k := fun k hk => by
          rw [KDq hK2 hT hq2 hla hk]; exact hDD k hk
        obtain ⟨hO2, hP2, -, hLK2, -, -, -, hS2, -, -⟩ := id hR2
        clear hO
        have hO := hO2
        refine z_al0 (pc := 30) dX7_doubt_30 ?_
        refine z_al4 (pc := 31) dX7_doubt_31 ?_
        refine z_il3 (pc := 33) dX7_doubt_33 ?_
        refine z_callVa (pc := 34) _ (c_hSrcOf l (iN a0) q D hR2 hT hK2 hC2 hDa hla) rfl hO2 rfl rfl kw_580 zc_X7_sourceOf (by decide) rfl (Nat.le_of_ble_eq_true rfl) dX7_doubt_34 (fun v G3 hv => ?_)
        obtain ⟨hv1, iK4, sm4, ky4, hR4, hC4, hF4⟩ := hv
        replace hv1 : v = none := by rw [hv1, hb]; rfl
        subst hv1
        clear hO
        obtain ⟨hO, -⟩ := id hR4
        refine z_as5N (pc := 37) dX7_doubt_37 (by decide) ?_
        refine z_al5N (pc := 39) dX7_doubt_39 ?_
        refine z_ifnonnullN (pc := 41) dX7_doubt_41 ?_
        refine z_iconst (pc := 44) (0) (by decide) dX7_doubt_44 ?_
        refine z_goto (pc := 45) 58 dX7_doubt_45 rfl ?_
        rw [← hQx]
        refine z_iret (pc := 58) rfl (by decide) dX7_doubt_58 (⟨_, rfl, ((if_pos ⟨hk, hm⟩).trans (by rw [hb]; rfl)).symm, kl2, ep2, kp2, kb2, iK4, sm4, ky4, hR4, hK2, hC4, (tn_2 hF2).trans (lk_2 hF4)⟩)
      · skip
        have hbn : b < n := csM_lt ar D (iN a0) q hb
        refine z_al0 (pc := 0) dX7_doubt_0 ?_
        refine z_il1 (pc := 1) dX7_doubt_1 ?_
        refine z_il3 (pc := 2) dX7_doubt_2 ?_
        refine z_callVrq (pc := 3) (c_ftY l a0 q hR hn20 hk) hO rfl rfl kw_555 zc_X7_findTrue (by decide) (by decide) rfl (Nat.le_of_ble_eq_true rfl) dX7_doubt_3 ?_
        refine z_as4 (pc := 6) dX7_doubt_6 (by decide) ?_
        refine z_al4 (pc := 8) dX7_doubt_8 ?_
        refine z_ifnullR (pc := 10) dX7_doubt_10 ?_
        refine z_il2 (pc := 13) dX7_doubt_13 ?_
        refine z_sipush (pc := 14) (10000) (by decide) dX7_doubt_14 ?_
        refine z_callSr (pc := 17) (c_isWithin l mg 10000) kw_160 zc_X7_isWithin (by decide) (by decide) rfl (Nat.le_of_ble_eq_true rfl) dX7_doubt_17 ?_
        refine z_ifz_ne (pc := 20) 25 dX7_doubt_20 rfl (fun c20 => ?_) (fun c20 => absurd (hm) c20)
        refine z_al0 (pc := 25) dX7_doubt_25 ?_
        refine z_il3 (pc := 26) dX7_doubt_26 ?_
        refine z_callVv (pc := 27) _ (c_hTurn l q hR hT hK hC) rfl hO rfl rfl kw_437 zc_X7_turnTo (by decide) rfl (Nat.le_of_ble_eq_true rfl) dX7_doubt_27 (fun G2 hv => ?_)
        obtain ⟨kl2, ep2, kp2, kb2, iK2, hR2, hK2, hC2, hq2, hF2⟩ := hv
        have hDa : ∀ k, k < n → (KD ar kl2 kp2 kb2 (iN a0) k).1 = D k := fun k hk => by
          rw [KDq hK2 hT hq2 hla hk]; exact hDD k hk
        obtain ⟨hO2, hP2, -, hLK2, -, -, -, hS2, -, -⟩ := id hR2
        clear hO
        have hO := hO2
        refine z_al0 (pc := 30) dX7_doubt_30 ?_
        refine z_al4 (pc := 31) dX7_doubt_31 ?_
        refine z_il3 (pc := 33) dX7_doubt_33 ?_
        refine z_callVa (pc := 34) _ (c_hSrcOf l (iN a0) q D hR2 hT hK2 hC2 hDa hla) rfl hO2 rfl rfl kw_580 zc_X7_sourceOf (by decide) rfl (Nat.le_of_ble_eq_true rfl) dX7_doubt_34 (fun v G3 hv => ?_)
        obtain ⟨hv1, iK4, sm4, ky4, hR4, hC4, hF4⟩ := hv
        replace hv1 : v = some (B 15 b) := by rw [hv1, hb]; rfl
        subst hv1
        clear hO
        obtain ⟨hO, -⟩ := id hR4
        refine z_as5 (pc := 37) dX7_doubt_37 (by decide) ?_
        refine z_al5 (pc := 39) dX7_doubt_39 ?_
        refine z_ifnonnullR (pc := 41) 48 dX7_doubt_41 rfl ?_
        refine z_al0 (pc := 48) dX7_doubt_48 ?_
        refine z_al4 (pc := 49) dX7_doubt_49 ?_
        refine z_al5 (pc := 51) dX7_doubt_51 ?_
        refine z_il2 (pc := 53) dX7_doubt_53 ?_
        refine z_il3 (pc := 54) dX7_doubt_54 ?_
        refine z_callVi (pc := 55) _ (c_hRiv l (iN a0) b q mg D hR4 hT hK2 hC4 hDa hla hbn) rfl hO rfl rfl kw_608 zc_X7_rivalsOf (by decide) rfl (Nat.le_of_ble_eq_true rfl) dX7_doubt_55 (fun v G5 hv => ?_)
        obtain ⟨hr5, iK5, sm5, ky5, hR5, hC5, hF5⟩ := hv
        rw [← hQx]
        refine z_iret (pc := 58) rfl (by decide) dX7_doubt_58 (⟨_, rfl, hr5.trans ((if_pos ⟨hk, hm⟩).trans (by rw [hb]; rfl)).symm, kl2, ep2, kp2, kb2, iK5, sm5, ky5, hR5, hK2, hC5, ((tn_2 hF2).trans (lk_2 hF4)).trans (lk_2 hF5)⟩)
    · refine z_al0 (pc := 0) dX7_doubt_0 ?_
      refine z_il1 (pc := 1) dX7_doubt_1 ?_
      refine z_il3 (pc := 2) dX7_doubt_2 ?_
      refine z_callVrq (pc := 3) (c_ftY l a0 q hR hn20 hk) hO rfl rfl kw_555 zc_X7_findTrue (by decide) (by decide) rfl (Nat.le_of_ble_eq_true rfl) dX7_doubt_3 ?_
      refine z_as4 (pc := 6) dX7_doubt_6 (by decide) ?_
      refine z_al4 (pc := 8) dX7_doubt_8 ?_
      refine z_ifnullR (pc := 10) dX7_doubt_10 ?_
      refine z_il2 (pc := 13) dX7_doubt_13 ?_
      refine z_sipush (pc := 14) (10000) (by decide) dX7_doubt_14 ?_
      refine z_callSr (pc := 17) (c_isWithin l mg 10000) kw_160 zc_X7_isWithin (by decide) (by decide) rfl (Nat.le_of_ble_eq_true rfl) dX7_doubt_17 ?_
      refine z_ifz_ne (pc := 20) 25 dX7_doubt_20 rfl (fun c20 => absurd c20 (hm)) (fun c20 => ?_)
      refine z_iconst (pc := 23) (-1) (by decide) dX7_doubt_23 ?_
      rw [← hQx]
      refine z_iret (pc := 24) rfl (by decide) dX7_doubt_24 (⟨_, rfl, (if_neg (fun h => hm h.2)).symm, HQ.rf hR hT hK hC⟩)
  · refine z_al0 (pc := 0) dX7_doubt_0 ?_
    refine z_il1 (pc := 1) dX7_doubt_1 ?_
    refine z_il3 (pc := 2) dX7_doubt_2 ?_
    refine z_callVrq (pc := 3) (c_ftN l a0 q hR hn20 hk) hO rfl rfl kw_555 zc_X7_findTrue (by decide) (by decide) rfl (Nat.le_of_ble_eq_true rfl) dX7_doubt_3 ?_
    refine z_as4N (pc := 6) dX7_doubt_6 (by decide) ?_
    refine z_al4N (pc := 8) dX7_doubt_8 ?_
    refine z_ifnullN (pc := 10) 23 dX7_doubt_10 rfl ?_
    refine z_iconst (pc := 23) (-1) (by decide) dX7_doubt_23 ?_
    rw [← hQx]
    refine z_iret (pc := 24) rfl (by decide) dX7_doubt_24 (⟨_, rfl, (if_neg (fun h => hk h.1)).symm, HQ.rf hR hT hK hC⟩)
