/-! distances and keys kept -/
abbrev isLk (r : zR) : Prop := r.1 = 2 ∧ 3 ≤ r.2.1 ∧ r.2.1 ≤ 12
def zLK (κ : zK) (G : zH) (lk al b c d : Nat) (iK sm ky : Nat → Int32) : Prop := G lk = some ((2, 9, 0), .inr (3, [.ref al, .ref b, .ref c, .ref d])) ∧ G b = some ((2, 10, 0), .inl (κ.2.1 1, 400, .inl iK)) ∧ G c = some ((2, 11, 0), .inl (κ.2.1 0, 400, .inl sm)) ∧ G d = some ((2, 12, 0), .inl (κ.2.1 0, 400, .inl ky))
theorem zLK.keep {κ : zK} {G G2 : zH} {lk al b c d : Nat} {iK sm ky : Nat → Int32} {P : zR → Prop} (h : zLK κ G lk al b c d iK sm ky) (hF : zFP P G G2) (hp : ∀ k : Nat, 9 ≤ k ∧ k ≤ 12 → ¬ P (2, k, 0)) : zLK κ G2 lk al b c d iK sm ky :=
  ⟨hF.1 _ _ _ (hp 9 (by omega)) h.1, hF.1 _ _ _ (hp 10 (by omega)) h.2.1, hF.1 _ _ _ (hp 11 (by omega)) h.2.2.1, hF.1 _ _ _ (hp 12 (by omega)) h.2.2.2⟩
/-- a sheet: number, hand, year, words, known, told, amended, applied, forgedOn -/
abbrev zSH (G : zH) (t i : Nat) (ha ye wo : Int32) (kt tt am : Nat) (ap fg : Int32) : Prop := G t = some ((2, 15, i), .inr (6, [.int (nI i), .int ha, .int ye, .int wo, .ref kt, .ref tt, .ref am, .int ap, .int fg]))
def LKp (κ : zK) (G G2 : zH) (lk al b c d : Nat) (iK sm ky : Nat → Int32) (x cols : Nat) (key : Int32) (f0 f1 f2 : Nat → Int32) (p : Nat) (v1 v2 : Int32) : Prop := ∃ iK2 sm2 ky2 S2, zLK κ G2 lk al b c d iK2 sm2 ky2 ∧ zAL κ G2 al x cols key f0 f1 f2 S2 ∧ zFP isLk G G2 ∧ sm2 p = v1 ∧ ky2 p = v2 ∧ ∀ q, q ≠ p → iK2 q = iK q ∧ sm2 q = sm q ∧ ky2 q = ky q
theorem key_e : ∀ N : Nat, N < 25 → nI N - nI N / 2 * 2 = 0 → nI N / 2 = keyAt N := by decide +kernel
theorem key_o : ∀ N : Nat, N < 25 → ¬ nI N - nI N / 2 * 2 = 0 → -(nI N + 1) / 2 = keyAt N := by decide +kernel
/-- the class's row of keys: it starts at a bound that no sum comes to -/
def tlB (f : Nat → Int32) (k0 : Int32) : Nat → Int32 × Int32
  | 0 => (1000000, k0)
  | n + 1 => if f n < (tlB f k0 n).1 then (f n, keyAt n) else tlB f k0 n
theorem tlB_stop {f : Nat → Int32} {k0 : Int32} {N : Nat} (hf : ∀ n, n < 25 → 0 ≤ f n) (h : (tlB f k0 N).1 ≤ 0) : ∀ d, N + d ≤ 25 → tlB f k0 (N + d) = tlB f k0 N
  | 0, _ => rfl
  | d + 1, hd => by
    have e : tlB f k0 (N + d) = tlB f k0 N := tlB_stop hf h d (by omega)
    show (if f (N + d) < (tlB f k0 (N + d)).1 then (f (N + d), keyAt (N + d)) else tlB f k0 (N + d)) = _
    rw [e, if_neg]
    intro q
    have := hf (N + d) (by omega)
    simp only [i_lt, i_le, i_0] at *
    omega
abbrev rX2_learn : Room := rmK 2 0 0 64
set_option maxRecDepth 100000 in
set_option maxHeartbeats 400000 in
theorem c_kLearn (l : Launch) {κ : zK} {G : zH} {t u lk al b c d x kt ku tt tu am au : Nat} {cols : Nat} {key : Int32} {f0 f1 f2 iK sm ky : Nat → Int32} {S : Nat → Nat → Int32} {ha ye wo ap fg ha2 ye2 wo2 ap2 fg2 : Int32} {pr tp tb up ub : Nat → Int32} (i j j1 n j2 n2 : Nat) (v1 v2 : Int32) (hL : zLK κ G lk al b c d iK sm ky) (hA : zAL κ G al x cols key f0 f1 f2 S) (hP : zPR κ G x pr) (ht : zSH G t i ha ye wo kt tt am ap fg) (hu : zSH G u j ha2 ye2 wo2 ku tu au ap2 fg2) (hT : zTU κ G kt j1 n tp tb) (hU : zTU κ G ku j2 n2 up ub) (hi : i < 20) (hj : j < 20) (hv12 : ∀ k0, tlB (fun N => dp pr tp tb up ub (keyAt N) n n2) k0 25 = (v1, v2)) (hNN : ∀ N, N < 25 → 0 ≤ dp pr tp tb up ub (keyAt N) n n2) (hMo : ∀ (N : Nat) (bd : Int32), N < 25 → (∃ i, i ≤ n ∧ ∀ j, j ≤ n2 → bd ≤ dp pr tp tb up ub (keyAt N) i j) → bd ≤ dp pr tp tb up ub (keyAt N) n n2) (hC : ¬ iK (20 * i + j) = 0 → sm (20 * i + j) = v1 ∧ ky (20 * i + j) = v2) : Ct l yX2_learn cX2_learn 8 (some FieldType.int) rX2_learn κ [.ref lk, .ref t, .ref u] G (pI (fun r G2 => r = nI (20 * i + j) ∧ LKp κ G G2 lk al b c d iK sm ky x cols key f0 f1 f2 (20 * i + j) v1 v2)) := by
  refine Ct.of (by decide +kernel) (fun v hv => by
    simp only [List.mem_cons, List.mem_nil_iff, or_false, List.not_mem_nil] at hv
    rcases hv with rfl | rfl | rfl <;> rfl) (Nat.le_of_ble_eq_true rfl) ?_
  intro p e s m args below meth cC
  refine z_L (L' := [some (.ref lk), some (.ref t), some (.ref u), none, none, none, none, none]) rfl ?_
  generalize hQx : MQ below (zQc κ _) args s _ _ (zA κ) = Qx
  obtain ⟨hL1, hL2, hL3, hL4⟩ := hL
  have fin : ∀ (G2 : zH) (ky2 : Nat → Int32) (S2 : Nat → Nat → Int32) (ls : Int32) (q5 q6 q7 : Option Value), zLK κ G2 lk al b c d iK sm ky2 → zAL κ G2 al x cols key f0 f1 f2 S2 → zFP isLk G G2 → (∀ q, q ≠ 20 * i + j → ky2 q = ky q) → ls = v1 → ky2 (20 * i + j) = v2 → Z p l e rX2_learn s m args below meth cC yX2_learn cX2_learn 8 (some FieldType.int) κ Qx 0 0 G2 [some (.ref lk), some (.ref t), some (.ref u), some (.int (nI (20 * i + j))), some (.int ls), q5, q6, q7] 112 [] := by
    intro G2 ky2 S2 ls q5 q6 q7 hL hA hF hky hls hk2
    obtain ⟨hL1, hL2, hL3, hL4⟩ := hL
    refine z_al0 (pc := 112) dX2_learn_112 ?_
    refine z_get (pc := 113) 2 hL1 rfl iw_X2 (by decide) kw_80 rfl dX2_learn_113 ?_
    refine z_il3 (pc := 116) dX2_learn_116 ?_
    refine z_il4 (pc := 117) dX2_learn_117 ?_
    refine z_iastg (pc := 119) (20 * i + j) hL3 rfl (by omega) (by omega) dX2_learn_119 (fun G5 h5x hF5 => ?_)
    replace hL1 := hF5.1 _ _ _ (fun h => by cases h) hL1
    replace hL2 := hF5.1 _ _ _ (fun h => by cases h) hL2
    replace hL4 := hF5.1 _ _ _ (fun h => by cases h) hL4
    refine z_al0 (pc := 120) dX2_learn_120 ?_
    refine z_get (pc := 121) 1 hL1 rfl iw_X2 (by decide) kw_79 rfl dX2_learn_121 ?_
    refine z_il3 (pc := 124) dX2_learn_124 ?_
    refine z_iconst (pc := 125) (1) (by decide) dX2_learn_125 ?_
    refine z_zastg (pc := 126) (20 * i + j) hL2 rfl (by omega) (by omega) dX2_learn_126 (fun G6 h6x hF6 => ?_)
    replace hL1 := hF6.1 _ _ _ (fun h => by cases h) hL1
    replace hL4 := hF6.1 _ _ _ (fun h => by cases h) hL4
    refine z_il3 (pc := 127) dX2_learn_127 ?_
    rw [← hQx]
    refine z_iret (pc := 128) rfl (by decide) dX2_learn_128 (⟨_, rfl, rfl, _, _, _, S2, ⟨hL1, h6x, hF6.1 _ _ _ (fun h => by cases h) h5x, hL4⟩, (hA.keep hF5 (fun k j h q => by cases q; omega)).keep hF6 (fun k j h q => by cases q; omega), (hF.trans (hF5.mono (fun r h => by rw [h]; exact ⟨rfl, by decide, by decide⟩))).trans (hF6.mono (fun r h => by rw [h]; exact ⟨rfl, by decide, by decide⟩)), upd_s.trans hls, hk2, fun q hq => ⟨upd_n hq, upd_n hq, hky q hq⟩⟩)
  have lp : ∀ (fu N : Nat) (G2 : zH) (ky2 : Nat → Int32) (S2 : Nat → Nat → Int32) (ls : Int32) (q6 q7 : Option Value), N + fu = 25 → zLK κ G2 lk al b c d iK sm ky2 → zAL κ G2 al x cols key f0 f1 f2 S2 → zPR κ G2 x pr → zSH G2 t i ha ye wo kt tt am ap fg → zSH G2 u j ha2 ye2 wo2 ku tu au ap2 fg2 → zTU κ G2 kt j1 n tp tb → zTU κ G2 ku j2 n2 up ub → zFP isLk G G2 → (∀ q, q ≠ 20 * i + j → ky2 q = ky q) → (ls, ky2 (20 * i + j)) = tlB (fun N => dp pr tp tb up ub (keyAt N) n n2) (ky (20 * i + j)) N → Z p l e rX2_learn s m args below meth cC yX2_learn cX2_learn 8 (some FieldType.int) κ Qx 0 0 G2 [some (.ref lk), some (.ref t), some (.ref u), some (.int (nI (20 * i + j))), some (.int ls), some (.int (nI N)), q6, q7] 31 [] := by
    intro fu
    induction fu with
    | zero =>
      intro N G2 ky2 S2 ls q6 q7 hN hL hA hP ht hu hT hU hF hky htl
      obtain ⟨hL1, hL2, hL3, hL4⟩ := id hL
      obtain ⟨sa, o1, o2, o3, rw_, hG, -⟩ := id hA
      have htl1 : ls = (tlB (fun N => dp pr tp tb up ub (keyAt N) n n2) (ky (20 * i + j)) N).1 := congrArg Prod.fst htl
      have htl2 : ky2 (20 * i + j) = (tlB (fun N => dp pr tp tb up ub (keyAt N) n n2) (ky (20 * i + j)) N).2 := congrArg Prod.snd htl
      refine z_il5 (pc := 31) dX2_learn_31 ?_
      refine z_bipush (pc := 33) (24) (by decide) dX2_learn_33 ?_
      refine z_icmp_gt (pc := 35) 112 dX2_learn_35 rfl (fun c35 => ?_) (fun c35 => absurd (show nI 24 < nI N from by rw [nI_ltI (by omega) (by omega)]; omega) c35)
      exact fin G2 ky2 S2 ls _ _ _ hL hA hF hky (by rw [htl1, show N = 25 by omega, hv12]) (by rw [htl2, show N = 25 by omega, hv12])
    | succ fu ih =>
      intro N G2 ky2 S2 ls q6 q7 hN hL hA hP ht hu hT hU hF hky htl
      obtain ⟨hL1, hL2, hL3, hL4⟩ := id hL
      obtain ⟨sa, o1, o2, o3, rw_, hG, -⟩ := id hA
      have htl1 : ls = (tlB (fun N => dp pr tp tb up ub (keyAt N) n n2) (ky (20 * i + j)) N).1 := congrArg Prod.fst htl
      have htl2 : ky2 (20 * i + j) = (tlB (fun N => dp pr tp tb up ub (keyAt N) n n2) (ky (20 * i + j)) N).2 := congrArg Prod.snd htl
      refine z_il5 (pc := 31) dX2_learn_31 ?_
      refine z_bipush (pc := 33) (24) (by decide) dX2_learn_33 ?_
      refine z_icmp_gt (pc := 35) 112 dX2_learn_35 rfl (fun c35 => absurd c35 (show ¬ nI 24 < nI N from by rw [nI_ltI (by omega) (by omega)]; omega)) (fun c35 => ?_)
      refine z_il4 (pc := 38) dX2_learn_38 ?_
      refine z_if_le (pc := 40) 112 dX2_learn_40 rfl (fun c40 => ?_) (fun c40 => ?_)
      · exact fin G2 ky2 S2 ls _ _ _ hL hA hF hky (by rw [htl1, ← tlB_stop (fun n hn => hNN n hn) (by rw [← htl1]; exact c40) (25 - N) (by omega), show N + (25 - N) = 25 by omega, hv12]) (by rw [htl2, ← tlB_stop (fun n hn => hNN n hn) (by rw [← htl1]; exact c40) (25 - N) (by omega), show N + (25 - N) = 25 by omega, hv12])
      · refine z_il5 (pc := 43) dX2_learn_43 ?_
        refine z_iconst (pc := 45) (2) (by decide) dX2_learn_45 ?_
        refine z_irem (pc := 46) (by decide) dX2_learn_46 ?_
        refine z_dia (pcj := 64) (P := (fun v => v = keyAt N)) (st := []) (fun ke hke => ?_) (fun hj47 => ?_)
        · skip
          subst hke
          refine z_is6 (pc := 64) dX2_learn_64 (by decide) ?_
          refine z_al0 (pc := 66) dX2_learn_66 ?_
          refine z_get (pc := 67) 0 hL1 rfl iw_X2 (by decide) kw_78 rfl dX2_learn_67 ?_
          refine z_al1 (pc := 70) dX2_learn_70 ?_
          refine z_get (pc := 71) 4 ht rfl iw_X5 (by decide) kw_204 rfl dX2_learn_71 ?_
          refine z_al2 (pc := 74) dX2_learn_74 ?_
          refine z_get (pc := 75) 4 hu rfl iw_X5 (by decide) kw_204 rfl dX2_learn_75 ?_
          refine z_il6 (pc := 78) dX2_learn_78 ?_
          refine z_il4 (pc := 80) dX2_learn_80 ?_
          refine z_callVi (pc := 82) _ (c_aLeast l j1 n (keyAt N) ls hA hP hT hU) rfl hG rfl rfl kw_470 zc_X0_leastSum (by decide) rfl (Nat.le_of_ble_eq_true rfl) dX2_learn_82 (fun v G3 hv => ?_)
          obtain ⟨S3, hA3, hF3, hv⟩ := hv
          have hr : (v < ls → dp pr tp tb up ub (keyAt N) n n2 < ls ∧ v = dp pr tp tb up ub (keyAt N) n n2) ∧ (¬ v < ls → ¬ dp pr tp tb up ub (keyAt N) n n2 < ls) := by
            rcases hv with ⟨rfl, -⟩ | ⟨rfl, hx⟩
            · exact ⟨fun h => ⟨h, rfl⟩, id⟩
            · exact ⟨fun h => (Int32.lt_irrefl h).elim, fun _ => Int32.not_lt.mpr (hMo N _ (by omega) hx)⟩
          have hLk3 : zFP isLk G2 G3 := (hF3.mono (fun r h => ⟨h.1, by omega, by omega⟩))
          replace hL := hL.keep hF3 (fun k h q => by simp [isSum] at q <;> omega)
          replace hP := hP.keep hF3 (fun q => by simp [isSum] at q <;> omega) (fun q => by simp [isSum] at q <;> omega)
          replace ht := hF3.1 _ _ _ (fun q => by simp [isSum] at q <;> omega) ht
          replace hu := hF3.1 _ _ _ (fun q => by simp [isSum] at q <;> omega) hu
          replace hT := hT.keep hF3 (fun r h q => by rcases h with rfl | rfl | rfl <;> simp [isSum] at q)
          replace hU := hU.keep hF3 (fun r h q => by rcases h with rfl | rfl | rfl <;> simp [isSum] at q)
          replace hF := hF.trans hLk3
          clear hL1 hL2 hL3 hL4
          obtain ⟨hL1, hL2, hL3, hL4⟩ := id hL
          refine z_is7 (pc := 85) dX2_learn_85 (by decide) ?_
          refine z_il7 (pc := 87) dX2_learn_87 ?_
          refine z_il4 (pc := 89) dX2_learn_89 ?_
          refine z_icmp_ge (pc := 91) 106 dX2_learn_91 rfl (fun c91 => ?_) (fun c91 => ?_)
          · refine z_ii5 (pc := 106) (nI (N + 1)) dX2_learn_106 (nI_1 _) (by decide) ?_
            refine z_goto (pc := 109) 31 dX2_learn_109 rfl ?_
            refine z_L rfl ?_
            exact ih (N + 1) G3 ky2 S3 ls _ _ (by omega) hL hA3 hP ht hu hT hU hF hky (by
              show _ = if _ then _ else _
              rw [← htl1, if_neg (hr.2 (Int32.not_lt.mpr c91))]; exact htl)
          · refine z_il7 (pc := 94) dX2_learn_94 ?_
            refine z_is4 (pc := 96) dX2_learn_96 (by decide) ?_
            refine z_al0 (pc := 98) dX2_learn_98 ?_
            refine z_get (pc := 99) 3 hL1 rfl iw_X2 (by decide) kw_81 rfl dX2_learn_99 ?_
            refine z_il3 (pc := 102) dX2_learn_102 ?_
            refine z_il6 (pc := 103) dX2_learn_103 ?_
            refine z_iastg (pc := 105) (20 * i + j) hL4 rfl (by omega) (by omega) dX2_learn_105 (fun G4 h4x hF4 => ?_)
            refine z_ii5 (pc := 106) (nI (N + 1)) dX2_learn_106 (nI_1 _) (by decide) ?_
            refine z_goto (pc := 109) 31 dX2_learn_109 rfl ?_
            have e4 := hr.1 (Int32.not_le.mp c91)
            refine z_L rfl ?_
            exact ih (N + 1) G4 _ S3 v _ _ (by omega) ⟨hF4.1 _ _ _ (fun h => by cases h) hL1, hF4.1 _ _ _ (fun h => by cases h) hL2, hF4.1 _ _ _ (fun h => by cases h) hL3, h4x⟩ (hA3.keep hF4 (fun k j h q => by cases q; omega)) (hP.keep hF4 (fun h => by cases h) (fun h => by cases h)) (hF4.1 _ _ _ (fun h => by cases h) ht) (hF4.1 _ _ _ (fun h => by cases h) hu) (hT.keep hF4 (fun r h q => by rcases h with rfl | rfl | rfl <;> cases q)) (hU.keep hF4 (fun r h q => by rcases h with rfl | rfl | rfl <;> cases q)) (hF.trans (hF4.mono (fun r h => by rw [h]; exact ⟨rfl, by decide, by decide⟩))) (fun q hq => (upd_n hq).trans (hky q hq)) (by
              show _ = if _ then _ else _
              rw [← htl1, if_pos e4.1, upd_s, e4.2])
        · skip
          refine z_if_ne (pc := 47) 57 dX2_learn_47 rfl (fun c47 => ?_) (fun c47 => ?_)
          · refine z_il5 (pc := 57) dX2_learn_57 ?_
            refine z_iconst (pc := 59) (1) (by decide) dX2_learn_59 ?_
            refine z_iadd (pc := 60) dX2_learn_60 ?_
            refine z_ineg (pc := 61) dX2_learn_61 ?_
            refine z_iconst (pc := 62) (2) (by decide) dX2_learn_62 ?_
            refine z_idiv (pc := 63) (by decide) dX2_learn_63 ?_
            exact hj47 _ (by first | exact key_e N (by omega) c47 | exact key_o N (by omega) c47)
          · refine z_il5 (pc := 50) dX2_learn_50 ?_
            refine z_iconst (pc := 52) (2) (by decide) dX2_learn_52 ?_
            refine z_idiv (pc := 53) (by decide) dX2_learn_53 ?_
            refine z_goto (pc := 54) 64 dX2_learn_54 rfl ?_
            exact hj47 _ (by first | exact key_e N (by omega) c47 | exact key_o N (by omega) c47)
  refine z_al1 (pc := 0) dX2_learn_0 ?_
  refine z_get (pc := 1) 0 ht rfl iw_X5 (by decide) kw_194 rfl dX2_learn_1 ?_
  refine z_bipush (pc := 4) (20) (by decide) dX2_learn_4 ?_
  refine z_imul (pc := 6) dX2_learn_6 ?_
  refine z_al2 (pc := 7) dX2_learn_7 ?_
  refine z_get (pc := 8) 0 hu rfl iw_X5 (by decide) kw_194 rfl dX2_learn_8 ?_
  refine z_iadd (pc := 11) dX2_learn_11 ?_
  rw [show nI i * 20 + nI j = nI (20 * i + j) from by rw [show (20 : Int32) = nI 20 from rfl, Int32.mul_comm]; exact ix20 _ _]
  refine z_is3 (pc := 12) dX2_learn_12 (by decide) ?_
  refine z_al0 (pc := 13) dX2_learn_13 ?_
  refine z_get (pc := 14) 1 hL1 rfl iw_X2 (by decide) kw_79 rfl dX2_learn_14 ?_
  refine z_il3 (pc := 17) dX2_learn_17 ?_
  refine z_zald (pc := 18) (20 * i + j) hL2 rfl (by omega) (by omega) dX2_learn_18 ?_
  refine z_if_eq (pc := 19) 24 dX2_learn_19 rfl (fun c19 => ?_) (fun c19 => ?_)
  · refine z_ldc (pc := 24) kw_469 dX2_learn_24 ?_
    refine z_is4 (pc := 26) dX2_learn_26 (by decide) ?_
    refine z_iconst (pc := 28) (0) (by decide) dX2_learn_28 ?_
    refine z_is5 (pc := 29) dX2_learn_29 (by decide) ?_
    refine z_L (L' := [some (.ref lk), some (.ref t), some (.ref u), some (.int (nI (20 * i + j))), some (.int 1000000), some (.int (nI 0)), none, none]) rfl ?_
    exact lp 25 0 G ky S _ _ _ (by omega) ⟨hL1, hL2, hL3, hL4⟩ hA hP ht hu hT hU zFP.rf (fun q _ => rfl) rfl
  · refine z_il3 (pc := 22) dX2_learn_22 ?_
    rw [← hQx]
    refine z_iret (pc := 23) rfl (by decide) dX2_learn_23 (⟨_, rfl, rfl, iK, sm, ky, S, ⟨hL1, hL2, hL3, hL4⟩, hA, zFP.rf, (hC c19).1, (hC c19).2, fun q _ => ⟨rfl, rfl, rfl⟩⟩)
abbrev rX2_apart : Room := rmK 3 0 0 91
set_option maxRecDepth 100000 in
set_option maxHeartbeats 400000 in
theorem c_kApartLe (l : Launch) {κ : zK} {G : zH} {t u lk al b c d x kt ku tt tu am au : Nat} {cols : Nat} {key : Int32} {f0 f1 f2 iK sm ky : Nat → Int32} {S : Nat → Nat → Int32} {ha ye wo ap fg ha2 ye2 wo2 ap2 fg2 : Int32} {pr tp tb up ub : Nat → Int32} (i j j1 n j2 n2 : Nat) (v1 v2 : Int32) (hL : zLK κ G lk al b c d iK sm ky) (hA : zAL κ G al x cols key f0 f1 f2 S) (hP : zPR κ G x pr) (ht : zSH G t i ha ye wo kt tt am ap fg) (hu : zSH G u j ha2 ye2 wo2 ku tu au ap2 fg2) (hT : zTU κ G kt j1 n tp tb) (hU : zTU κ G ku j2 n2 up ub) (hi : i < 20) (hj : j < 20) (hv12 : ∀ k0, tlB (fun N => dp pr tp tb up ub (keyAt N) n n2) k0 25 = (v1, v2)) (hNN : ∀ N, N < 25 → 0 ≤ dp pr tp tb up ub (keyAt N) n n2) (hMo : ∀ (N : Nat) (bd : Int32), N < 25 → (∃ i, i ≤ n ∧ ∀ j, j ≤ n2 → bd ≤ dp pr tp tb up ub (keyAt N) i j) → bd ≤ dp pr tp tb up ub (keyAt N) n n2) (hC : ¬ iK (20 * i + j) = 0 → sm (20 * i + j) = v1 ∧ ky (20 * i + j) = v2) (hij : i ≤ j) : Ct l yX2_apart cX2_apart 3 (some FieldType.int) rX2_apart κ [.ref lk, .ref t, .ref u] G (pI (fun r G2 => r = v1 ∧ LKp κ G G2 lk al b c d iK sm ky x cols key f0 f1 f2 (20 * i + j) v1 v2)) := by
  refine Ct.of (by decide +kernel) (fun v hv => by
    simp only [List.mem_cons, List.mem_nil_iff, or_false, List.not_mem_nil] at hv
    rcases hv with rfl | rfl | rfl <;> rfl) (Nat.le_of_ble_eq_true rfl) ?_
  intro p e s m args below meth cC
  refine z_L (L' := [some (.ref lk), some (.ref t), some (.ref u)]) rfl ?_
  generalize hQx : MQ below (zQc κ _) args s _ _ (zA κ) = Qx
  obtain ⟨hL1, hL2, hL3, hL4⟩ := hL
  refine z_al1 (pc := 0) dX2_apart_0 ?_
  refine z_get (pc := 1) 0 ht rfl iw_X5 (by decide) kw_194 rfl dX2_apart_1 ?_
  refine z_al2 (pc := 4) dX2_apart_4 ?_
  refine z_get (pc := 5) 0 hu rfl iw_X5 (by decide) kw_194 rfl dX2_apart_5 ?_
  refine z_icmp_gt (pc := 8) 25 dX2_apart_8 rfl (fun c8 => absurd c8 (by rw [nI_ltI (by omega) (by omega)]; omega)) (fun c8 => ?_)
  refine z_al0 (pc := 11) dX2_apart_11 ?_
  refine z_get (pc := 12) 2 hL1 rfl iw_X2 (by decide) kw_80 rfl dX2_apart_12 ?_
  refine z_al0 (pc := 15) dX2_apart_15 ?_
  refine z_al1 (pc := 16) dX2_apart_16 ?_
  refine z_al2 (pc := 17) dX2_apart_17 ?_
  refine z_callVi (pc := 18) _ (c_kLearn l i j j1 n j2 n2 v1 v2 ⟨hL1, hL2, hL3, hL4⟩ hA hP ht hu hT hU hi hj hv12 hNN hMo hC) rfl hL1 rfl rfl kw_465 zc_X2_learn (by decide) rfl (Nat.le_of_ble_eq_true rfl) dX2_apart_18 (fun v G2 hv => ?_)
  have hv1 := hv.1
  subst hv1
  have hv2 := hv.2
  obtain ⟨iK2, sm2, ky2, S2, hLb, -, -, hs1, hs2, -⟩ := hv2
  refine z_iald (pc := 21) (20 * i + j) hLb.2.2.1 rfl (by omega) (by omega) dX2_apart_21 ?_
  refine z_goto (pc := 22) 36 dX2_apart_22 rfl ?_
  rw [← hQx]
  refine z_iret (pc := 36) rfl (by decide) dX2_apart_36 (⟨_, rfl, hs1, hv.2⟩)
set_option maxRecDepth 100000 in
set_option maxHeartbeats 400000 in
theorem c_kApartGt (l : Launch) {κ : zK} {G : zH} {t u lk al b c d x kt ku tt tu am au : Nat} {cols : Nat} {key : Int32} {f0 f1 f2 iK sm ky : Nat → Int32} {S : Nat → Nat → Int32} {ha ye wo ap fg ha2 ye2 wo2 ap2 fg2 : Int32} {pr tp tb up ub : Nat → Int32} (i j j1 n j2 n2 : Nat) (v1 v2 : Int32) (hL : zLK κ G lk al b c d iK sm ky) (hA : zAL κ G al x cols key f0 f1 f2 S) (hP : zPR κ G x pr) (ht : zSH G t i ha ye wo kt tt am ap fg) (hu : zSH G u j ha2 ye2 wo2 ku tu au ap2 fg2) (hT : zTU κ G kt j1 n tp tb) (hU : zTU κ G ku j2 n2 up ub) (hi : i < 20) (hj : j < 20) (hv12 : ∀ k0, tlB (fun N => dp pr up ub tp tb (keyAt N) n2 n) k0 25 = (v1, v2)) (hNN : ∀ N, N < 25 → 0 ≤ dp pr up ub tp tb (keyAt N) n2 n) (hMo : ∀ (N : Nat) (bd : Int32), N < 25 → (∃ i, i ≤ n2 ∧ ∀ j, j ≤ n → bd ≤ dp pr up ub tp tb (keyAt N) i j) → bd ≤ dp pr up ub tp tb (keyAt N) n2 n) (hC : ¬ iK (20 * j + i) = 0 → sm (20 * j + i) = v1 ∧ ky (20 * j + i) = v2) (hij : j < i) : Ct l yX2_apart cX2_apart 3 (some FieldType.int) rX2_apart κ [.ref lk, .ref t, .ref u] G (pI (fun r G2 => r = v1 ∧ LKp κ G G2 lk al b c d iK sm ky x cols key f0 f1 f2 (20 * j + i) v1 v2)) := by
  refine Ct.of (by decide +kernel) (fun v hv => by
    simp only [List.mem_cons, List.mem_nil_iff, or_false, List.not_mem_nil] at hv
    rcases hv with rfl | rfl | rfl <;> rfl) (Nat.le_of_ble_eq_true rfl) ?_
  intro p e s m args below meth cC
  refine z_L (L' := [some (.ref lk), some (.ref t), some (.ref u)]) rfl ?_
  generalize hQx : MQ below (zQc κ _) args s _ _ (zA κ) = Qx
  obtain ⟨hL1, hL2, hL3, hL4⟩ := hL
  refine z_al1 (pc := 0) dX2_apart_0 ?_
  refine z_get (pc := 1) 0 ht rfl iw_X5 (by decide) kw_194 rfl dX2_apart_1 ?_
  refine z_al2 (pc := 4) dX2_apart_4 ?_
  refine z_get (pc := 5) 0 hu rfl iw_X5 (by decide) kw_194 rfl dX2_apart_5 ?_
  refine z_icmp_gt (pc := 8) 25 dX2_apart_8 rfl (fun c8 => ?_) (fun c8 => absurd (by rw [nI_ltI (by omega) (by omega)]; omega) c8)
  refine z_al0 (pc := 25) dX2_apart_25 ?_
  refine z_get (pc := 26) 2 hL1 rfl iw_X2 (by decide) kw_80 rfl dX2_apart_26 ?_
  refine z_al0 (pc := 29) dX2_apart_29 ?_
  refine z_al2 (pc := 30) dX2_apart_30 ?_
  refine z_al1 (pc := 31) dX2_apart_31 ?_
  refine z_callVi (pc := 32) _ (c_kLearn l j i j2 n2 j1 n v1 v2 ⟨hL1, hL2, hL3, hL4⟩ hA hP hu ht hU hT hj hi hv12 hNN hMo hC) rfl hL1 rfl rfl kw_465 zc_X2_learn (by decide) rfl (Nat.le_of_ble_eq_true rfl) dX2_apart_32 (fun v G2 hv => ?_)
  have hv1 := hv.1
  subst hv1
  have hv2 := hv.2
  obtain ⟨iK2, sm2, ky2, S2, hLb, -, -, hs1, hs2, -⟩ := hv2
  refine z_iald (pc := 35) (20 * j + i) hLb.2.2.1 rfl (by omega) (by omega) dX2_apart_35 ?_
  rw [← hQx]
  refine z_iret (pc := 36) rfl (by decide) dX2_apart_36 (⟨_, rfl, hs1, hv.2⟩)
abbrev rX2_toldKey : Room := rmK 3 0 0 91
set_option maxRecDepth 100000 in
set_option maxHeartbeats 400000 in
theorem c_kTold (l : Launch) {κ : zK} {G : zH} {t u lk al b c d x kt ku tt tu am au : Nat} {cols : Nat} {key : Int32} {f0 f1 f2 iK sm ky : Nat → Int32} {S : Nat → Nat → Int32} {ha ye wo ap fg ha2 ye2 wo2 ap2 fg2 : Int32} {pr tp tb up ub : Nat → Int32} (i j j1 n j2 n2 : Nat) (v1 v2 : Int32) (hL : zLK κ G lk al b c d iK sm ky) (hA : zAL κ G al x cols key f0 f1 f2 S) (hP : zPR κ G x pr) (ht : zSH G t i ha ye wo kt tt am ap fg) (hu : zSH G u j ha2 ye2 wo2 ku tu au ap2 fg2) (hT : zTU κ G kt j1 n tp tb) (hU : zTU κ G ku j2 n2 up ub) (hi : i < 20) (hj : j < 20) (hv12 : ∀ k0, tlB (fun N => dp pr tp tb up ub (keyAt N) n n2) k0 25 = (v1, v2)) (hNN : ∀ N, N < 25 → 0 ≤ dp pr tp tb up ub (keyAt N) n n2) (hMo : ∀ (N : Nat) (bd : Int32), N < 25 → (∃ i, i ≤ n ∧ ∀ j, j ≤ n2 → bd ≤ dp pr tp tb up ub (keyAt N) i j) → bd ≤ dp pr tp tb up ub (keyAt N) n n2) (hC : ¬ iK (20 * i + j) = 0 → sm (20 * i + j) = v1 ∧ ky (20 * i + j) = v2) : Ct l yX2_toldKey cX2_toldKey 3 (some FieldType.int) rX2_toldKey κ [.ref lk, .ref t, .ref u] G (pI (fun r G2 => r = v2 ∧ LKp κ G G2 lk al b c d iK sm ky x cols key f0 f1 f2 (20 * i + j) v1 v2)) := by
  refine Ct.of (by decide +kernel) (fun v hv => by
    simp only [List.mem_cons, List.mem_nil_iff, or_false, List.not_mem_nil] at hv
    rcases hv with rfl | rfl | rfl <;> rfl) (Nat.le_of_ble_eq_true rfl) ?_
  intro p e s m args below meth cC
  refine z_L (L' := [some (.ref lk), some (.ref t), some (.ref u)]) rfl ?_
  generalize hQx : MQ below (zQc κ _) args s _ _ (zA κ) = Qx
  obtain ⟨hL1, hL2, hL3, hL4⟩ := hL
  refine z_al0 (pc := 0) dX2_toldKey_0 ?_
  refine z_get (pc := 1) 3 hL1 rfl iw_X2 (by decide) kw_81 rfl dX2_toldKey_1 ?_
  refine z_al0 (pc := 4) dX2_toldKey_4 ?_
  refine z_al1 (pc := 5) dX2_toldKey_5 ?_
  refine z_al2 (pc := 6) dX2_toldKey_6 ?_
  refine z_callVi (pc := 7) _ (c_kLearn l i j j1 n j2 n2 v1 v2 ⟨hL1, hL2, hL3, hL4⟩ hA hP ht hu hT hU hi hj hv12 hNN hMo hC) rfl hL1 rfl rfl kw_465 zc_X2_learn (by decide) rfl (Nat.le_of_ble_eq_true rfl) dX2_toldKey_7 (fun v G2 hv => ?_)
  have hv1 := hv.1
  subst hv1
  have hv2 := hv.2
  obtain ⟨iK2, sm2, ky2, S2, hLb, -, -, hs1, hs2, -⟩ := hv2
  refine z_iald (pc := 10) (20 * i + j) hLb.2.2.2 rfl (by omega) (by omega) dX2_toldKey_10 ?_
  rw [← hQx]
  refine z_iret (pc := 11) rfl (by decide) dX2_toldKey_11 (⟨_, rfl, hs2, hv.2⟩)
abbrev rX2_forget : Room := rmK 0 0 0 0
set_option maxRecDepth 100000 in
set_option maxHeartbeats 400000 in
theorem c_kForget (l : Launch) {κ : zK} {G : zH} {t lk al b c d kt tt am : Nat} {iK sm ky : Nat → Int32} {ha ye wo ap fg : Int32} (i : Nat) (hL : zLK κ G lk al b c d iK sm ky) (ht : zSH G t i ha ye wo kt tt am ap fg) (hi : i < 20) : Ct l yX2_forget cX2_forget 3 none rX2_forget κ [.ref lk, .ref t] G (pV (fun G2 => ∃ iK2, zLK κ G2 lk al b c d iK2 sm ky ∧ zFP (fun r => r = (2, 10, 0)) G G2 ∧ ∀ a b, a < 20 → b < 20 → ¬ iK2 (20 * a + b) = 0 → a ≠ i ∧ b ≠ i ∧ iK2 (20 * a + b) = iK (20 * a + b))) := by
  refine Ct.of (by decide +kernel) (fun v hv => by
    simp only [List.mem_cons, List.mem_nil_iff, or_false, List.not_mem_nil] at hv
    rcases hv with rfl | rfl <;> rfl) (Nat.le_of_ble_eq_true rfl) ?_
  intro p e s m args below meth cC
  refine z_L (L' := [some (.ref lk), some (.ref t), none]) rfl ?_
  generalize hQx : MQ below (zQc κ _) args s _ _ (zA κ) = Qx
  have lp : ∀ (fu k : Nat) (G2 : zH) (f : Nat → Int32), k + fu = 20 → zLK κ G2 lk al b c d f sm ky → zSH G2 t i ha ye wo kt tt am ap fg → zFP (fun r => r = (2, 10, 0)) G G2 → (∀ a b, a < 20 → b < 20 → ¬ f (20 * a + b) = 0 → f (20 * a + b) = iK (20 * a + b) ∧ ¬ (a = i ∧ b < k) ∧ ¬ (b = i ∧ a < k)) → Z p l e rX2_forget s m args below meth cC yX2_forget cX2_forget 3 none κ Qx 0 0 G2 [some (.ref lk), some (.ref t), some (.int (nI k))] 2 [] := by
    intro fu
    induction fu with
    | zero =>
      intro k G2 f hk hL ht hF hE
      obtain ⟨hL1, hL2, hL3, hL4⟩ := id hL
      refine z_il2 (pc := 2) dX2_forget_2 ?_
      refine z_bipush (pc := 3) (20) (by decide) dX2_forget_3 ?_
      refine z_icmp_ge (pc := 5) 44 dX2_forget_5 rfl (fun c5 => ?_) (fun c5 => absurd (show nI 20 ≤ nI k from by rw [nI_leI (by omega) (by omega)]; omega) c5)
      rw [← hQx]
      refine z_vret (pc := 44) rfl (by decide) dX2_forget_44 (⟨rfl, f, hL, hF, fun a b ha hb h0 => by have := hE a b ha hb h0; exact ⟨fun q => this.2.1 ⟨q, by omega⟩, fun q => this.2.2 ⟨q, by omega⟩, this.1⟩⟩)
    | succ fu ih =>
      intro k G2 f hk hL ht hF hE
      obtain ⟨hL1, hL2, hL3, hL4⟩ := id hL
      refine z_il2 (pc := 2) dX2_forget_2 ?_
      refine z_bipush (pc := 3) (20) (by decide) dX2_forget_3 ?_
      refine z_icmp_ge (pc := 5) 44 dX2_forget_5 rfl (fun c5 => absurd c5 (show ¬ nI 20 ≤ nI k from by rw [nI_leI (by omega) (by omega)]; omega)) (fun c5 => ?_)
      refine z_al0 (pc := 8) dX2_forget_8 ?_
      refine z_get (pc := 9) 1 hL1 rfl iw_X2 (by decide) kw_79 rfl dX2_forget_9 ?_
      refine z_al1 (pc := 12) dX2_forget_12 ?_
      refine z_get (pc := 13) 0 ht rfl iw_X5 (by decide) kw_194 rfl dX2_forget_13 ?_
      refine z_bipush (pc := 16) (20) (by decide) dX2_forget_16 ?_
      refine z_imul (pc := 18) dX2_forget_18 ?_
      refine z_il2 (pc := 19) dX2_forget_19 ?_
      refine z_iadd (pc := 20) dX2_forget_20 ?_
      rw [show nI i * 20 + nI k = nI (20 * i + k) from by rw [show (20 : Int32) = nI 20 from rfl, Int32.mul_comm]; exact ix20 _ _]
      refine z_iconst (pc := 21) (0) (by decide) dX2_forget_21 ?_
      rw [show (0 : Int32) = 0 from rfl]
      refine z_zastg (pc := 22) (20 * i + k) hL2 rfl (by omega) (by omega) dX2_forget_22 (fun G4 h4x hF4 => ?_)
      replace hL1 := hF4.1 _ _ _ (fun h => by cases h) hL1
      replace hL3 := hF4.1 _ _ _ (fun h => by cases h) hL3
      replace hL4 := hF4.1 _ _ _ (fun h => by cases h) hL4
      replace ht := hF4.1 _ _ _ (fun h => by cases h) ht
      replace hL2 := h4x
      refine z_al0 (pc := 23) dX2_forget_23 ?_
      refine z_get (pc := 24) 1 hL1 rfl iw_X2 (by decide) kw_79 rfl dX2_forget_24 ?_
      refine z_il2 (pc := 27) dX2_forget_27 ?_
      refine z_bipush (pc := 28) (20) (by decide) dX2_forget_28 ?_
      refine z_imul (pc := 30) dX2_forget_30 ?_
      refine z_al1 (pc := 31) dX2_forget_31 ?_
      refine z_get (pc := 32) 0 ht rfl iw_X5 (by decide) kw_194 rfl dX2_forget_32 ?_
      refine z_iadd (pc := 35) dX2_forget_35 ?_
      rw [show nI k * 20 + nI i = nI (20 * k + i) from by rw [show (20 : Int32) = nI 20 from rfl, Int32.mul_comm]; exact ix20 _ _]
      refine z_iconst (pc := 36) (0) (by decide) dX2_forget_36 ?_
      rw [show (0 : Int32) = 0 from rfl]
      refine z_zastg (pc := 37) (20 * k + i) hL2 rfl (by omega) (by omega) dX2_forget_37 (fun G5 h5x hF5 => ?_)
      replace hL1 := hF5.1 _ _ _ (fun h => by cases h) hL1
      replace hL3 := hF5.1 _ _ _ (fun h => by cases h) hL3
      replace hL4 := hF5.1 _ _ _ (fun h => by cases h) hL4
      replace ht := hF5.1 _ _ _ (fun h => by cases h) ht
      replace hL2 := h5x
      refine z_ii2 (pc := 38) (nI (k + 1)) dX2_forget_38 (nI_1 _) (by decide) ?_
      refine z_goto (pc := 41) 2 dX2_forget_41 rfl ?_
      refine z_L (L' := [some (.ref lk), some (.ref t), some (.int (nI (k + 1)))]) rfl ?_
      exact ih (k + 1) G5 _ (by omega) ⟨hL1, hL2, hL3, hL4⟩ ht (hF.trans ((hF4.trans hF5).mono (fun r h => h))) (fun a b ha hb h0 => by
        have e1 : 20 * a + b ≠ 20 * k + i := fun q => h0 (by rw [q]; exact upd_s)
        rw [upd_n e1] at h0 ⊢
        have e2 : 20 * a + b ≠ 20 * i + k := fun q => h0 (by rw [q]; exact upd_s)
        rw [upd_n e2] at h0 ⊢
        have := hE a b ha hb h0
        exact ⟨this.1, fun q => this.2.1 ⟨q.1, by omega⟩, fun q => this.2.2 ⟨q.1, by omega⟩⟩)
  refine z_iconst (pc := 0) (0) (by decide) dX2_forget_0 ?_
  refine z_is2 (pc := 1) dX2_forget_1 (by decide) ?_
  refine z_L (L' := [some (.ref lk), some (.ref t), some (.int (nI 0))]) rfl ?_
  exact lp 20 0 G iK (by omega) hL ht zFP.rf (fun a b _ _ _ => ⟨rfl, fun q => absurd q.2 (by omega), fun q => absurd q.2 (by omega)⟩)
abbrev rX2_forgetAll : Room := rmK 0 0 0 0
set_option maxRecDepth 100000 in
set_option maxHeartbeats 400000 in
theorem c_kForgetAll (l : Launch) {κ : zK} {G : zH} {lk al b c d : Nat} {iK sm ky : Nat → Int32} (hL : zLK κ G lk al b c d iK sm ky) : Ct l yX2_forgetAll cX2_forgetAll 2 none rX2_forgetAll κ [.ref lk] G (pV (fun G2 => ∃ iK2, zLK κ G2 lk al b c d iK2 sm ky ∧ zFP (fun r => r = (2, 10, 0)) G G2 ∧ ∀ q, q < 400 → iK2 q = 0)) := by
  refine Ct.of (by decide +kernel) (fun v hv => by
    simp only [List.mem_cons, List.mem_nil_iff, or_false, List.not_mem_nil] at hv
    rcases hv with rfl <;> rfl) (Nat.le_of_ble_eq_true rfl) ?_
  intro p e s m args below meth cC
  refine z_L (L' := [some (.ref lk), none]) rfl ?_
  generalize hQx : MQ below (zQc κ _) args s _ _ (zA κ) = Qx
  have lp : ∀ (fu k : Nat) (G2 : zH) (f : Nat → Int32), k + fu = 400 → zLK κ G2 lk al b c d f sm ky → zFP (fun r => r = (2, 10, 0)) G G2 → (∀ q, q < k → f q = 0) → Z p l e rX2_forgetAll s m args below meth cC yX2_forgetAll cX2_forgetAll 2 none κ Qx 0 0 G2 [some (.ref lk), some (.int (nI k))] 2 [] := by
    intro fu
    induction fu with
    | zero =>
      intro k G2 f hk hL hF hE
      obtain ⟨hL1, hL2, hL3, hL4⟩ := id hL
      refine z_il1 (pc := 2) dX2_forgetAll_2 ?_
      refine z_al0 (pc := 3) dX2_forgetAll_3 ?_
      refine z_get (pc := 4) 1 hL1 rfl iw_X2 (by decide) kw_79 rfl dX2_forgetAll_4 ?_
      refine z_alen (pc := 7) (v := nI 400) 1 hL2 rfl rfl dX2_forgetAll_7 ?_
      refine z_icmp_ge (pc := 8) 24 dX2_forgetAll_8 rfl (fun c8 => ?_) (fun c8 => absurd (by rw [nI_leI (by omega) (by omega)]; omega) c8)
      rw [← hQx]
      refine z_vret (pc := 24) rfl (by decide) dX2_forgetAll_24 (⟨rfl, f, hL, hF, fun q hq => hE q (by omega)⟩)
    | succ fu ih =>
      intro k G2 f hk hL hF hE
      obtain ⟨hL1, hL2, hL3, hL4⟩ := id hL
      refine z_il1 (pc := 2) dX2_forgetAll_2 ?_
      refine z_al0 (pc := 3) dX2_forgetAll_3 ?_
      refine z_get (pc := 4) 1 hL1 rfl iw_X2 (by decide) kw_79 rfl dX2_forgetAll_4 ?_
      refine z_alen (pc := 7) (v := nI 400) 1 hL2 rfl rfl dX2_forgetAll_7 ?_
      refine z_icmp_ge (pc := 8) 24 dX2_forgetAll_8 rfl (fun c8 => absurd c8 (by rw [nI_leI (by omega) (by omega)]; omega)) (fun c8 => ?_)
      refine z_al0 (pc := 11) dX2_forgetAll_11 ?_
      refine z_get (pc := 12) 1 hL1 rfl iw_X2 (by decide) kw_79 rfl dX2_forgetAll_12 ?_
      refine z_il1 (pc := 15) dX2_forgetAll_15 ?_
      refine z_iconst (pc := 16) (0) (by decide) dX2_forgetAll_16 ?_
      refine z_zastg (pc := 17) k hL2 rfl (by omega) (by omega) dX2_forgetAll_17 (fun G4 h4x hF4 => ?_)
      refine z_ii1 (pc := 18) (nI (k + 1)) dX2_forgetAll_18 (nI_1 _) (by decide) ?_
      refine z_goto (pc := 21) 2 dX2_forgetAll_21 rfl ?_
      refine z_L (L' := [some (.ref lk), some (.int (nI (k + 1)))]) rfl ?_
      exact ih (k + 1) G4 _ (by omega) ⟨hF4.1 _ _ _ (fun h => by cases h) hL1, h4x, hF4.1 _ _ _ (fun h => by cases h) hL3, hF4.1 _ _ _ (fun h => by cases h) hL4⟩ (hF.trans hF4) (fun q hq => by
        by_cases hqk : q = k
        · subst hqk; exact (upd_s : _)
        · rw [upd_n hqk]; exact hE q (by omega))
  refine z_iconst (pc := 0) (0) (by decide) dX2_forgetAll_0 ?_
  refine z_is1 (pc := 1) dX2_forgetAll_1 (by decide) ?_
  refine z_L (L' := [some (.ref lk), some (.int (nI 0))]) rfl ?_
  exact lp 400 0 G iK (by omega) hL zFP.rf (fun q hq => absurd hq (by omega))
