/-! questions about two sheets -/
theorem Ct.imp {l : Launch} {y : MethodName} {cc : ByteArray} {nL : Nat} {ret : Option FieldType} {rm : Room} {κ : zK} {av : List Value} {G : zH} {post post2 : Option Value → zH → Prop} (h : Ct l y cc nL ret rm κ av G post) (hp : ∀ v G2, post v G2 → post2 v G2) : Ct l y cc nL ret rm κ av G post2 :=
  by
  unfold Ct Met at *
  exact MetFree.imp h (fun a s o t q => ⟨⟨q.1.1.imp (fun r q1 => q1.imp (fun G1 q2 => ⟨q2.1, hp _ _ q2.2.1, q2.2.2⟩)), q.1.2⟩, q.2⟩)
theorem KD_hyps {n c d w : Nat} {ln kl ep : Nat → Nat} {fo nt : Int32} {ar : Nat → Nat → Int32} {rb : Nat → Int32} {kp kb : Nat → Nat → Int32} (hK : KN ar n c ln kl ep kp kb) (hT : TD n c d w ln fo nt ar rb) {i j : Nat} (hi : i < n) (hj : j < n) :
    (∀ N, N < 25 → 0 ≤ dp (ar 15) (kp i) (kb i) (kp j) (kb j) (keyAt N) (kl i) (kl j)) ∧ (∀ (N : Nat) (bd : Int32), N < 25 → (∃ a, a ≤ kl i ∧ ∀ b, b ≤ kl j → bd ≤ dp (ar 15) (kp i) (kb i) (kp j) (kb j) (keyAt N) a b) → bd ≤ dp (ar 15) (kp i) (kb i) (kp j) (kb j) (keyAt N) (kl i) (kl j)) ∧ (∀ k0, tlB (fun N => dp (ar 15) (kp i) (kb i) (kp j) (kb j) (keyAt N) (kl i) (kl j)) k0 25 = ((KD ar kl kp kb i j).1, (KD ar kl kp kb i j).2)) ∧ oKy (KD ar kl kp kb i j).2 := by
  have li := (hK i hi).1
  have lj := (hK j hj).1
  have ni := hT.2.2.2.2.1 i hi
  have nj := hT.2.2.2.2.1 j hj
  have lh := learn_hyps hT.pr (hK.oT hT hi) (hK.oT hT hj) (show kl i ≤ 24 by omega) (show kl j ≤ 24 by omega)
  unfold KD
  refine ⟨lh.1, lh.2.1, fun k0 => ?_, lh.2.2.2⟩
  rw [lh.2.2.1 k0 0]
theorem LKr_of {κ : zK} {G : zH} {B : Nat → Nat → Nat} {n c d w : Nat} {ln kl ep : Nat → Nat} {fo nt : Int32} {ar : Nat → Nat → Int32} {rb : Nat → Int32} {kp kb : Nat → Nat → Int32} {iK sm ky : Nat → Int32} (hR : RC κ G B n c d w ln fo nt ar rb kl ep kp kb iK sm ky) (hT : TD n c d w ln fo nt ar rb) (hK : KN ar n c ln kl ep kp kb) (hC : CH ar n kl kp kb iK sm ky) {i j : Nat} (hi : i < n) (hj : j < n) {G2 : zH} {cols : Nat} {key : Int32} {f0 f1 f2 : Nat → Int32} {v1 v2 : Int32} (h1 : v1 = (KD ar kl kp kb i j).1) (h2 : v2 = (KD ar kl kp kb i j).2) (h : LKp κ G G2 (B 9 0) (B 3 0) (B 10 0) (B 11 0) (B 12 0) iK sm ky (B 1 0) cols key f0 f1 f2 (20 * i + j) v1 v2) : (∃ iK2 sm2 ky2, RC κ G2 B n c d w ln fo nt ar rb kl ep kp kb iK2 sm2 ky2 ∧ CH ar n kl kp kb iK2 sm2 ky2 ∧ zFP isLk G G2) := by
  obtain ⟨iK2, sm2, ky2, S2, g1, g2, g3, g4, g5, g6⟩ := h
  refine ⟨iK2, sm2, ky2, hR.lk g3 g1 ⟨_, _, _, _, _, _, g2⟩, fun a b ha hb h0 => ?_, g3⟩
  have hn := hT.1
  by_cases e : 20 * a + b = 20 * i + j
  · have ea : a = i := by omega
    have eb : b = j := by omega
    subst ea
    subst eb
    exact ⟨hi, hj, g4.trans h1, g5.trans h2⟩
  · obtain ⟨e1, e2, e3⟩ := g6 _ e
    rw [e1] at h0
    rw [e2, e3]
    exact hC a b ha hb h0
theorem c_Apart (l : Launch) {κ : zK} {G : zH} {B : Nat → Nat → Nat} {n c d w : Nat} {ln kl ep : Nat → Nat} {fo nt : Int32} {ar : Nat → Nat → Int32} {rb : Nat → Int32} {kp kb : Nat → Nat → Int32} {iK sm ky : Nat → Int32} (i j : Nat) (hR : RC κ G B n c d w ln fo nt ar rb kl ep kp kb iK sm ky) (hT : TD n c d w ln fo nt ar rb) (hK : KN ar n c ln kl ep kp kb) (hC : CH ar n kl kp kb iK sm ky) (hi : i < n) (hj : j < n) : Ct l yX2_apart cX2_apart 3 (some FieldType.int) rX2_apart κ [.ref (B 9 0), .ref (B 15 i), .ref (B 15 j)] G (pI (fun r G2 => r = (KD ar kl kp kb i j).1 ∧ (∃ iK2 sm2 ky2, RC κ G2 B n c d w ln fo nt ar rb kl ep kp kb iK2 sm2 ky2 ∧ CH ar n kl kp kb iK2 sm2 ky2 ∧ zFP isLk G G2))) := by
  obtain ⟨hO, hP, ⟨cols, key, f0, f1, f2, S, hA⟩, hLK, hl0, hl1, ⟨k2, es2, hl2⟩, hS, hCo, hPr⟩ := id hR
  have hn := hT.1
  have li := (hK i hi).1
  have lj := (hK j hj).1
  have ni := hT.2.2.2.2.1 i hi
  have nj := hT.2.2.2.2.1 j hj
  rcases Nat.lt_or_ge j i with hij | hij
  · have lh := KD_hyps hK hT hj hi
    exact (c_kApartGt l i j (2 * i) (kl i) (2 * j) (kl j) (KD ar kl kp kb j i).1 (KD ar kl kp kb j i).2 hLK hA hP (hS i hi).1 (hS j hj).1 (hS i hi).2.1 (hS j hj).2.1 (by omega) (by omega) lh.2.2.1 lh.1 lh.2.1 (fun h => (hC j i (by omega) (by omega) h).2.2) hij).imp (fun v G2 ⟨r, e, hr, hp⟩ => ⟨r, e, hr.trans (KD_swap hK hT hj hi), LKr_of hR hT hK hC hj hi rfl rfl hp⟩)
  · have lh := KD_hyps hK hT hi hj
    exact (c_kApartLe l i j (2 * i) (kl i) (2 * j) (kl j) (KD ar kl kp kb i j).1 (KD ar kl kp kb i j).2 hLK hA hP (hS i hi).1 (hS j hj).1 (hS i hi).2.1 (hS j hj).2.1 (by omega) (by omega) lh.2.2.1 lh.1 lh.2.1 (fun h => (hC i j (by omega) (by omega) h).2.2) hij).imp (fun v G2 ⟨r, e, hr, hp⟩ => ⟨r, e, hr, LKr_of hR hT hK hC hi hj rfl rfl hp⟩)
theorem c_Told (l : Launch) {κ : zK} {G : zH} {B : Nat → Nat → Nat} {n c d w : Nat} {ln kl ep : Nat → Nat} {fo nt : Int32} {ar : Nat → Nat → Int32} {rb : Nat → Int32} {kp kb : Nat → Nat → Int32} {iK sm ky : Nat → Int32} (i j : Nat) (hR : RC κ G B n c d w ln fo nt ar rb kl ep kp kb iK sm ky) (hT : TD n c d w ln fo nt ar rb) (hK : KN ar n c ln kl ep kp kb) (hC : CH ar n kl kp kb iK sm ky) (hi : i < n) (hj : j < n) : Ct l yX2_toldKey cX2_toldKey 3 (some FieldType.int) rX2_toldKey κ [.ref (B 9 0), .ref (B 15 i), .ref (B 15 j)] G (pI (fun r G2 => r = (KD ar kl kp kb i j).2 ∧ (∃ iK2 sm2 ky2, RC κ G2 B n c d w ln fo nt ar rb kl ep kp kb iK2 sm2 ky2 ∧ CH ar n kl kp kb iK2 sm2 ky2 ∧ zFP isLk G G2))) := by
  obtain ⟨hO, hP, ⟨cols, key, f0, f1, f2, S, hA⟩, hLK, hl0, hl1, ⟨k2, es2, hl2⟩, hS, hCo, hPr⟩ := id hR
  have hn := hT.1
  have li := (hK i hi).1
  have lj := (hK j hj).1
  have ni := hT.2.2.2.2.1 i hi
  have nj := hT.2.2.2.2.1 j hj
  have lh := KD_hyps hK hT hi hj
  exact (c_kTold l i j (2 * i) (kl i) (2 * j) (kl j) (KD ar kl kp kb i j).1 (KD ar kl kp kb i j).2 hLK hA hP (hS i hi).1 (hS j hj).1 (hS i hi).2.1 (hS j hj).2.1 (by omega) (by omega) lh.2.2.1 lh.1 lh.2.1 (fun h => (hC i j (by omega) (by omega) h).2.2)).imp (fun v G2 ⟨r, e, hr, hp⟩ => ⟨r, e, hr, LKr_of hR hT hK hC hi hj rfl rfl hp⟩)
abbrev rX7_layOut : Room := rmK 4 0 0 113
set_option maxRecDepth 100000 in
set_option maxHeartbeats 400000 in
theorem c_hLay (l : Launch) {κ : zK} {G : zH} {B : Nat → Nat → Nat} {n c d w : Nat} {ln kl ep : Nat → Nat} {fo nt : Int32} {ar : Nat → Nat → Int32} {rb : Nat → Int32} {kp kb : Nat → Nat → Int32} {iK sm ky : Nat → Int32} (i j : Nat) (hR : RC κ G B n c d w ln fo nt ar rb kl ep kp kb iK sm ky) (hT : TD n c d w ln fo nt ar rb) (hK : KN ar n c ln kl ep kp kb) (hC : CH ar n kl kp kb iK sm ky) (hi : i < n) (hj : j < n) : Ct l yX7_layOut cX7_layOut 3 none rX7_layOut κ [.ref (B 0 0), .ref (B 15 i), .ref (B 15 j)] G (pV (fun G2 => (∃ iK2 sm2 ky2 S2 f0 f1 f2 s0, RC κ G2 B n c d w ln fo nt ar rb kl ep kp kb iK2 sm2 ky2 ∧ CH ar n kl kp kb iK2 sm2 ky2 ∧ zFP isLk G G2 ∧ zAL κ G2 (B 3 0) (B 1 0) s0 (KD ar kl kp kb i j).2 f0 f1 f2 S2 ∧ CV (dp (ar 15) (kp i) (kb i) (kp j) (kb j) (KD ar kl kp kb i j).2) (fun g h => co2 (ar 15) (kp i g) (kb i g) (kp j h) (kb j h) (KD ar kl kp kb i j).2) (fun g => co1 (ar 15) (kp i g)) (fun h => co1 (ar 15) (kp j h)) (kl i) (kl j) f0 f1 f2 s0 0 0))) := by
  refine Ct.of (by decide +kernel) (fun v hv => by
    simp only [List.mem_cons, List.mem_nil_iff, or_false, List.not_mem_nil] at hv
    rcases hv with rfl | rfl | rfl <;> rfl) (Nat.le_of_ble_eq_true rfl) ?_
  intro p e s m args below meth cC
  refine z_L (L' := [some (.ref (B 0 0)), some (.ref (B 15 i)), some (.ref (B 15 j))]) rfl ?_
  generalize hQx : MQ below (zQc κ _) args s _ _ (zA κ) = Qx
  obtain ⟨hO, hP, ⟨cols, key, f0, f1, f2, S, hA⟩, hLK, hl0, hl1, ⟨k2, es2, hl2⟩, hS, hCo, hPr⟩ := id hR
  have hi_ := hS i hi
  have hj_ := hS j hj
  have hn := hT.1
  have li := (hK i hi).1
  have lj := (hK j hj).1
  have ni := hT.2.2.2.2.1 i hi
  have nj := hT.2.2.2.2.1 j hj
  have lh := KD_hyps hK hT hi hj
  refine z_al0 (pc := 0) dX7_layOut_0 ?_
  refine z_get (pc := 1) 1 hO rfl iw_X7 (by decide) kw_119 rfl dX7_layOut_1 ?_
  refine z_al1 (pc := 4) dX7_layOut_4 ?_
  refine z_get (pc := 5) 4 hi_.1 rfl iw_X5 (by decide) kw_205 rfl dX7_layOut_5 ?_
  refine z_al2 (pc := 8) dX7_layOut_8 ?_
  refine z_get (pc := 9) 4 hj_.1 rfl iw_X5 (by decide) kw_205 rfl dX7_layOut_9 ?_
  refine z_al0 (pc := 12) dX7_layOut_12 ?_
  refine z_get (pc := 13) 2 hO rfl iw_X7 (by decide) kw_120 rfl dX7_layOut_13 ?_
  refine z_al1 (pc := 16) dX7_layOut_16 ?_
  refine z_al2 (pc := 17) dX7_layOut_17 ?_
  refine z_callVi (pc := 18) _ (c_Told l i j hR hT hK hC hi hj) rfl hLK.1 rfl rfl kw_491 zc_X2_toldKey (by decide) rfl (Nat.le_of_ble_eq_true rfl) dX7_layOut_18 (fun v G2 hv => ?_)
  obtain ⟨hr, iK2, sm2, ky2, hR2, hC2, hF2⟩ := hv
  have hky : oKy v := hr ▸ lh.2.2.2
  have hR3 := hR2
  obtain ⟨-, hP2, ⟨cols2, key2, g0, g1, g2, S2, hA2⟩, hLK2, -, -, -, hS2, -, -⟩ := hR2
  obtain ⟨sa, o1, o2, o3, rw_, hG, -⟩ := id hA2
  refine z_callVv (pc := 21) _ (c_aLay l (2 * i) (kl i) (2 * j) (kl j) v hA2 hP2 (hS2 i hi).2.1 (hS2 j hj).2.1 (fun g h a b => (dp_R hT.pr (hK.oT hT hi) (hK.oT hT hj) hky (by omega) (by omega) a b).2)) rfl hG rfl rfl kw_503 zc_X0_layOut (by decide) rfl (Nat.le_of_ble_eq_true rfl) dX7_layOut_21 (fun G4 hv => ?_)
  obtain ⟨S3, f0b, f1b, f2b, s0, hA4, hF4, hCV⟩ := hv
  rw [hr] at hA4 hCV
  clear hr hky
  rw [← hQx]
  refine z_vret (pc := 24) rfl (by decide) dX7_layOut_24 (⟨rfl, iK2, sm2, ky2, S3, f0b, f1b, f2b, s0, hR3.lk (hF4.mono (fun r h => ⟨h.1, by omega, by omega⟩)) (hLK2.keep hF4 (fun a h q => by have := q.2; simp only at this; omega)) ⟨_, _, _, _, _, _, hA4⟩, hC2, hF2.trans (hF4.mono (fun r h => ⟨h.1, by omega, by omega⟩)), hA4, hCV⟩)
