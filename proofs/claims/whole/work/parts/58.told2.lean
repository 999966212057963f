/-! forge, note, correct, doubles, sheet as told -/
section TOLD2
variable {κ : zK} {G G2 : zH} {B : Nat → Nat → Nat} {n c d w : Nat} {ln kl ep : Nat → Nat} {fo nt : Int32} {ar ar2 : Nat → Nat → Int32} {rb : Nat → Int32} {kp kb : Nat → Nat → Int32} {iK sm ky : Nat → Int32} {P : zR → Prop}
theorem i_rc (a b : Int32) : a + 1 + b = a + b + 1 := by rw [Int32.add_assoc, Int32.add_comm 1, ← Int32.add_assoc]
theorem cntF_forge {s : Nat} {v : Int32} (h5 : ar 5 s = -1) (hv : v ≠ -1) : ∀ {n : Nat}, s < n → cntF (aup ar 5 s v) n = cntF ar n + 1
  | 0, h => absurd h (Nat.not_lt_zero _)
  | n + 1, h => by
    unfold cntF
    by_cases e : s = n
    · subst e
      rw [cntF_congr (ar := ar) (ar2 := aup ar 5 s v) (n := s) (fun k hk => aup_i (by omega)), aup_s, h5]
      unfold zb
      rw [if_pos hv, if_neg (fun q => q rfl), Int32.add_zero]
    · rw [cntF_forge h5 hv (show s < n by omega), aup_i (by omega), i_rc]
theorem lenS_note {s l : Nat} (h2 : ∀ k, k ≠ s → ar2 4 k = ar 4 k) (h3 : ar 4 s = nI l) (h4 : ar2 4 s = nI (l + 1)) : ∀ {n : Nat}, s < n → lenS ar2 n = lenS ar n + 1
  | 0, h => absurd h (Nat.not_lt_zero _)
  | n + 1, h => by
    unfold lenS
    by_cases e : s = n
    · subst e
      rw [lenS_congr (ar := ar) (ar2 := ar2) (n := s) (fun k hk => h2 k (by omega)), h3, h4, ← nI_1, Int32.add_assoc]
    · rw [lenS_note h2 h3 h4 (show s < n by omega), h2 n (by omega), i_rc]
theorem cntS_zero {i : Nat} : ∀ {e : Nat}, (∀ k, k < e → ar 8 k ≠ nI i) → cntS ar i e = 0
  | 0, _ => rfl
  | e + 1, h => by
    unfold cntS
    rw [cntS_zero (fun k hk => h k (by omega)), if_neg (h e (by omega))]
theorem gx_s (ar : Nat → Nat → Int32) (i k j : Nat) : gx ar i (k + 1) j = if ar 8 k = nI i ∧ cntS ar i k = j then k else gx ar i k j := rfl
theorem bup_f {k j q k2 : Nat} (h : k2 ≠ k) : bup B k j q k2 = B k2 := funext fun j2 => bup_k h
theorem hc_forge {s : Nat} (hT : TD n c d w ln fo nt ar rb) (hR : RC κ G B n c d w ln fo nt ar rb kl ep kp kb iK sm ky) (hK : KN ar n c ln kl ep kp kb) (hC : CH ar n kl kp kb iK sm ky) (hs : s < n) (h5 : ar 5 s = -1) (hSH : zSH G2 (B 15 s) s (ar 1 s) (ar 2 s) (ar 3 s) (B 16 (2 * s)) (B 16 (2 * s + 1)) (B 13 (3 + s)) (nI (cntS ar s (ep s))) (nI w)) (hO2 : G2 (B 0 0) = some ((2, 0, 0), .inr (8, [.ref (B 1 0), .ref (B 3 0), .ref (B 9 0), .ref (B 13 0), .ref (B 13 1), .ref (B 13 2), .int (nI w), .int (fo + 1), .int (nt), .int (nI c)]))) (hF : zFP (fun r => r = (2, 0, 0) ∨ r = (2, 15, s)) G G2) : HC κ G2 B n c d w ln (fo + 1) nt (aup ar 5 s (nI w)) rb := by
  obtain ⟨hO, hP, ⟨cols, key, f0, f1, f2, S, hA⟩, hLK, hl0, hl1, ⟨k2, es2, hl2⟩, hS, hCo, hPr⟩ := hR
  have hk : ∀ k, k ≠ 5 → aup ar 5 s (nI w) k = ar k := fun k h => aup_k h
  obtain ⟨t1, t2, t3, t4, t5, t6, t7, t8, t9, t10, t11, t12, t13, t14, p0, p1, p2, p3, p4, p5⟩ := hT
  have hc8 : ∀ i e, cntS (aup ar 5 s (nI w)) i e = cntS ar i e := fun i e => cntS_congr (fun k _ => by rw [hk 8 (by omega)])
  refine ⟨?_, kl, ep, kp, kb, iK, sm, ky, ⟨hO2, by rw [hk 15 (by omega)]; exact hP.keep hF (by intro h; simp only [isTU, shNew, Prod.mk.injEq] at h <;> omega) (by intro h; simp only [isTU, shNew, Prod.mk.injEq] at h <;> omega), ⟨_, _, _, _, _, _, hA.keep hF (fun k j _ => (by intro h; simp only [isTU, shNew, Prod.mk.injEq] at h <;> omega))⟩, hLK.keep hF (fun k _ => (by intro h; simp only [isTU, shNew, Prod.mk.injEq] at h <;> omega)), hl0.keep hF (by intro h; simp only [isTU, shNew, Prod.mk.injEq] at h <;> omega) (by intro h; simp only [isTU, shNew, Prod.mk.injEq] at h <;> omega), hl1.keep hF (by intro h; simp only [isTU, shNew, Prod.mk.injEq] at h <;> omega) (by intro h; simp only [isTU, shNew, Prod.mk.injEq] at h <;> omega), ⟨_, _, hl2.keep hF (by intro h; simp only [isTU, shNew, Prod.mk.injEq] at h <;> omega) (by intro h; simp only [isTU, shNew, Prod.mk.injEq] at h <;> omega)⟩, fun i hi => by
    by_cases e : i = s
    · subst e
      obtain ⟨s1, s2, ⟨tp, tb, s3, s4⟩, s5⟩ := hS i hi
      refine ⟨?_, s2.keep hF (fun r h1 h => by simp only [isTU] at h1; rcases h1 with rfl | rfl | rfl <;> simp only [Prod.mk.injEq] at h <;> omega), ⟨tp, tb, s3.keep hF (fun r h1 h => by simp only [isTU] at h1; rcases h1 with rfl | rfl | rfl <;> simp only [Prod.mk.injEq] at h <;> omega), ?_⟩, ?_⟩
      · rw [hk 1 (by omega), hk 2 (by omega), hk 3 (by omega), aup_s, hc8]; exact hSH
      · rw [hk 6 (by omega), hk 7 (by omega)]; exact s4
      · rw [hc8]; exact (s5.keep hF (by intro h; simp only [isTU, shNew, Prod.mk.injEq] at h <;> omega) (by intro h; simp only [isTU, shNew, Prod.mk.injEq] at h <;> omega)).congr (fun j _ => by rw [gx_congr (ar := ar) (ar2 := aup ar 5 i (nI w)) (e := c) (fun k _ => by rw [hk 8 (by omega)])])
    · exact ((hS i hi).keep hF (fun k j h1 => by intro h; simp only [onSh, Prod.mk.injEq] at h1 h <;> omega)).congr (hK i hi).2.1 (by rw [hk 1 (by omega), hk 2 (by omega), hk 3 (by omega), aup_i e]; exact ⟨rfl, rfl, rfl, rfl⟩) (fun k _ => by rw [hk 6 (by omega), hk 7 (by omega)]; exact ⟨rfl, rfl⟩) (fun k _ => by rw [hk 8 (by omega)]), fun k hk2 => by rw [hk 12 (by omega), hk 9 (by omega), hk 10 (by omega)]; exact hF.1 _ _ _ (by intro h; simp only [isTU, shNew, Prod.mk.injEq] at h <;> omega) (hCo k hk2), fun k hk2 => by rw [hk 13 (by omega), hk 14 (by omega)]; exact hF.1 _ _ _ (by intro h; simp only [isTU, shNew, Prod.mk.injEq] at h <;> omega) (hPr k hk2)⟩, ?_, hC.congr (hk 15 (by omega))⟩
  · unfold TD
    rw [cntF_forge h5 (fun q => nI_m1 (show w < 2 ^ 31 by omega) q) hs, lenS_congr (ar := ar) (ar2 := aup ar 5 s (nI w)) (n := n) (fun k _ => by rw [hk 4 (by omega)])]
    rw [hk 1 (by omega), hk 4 (by omega), hk 6 (by omega), hk 7 (by omega), hk 8 (by omega), hk 9 (by omega), hk 10 (by omega), hk 11 (by omega), hk 12 (by omega), hk 13 (by omega), hk 14 (by omega), hk 15 (by omega)]
    exact ⟨t1, t2, t3, t4, t5, t6, t7, t8, t9, t10, fun i hi => by
      by_cases e : i = s
      · subst e; rw [aup_s]; exact Or.inr ⟨nI_pos' (by omega), Int32.le_refl _⟩
      · rw [aup_i e]; exact t11 i hi, by rw [t12], t13, t14, p0, p1, p2, p3, p4, p5⟩
  · intro i hi
    obtain ⟨x1, x2, x3⟩ := hK i hi
    refine ⟨x1, x2, fun k hk2 => ?_⟩
    have hx : ∀ b, ks (aup ar 5 s (nI w)) i k b (ep i) = ks ar i k b (ep i) := fun b => ks_congr (by rw [hk 6 (by omega)]) (by rw [hk 7 (by omega)]) (fun g _ => by rw [hk 8 (by omega), hk 9 (by omega), hk 10 (by omega), hk 11 (by omega)]; exact ⟨rfl, rfl, rfl, rfl⟩)
    rw [hx, hx]; exact x3 k hk2
theorem hc_note {s : Nat} {pp bb : Int32} {tp tb : Nat → Int32} (hT : TD n c d w ln fo nt ar rb) (hR : RC κ G B n c d w ln fo nt ar rb kl ep kp kb iK sm ky) (hK : KN ar n c ln kl ep kp kb) (hC : CH ar n kl kp kb iK sm ky) (hs : s < n) (hl : ln s ≠ 24) (hN : isNt pp bb) (htp : ∀ k, k < ln s → tp k = ar 6 (24 * s + k) ∧ tb k = ar 7 (24 * s + k)) (hTU : zTU κ G2 (B 16 (2 * s + 1)) (2 * s + 1) (ln s + 1) (upd tp (ln s) pp) (upd tb (ln s) (if pp = -1 then 0 else bb))) (hO2 : G2 (B 0 0) = some ((2, 0, 0), .inr (8, [.ref (B 1 0), .ref (B 3 0), .ref (B 9 0), .ref (B 13 0), .ref (B 13 1), .ref (B 13 2), .int (nI w), .int (fo), .int (nt + 1), .int (nI c)]))) (hF : zFP (fun r => r = (2, 0, 0) ∨ isTU (2 * s + 1) r) G G2) : HC κ G2 B n c d w (fup ln s (ln s + 1)) fo (nt + 1) (oNote ar s (ln s) pp bb) rb := by
  obtain ⟨t1, t2, t3, t4, t5, t6, t7, t8, t9, t10, t11, t12, t13, t14, p0, p1, p2, p3, p4, p5⟩ := hT
  have h24 := t5 s hs
  generalize e2 : oNote ar s (ln s) pp bb = ar2
  have hk : ∀ k, k ≠ 4 → k ≠ 6 → k ≠ 7 → ar2 k = ar k := fun k h1 h2 h3 => by rw [← e2]; unfold oNote; rw [aup_k h1, aup_k h3, aup_k h2]
  have a4 : ar2 4 = upd (ar 4) s (nI (ln s + 1)) := by rw [← e2]; unfold oNote; rw [aup_u, aup_k (by omega), aup_k (by omega)]
  have a6 : ar2 6 = upd (ar 6) (24 * s + ln s) pp := by rw [← e2]; unfold oNote; rw [aup_k (by omega), aup_k (by omega), aup_u]
  have a7 : ar2 7 = upd (ar 7) (24 * s + ln s) (if pp = -1 then 0 else bb) := by rw [← e2]; unfold oNote; rw [aup_k (by omega), aup_u, aup_k (by omega)]
  have h67 : ∀ i k, i < n → k < ln i → ar2 6 (24 * i + k) = ar 6 (24 * i + k) ∧ ar2 7 (24 * i + k) = ar 7 (24 * i + k) := fun i k hi hk2 => by
    have := t5 i hi
    have hne : 24 * i + k ≠ 24 * s + ln s := fun q => by
      by_cases e : i = s
      · subst e; omega
      · omega
    rw [a6, a7, upd_n hne, upd_n hne]; exact ⟨rfl, rfl⟩
  have hD : HD ar ar2 n c d ln := by
    refine ⟨?_, h67, ?_, ?_, ?_⟩ <;> first | (rw [hk 1 (by omega) (by omega) (by omega), hk 2 (by omega) (by omega) (by omega), hk 3 (by omega) (by omega) (by omega), hk 5 (by omega) (by omega) (by omega)]; exact fun _ _ => ⟨rfl, rfl, rfl, rfl⟩) | (rw [hk 8 (by omega) (by omega) (by omega), hk 9 (by omega) (by omega) (by omega), hk 10 (by omega) (by omega) (by omega), hk 11 (by omega) (by omega) (by omega), hk 12 (by omega) (by omega) (by omega)]; exact fun _ _ => ⟨rfl, rfl, rfl, rfl, rfl⟩) | (rw [hk 13 (by omega) (by omega) (by omega), hk 14 (by omega) (by omega) (by omega)]; exact fun _ _ => ⟨rfl, rfl⟩) | exact hk 15 (by omega) (by omega) (by omega)
  have hR' := hR.congr hD (fun i hi => (hK i hi).2.1)
  have hK' := hK.congr hD
  obtain ⟨hO, hP, ⟨cols, key, f0, f1, f2, S, hA⟩, hLK, hl0, hl1, ⟨k2, es2, hl2⟩, hS, hCo, hPr⟩ := hR'
  have hge : ∀ i, ln i ≤ fup ln s (ln s + 1) i := fun i => by
    by_cases e : i = s
    · subst e; rw [fup_s]; omega
    · rw [fup_n e]; exact Nat.le_refl _
  refine ⟨?_, kl, ep, kp, kb, iK, sm, ky, ⟨hO2, hP.keep hF (by intro h; simp only [isTU, shNew, Prod.mk.injEq] at h <;> omega) (by intro h; simp only [isTU, shNew, Prod.mk.injEq] at h <;> omega), ⟨_, _, _, _, _, _, hA.keep hF (fun k j _ => (by intro h; simp only [isTU, shNew, Prod.mk.injEq] at h <;> omega))⟩, hLK.keep hF (fun k _ => (by intro h; simp only [isTU, shNew, Prod.mk.injEq] at h <;> omega)), hl0.keep hF (by intro h; simp only [isTU, shNew, Prod.mk.injEq] at h <;> omega) (by intro h; simp only [isTU, shNew, Prod.mk.injEq] at h <;> omega), hl1.keep hF (by intro h; simp only [isTU, shNew, Prod.mk.injEq] at h <;> omega) (by intro h; simp only [isTU, shNew, Prod.mk.injEq] at h <;> omega), ⟨_, _, hl2.keep hF (by intro h; simp only [isTU, shNew, Prod.mk.injEq] at h <;> omega) (by intro h; simp only [isTU, shNew, Prod.mk.injEq] at h <;> omega)⟩, fun i hi => by
    by_cases e : i = s
    · subst e
      obtain ⟨s1, s2, -, s5⟩ := hS i hi
      refine ⟨hF.1 _ _ _ (by intro h; simp only [isTU, shNew, Prod.mk.injEq] at h <;> omega) s1, s2.keep hF (fun r h1 h => by simp only [isTU] at h1; rcases h1 with rfl | rfl | rfl <;> simp only [isTU, Prod.mk.injEq] at h <;> omega), ⟨_, _, by rw [fup_s]; exact hTU, fun k hk2 => ?_⟩, s5.keep hF (by intro h; simp only [isTU, shNew, Prod.mk.injEq] at h <;> omega) (by intro h; simp only [isTU, shNew, Prod.mk.injEq] at h <;> omega)⟩
      rw [fup_s] at hk2
      rw [a6, a7]
      by_cases ek : k = ln i
      · subst ek; rw [upd_s, upd_s, upd_s, upd_s]; exact ⟨rfl, rfl⟩
      · rw [upd_n ek, upd_n ek, upd_n (by omega), upd_n (by omega)]; exact htp k (by omega)
    · have := (hS i hi).keep hF (fun k j h1 => by intro h; simp only [onSh, isTU, Prod.mk.injEq] at h1 h <;> omega)
      unfold ShC at this ⊢
      rw [fup_n e]; exact this, fun k hk => hF.1 _ _ _ (by intro h; simp only [isTU, shNew, Prod.mk.injEq] at h <;> omega) (hCo k hk), fun k hk => hF.1 _ _ _ (by intro h; simp only [isTU, shNew, Prod.mk.injEq] at h <;> omega) (hPr k hk)⟩, fun i hi => ⟨Nat.le_trans (hK' i hi).1 (hge i), (hK' i hi).2⟩, hC.congr (hk 15 (by omega) (by omega) (by omega))⟩
  · unfold TD
    rw [cntF_congr (ar := ar) (ar2 := ar2) (n := n) (fun k _ => by rw [hk 5 (by omega) (by omega) (by omega)]), lenS_note (ar := ar) (ar2 := ar2) (s := s) (l := ln s) (fun k hk2 => by rw [a4, upd_n hk2]) (t14 s hs) (by rw [a4, upd_s]) hs]
    rw [hk 1 (by omega) (by omega) (by omega), hk 5 (by omega) (by omega) (by omega), hk 8 (by omega) (by omega) (by omega), hk 9 (by omega) (by omega) (by omega), hk 10 (by omega) (by omega) (by omega), hk 11 (by omega) (by omega) (by omega), hk 12 (by omega) (by omega) (by omega), hk 13 (by omega) (by omega) (by omega), hk 14 (by omega) (by omega) (by omega), hk 15 (by omega) (by omega) (by omega)]
    refine ⟨t1, t2, t3, t4, fun i hi => ?_, t6, t7, fun k hk2 => ?_, fun i g hi hg => ?_, t10, t11, t12, by rw [t13], fun i hi => ?_, p0, p1, p2, p3, p4, p5⟩
    · by_cases e : i = s
      · subst e; rw [fup_s]; omega
      · rw [fup_n e]; exact t5 i hi
    · obtain ⟨⟨s9, y1, y2, g9, y3, y4⟩, y5⟩ := t8 k hk2
      exact ⟨⟨s9, y1, y2, g9, Nat.lt_of_lt_of_le y3 (hge s9), y4⟩, y5⟩
    · by_cases e : i = s ∧ g = ln s
      · obtain ⟨rfl, rfl⟩ := e
        rw [a6, a7, upd_s, upd_s]
        rcases hN with rfl | ⟨⟨n1, n2⟩, n3, n4⟩
        · rw [if_pos rfl]; exact ⟨by decide, by decide⟩
        · rw [i_le, show (0 : Int32).toInt = 0 from rfl] at n1
          rw [i_le, show (60 : Int32).toInt = 60 from by decide] at n2
          rw [i_le, show (1 : Int32).toInt = 1 from by decide] at n3
          rw [i_le, show (16 : Int32).toInt = 16 from by decide] at n4
          rw [if_neg (fun q => by rw [i_eq, i_m1] at q; omega)]
          rw [i_le, i_le, i_le, i_le, i_m1, show (0 : Int32).toInt = 0 from rfl, show (60 : Int32).toInt = 60 from by decide, show (16 : Int32).toInt = 16 from by decide]
          omega
      · have hg2 : g < ln i := by
          by_cases e1 : i = s
          · subst e1; rw [fup_s] at hg
            have : g ≠ ln i := fun q => e ⟨rfl, q⟩
            omega
          · rw [fup_n e1] at hg; exact hg
        rw [(h67 i g hi hg2).1, (h67 i g hi hg2).2]
        exact t9 i g hi hg2
    · rw [a4]
      by_cases e : i = s
      · subst e; rw [upd_s, fup_s]
      · rw [upd_n e, fup_n e]; exact t14 i hi
theorem hc_cor {s0 i0 pp bb : Int32} {q : Nat} (hT : TD n c d w ln fo nt ar rb) (hR : RC κ G B n c d w ln fo nt ar rb kl ep kp kb iK sm ky) (hK : KN ar n c ln kl ep kp kb) (hC : CH ar n kl kp kb iK sm ky) (hm : okCor n c ln s0 i0 pp bb) (hO2 : G2 (B 0 0) = some ((2, 0, 0), .inr (8, [.ref (B 1 0), .ref (B 3 0), .ref (B 9 0), .ref (B 13 0), .ref (B 13 1), .ref (B 13 2), .int (nI w), .int (fo), .int (nt), .int (nI (c + 1))]))) (hq : G2 q = some ((2, 19, c), .inr (2, [.int (nI w), .int i0, .int pp, .int bb]))) (hL2 : zLs κ G2 (3 + iN s0) (B 13 (3 + iN s0)) 299 (cntS ar (iN s0) c + 1) (zup (fun j => B 19 (gx ar (iN s0) c j)) (cntS ar (iN s0) c) q)) (hF : zFP (fun r => r = (2, 19, c) ∨ (r = (2, 13, 3 + iN s0) ∨ r = (2, 14, 3 + iN s0)) ∨ r = (2, 0, 0)) G G2) : HC κ G2 (bup B 19 c q) n (c + 1) d w ln fo nt (oCor ar c w s0 i0 pp bb) (upd rb c bb) := by
  obtain ⟨t1, t2, t3, t4, t5, t6, t7, t8, t9, t10, t11, t12, t13, t14, p0, p1, p2, p3, p4, p5⟩ := hT
  obtain ⟨hs, hi, hN, hc200⟩ := hm
  generalize e2 : oCor ar c w s0 i0 pp bb = ar2
  have hk : ∀ k, k ≠ 8 → k ≠ 9 → k ≠ 10 → k ≠ 11 → k ≠ 12 → ar2 k = ar k := fun k h1 h2 h3 h4 h5 => by rw [← e2]; unfold oCor; rw [aup_k h5, aup_k h4, aup_k h3, aup_k h2, aup_k h1]
  have a8 : ar2 8 = upd (ar 8) c s0 := by rw [← e2]; unfold oCor; rw [aup_k (by omega), aup_k (by omega), aup_k (by omega), aup_k (by omega), aup_u]
  have a9 : ar2 9 = upd (ar 9) c i0 := by rw [← e2]; unfold oCor; rw [aup_k (by omega), aup_k (by omega), aup_k (by omega), aup_u, aup_k (by omega)]
  have a10 : ar2 10 = upd (ar 10) c pp := by rw [← e2]; unfold oCor; rw [aup_k (by omega), aup_k (by omega), aup_u, aup_k (by omega), aup_k (by omega)]
  have a11 : ar2 11 = upd (ar 11) c (if pp = -1 then 0 else bb) := by rw [← e2]; unfold oCor; rw [aup_k (by omega), aup_u, aup_k (by omega), aup_k (by omega), aup_k (by omega)]
  have a12 : ar2 12 = upd (ar 12) c (nI w) := by rw [← e2]; unfold oCor; rw [aup_u, aup_k (by omega), aup_k (by omega), aup_k (by omega), aup_k (by omega)]
  have hlow : ∀ k, k < c → ar2 8 k = ar 8 k ∧ ar2 9 k = ar 9 k ∧ ar2 10 k = ar 10 k ∧ ar2 11 k = ar 11 k ∧ ar2 12 k = ar 12 k := fun k hk2 => by
    have hne : k ≠ c := by omega
    rw [a8, a9, a10, a11, a12, upd_n hne, upd_n hne, upd_n hne, upd_n hne, upd_n hne]; exact ⟨rfl, rfl, rfl, rfl, rfl⟩
  have r1 : ∀ k, k < 8 ∨ 12 < k → ar2 k = ar k := fun k h => hk k (by omega) (by omega) (by omega) (by omega) (by omega)
  have hD : HD ar ar2 n c d ln := by
    refine ⟨?_, ?_, hlow, ?_, r1 15 (by omega)⟩
    · rw [r1 1 (by omega), r1 2 (by omega), r1 3 (by omega), r1 5 (by omega)]; exact fun _ _ => ⟨rfl, rfl, rfl, rfl⟩
    · rw [r1 6 (by omega), r1 7 (by omega)]; exact fun _ _ _ _ => ⟨rfl, rfl⟩
    · rw [r1 13 (by omega), r1 14 (by omega)]; exact fun _ _ => ⟨rfl, rfl⟩
  have hR' := hR.congr hD (fun i hi => (hK i hi).2.1)
  have hK' := hK.congr hD
  obtain ⟨hO, hP, ⟨cols, key, f0, f1, f2, S, hA⟩, hLK, hl0, hl1, ⟨k2, es2, hl2⟩, hS, hCo, hPr⟩ := hR'
  have hla := iN_lt hs (show n < 2 ^ 31 by omega)
  have hsn := nI_iN hs (show n < 2 ^ 31 by omega)
  obtain ⟨g0, hg0, hg1⟩ := ix_in hi.1 hi.2 (by have := t5 _ hla; omega)
  have hRx : RC κ G2 (bup B 19 c q) n (c + 1) d w ln fo nt ar2 (upd rb c bb) kl ep kp kb iK sm ky := by
    unfold RC ShC
    rw [bup_f (B := B) (k := 19) (j := c) (q := q) (k2 := 0) (by omega), bup_f (B := B) (k := 19) (j := c) (q := q) (k2 := 1) (by omega), bup_f (B := B) (k := 19) (j := c) (q := q) (k2 := 3) (by omega), bup_f (B := B) (k := 19) (j := c) (q := q) (k2 := 9) (by omega), bup_f (B := B) (k := 19) (j := c) (q := q) (k2 := 10) (by omega), bup_f (B := B) (k := 19) (j := c) (q := q) (k2 := 11) (by omega), bup_f (B := B) (k := 19) (j := c) (q := q) (k2 := 12) (by omega), bup_f (B := B) (k := 19) (j := c) (q := q) (k2 := 13) (by omega), bup_f (B := B) (k := 19) (j := c) (q := q) (k2 := 15) (by omega), bup_f (B := B) (k := 19) (j := c) (q := q) (k2 := 16) (by omega), bup_f (B := B) (k := 19) (j := c) (q := q) (k2 := 20) (by omega)]
    refine ⟨hO2, hP.keep hF (by intro h; simp only [isTU, shNew, Prod.mk.injEq] at h <;> omega) (by intro h; simp only [isTU, shNew, Prod.mk.injEq] at h <;> omega), ⟨_, _, _, _, _, _, hA.keep hF (fun k j _ => (by intro h; simp only [isTU, shNew, Prod.mk.injEq] at h <;> omega))⟩, hLK.keep hF (fun k _ => (by intro h; simp only [isTU, shNew, Prod.mk.injEq] at h <;> omega)), hl0.keep hF (by intro h; simp only [isTU, shNew, Prod.mk.injEq] at h <;> omega) (by intro h; simp only [isTU, shNew, Prod.mk.injEq] at h <;> omega), hl1.keep hF (by intro h; simp only [isTU, shNew, Prod.mk.injEq] at h <;> omega) (by intro h; simp only [isTU, shNew, Prod.mk.injEq] at h <;> omega), ⟨_, _, hl2.keep hF (by intro h; simp only [isTU, shNew, Prod.mk.injEq] at h <;> omega) (by intro h; simp only [isTU, shNew, Prod.mk.injEq] at h <;> omega)⟩, fun i hi2 => ?_, fun k hk2 => ?_, fun k hk => hF.1 _ _ _ (by intro h; simp only [isTU, shNew, Prod.mk.injEq] at h <;> omega) (hPr k hk)⟩
    · obtain ⟨s1, s2, ⟨tp, tb, s3, s4⟩, s5⟩ := (hS i hi2)
      refine ⟨hF.1 _ _ _ (by intro h; simp only [isTU, shNew, Prod.mk.injEq] at h <;> omega) s1, s2.keep hF (fun r h1 h => by simp only [isTU] at h1; rcases h1 with rfl | rfl | rfl <;> simp only [Prod.mk.injEq] at h <;> omega), ⟨tp, tb, s3.keep hF (fun r h1 h => by simp only [isTU] at h1; rcases h1 with rfl | rfl | rfl <;> simp only [Prod.mk.injEq] at h <;> omega), s4⟩, ?_⟩
      have c9 := cntS_congr (ar := ar) (ar2 := ar2) (i := i) (e := c) (fun k h => (hlow k h).1)
      have g9 : ∀ j, gx ar2 i c j = gx ar i c j := fun j => gx_congr (ar := ar) (ar2 := ar2) (fun k h => (hlow k h).1)
      by_cases e : i = iN s0
      · subst e
        rw [cntS_s, a8, upd_s, if_pos hsn.symm, c9]
        refine hL2.congr (fun j hj => ?_)
        rw [gx_s, a8, upd_s, c9, g9]
        by_cases ej : j = cntS ar (iN s0) c
        · subst ej; rw [zup_s, if_pos ⟨hsn.symm, rfl⟩, bup_s]
        · rw [zup_n ej, if_neg (fun h => ej h.2.symm), bup_j (by have := (gx_of (ar := ar) (i := iN s0) (c := c) (j := j) (by omega)).1; omega)]
      · have hne : ¬ s0 = nI i := fun h => e (by rw [h, iN_nI (by omega)])
        rw [cntS_s, a8, upd_s, if_neg hne, Nat.add_zero]
        refine (s5.keep hF (by intro h; simp only [isTU, shNew, Prod.mk.injEq] at h <;> omega) (by intro h; simp only [isTU, shNew, Prod.mk.injEq] at h <;> omega)).congr (fun j hj => ?_)
        rw [c9] at hj
        show B 19 (gx ar2 i c j) = bup B 19 c q 19 (gx ar2 i (c + 1) j)
        rw [gx_s, a8, upd_s, if_neg (fun h => hne h.1), g9, bup_j (by have := (gx_of (ar := ar) (i := i) (c := c) (j := j) hj).1; omega)]
    · by_cases e : k = c
      · subst e
        rw [a12, a9, a10, upd_s, upd_s, upd_s, upd_s, bup_s]; exact hq
      · rw [upd_n e, bup_j e]; exact hF.1 _ _ _ (by intro h; simp only [isTU, shNew, Prod.mk.injEq] at h <;> omega) (hCo k (by omega))
  refine ⟨?_, kl, ep, kp, kb, iK, sm, ky, hRx, fun i hi2 => ⟨(hK' i hi2).1, Nat.le_succ_of_le (hK' i hi2).2.1, (hK' i hi2).2.2⟩, hC.congr (r1 15 (by omega))⟩
  unfold TD
  rw [cntF_congr (ar := ar) (ar2 := ar2) (n := n) (fun k _ => by rw [r1 5 (by omega)]), lenS_congr (ar := ar) (ar2 := ar2) (n := n) (fun k _ => by rw [r1 4 (by omega)])]
  rw [r1 1 (by omega), r1 4 (by omega), r1 5 (by omega), r1 6 (by omega), r1 7 (by omega), r1 13 (by omega), r1 14 (by omega), r1 15 (by omega)]
  refine ⟨t1, by omega, t3, t4, t5, fun k k3 h1 h2 => ?_, fun k h1 => ?_, fun k h1 => ?_, t9, t10, t11, t12, t13, t14, p0, p1, p2, p3, p4, p5⟩
  · rw [a12]
    by_cases e3 : k3 = c
    · subst e3
      rw [upd_s]
      by_cases e1 : k = k3
      · subst e1; rw [upd_s]; exact Int32.le_refl _
      · rw [upd_n e1]; exact t7 k (by omega)
    · rw [upd_n e3, upd_n (by omega)]; exact t6 k k3 h1 (by omega)
  · rw [a12]
    by_cases e1 : k = c
    · subst e1; rw [upd_s]; exact Int32.le_refl _
    · rw [upd_n e1]; exact t7 k (by omega)
  · by_cases e1 : k = c
    · subst e1
      rw [a8, a9, a10, a11, upd_s, upd_s, upd_s, upd_s, upd_s]
      refine ⟨⟨iN s0, hla, hsn.symm, g0, hg1, hg0⟩, rfl, ?_⟩
      rcases hN with rfl | ⟨⟨n1, n2⟩, n3, n4⟩
      · rw [if_pos rfl]; exact ⟨by decide, by decide⟩
      · rw [i_le, show (0 : Int32).toInt = 0 from rfl] at n1
        rw [i_le, show (60 : Int32).toInt = 60 from by decide] at n2
        rw [i_le, show (1 : Int32).toInt = 1 from by decide] at n3
        rw [i_le, show (16 : Int32).toInt = 16 from by decide] at n4
        rw [if_neg (fun q => by rw [i_eq, i_m1] at q; omega)]
        rw [i_le, i_le, i_le, i_le, i_m1, show (0 : Int32).toInt = 0 from rfl, show (60 : Int32).toInt = 60 from by decide, show (16 : Int32).toInt = 16 from by decide]
        omega
    · rw [a8, a9, a10, a11, upd_n e1, upd_n e1, upd_n e1, upd_n e1, upd_n e1]; exact t8 k (by omega)
theorem hc_dbl {a0 b0 : Int32} {q : Nat} (hT : TD n c d w ln fo nt ar rb) (hR : RC κ G B n c d w ln fo nt ar rb kl ep kp kb iK sm ky) (hK : KN ar n c ln kl ep kp kb) (hC : CH ar n kl kp kb iK sm ky) (hm : okDbl n d ar a0 b0) (hq : G2 q = some ((2, 20, d), .inr (4, [.ref (B 15 (iN a0)), .ref (B 15 (iN b0))]))) (hL2 : zLs κ G2 1 (B 13 1) 89 (d + 1) (zup (B 20) d q)) (hF : zFP (fun r => r = (2, 20, d) ∨ r = (2, 13, 1) ∨ r = (2, 14, 1)) G G2) : HC κ G2 (bup B 20 d q) n c (d + 1) w ln fo nt (oDbl ar d a0 b0) rb := by
  obtain ⟨t1, t2, t3, t4, t5, t6, t7, t8, t9, t10, t11, t12, t13, t14, p0, p1, p2, p3, p4, p5⟩ := hT
  obtain ⟨ha, hb, hh, hd60, -⟩ := hm
  generalize e2 : oDbl ar d a0 b0 = ar2
  have r1 : ∀ k, k ≠ 13 → k ≠ 14 → ar2 k = ar k := fun k h1 h2 => by rw [← e2]; unfold oDbl; rw [aup_k h2, aup_k h1]
  have a13 : ar2 13 = upd (ar 13) d a0 := by rw [← e2]; unfold oDbl; rw [aup_k (by omega), aup_u]
  have a14 : ar2 14 = upd (ar 14) d b0 := by rw [← e2]; unfold oDbl; rw [aup_u, aup_k (by omega)]
  have hD : HD ar ar2 n c d ln := by
    refine ⟨?_, ?_, ?_, fun k hk2 => ?_, r1 15 (by omega) (by omega)⟩
    · rw [r1 1 (by omega) (by omega), r1 2 (by omega) (by omega), r1 3 (by omega) (by omega), r1 5 (by omega) (by omega)]; exact fun _ _ => ⟨rfl, rfl, rfl, rfl⟩
    · rw [r1 6 (by omega) (by omega), r1 7 (by omega) (by omega)]; exact fun _ _ _ _ => ⟨rfl, rfl⟩
    · rw [r1 8 (by omega) (by omega), r1 9 (by omega) (by omega), r1 10 (by omega) (by omega), r1 11 (by omega) (by omega), r1 12 (by omega) (by omega)]; exact fun _ _ => ⟨rfl, rfl, rfl, rfl, rfl⟩
    · rw [a13, a14, upd_n (by omega), upd_n (by omega)]; exact ⟨rfl, rfl⟩
  have hR' := hR.congr hD (fun i hi => (hK i hi).2.1)
  have hK' := hK.congr hD
  obtain ⟨hO, hP, ⟨cols, key, f0, f1, f2, S, hA⟩, hLK, hl0, hl1, ⟨k2, es2, hl2⟩, hS, hCo, hPr⟩ := hR'
  have hla := iN_lt ha (show n < 2 ^ 31 by omega)
  have hlb := iN_lt hb (show n < 2 ^ 31 by omega)
  have hsa := nI_iN ha (show n < 2 ^ 31 by omega)
  have hsb := nI_iN hb (show n < 2 ^ 31 by omega)
  have hRx : RC κ G2 (bup B 20 d q) n c (d + 1) w ln fo nt ar2 rb kl ep kp kb iK sm ky := by
    unfold RC ShC
    rw [bup_f (B := B) (k := 20) (j := d) (q := q) (k2 := 0) (by omega), bup_f (B := B) (k := 20) (j := d) (q := q) (k2 := 1) (by omega), bup_f (B := B) (k := 20) (j := d) (q := q) (k2 := 3) (by omega), bup_f (B := B) (k := 20) (j := d) (q := q) (k2 := 9) (by omega), bup_f (B := B) (k := 20) (j := d) (q := q) (k2 := 10) (by omega), bup_f (B := B) (k := 20) (j := d) (q := q) (k2 := 11) (by omega), bup_f (B := B) (k := 20) (j := d) (q := q) (k2 := 12) (by omega), bup_f (B := B) (k := 20) (j := d) (q := q) (k2 := 13) (by omega), bup_f (B := B) (k := 20) (j := d) (q := q) (k2 := 15) (by omega), bup_f (B := B) (k := 20) (j := d) (q := q) (k2 := 16) (by omega), bup_f (B := B) (k := 20) (j := d) (q := q) (k2 := 19) (by omega)]
    refine ⟨hF.1 _ _ _ (by intro h; simp only [isTU, shNew, Prod.mk.injEq] at h <;> omega) hO, hP.keep hF (by intro h; simp only [isTU, shNew, Prod.mk.injEq] at h <;> omega) (by intro h; simp only [isTU, shNew, Prod.mk.injEq] at h <;> omega), ⟨_, _, _, _, _, _, hA.keep hF (fun k j _ => (by intro h; simp only [isTU, shNew, Prod.mk.injEq] at h <;> omega))⟩, hLK.keep hF (fun k _ => (by intro h; simp only [isTU, shNew, Prod.mk.injEq] at h <;> omega)), hl0.keep hF (by intro h; simp only [isTU, shNew, Prod.mk.injEq] at h <;> omega) (by intro h; simp only [isTU, shNew, Prod.mk.injEq] at h <;> omega), hL2.congr (fun j hj => by unfold zup bup; by_cases e : j = d <;> simp [e]), ⟨_, _, hl2.keep hF (by intro h; simp only [isTU, shNew, Prod.mk.injEq] at h <;> omega) (by intro h; simp only [isTU, shNew, Prod.mk.injEq] at h <;> omega)⟩, fun i hi => (hS i hi).keep hF (fun k j h1 => by intro h; simp only [onSh, isTU, shNew, Prod.mk.injEq] at h1 h <;> omega), fun k hk => hF.1 _ _ _ (by intro h; simp only [isTU, shNew, Prod.mk.injEq] at h <;> omega) (hCo k hk), fun k hk2 => ?_⟩
    by_cases e : k = d
    · subst e
      rw [a13, a14, upd_s, upd_s, bup_s]; exact hq
    · rw [bup_j e]; exact hF.1 _ _ _ (by intro h; simp only [isTU, shNew, Prod.mk.injEq] at h <;> omega) (hPr k (by omega))
  refine ⟨?_, kl, ep, kp, kb, iK, sm, ky, hRx, hK', hC.congr (r1 15 (by omega) (by omega))⟩
  unfold TD
  rw [cntF_congr (ar := ar) (ar2 := ar2) (n := n) (fun k _ => by rw [r1 5 (by omega) (by omega)]), lenS_congr (ar := ar) (ar2 := ar2) (n := n) (fun k _ => by rw [r1 4 (by omega) (by omega)])]
  rw [r1 1 (by omega) (by omega), r1 4 (by omega) (by omega), r1 5 (by omega) (by omega), r1 6 (by omega) (by omega), r1 7 (by omega) (by omega), r1 8 (by omega) (by omega), r1 9 (by omega) (by omega), r1 10 (by omega) (by omega), r1 11 (by omega) (by omega), r1 12 (by omega) (by omega), r1 15 (by omega) (by omega)]
  refine ⟨t1, t2, by omega, t4, t5, t6, t7, t8, t9, fun k h1 => ?_, t11, t12, t13, t14, p0, p1, p2, p3, p4, p5⟩
  rw [a13, a14]
  by_cases e1 : k = d
  · subst e1
    rw [upd_s, upd_s]
    exact ⟨iN a0, iN b0, hla, hlb, hsa.symm, hsb.symm, hh⟩
  · rw [upd_n e1, upd_n e1]; exact t10 k (by omega)
def shB (B : Nat → Nat → Nat) (n q kt tt am : Nat) : Nat → Nat → Nat := bup (bup (bup (bup B 15 n q) 16 (2 * n) kt) 16 (2 * n + 1) tt) 13 (3 + n) am
theorem shB_f {n q kt tt am k : Nat} (h : k ≠ 13 ∧ k ≠ 15 ∧ k ≠ 16) : shB B n q kt tt am k = B k := by unfold shB; rw [bup_f h.1, bup_f h.2.2, bup_f h.2.2, bup_f h.2.1]
theorem shB_13 {n q kt tt am j : Nat} (h : j ≠ 3 + n) : shB B n q kt tt am 13 j = B 13 j := by unfold shB; rw [bup_j h, bup_k (by omega), bup_k (by omega), bup_k (by omega)]
theorem shB_15 {n q kt tt am j : Nat} (h : j ≠ n) : shB B n q kt tt am 15 j = B 15 j := by unfold shB; rw [bup_k (by omega), bup_k (by omega), bup_k (by omega), bup_j h]
theorem shB_16 {n q kt tt am j : Nat} (h : j ≠ 2 * n ∧ j ≠ 2 * n + 1) : shB B n q kt tt am 16 j = B 16 j := by unfold shB; rw [bup_k (by omega), bup_j h.2, bup_j h.1, bup_k (by omega)]
theorem shB_a {n q kt tt am : Nat} : shB B n q kt tt am 13 (3 + n) = am := by unfold shB; rw [bup_s]
theorem shB_q {n q kt tt am : Nat} : shB B n q kt tt am 15 n = q := by unfold shB; rw [bup_k (by omega), bup_k (by omega), bup_k (by omega), bup_s]
theorem shB_k {n q kt tt am : Nat} : shB B n q kt tt am 16 (2 * n) = kt := by unfold shB; rw [bup_k (by omega), bup_j (by omega), bup_s]
theorem shB_t {n q kt tt am : Nat} : shB B n q kt tt am 16 (2 * n + 1) = tt := by unfold shB; rw [bup_k (by omega), bup_s]
set_option maxHeartbeats 1000000 in
theorem hc_sheet {h0 y0 v0 : Int32} {q kt tt am : Nat} {es : Nat → Nat} (hT : TD n c d w ln fo nt ar rb) (hR : RC κ G B n c d w ln fo nt ar rb kl ep kp kb iK sm ky) (hK : KN ar n c ln kl ep kp kb) (hC : CH ar n kl kp kb iK sm ky) (hm : okSheet n h0 y0 v0) (hq : G2 q = some ((2, 15, n), .inr (6, [.int (nI n), .int h0, .int y0, .int v0, .ref kt, .ref tt, .ref am, .int 0, .int (-1)]))) (hT2 : zTU κ G2 kt (2 * n) 0 (fun _ => 0) (fun _ => 0)) (hU2 : zTU κ G2 tt (2 * n + 1) 0 (fun _ => 0) (fun _ => 0)) (hA2 : zLs κ G2 (3 + n) am 299 0 es) (hL2 : zLs κ G2 0 (B 13 0) 29 (n + 1) (zup (B 15) n q)) (hF : zFP (fun r => shNew n r ∨ r = (2, 13, 0) ∨ r = (2, 14, 0)) G G2) : HC κ G2 (shB B n q kt tt am) (n + 1) c d w (fup ln n 0) fo nt (oSheet n ar h0 y0 v0) rb := by
  obtain ⟨t1, t2, t3, t4, t5, t6, t7, t8, t9, t10, t11, t12, t13, t14, p0, p1, p2, p3, p4, p5⟩ := hT
  have hn20 := hm.1
  generalize e2 : oSheet n ar h0 y0 v0 = ar2
  have r1 : ∀ k, k = 0 ∨ 5 < k → ar2 k = ar k := fun k h => by rw [← e2]; unfold oSheet; rw [aup_k (by omega), aup_k (by omega), aup_k (by omega), aup_k (by omega), aup_k (by omega)]
  have ri : ∀ k i, i ≠ n → ar2 k i = ar k i := fun k i h => by rw [← e2]; unfold oSheet; rw [aup_i h, aup_i h, aup_i h, aup_i h, aup_i h]
  have s1 : ar2 1 n = h0 := by rw [← e2]; unfold oSheet; rw [aup_k (by omega), aup_k (by omega), aup_k (by omega), aup_k (by omega), aup_s]
  have s2 : ar2 2 n = y0 := by rw [← e2]; unfold oSheet; rw [aup_k (by omega), aup_k (by omega), aup_k (by omega), aup_s]
  have s3 : ar2 3 n = v0 := by rw [← e2]; unfold oSheet; rw [aup_k (by omega), aup_k (by omega), aup_s]
  have s4 : ar2 4 n = 0 := by rw [← e2]; unfold oSheet; rw [aup_k (by omega), aup_s]
  have s5 : ar2 5 n = -1 := by rw [← e2]; unfold oSheet; rw [aup_s]
  have hD : HD ar ar2 n c d ln := by
    refine ⟨fun i hi => ?_, ?_, ?_, ?_, r1 15 (by omega)⟩
    · rw [ri 1 i (by omega), ri 2 i (by omega), ri 3 i (by omega), ri 5 i (by omega)]; exact ⟨rfl, rfl, rfl, rfl⟩
    · rw [r1 6 (by omega), r1 7 (by omega)]; exact fun _ _ _ _ => ⟨rfl, rfl⟩
    · rw [r1 8 (by omega), r1 9 (by omega), r1 10 (by omega), r1 11 (by omega), r1 12 (by omega)]; exact fun _ _ => ⟨rfl, rfl, rfl, rfl, rfl⟩
    · rw [r1 13 (by omega), r1 14 (by omega)]; exact fun _ _ => ⟨rfl, rfl⟩
  have hR' := hR.congr hD (fun i hi => (hK i hi).2.1)
  have hK' := hK.congr hD
  obtain ⟨hO, hP, ⟨cols, key, f0, f1, f2, S, hA⟩, hLK, hl0, hl1, ⟨k2, es2, hl2⟩, hS, hCo, hPr⟩ := hR'
  have hz : cntS ar2 n c = 0 := cntS_zero (fun k hk2 => by
    obtain ⟨⟨s9, y1, y2, -⟩, -⟩ := t8 k hk2
    rw [r1 8 (by omega), y2]
    exact fun h => by rw [nI_eq (by omega) (by omega)] at h; omega)
  have hRx : RC κ G2 (shB B n q kt tt am) (n + 1) c d w (fup ln n 0) fo nt ar2 rb (fup kl n 0) (fup ep n 0) (fup kp n (fun _ => 0)) (fup kb n (fun _ => 0)) iK sm ky := by
    have hes : ∀ j, j < n + 1 → zup (B 15) n q j = shB B n q kt tt am 15 j := fun j _ => by
      by_cases e : j = n
      · subst e; rw [zup_s, shB_q]
      · rw [zup_n e, shB_15 e]
    unfold RC
    rw [shB_13 (show 0 ≠ 3 + n by omega), shB_13 (show 1 ≠ 3 + n by omega), shB_13 (show 2 ≠ 3 + n by omega), shB_f (k := 0) (by omega), shB_f (k := 1) (by omega), shB_f (k := 3) (by omega), shB_f (k := 9) (by omega), shB_f (k := 10) (by omega), shB_f (k := 11) (by omega), shB_f (k := 12) (by omega), shB_f (k := 19) (by omega), shB_f (k := 20) (by omega)]
    refine ⟨hF.1 _ _ _ (by intro h; simp only [isTU, shNew, Prod.mk.injEq] at h <;> omega) hO, hP.keep hF (by intro h; simp only [isTU, shNew, Prod.mk.injEq] at h <;> omega) (by intro h; simp only [isTU, shNew, Prod.mk.injEq] at h <;> omega), ⟨_, _, _, _, _, _, hA.keep hF (fun k j _ => (by intro h; simp only [isTU, shNew, Prod.mk.injEq] at h <;> omega))⟩, hLK.keep hF (fun k _ => (by intro h; simp only [isTU, shNew, Prod.mk.injEq] at h <;> omega)), hL2.congr hes, hl1.keep hF (by intro h; simp only [isTU, shNew, Prod.mk.injEq] at h <;> omega) (by intro h; simp only [isTU, shNew, Prod.mk.injEq] at h <;> omega), ⟨_, _, hl2.keep hF (by intro h; simp only [isTU, shNew, Prod.mk.injEq] at h <;> omega) (by intro h; simp only [isTU, shNew, Prod.mk.injEq] at h <;> omega)⟩, fun i hi2 => ?_, fun k hk => hF.1 _ _ _ (by intro h; simp only [isTU, shNew, Prod.mk.injEq] at h <;> omega) (hCo k hk), fun k hk2 => ?_⟩
    · by_cases e : i = n
      · subst e
        unfold ShC
        rw [shB_q, shB_k, shB_t, shB_a, fup_s, fup_s, fup_s, fup_s, fup_s, s1, s2, s3, s5, hz]
        exact ⟨hq, hT2, ⟨_, _, hU2, fun k hk2 => absurd hk2 (Nat.not_lt_zero _)⟩, hA2.congr (fun j hj => absurd hj (Nat.not_lt_zero _))⟩
      · have := (hS i (by omega)).keep hF (fun k j h1 => by intro h; simp only [onSh, isTU, shNew, Prod.mk.injEq] at h1 h <;> omega)
        unfold ShC at this ⊢
        rw [shB_15 e, shB_16 (by omega), shB_16 (by omega), shB_13 (by omega), fup_n e, fup_n e, fup_n e, fup_n e, fup_n e, shB_f (k := 19) (by omega)]
        exact this
    · obtain ⟨a9, b9, y1, y2, y3, y4, -⟩ := t10 k hk2
      rw [r1 13 (by omega), r1 14 (by omega), y3, y4, iN_nI (by omega), iN_nI (by omega), shB_15 (by omega), shB_15 (by omega)]
      have := hF.1 _ _ _ (by intro h; simp only [isTU, shNew, Prod.mk.injEq] at h <;> omega) (hPr k hk2)
      rw [r1 13 (by omega), r1 14 (by omega), y3, y4, iN_nI (by omega), iN_nI (by omega)] at this
      exact this
  refine ⟨?_, fup kl n 0, fup ep n 0, fup kp n (fun _ => 0), fup kb n (fun _ => 0), iK, sm, ky, hRx, fun i hi2 => ?_, fun a b ha hb h0 => ?_⟩
  · unfold TD
    unfold cntF lenS
    rw [cntF_congr (ar := ar) (ar2 := ar2) (n := n) (fun k hk2 => ri 5 k (by omega)), lenS_congr (ar := ar) (ar2 := ar2) (n := n) (fun k hk2 => ri 4 k (by omega)), s4, s5]
    rw [r1 6 (by omega), r1 7 (by omega), r1 8 (by omega), r1 9 (by omega), r1 10 (by omega), r1 11 (by omega), r1 12 (by omega), r1 13 (by omega), r1 14 (by omega), r1 15 (by omega)]
    refine ⟨by omega, t2, t3, t4, fun i hi => ?_, t6, t7, fun k hk2 => ?_, fun i g hi hg => ?_, fun k hk2 => ?_, fun i hi => ?_, ?_, ?_, fun i hi => ?_, p0, p1, p2, p3, p4, p5⟩
    · by_cases e : i = n
      · subst e; rw [fup_s]; omega
      · rw [fup_n e]; exact t5 i (by omega)
    · obtain ⟨⟨s9, y1, y2, g9, y3, y4⟩, y5⟩ := t8 k hk2
      exact ⟨⟨s9, by omega, y2, g9, by rw [fup_n (by omega)]; exact y3, y4⟩, y5⟩
    · by_cases e : i = n
      · subst e; rw [fup_s] at hg; omega
      · rw [fup_n e] at hg; exact t9 i g (by omega) hg
    · obtain ⟨a9, b9, y1, y2, y3, y4, y5⟩ := t10 k hk2
      exact ⟨a9, b9, by omega, by omega, y3, y4, by rw [ri 1 a9 (by omega), ri 1 b9 (by omega)]; exact y5⟩
    · by_cases e : i = n
      · subst e; exact Or.inl s5
      · rw [ri 5 i e]; exact t11 i (by omega)
    · rw [t12]; unfold zb; rw [if_neg (fun h => h rfl), Int32.add_zero]
    · rw [t13, Int32.add_zero]
    · by_cases e : i = n
      · subst e; rw [fup_s, s4]; rfl
      · rw [ri 4 i e, fup_n e]; exact t14 i (by omega)
  · by_cases e : i = n
    · subst e; rw [fup_s, fup_s, fup_s, fup_s, fup_s]; exact ⟨Nat.zero_le _, Nat.zero_le _, fun k hk2 => absurd hk2 (Nat.not_lt_zero _)⟩
    · rw [fup_n e, fup_n e, fup_n e, fup_n e, fup_n e]; exact hK' i (by omega)
  · obtain ⟨x1, x2, x3⟩ := (hC.congr (r1 15 (by omega)) : CH ar2 n kl kp kb iK sm ky) a b ha hb h0
    refine ⟨by omega, by omega, ?_⟩
    have e1 : a ≠ n := by omega
    have e2 : b ≠ n := by omega
    unfold KD at x3 ⊢
    rw [fup_n e1, fup_n e1, fup_n e1, fup_n e2, fup_n e2, fup_n e2]
    exact x3
end TOLD2
