/-! what stands behind each told thing -/
theorem aup_k {ar : Nat → Nat → Int32} {k i k2 : Nat} {v : Int32} (h : k2 ≠ k) : aup ar k i v k2 = ar k2 := if_neg h
theorem aup_u {ar : Nat → Nat → Int32} {k i : Nat} {v : Int32} : aup ar k i v k = upd (ar k) i v := if_pos rfl
theorem aup_s {ar : Nat → Nat → Int32} {k i : Nat} {v : Int32} : aup ar k i v k i = v := by rw [aup_u, upd_s]
theorem aup_i {ar : Nat → Nat → Int32} {k i k2 j : Nat} {v : Int32} (h : j ≠ i) : aup ar k i v k2 j = ar k2 j := by
  by_cases e : k2 = k
  · subst e; rw [aup_u, upd_n h]
  · rw [aup_k e]
def bup (B : Nat → Nat → Nat) (k j q : Nat) : Nat → Nat → Nat := fun k2 j2 => if k2 = k ∧ j2 = j then q else B k2 j2
theorem bup_s {B : Nat → Nat → Nat} {k j q : Nat} : bup B k j q k j = q := if_pos ⟨rfl, rfl⟩
theorem bup_k {B : Nat → Nat → Nat} {k j q k2 j2 : Nat} (h : k2 ≠ k) : bup B k j q k2 j2 = B k2 j2 := if_neg (fun x => h x.1)
theorem bup_j {B : Nat → Nat → Nat} {k j q k2 j2 : Nat} (h : j2 ≠ j) : bup B k j q k2 j2 = B k2 j2 := if_neg (fun x => h x.2)
section CG
variable {ar ar2 : Nat → Nat → Int32}
theorem cntS_congr {i : Nat} : ∀ {e : Nat}, (∀ k, k < e → ar2 8 k = ar 8 k) → cntS ar2 i e = cntS ar i e
  | 0, _ => rfl
  | e + 1, h => by
    have ih := cntS_congr (i := i) (e := e) (fun k hk => h k (by omega))
    show cntS ar2 i e + _ = cntS ar i e + _
    rw [ih, h e (by omega)]
theorem gx_congr {i j : Nat} : ∀ {e : Nat}, (∀ k, k < e → ar2 8 k = ar 8 k) → gx ar2 i e j = gx ar i e j
  | 0, _ => rfl
  | e + 1, h => by
    have ih := gx_congr (i := i) (j := j) (e := e) (fun k hk => h k (by omega))
    have ic := cntS_congr (i := i) (e := e) (fun k hk => h k (by omega))
    unfold gx
    rw [ic, h e (by omega), ih]
theorem ks_congr {i g : Nat} {b : Bool} (h6 : ar2 6 (24 * i + g) = ar 6 (24 * i + g)) (h7 : ar2 7 (24 * i + g) = ar 7 (24 * i + g)) : ∀ {e : Nat}, (∀ k, k < e → ar2 8 k = ar 8 k ∧ ar2 9 k = ar 9 k ∧ ar2 10 k = ar 10 k ∧ ar2 11 k = ar 11 k) → ks ar2 i g b e = ks ar i g b e
  | 0, _ => by unfold ks; rw [h6, h7]
  | e + 1, h => by
    have ih := ks_congr (b := b) h6 h7 (e := e) (fun k hk => h k (by omega))
    obtain ⟨a1, a2, a3, a4⟩ := h e (by omega)
    unfold ks
    rw [a1, a2, a3, a4, ih]
theorem cntF_congr : ∀ {n : Nat}, (∀ k, k < n → ar2 5 k = ar 5 k) → cntF ar2 n = cntF ar n
  | 0, _ => rfl
  | n + 1, h => by
    have ih := cntF_congr (n := n) (fun k hk => h k (by omega))
    unfold cntF
    rw [ih, h n (by omega)]
theorem lenS_congr : ∀ {n : Nat}, (∀ k, k < n → ar2 4 k = ar 4 k) → lenS ar2 n = lenS ar n
  | 0, _ => rfl
  | n + 1, h => by
    have ih := lenS_congr (n := n) (fun k hk => h k (by omega))
    unfold lenS
    rw [ih, h n (by omega)]
end CG
/-- the told things that a class's objects show -/
def HD (ar ar2 : Nat → Nat → Int32) (n c d : Nat) (ln : Nat → Nat) : Prop :=
  (∀ i, i < n → ar2 1 i = ar 1 i ∧ ar2 2 i = ar 2 i ∧ ar2 3 i = ar 3 i ∧ ar2 5 i = ar 5 i) ∧ (∀ i k, i < n → k < ln i → ar2 6 (24 * i + k) = ar 6 (24 * i + k) ∧ ar2 7 (24 * i + k) = ar 7 (24 * i + k)) ∧ (∀ k, k < c → ar2 8 k = ar 8 k ∧ ar2 9 k = ar 9 k ∧ ar2 10 k = ar 10 k ∧ ar2 11 k = ar 11 k ∧ ar2 12 k = ar 12 k) ∧ (∀ k, k < d → ar2 13 k = ar 13 k ∧ ar2 14 k = ar 14 k) ∧ ar2 15 = ar 15
section TOLD
variable {κ : zK} {G G2 : zH} {B : Nat → Nat → Nat} {n c d w : Nat} {ln kl ep : Nat → Nat} {fo nt : Int32} {ar ar2 : Nat → Nat → Int32} {rb : Nat → Int32} {kp kb : Nat → Nat → Int32} {iK sm ky : Nat → Int32} {P : zR → Prop}
theorem ShC.congr {i : Nat} (h : ShC κ G B ar c ln kl ep kp kb i) (hc : ep i ≤ c) (d1 : ar2 1 i = ar 1 i ∧ ar2 2 i = ar 2 i ∧ ar2 3 i = ar 3 i ∧ ar2 5 i = ar 5 i) (d2 : ∀ k, k < ln i → ar2 6 (24 * i + k) = ar 6 (24 * i + k) ∧ ar2 7 (24 * i + k) = ar 7 (24 * i + k)) (h8 : ∀ k, k < c → ar2 8 k = ar 8 k) : ShC κ G B ar2 c ln kl ep kp kb i := by
  obtain ⟨s1, s2, ⟨tp, tb, s3, s4⟩, s5⟩ := h
  obtain ⟨a1, a2, a3, a5⟩ := d1
  have c1 := cntS_congr (i := i) (e := ep i) (fun k hk => h8 k (by omega))
  have c2 := cntS_congr (i := i) (e := c) h8
  refine ⟨?_, s2, ⟨tp, tb, s3, fun k hk => ?_⟩, ?_⟩
  · rw [a1, a2, a3, a5, c1]; exact s1
  · rw [(d2 k hk).1, (d2 k hk).2]; exact s4 k hk
  · rw [c2]; exact s5.congr (fun j hj => by rw [gx_congr (e := c) h8])
theorem RC.congr (hR : RC κ G B n c d w ln fo nt ar rb kl ep kp kb iK sm ky) (hD : HD ar ar2 n c d ln) (he : ∀ i, i < n → ep i ≤ c) : RC κ G B n c d w ln fo nt ar2 rb kl ep kp kb iK sm ky := by
  obtain ⟨hO, hP, hA, hLK, hl0, hl1, hl2, hS, hCo, hPr⟩ := hR
  obtain ⟨d1, d2, d3, d4, d5⟩ := hD
  refine ⟨hO, by rw [d5]; exact hP, hA, hLK, hl0, hl1, hl2, fun i hi => (hS i hi).congr (he i hi) (d1 i hi) (fun k hk => d2 i k hi hk) (fun k hk => (d3 k hk).1), fun k hk => ?_, fun k hk => ?_⟩
  · obtain ⟨_, b2, b3, _, b5⟩ := d3 k hk
    rw [b5, b2, b3]; exact hCo k hk
  · rw [(d4 k hk).1, (d4 k hk).2]; exact hPr k hk
theorem KN.congr (hK : KN ar n c ln kl ep kp kb) (hD : HD ar ar2 n c d ln) : KN ar2 n c ln kl ep kp kb := fun i hi => by
  obtain ⟨k1, k2, k3⟩ := hK i hi
  refine ⟨k1, k2, fun k hk => ?_⟩
  obtain ⟨e1, e2⟩ := k3 k hk
  have hx : ∀ b, ks ar2 i k b (ep i) = ks ar i k b (ep i) := fun b => ks_congr (hD.2.1 i k hi (by omega)).1 (hD.2.1 i k hi (by omega)).2 (fun j hj => by
    have := hD.2.2.1 j (by omega)
    exact ⟨this.1, this.2.1, this.2.2.1, this.2.2.2.1⟩)
  exact ⟨by rw [e1, hx], by rw [e2, hx]⟩
theorem CH.congr (hC : CH ar n kl kp kb iK sm ky) (h : ar2 15 = ar 15) : CH ar2 n kl kp kb iK sm ky := fun a b ha hb h0 => by
  have := hC a b ha hb h0
  unfold KD at this ⊢
  rw [h]
  exact this
theorem HD.of (h : ∀ k, 1 ≤ k → k < 16 → ar2 k = ar k) : HD ar ar2 n c d ln := by
  unfold HD
  rw [h 1 (by omega) (by omega), h 2 (by omega) (by omega), h 3 (by omega) (by omega), h 5 (by omega) (by omega), h 6 (by omega) (by omega), h 7 (by omega) (by omega), h 8 (by omega) (by omega), h 9 (by omega) (by omega), h 10 (by omega) (by omega), h 11 (by omega) (by omega), h 12 (by omega) (by omega), h 13 (by omega) (by omega), h 14 (by omega) (by omega), h 15 (by omega) (by omega)]
  exact ⟨fun _ _ => ⟨rfl, rfl, rfl, rfl⟩, fun _ _ _ _ => ⟨rfl, rfl⟩, fun _ _ => ⟨rfl, rfl, rfl, rfl, rfl⟩, fun _ _ => ⟨rfl, rfl⟩, rfl⟩
theorem TD.congr (hT : TD n c d w ln fo nt ar rb) (h : ∀ k, 1 ≤ k → k < 16 → ar2 k = ar k) : TD n c d w ln fo nt ar2 rb := by
  unfold TD at hT ⊢
  rw [cntF_congr (ar := ar) (ar2 := ar2) (n := n) (fun k _ => by rw [h 5 (by omega) (by omega)]), lenS_congr (ar := ar) (ar2 := ar2) (n := n) (fun k _ => by rw [h 4 (by omega) (by omega)])]
  rw [h 1 (by omega) (by omega), h 4 (by omega) (by omega), h 5 (by omega) (by omega), h 6 (by omega) (by omega), h 7 (by omega) (by omega), h 8 (by omega) (by omega), h 9 (by omega) (by omega), h 10 (by omega) (by omega), h 11 (by omega) (by omega), h 12 (by omega) (by omega), h 13 (by omega) (by omega), h 14 (by omega) (by omega), h 15 (by omega) (by omega)]
  exact hT
theorem RC.keep (hR : RC κ G B n c d w ln fo nt ar rb kl ep kp kb iK sm ky) (hF : zFP P G G2) (hp : ∀ k j, ¬ P (2, k, j)) : RC κ G2 B n c d w ln fo nt ar rb kl ep kp kb iK sm ky := by
  obtain ⟨hO, hP, ⟨cols, key, f0, f1, f2, S, hA⟩, hLK, hl0, hl1, ⟨k2, es2, hl2⟩, hS, hCo, hPr⟩ := hR
  exact ⟨hF.1 _ _ _ (hp 0 0) hO, hP.keep hF (hp 1 0) (hp 2 0), ⟨_, _, _, _, _, _, hA.keep hF (fun k j _ => hp k j)⟩, hLK.keep hF (fun k _ => hp k 0), hl0.keep hF (hp 13 0) (hp 14 0), hl1.keep hF (hp 13 1) (hp 14 1), ⟨_, _, hl2.keep hF (hp 13 2) (hp 14 2)⟩, fun i hi => (hS i hi).keep hF (fun k j _ => hp k j), fun k hk => hF.1 _ _ _ (hp 19 k) (hCo k hk), fun k hk => hF.1 _ _ _ (hp 20 k) (hPr k hk)⟩
/-- the class's whole state -/
def HC (κ : zK) (G : zH) (B : Nat → Nat → Nat) (n c d w : Nat) (ln : Nat → Nat) (fo nt : Int32) (ar : Nat → Nat → Int32) (rb : Nat → Int32) : Prop := TD n c d w ln fo nt ar rb ∧ ∃ (kl ep : Nat → Nat) (kp kb : Nat → Nat → Int32) (iK sm ky : Nat → Int32), RC κ G B n c d w ln fo nt ar rb kl ep kp kb iK sm ky ∧ KN ar n c ln kl ep kp kb ∧ CH ar n kl kp kb iK sm ky
theorem HC.ps (h : HC κ G B n c d w ln fo nt ar rb) (hp : ∀ k, 1 ≤ k → k < 16 → ar2 k = ar k) : HC κ G B n c d w ln fo nt ar2 rb := by
  obtain ⟨hT, kl, ep, kp, kb, iK, sm, ky, hR, hK, hC⟩ := h
  have hD : HD ar ar2 n c d ln := HD.of hp
  exact ⟨hT.congr hp, kl, ep, kp, kb, iK, sm, ky, hR.congr hD (fun i hi => (hK i hi).2.1), hK.congr hD, hC.congr (hp 15 (by omega) (by omega))⟩
theorem HC.keep (h : HC κ G B n c d w ln fo nt ar rb) (hF : zFP P G G2) (hp : ∀ k j, ¬ P (2, k, j)) : HC κ G2 B n c d w ln fo nt ar rb := by
  obtain ⟨hT, kl, ep, kp, kb, iK, sm, ky, hR, hK, hC⟩ := h
  exact ⟨hT, kl, ep, kp, kb, iK, sm, ky, hR.keep hF hp, hK, hC⟩
theorem HQ.hc (h : HQ κ G G2 B n c d w ln fo nt ar rb) (hT : TD n c d w ln fo nt ar rb) : HC κ G2 B n c d w ln fo nt ar rb := by
  obtain ⟨kl, ep, kp, kb, iK, sm, ky, hR, hK, hC, -⟩ := h
  exact ⟨hT, kl, ep, kp, kb, iK, sm, ky, hR, hK, hC⟩
theorem hc_days {m0 : Int32} (hT : TD n c d w ln fo nt ar rb) (hR : RC κ G B n c d w ln fo nt ar rb kl ep kp kb iK sm ky) (hK : KN ar n c ln kl ep kp kb) (hC : CH ar n kl kp kb iK sm ky) (hm : okDay w m0) (hO2 : G2 (B 0 0) = some ((2, 0, 0), .inr (8, [.ref (B 1 0), .ref (B 3 0), .ref (B 9 0), .ref (B 13 0), .ref (B 13 1), .ref (B 13 2), .int (nI w + m0), .int (fo), .int (nt), .int (nI c)]))) (hF : zFP (fun r => r = (2, 0, 0)) G G2) : HC κ G2 B n c d (w + iN m0) ln fo nt ar rb ∧ nI w + m0 = nI (w + iN m0) ∧ w + iN m0 ≤ 1000 := by
  obtain ⟨hO, hP, ⟨cols, key, f0, f1, f2, S, hA⟩, hLK, hl0, hl1, ⟨k2, es2, hl2⟩, hS, hCo, hPr⟩ := hR
  obtain ⟨t1, t2, t3, t4, t5, t6, t7, t8, t9, t10, t11, t12, t13, t14, p0, p1, p2, p3, p4, p5⟩ := hT
  obtain ⟨⟨m1, m2⟩, m3⟩ := hm
  obtain ⟨j, rfl, hj⟩ := ix_in (n := 1001) m1 (by rw [i_le, show (1000 : Int32).toInt = 1000 from by decide] at m2; rw [i_lt, nI_toInt (by omega)]; omega) (by omega)
  rw [iN_nI (by omega)]
  rw [nI_add] at hO2 m3 ⊢
  have hw : w + j ≤ 1000 := (nI_leI (a := w + j) (b := 1000) (by omega) (by omega)).mp m3
  have hle : nI w ≤ nI (w + j) := (nI_leI (by omega) (by omega)).mpr (by omega)
  exact ⟨⟨⟨t1, t2, t3, hw, t5, t6, fun k hk => Int32.le_trans (t7 k hk) hle, t8, t9, t10, fun i hi => (t11 i hi).imp id (fun h => ⟨h.1, Int32.le_trans h.2 hle⟩), t12, t13, t14, p0, p1, p2, p3, p4, p5⟩, kl, ep, kp, kb, iK, sm, ky, ⟨hO2, hP.keep hF (by intro h; simp only [isTU, shNew, Prod.mk.injEq] at h <;> omega) (by intro h; simp only [isTU, shNew, Prod.mk.injEq] at h <;> omega), ⟨_, _, _, _, _, _, hA.keep hF (fun k j _ => (by intro h; simp only [isTU, shNew, Prod.mk.injEq] at h <;> omega))⟩, hLK.keep hF (fun k _ => (by intro h; simp only [isTU, shNew, Prod.mk.injEq] at h <;> omega)), hl0.keep hF (by intro h; simp only [isTU, shNew, Prod.mk.injEq] at h <;> omega) (by intro h; simp only [isTU, shNew, Prod.mk.injEq] at h <;> omega), hl1.keep hF (by intro h; simp only [isTU, shNew, Prod.mk.injEq] at h <;> omega) (by intro h; simp only [isTU, shNew, Prod.mk.injEq] at h <;> omega), ⟨_, _, hl2.keep hF (by intro h; simp only [isTU, shNew, Prod.mk.injEq] at h <;> omega) (by intro h; simp only [isTU, shNew, Prod.mk.injEq] at h <;> omega)⟩, fun i hi => (hS i hi).keep hF (fun k j h1 => by intro h; simp only [onSh, isTU, shNew, Prod.mk.injEq] at h1 h <;> omega), fun k hk => hF.1 _ _ _ (by intro h; simp only [isTU, shNew, Prod.mk.injEq] at h <;> omega) (hCo k hk), fun k hk => hF.1 _ _ _ (by intro h; simp only [isTU, shNew, Prod.mk.injEq] at h <;> omega) (hPr k hk)⟩, hK, hC⟩, rfl, hw⟩
theorem hc_price {k0 v0 : Int32} (hT : TD n c d w ln fo nt ar rb) (hR : RC κ G B n c d w ln fo nt ar rb kl ep kp kb iK sm ky) (hK : KN ar n c ln kl ep kp kb) (hC : CH ar n kl kp kb iK sm ky) (hm : (0 ≤ k0 ∧ k0 ≤ 4) ∧ 0 ≤ v0 ∧ v0 ≤ zTops (iN k0)) (hP2 : zPR κ G2 (B 1 0) (upd (ar 15) (iN k0) v0)) {iK2 : Nat → Int32} (hL2 : zLK κ G2 (B 9 0) (B 3 0) (B 10 0) (B 11 0) (B 12 0) iK2 sm ky) (hz : ∀ q, q < 400 → iK2 q = 0) (hF : zFP (fun r => r = (2, 2, 0) ∨ r = (2, 10, 0)) G G2) : HC κ G2 B n c d w ln fo nt (aup ar 15 (iN k0) v0) rb := by
  obtain ⟨hO, hP, ⟨cols, key, f0, f1, f2, S, hA⟩, hLK, hl0, hl1, ⟨k2, es2, hl2⟩, hS, hCo, hPr⟩ := hR
  have hD : HD ar (aup ar 15 (iN k0) (ar 15 (iN k0))) n c d ln := by
    have : aup ar 15 (iN k0) (ar 15 (iN k0)) = ar := funext fun k => by
      by_cases h : k = 15
      · subst h; rw [aup_u]; exact funext fun j => by
          by_cases hj : j = iN k0
          · subst hj; rw [upd_s]
          · rw [upd_n hj]
      · rw [aup_k h]
    rw [this]; exact HD.of (fun _ _ _ => rfl)
  have hk : ∀ k, k ≠ 15 → aup ar 15 (iN k0) v0 k = ar k := fun k h => aup_k h
  obtain ⟨t1, t2, t3, t4, t5, t6, t7, t8, t9, t10, t11, t12, t13, t14, p0, p1, p2, p3, p4, p5⟩ := hT
  obtain ⟨⟨k1, k4⟩, v1, v2⟩ := hm
  obtain ⟨j, rfl, hj⟩ := ix_in (n := 5) k1 (by rw [i_le, show (4 : Int32).toInt = 4 from by decide] at k4; rw [i_lt, nI_toInt (by omega)]; omega) (by omega)
  rw [iN_nI (by omega)] at *
  have h15 : ∀ a lo hi, (0 ≤ ar 15 a ∧ ar 15 a ≤ hi) → (a = j → v0 ≤ hi) → 0 ≤ aup ar 15 j v0 15 a ∧ aup ar 15 j v0 15 a ≤ hi := fun a (lo : Nat) hi h1 h2 => by
    by_cases h : a = j
    · subst h; rw [aup_s]; exact ⟨v1, h2 rfl⟩
    · rw [aup_i h]; exact h1
  have e : ∀ a, a = j → v0 ≤ zTops a := fun a h => by subst h; exact v2
  have q0 := h15 0 0 20 p0 (fun h => e 0 h)
  have q1 := h15 1 0 200 p1 (fun h => e 1 h)
  have q2 := h15 2 0 20 p2 (fun h => e 2 h)
  have q3 := h15 3 0 200 p3 (fun h => e 3 h)
  have q4 := h15 4 0 10000 ⟨p4, p5⟩ (fun h => e 4 h)
  have hDx : ∀ (i : Nat), True := fun _ => trivial
  have hRx : RC κ G2 B n c d w ln fo nt (aup ar 15 j v0) rb kl ep kp kb iK2 sm ky := by
    have hc8 : ∀ k, k < c → aup ar 15 j v0 8 k = ar 8 k := fun k _ => by rw [hk 8 (by omega)]
    refine ⟨hF.1 _ _ _ (by intro h; simp only [isTU, shNew, Prod.mk.injEq] at h <;> omega) hO, by rw [aup_u]; exact hP2, ⟨_, _, _, _, _, _, hA.keep hF (fun k j _ => (by intro h; simp only [isTU, shNew, Prod.mk.injEq] at h <;> omega))⟩, hL2, hl0.keep hF (by intro h; simp only [isTU, shNew, Prod.mk.injEq] at h <;> omega) (by intro h; simp only [isTU, shNew, Prod.mk.injEq] at h <;> omega), hl1.keep hF (by intro h; simp only [isTU, shNew, Prod.mk.injEq] at h <;> omega) (by intro h; simp only [isTU, shNew, Prod.mk.injEq] at h <;> omega), ⟨_, _, hl2.keep hF (by intro h; simp only [isTU, shNew, Prod.mk.injEq] at h <;> omega) (by intro h; simp only [isTU, shNew, Prod.mk.injEq] at h <;> omega)⟩, fun i hi => ((hS i hi).keep hF (fun k j h1 => by intro h; simp only [onSh, Prod.mk.injEq] at h1 h <;> omega)).congr (hK i hi).2.1 (by rw [hk 1 (by omega), hk 2 (by omega), hk 3 (by omega), hk 5 (by omega)]; exact ⟨rfl, rfl, rfl, rfl⟩) (fun k _ => by rw [hk 6 (by omega), hk 7 (by omega)]; exact ⟨rfl, rfl⟩) hc8, fun k hk2 => by rw [hk 12 (by omega), hk 9 (by omega), hk 10 (by omega)]; exact hF.1 _ _ _ (by intro h; simp only [isTU, shNew, Prod.mk.injEq] at h <;> omega) (hCo k hk2), fun k hk2 => by rw [hk 13 (by omega), hk 14 (by omega)]; exact hF.1 _ _ _ (by intro h; simp only [isTU, shNew, Prod.mk.injEq] at h <;> omega) (hPr k hk2)⟩
  refine ⟨?_, kl, ep, kp, kb, iK2, sm, ky, hRx, ?_, fun a b ha hb h0 => absurd (hz _ (by omega)) h0⟩
  · unfold TD
    rw [cntF_congr (ar := ar) (ar2 := aup ar 15 j v0) (n := n) (fun k _ => by rw [hk 5 (by omega)]), lenS_congr (ar := ar) (ar2 := aup ar 15 j v0) (n := n) (fun k _ => by rw [hk 4 (by omega)])]
    rw [hk 1 (by omega), hk 4 (by omega), hk 5 (by omega), hk 6 (by omega), hk 7 (by omega), hk 8 (by omega), hk 9 (by omega), hk 10 (by omega), hk 11 (by omega), hk 12 (by omega), hk 13 (by omega), hk 14 (by omega)]
    exact ⟨t1, t2, t3, t4, t5, t6, t7, t8, t9, t10, t11, t12, t13, t14, q0, q1, q2, q3, q4.1, q4.2⟩
  · intro i hi
    obtain ⟨x1, x2, x3⟩ := hK i hi
    refine ⟨x1, x2, fun k hk2 => ?_⟩
    have hx : ∀ b, ks (aup ar 15 j v0) i k b (ep i) = ks ar i k b (ep i) := fun b => ks_congr (by rw [hk 6 (by omega)]) (by rw [hk 7 (by omega)]) (fun g _ => by rw [hk 8 (by omega), hk 9 (by omega), hk 10 (by omega), hk 11 (by omega)]; exact ⟨rfl, rfl, rfl, rfl⟩)
    rw [hx, hx]; exact x3 k hk2
end TOLD
