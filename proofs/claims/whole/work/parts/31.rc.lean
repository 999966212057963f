/-! corrections of a sheet, counted and found -/
def cntS (ar : Nat → Nat → Int32) (i : Nat) : Nat → Nat
  | 0 => 0
  | k + 1 => cntS ar i k + (if ar 8 k = nI i then 1 else 0)
def gx (ar : Nat → Nat → Int32) (i : Nat) : Nat → Nat → Nat
  | 0, _ => 0
  | k + 1, j => if ar 8 k = nI i ∧ cntS ar i k = j then k else gx ar i k j
def ks (ar : Nat → Nat → Int32) (i g : Nat) (b : Bool) : Nat → Int32
  | 0 => if b = true then ar 7 (24 * i + g) else ar 6 (24 * i + g)
  | e + 1 => if ar 8 e = nI i ∧ ar 9 e = nI g then (if b = true then ar 11 e else ar 10 e) else ks ar i g b e
/-- how many corrections stand by day q -/
def Eq' (ar : Nat → Nat → Int32) (q : Int32) : Nat → Nat
  | 0 => 0
  | k + 1 => if ar 12 k ≤ q then k + 1 else Eq' ar q k
theorem cntS_s (ar : Nat → Nat → Int32) (i k : Nat) : cntS ar i (k + 1) = cntS ar i k + (if ar 8 k = nI i then 1 else 0) := rfl
theorem cntS_mono {ar : Nat → Nat → Int32} {i : Nat} : ∀ {e k : Nat}, k ≤ e → cntS ar i k ≤ cntS ar i e
  | 0, k, h => by rw [show k = 0 by omega]; exact Nat.le_refl _
  | e + 1, k, h => by
    by_cases hk : k = e + 1
    · subst hk; exact Nat.le_refl _
    · exact Nat.le_trans (cntS_mono (e := e) (by omega)) (Nat.le_add_right _ _)
theorem cntS_le {ar : Nat → Nat → Int32} {i : Nat} : ∀ e, cntS ar i e ≤ e
  | 0 => Nat.le_refl _
  | e + 1 => by
    have := cntS_le (ar := ar) (i := i) e
    unfold cntS
    split <;> omega
theorem cntS_lt {ar : Nat → Nat → Int32} {i k e : Nat} (h : ar 8 k = nI i) (hk : k < e) : cntS ar i k < cntS ar i e := by
  refine Nat.lt_of_lt_of_le ?_ (cntS_mono (show k + 1 ≤ e from hk))
  rw [cntS_s, if_pos h]
  exact Nat.lt_succ_self _
theorem gx_at {ar : Nat → Nat → Int32} {i k : Nat} (h : ar 8 k = nI i) : ∀ {c : Nat}, k < c → gx ar i c (cntS ar i k) = k
  | c + 1, hk => by
    unfold gx
    by_cases hkc : k = c
    · subst hkc; rw [if_pos ⟨h, rfl⟩]
    · rw [if_neg (fun q => by have := cntS_lt h (show k < c by omega); omega)]
      exact gx_at h (by omega)
theorem gx_of {ar : Nat → Nat → Int32} {i j : Nat} : ∀ {c : Nat}, j < cntS ar i c → gx ar i c j < c ∧ ar 8 (gx ar i c j) = nI i ∧ cntS ar i (gx ar i c j) = j
  | 0, h => absurd h (Nat.not_lt_zero _)
  | c + 1, h => by
    unfold gx
    split
    · rename_i h2; exact ⟨Nat.lt_succ_self _, h2.1, h2.2⟩
    · rename_i h2
      have hj : j < cntS ar i c := by
        unfold cntS at h
        split at h
        · rename_i h3
          have : cntS ar i c ≠ j := fun q => h2 ⟨h3, q⟩
          omega
        · omega
      have := gx_of hj
      exact ⟨by omega, this.2⟩
theorem ks_eq {ar : Nat → Nat → Int32} {i g : Nat} {b : Bool} : ∀ {e k : Nat}, k ≤ e → cntS ar i k = cntS ar i e → ks ar i g b k = ks ar i g b e
  | 0, k, h, _ => by rw [show k = 0 by omega]
  | e + 1, k, h, hc => by
    by_cases hk : k = e + 1
    · subst hk; rfl
    · have h8 : ¬ ar 8 e = nI i := fun q => by
        have h1 := cntS_mono (ar := ar) (i := i) (show k ≤ e by omega)
        have h2 := cntS_lt q (Nat.lt_succ_self e)
        rw [Nat.succ_eq_add_one] at h2
        omega
      have h3 : cntS ar i (e + 1) = cntS ar i e := by rw [cntS_s, if_neg h8]; rfl
      rw [ks_eq (e := e) (by omega) (hc.trans h3)]
      exact (if_neg (fun q => h8 q.1)).symm
theorem ks_cnt {ar : Nat → Nat → Int32} {i g : Nat} {b : Bool} {e k : Nat} (h : cntS ar i k = cntS ar i e) : ks ar i g b k = ks ar i g b e := by
  rcases Nat.le_total k e with q | q
  · exact ks_eq q h
  · exact (ks_eq q h.symm).symm
/-- position by position and index by index is the same -/
theorem cf_ks {ar : Nat → Nat → Int32} {i g c : Nat} {b : Bool} {base v : Nat → Int32} (h0 : base g = if b = true then ar 7 (24 * i + g) else ar 6 (24 * i + g)) (hv : ∀ k, k < c → v (gx ar i c (cntS ar i k)) = v (gx ar i c (cntS ar i k)) ∧ (ar 8 k = nI i → v k = if b = true then ar 11 k else ar 10 k)) : ∀ e, e ≤ c → cf base (fun j => ar 9 (gx ar i c j)) (fun j => v (gx ar i c j)) g (cntS ar i e) = ks ar i g b e
  | 0, _ => h0
  | e + 1, he => by
    have ih := cf_ks h0 hv e (by omega)
    unfold cntS ks
    by_cases h8 : ar 8 e = nI i
    · rw [if_pos h8]
      show (if ar 9 (gx ar i c (cntS ar i e)) = nI g then v (gx ar i c (cntS ar i e)) else cf _ _ _ g (cntS ar i e)) = _
      rw [gx_at h8 (show e < c by omega), ih, (hv e (by omega)).2 h8]
      by_cases h9 : ar 9 e = nI g
      · simp [h8, h9]
      · simp [h9]
    · rw [if_neg h8, if_neg (fun q => h8 q.1), Nat.add_zero, ih]
theorem Eq_iff {ar : Nat → Nat → Int32} {q : Int32} : ∀ {c : Nat}, (∀ k k2, k ≤ k2 → k2 < c → ar 12 k ≤ ar 12 k2) → Eq' ar q c ≤ c ∧ ∀ k, k < c → (ar 12 k ≤ q ↔ k < Eq' ar q c)
  | 0, _ => ⟨Nat.le_refl _, fun k h => absurd h (Nat.not_lt_zero _)⟩
  | c + 1, hm => by
    have ih := Eq_iff (q := q) (c := c) (fun k k2 h1 h2 => hm k k2 h1 (by omega))
    unfold Eq'
    split
    · rename_i h
      exact ⟨Nat.le_refl _, fun k hk => ⟨fun _ => hk, fun _ => Int32.le_trans (hm k c (by omega) (by omega)) h⟩⟩
    · rename_i h
      refine ⟨by omega, fun k hk => ?_⟩
      by_cases hkc : k = c
      · subst hkc; exact ⟨fun q => absurd q h, fun q => absurd q (by omega)⟩
      · exact ih.2 k (by omega)
theorem kn_ks0 {ar : Nat → Nat → Int32} {i g E : Nat} {q : Int32} {b : Bool} : ∀ c, (∀ k, k < c → (ar 12 k ≤ q ↔ k < E)) → kn ar i g q b c = ks ar i g b (min c E)
  | 0, _ => by rw [Nat.zero_min]; rfl
  | c + 1, h => by
    have ih := kn_ks0 (i := i) (g := g) (b := b) c (fun k hk => h k (by omega))
    unfold kn
    by_cases hc : c < E
    · rw [show min (c + 1) E = c + 1 by omega, ih, show min c E = c by omega]
      show _ = if _ then _ else _
      have h12 := (h c (by omega)).mpr hc
      by_cases h2 : ar 8 c = nI i ∧ ar 9 c = nI g
      · rw [if_pos ⟨h2.1, h2.2, h12⟩, if_pos h2]
      · rw [if_neg (fun q => h2 ⟨q.1, q.2.1⟩), if_neg h2]
    · rw [show min (c + 1) E = E by omega, ih, show min c E = E by omega, if_neg (fun q => hc ((h c (by omega)).mp q.2.2))]
theorem kn_ks {ar : Nat → Nat → Int32} {i g c : Nat} {q : Int32} {b : Bool} (hm : ∀ k k2, k ≤ k2 → k2 < c → ar 12 k ≤ ar 12 k2) : kn ar i g q b c = ks ar i g b (Eq' ar q c) := by
  have h := Eq_iff (q := q) hm
  rw [kn_ks0 c h.2, show min c (Eq' ar q c) = Eq' ar q c by omega]
/-! the objects of the class -/
/-- sheet i -/
def ShC (κ : zK) (G : zH) (B : Nat → Nat → Nat) (ar : Nat → Nat → Int32) (c : Nat) (ln kl ep : Nat → Nat) (kp kb : Nat → Nat → Int32) (i : Nat) : Prop :=
  zSH G (B 15 i) i (ar 1 i) (ar 2 i) (ar 3 i) (B 16 (2 * i)) (B 16 (2 * i + 1)) (B 13 (3 + i)) (nI (cntS ar i (ep i))) (ar 5 i) ∧ zTU κ G (B 16 (2 * i)) (2 * i) (kl i) (kp i) (kb i) ∧ (∃ tp tb, zTU κ G (B 16 (2 * i + 1)) (2 * i + 1) (ln i) tp tb ∧ ∀ k, k < ln i → tp k = ar 6 (24 * i + k) ∧ tb k = ar 7 (24 * i + k)) ∧ zLs κ G (3 + i) (B 13 (3 + i)) 299 (cntS ar i c) (fun j => B 19 (gx ar i c j))
abbrev onSh (i k j : Nat) : Prop := (k = 15 ∧ j = i) ∨ ((k = 13 ∨ k = 14) ∧ j = 3 + i) ∨ ((k = 16 ∨ k = 17 ∨ k = 18) ∧ (j = 2 * i ∨ j = 2 * i + 1))
theorem ShC.keep {κ : zK} {G G2 : zH} {B : Nat → Nat → Nat} {ar : Nat → Nat → Int32} {c : Nat} {ln kl ep : Nat → Nat} {kp kb : Nat → Nat → Int32} {i : Nat} {P : zR → Prop} (h : ShC κ G B ar c ln kl ep kp kb i) (hF : zFP P G G2) (hp : ∀ k j, onSh i k j → ¬ P (2, k, j)) : ShC κ G2 B ar c ln kl ep kp kb i := by
  obtain ⟨h1, h2, ⟨tp, tb, h3, h4⟩, h5⟩ := h
  exact ⟨hF.1 _ _ _ (hp 15 i (by omega)) h1, h2.keep hF (fun r q => by rcases q with rfl | rfl | rfl <;> exact hp _ _ (by omega)), ⟨tp, tb, h3.keep hF (fun r q => by rcases q with rfl | rfl | rfl <;> exact hp _ _ (by omega)), h4⟩, h5.keep hF (hp _ _ (by omega)) (hp _ _ (by omega))⟩
def RC (κ : zK) (G : zH) (B : Nat → Nat → Nat) (n c d w : Nat) (ln : Nat → Nat) (fo nt : Int32) (ar : Nat → Nat → Int32) (rb : Nat → Int32) (kl ep : Nat → Nat) (kp kb : Nat → Nat → Int32) (iK sm ky : Nat → Int32) : Prop :=
  G (B 0 0) = some ((2, 0, 0), .inr (8, [.ref (B 1 0), .ref (B 3 0), .ref (B 9 0), .ref (B 13 0), .ref (B 13 1), .ref (B 13 2), .int (nI w), .int fo, .int nt, .int (nI c)])) ∧
  zPR κ G (B 1 0) (ar 15) ∧ (∃ cols key f0 f1 f2 S, zAL κ G (B 3 0) (B 1 0) cols key f0 f1 f2 S) ∧ zLK κ G (B 9 0) (B 3 0) (B 10 0) (B 11 0) (B 12 0) iK sm ky ∧
  zLs κ G 0 (B 13 0) 29 n (B 15) ∧ zLs κ G 1 (B 13 1) 89 d (B 20) ∧ (∃ k es, zLs κ G 2 (B 13 2) 29 k es) ∧
  (∀ i, i < n → ShC κ G B ar c ln kl ep kp kb i) ∧
  (∀ k, k < c → G (B 19 k) = some ((2, 19, k), .inr (2, [.int (ar 12 k), .int (ar 9 k), .int (ar 10 k), .int (rb k)]))) ∧
  ∀ k, k < d → G (B 20 k) = some ((2, 20, k), .inr (4, [.ref (B 15 (iN (ar 13 k))), .ref (B 15 (iN (ar 14 k)))]))
/-- the answers about two tunes as they are open -/
def KD (ar : Nat → Nat → Int32) (kl : Nat → Nat) (kp kb : Nat → Nat → Int32) (a b : Nat) : Int32 × Int32 := tl (fun N => dp (ar 15) (kp a) (kb a) (kp b) (kb b) (keyAt N) (kl a) (kl b)) 0 25
def CH (ar : Nat → Nat → Int32) (n : Nat) (kl : Nat → Nat) (kp kb : Nat → Nat → Int32) (iK sm ky : Nat → Int32) : Prop := ∀ a b, a < 20 → b < 20 → ¬ iK (20 * a + b) = 0 → a < n ∧ b < n ∧ sm (20 * a + b) = (KD ar kl kp kb a b).1 ∧ ky (20 * a + b) = (KD ar kl kp kb a b).2
/-- the known tunes -/
def KN (ar : Nat → Nat → Int32) (n c : Nat) (ln kl ep : Nat → Nat) (kp kb : Nat → Nat → Int32) : Prop := ∀ i, i < n → kl i ≤ ln i ∧ ep i ≤ c ∧ ∀ k, k < kl i → kp i k = ks ar i k false (ep i) ∧ kb i k = ks ar i k true (ep i)
/-- the told data -/
def TD (n c d w : Nat) (ln : Nat → Nat) (fo nt : Int32) (ar : Nat → Nat → Int32) (rb : Nat → Int32) : Prop :=
  n ≤ 20 ∧ c ≤ 200 ∧ d ≤ 60 ∧ w ≤ 1000 ∧ (∀ i, i < n → ln i ≤ 24) ∧
  (∀ k k2, k ≤ k2 → k2 < c → ar 12 k ≤ ar 12 k2) ∧ (∀ k, k < c → ar 12 k ≤ nI w) ∧
  (∀ k, k < c → (∃ s, s < n ∧ ar 8 k = nI s ∧ ∃ g, g < ln s ∧ ar 9 k = nI g) ∧ nb (ar 10 k) (rb k) = ar 11 k ∧ (-1 ≤ ar 10 k ∧ ar 10 k ≤ 60) ∧ 0 ≤ ar 11 k ∧ ar 11 k ≤ 16) ∧
  (∀ i g, i < n → g < ln i → (-1 ≤ ar 6 (24 * i + g) ∧ ar 6 (24 * i + g) ≤ 60) ∧ 0 ≤ ar 7 (24 * i + g) ∧ ar 7 (24 * i + g) ≤ 16) ∧
  (∀ k, k < d → ∃ a b, a < n ∧ b < n ∧ ar 13 k = nI a ∧ ar 14 k = nI b ∧ ar 1 a ≠ ar 1 b) ∧
  (∀ i, i < n → ar 5 i = -1 ∨ (0 ≤ ar 5 i ∧ ar 5 i ≤ nI w)) ∧ fo = cntF ar n ∧ nt = lenS ar n ∧ (∀ i, i < n → ar 4 i = nI (ln i)) ∧
  (0 ≤ ar 15 0 ∧ ar 15 0 ≤ 20) ∧ (0 ≤ ar 15 1 ∧ ar 15 1 ≤ 200) ∧ (0 ≤ ar 15 2 ∧ ar 15 2 ≤ 20) ∧ (0 ≤ ar 15 3 ∧ ar 15 3 ≤ 200) ∧ 0 ≤ ar 15 4 ∧ ar 15 4 ≤ 10000
