/-! sums of alignments in their ranges -/
theorem i_add {a b : Int32} (h : -2147483648 ≤ a.toInt + b.toInt ∧ a.toInt + b.toInt < 2147483648) : (a + b).toInt = a.toInt + b.toInt := by
  rw [Int32.toInt_add]
  exact Int.bmod_eq_of_le (by omega) (by omega)
theorem i_sub {a b : Int32} (h : -2147483648 ≤ a.toInt - b.toInt ∧ a.toInt - b.toInt < 2147483648) : (a - b).toInt = a.toInt - b.toInt := by
  rw [Int32.toInt_sub]
  exact Int.bmod_eq_of_le (by omega) (by omega)
theorem i_mul {a b : Int32} (h : -2147483648 ≤ a.toInt * b.toInt ∧ a.toInt * b.toInt < 2147483648) : (a * b).toInt = a.toInt * b.toInt := by
  rw [Int32.toInt_mul]
  exact Int.bmod_eq_of_le (by omega) (by omega)
theorem i_neg {a : Int32} (h : -2147483648 < a.toInt) : (-a).toInt = -a.toInt := by
  have := Int32.toInt_lt a
  rw [Int32.toInt_neg]
  exact Int.bmod_eq_of_le (by omega) (by omega)
theorem iabs_R {x : Int32} {h : Int} (h1 : -h ≤ x.toInt) (h2 : x.toInt ≤ h) (h3 : h < 2147483648) : 0 ≤ (iabs x).toInt ∧ (iabs x).toInt ≤ h := by
  unfold iabs
  split
  · rename_i q; simp only [i_le, i_0] at q; omega
  · rename_i q
    simp only [i_le, i_0] at q
    rw [i_sub (by rw [i_0]; omega), i_0]
    omega
theorem iabs_neg {x : Int32} (h : -2147483648 < x.toInt) : iabs (-x) = iabs x := by
  have e := i_neg h
  have hx := Int32.toInt_lt x
  unfold iabs
  rw [i_eq]
  split
  · rename_i q1
    simp only [i_le, i_0] at q1
    split
    · rename_i q2; simp only [i_le, i_0] at q2; omega
    · rename_i q2; rw [i_sub (by rw [i_0]; omega), i_0]; omega
  · rename_i q1
    simp only [i_le, i_0] at q1
    split
    · rename_i q2; rw [i_sub (by rw [i_0]; omega), i_0]; omega
    · rename_i q2; simp only [i_le, i_0] at q2; omega
theorem imin_i (a b : Int32) : (imin a b).toInt = min a.toInt b.toInt := by
  unfold imin
  split
  · rename_i q; rw [i_lt] at q; omega
  · rename_i q; rw [i_lt] at q; omega
/-- what a known note, what prices may be -/
abbrev oNt (p b : Int32) : Prop := (-1 ≤ p ∧ p ≤ 60) ∧ 0 ≤ b ∧ b ≤ 16
abbrev oPr (pr : Nat → Int32) : Prop := (0 ≤ pr 0 ∧ pr 0 ≤ 20) ∧ (0 ≤ pr 1 ∧ pr 1 ≤ 200) ∧ (0 ≤ pr 2 ∧ pr 2 ≤ 20) ∧ 0 ≤ pr 3 ∧ pr 3 ≤ 200
abbrev oKy (k : Int32) : Prop := -12 ≤ k ∧ k ≤ 12
theorem i_m12 : (-12 : Int32).toInt = -12 := rfl
theorem i_n12b : (12 : Int32).toInt = 12 := rfl
theorem co1_R {pr : Nat → Int32} {p : Int32} (h : oPr pr) : 0 ≤ (co1 pr p).toInt ∧ (co1 pr p).toInt ≤ 200 := by
  obtain ⟨-, -, -, h1, h2⟩ := h
  simp only [i_le, i_0, i_n200] at h1 h2
  unfold co1
  split
  · rw [i_0]; omega
  · omega
theorem co2_R {pr : Nat → Int32} {p b p2 b2 k : Int32} (h : oPr pr) (h1 : oNt p b) (h2 : oNt p2 b2) (hk : oKy k) : 0 ≤ (co2 pr p b p2 b2 k).toInt ∧ (co2 pr p b p2 b2 k).toInt ≤ 520 := by
  simp only [oPr, oNt, oKy, i_le, i_0, i_m1, i_n60, i_n16, i_n20, i_n200, i_m12, i_n12b] at h h1 h2 hk
  unfold co2
  split
  · rw [i_0]; omega
  · have e1 : (p + k).toInt = p.toInt + k.toInt := i_add (by omega)
    have e2 : (p + k - p2).toInt = p.toInt + k.toInt - p2.toInt := by rw [i_sub (by omega), e1]
    have e3 : (b - b2).toInt = b.toInt - b2.toInt := i_sub (by omega)
    have a1 := iabs_R (x := p + k - p2) (h := 133) (by omega) (by omega) (by omega)
    have a2 := iabs_R (x := b - b2) (h := 16) (by omega) (by omega) (by omega)
    have m1 : 0 ≤ (pr 0).toInt * (iabs (p + k - p2)).toInt := Int.mul_nonneg (by omega) a1.1
    have m2 : (pr 0).toInt * (iabs (p + k - p2)).toInt ≤ 20 * 133 := Int.mul_le_mul (by omega) a1.2 a1.1 (by omega)
    have m3 : 0 ≤ (pr 2).toInt * (iabs (b - b2)).toInt := Int.mul_nonneg (by omega) a2.1
    have m4 : (pr 2).toInt * (iabs (b - b2)).toInt ≤ 20 * 16 := Int.mul_le_mul (by omega) a2.2 a2.1 (by omega)
    have e4 := i_mul (a := pr 0) (b := iabs (p + k - p2)) (by omega)
    have e5 := i_mul (a := pr 2) (b := iabs (b - b2)) (by omega)
    have e6 := imin_i (pr 1) (pr 0 * iabs (p + k - p2))
    rw [i_add (by omega)]
    omega
/-- all that a sum is made of -/
def oC (n m : Nat) (c1 a1 : Nat → Int32) (c2 : Nat → Nat → Int32) : Prop := (∀ i, i < n → 0 ≤ (a1 i).toInt ∧ (a1 i).toInt ≤ 200) ∧ (∀ j, j < m → 0 ≤ (c1 j).toInt ∧ (c1 j).toInt ≤ 200) ∧ ∀ i j, i < n → j < m → 0 ≤ (c2 i j).toInt ∧ (c2 i j).toInt ≤ 520
def dq (c1 a1 : Nat → Int32) (c2 : Nat → Nat → Int32) : Nat → Nat → Int32
  | 0 => dpr0 c1
  | i + 1 => dpr (dq c1 a1 c2 i) (a1 i) (c2 i) c1
theorem dp_dq (pr tp tb up ub : Nat → Int32) (k : Int32) : ∀ i, dp pr tp tb up ub k i = dq (fun j => co1 pr (up j)) (fun i => co1 pr (tp i)) (fun i j => co2 pr (tp i) (tb i) (up j) (ub j) k) i
  | 0 => rfl
  | i + 1 => by
    show dpr (dp pr tp tb up ub k i) _ _ _ = dpr (dq _ _ _ i) _ _ _
    rw [dp_dq pr tp tb up ub k i]
theorem dq_s0 (c1 a1 : Nat → Int32) (c2 : Nat → Nat → Int32) (i : Nat) : dq c1 a1 c2 (i + 1) 0 = dq c1 a1 c2 i 0 + a1 i := rfl
theorem dq_0s (c1 a1 : Nat → Int32) (c2 : Nat → Nat → Int32) (j : Nat) : dq c1 a1 c2 0 (j + 1) = dq c1 a1 c2 0 j + c1 j := rfl
theorem dq_ss (c1 a1 : Nat → Int32) (c2 : Nat → Nat → Int32) (i j : Nat) : dq c1 a1 c2 (i + 1) (j + 1) = imin (imin (dq c1 a1 c2 i j + c2 i j) (dq c1 a1 c2 i (j + 1) + a1 i)) (dq c1 a1 c2 (i + 1) j + c1 j) := rfl
theorem dq_R {n m : Nat} {c1 a1 : Nat → Int32} {c2 : Nat → Nat → Int32} (h : oC n m c1 a1 c2) (hn : n ≤ 24) (hm : m ≤ 24) : ∀ i j, i ≤ n → j ≤ m → 0 ≤ (dq c1 a1 c2 i j).toInt ∧ (dq c1 a1 c2 i j).toInt ≤ 200 * ((i : Int) + j)
  | 0, 0, _, _ => by show 0 ≤ (0 : Int32).toInt ∧ (0 : Int32).toInt ≤ _; rw [i_0]; omega
  | 0, j + 1, hi, hj => by
    have ih := dq_R h hn hm 0 j hi (by omega)
    have := h.2.1 j (by omega)
    rw [dq_0s, i_add (by omega)]
    omega
  | i + 1, 0, hi, hj => by
    have ih := dq_R h hn hm i 0 (by omega) hj
    have := h.1 i (by omega)
    rw [dq_s0, i_add (by omega)]
    omega
  | i + 1, j + 1, hi, hj => by
    have h1 := dq_R h hn hm i j (by omega) (by omega)
    have h2 := dq_R h hn hm i (j + 1) (by omega) hj
    have h3 := dq_R h hn hm (i + 1) j hi (by omega)
    have g1 := h.1 i (by omega)
    have g2 := h.2.1 j (by omega)
    have g3 := h.2.2 i j (by omega) (by omega)
    rw [dq_ss, imin_i, imin_i, i_add (by omega), i_add (by omega), i_add (by omega)]
    omega
theorem dq_up {n m : Nat} {c1 a1 : Nat → Int32} {c2 : Nat → Nat → Int32} (h : oC n m c1 a1 c2) (hn : n ≤ 24) (hm : m ≤ 24) {bd : Int32} {i : Nat} (hi : i < n) (hb : ∀ j, j ≤ m → bd ≤ dq c1 a1 c2 i j) : ∀ j, j ≤ m → bd ≤ dq c1 a1 c2 (i + 1) j
  | 0, hj => by
    have h1 := dq_R h hn hm i 0 (by omega) (by omega)
    have g1 := h.1 i hi
    have := hb 0 (by omega)
    rw [dq_s0]
    rw [i_le] at *
    rw [i_add (by omega)]
    omega
  | j + 1, hj => by
    have h1 := dq_R h hn hm i j (by omega) (by omega)
    have h2 := dq_R h hn hm i (j + 1) (by omega) hj
    have h3 := dq_R h hn hm (i + 1) j hi (by omega)
    have g1 := h.1 i (by omega)
    have g2 := h.2.1 j (by omega)
    have g3 := h.2.2 i j (by omega) (by omega)
    have b1 := hb j (by omega)
    have b2 := hb (j + 1) hj
    have b3 := dq_up h hn hm hi hb j (by omega)
    rw [i_le] at b1 b2 b3 ⊢
    rw [dq_ss, imin_i, imin_i, i_add (by omega), i_add (by omega), i_add (by omega)]
    omega
theorem dq_ups {n m : Nat} {c1 a1 : Nat → Int32} {c2 : Nat → Nat → Int32} (h : oC n m c1 a1 c2) (hn : n ≤ 24) (hm : m ≤ 24) {bd : Int32} {i : Nat} (hb : ∀ j, j ≤ m → bd ≤ dq c1 a1 c2 i j) : ∀ d, i + d ≤ n → ∀ j, j ≤ m → bd ≤ dq c1 a1 c2 (i + d) j
  | 0, _ => hb
  | d + 1, hd => dq_up h hn hm (show i + d < n by omega) (dq_ups h hn hm hb d (by omega))
theorem dq_swap {n m : Nat} {c1 a1 : Nat → Int32} {c2 c3 : Nat → Nat → Int32} (h : ∀ i j, i < n → j < m → c3 j i = c2 i j) : ∀ i j, i ≤ n → j ≤ m → dq c1 a1 c2 i j = dq a1 c1 c3 j i
  | 0, 0, _, _ => rfl
  | 0, j + 1, hi, hj => by rw [dq_0s, dq_s0, dq_swap h 0 j hi (by omega)]
  | i + 1, 0, hi, hj => by rw [dq_0s, dq_s0, dq_swap h i 0 (by omega) hj]
  | i + 1, j + 1, hi, hj => by
    rw [dq_ss, dq_ss, dq_swap h i j (by omega) (by omega), dq_swap h i (j + 1) (by omega) hj, dq_swap h (i + 1) j hi (by omega), h i j (by omega) (by omega), i_eq, imin_i, imin_i, imin_i, imin_i]
    omega
/-! the same for two tunes -/
abbrev oT (n : Nat) (tp tb : Nat → Int32) : Prop := ∀ i, i < n → oNt (tp i) (tb i)
section RNG
variable {pr tp tb up ub : Nat → Int32} {n m : Nat} {k : Int32}
theorem oC_of (hp : oPr pr) (ht : oT n tp tb) (hu : oT m up ub) (hk : oKy k) : oC n m (fun j => co1 pr (up j)) (fun i => co1 pr (tp i)) (fun i j => co2 pr (tp i) (tb i) (up j) (ub j) k) :=
  ⟨fun _ _ => co1_R hp, fun _ _ => co1_R hp, fun i j hi hj => co2_R hp (ht i hi) (hu j hj) hk⟩
theorem dp_R (hp : oPr pr) (ht : oT n tp tb) (hu : oT m up ub) (hk : oKy k) (hn : n ≤ 24) (hm : m ≤ 24) {i j : Nat} (hi : i ≤ n) (hj : j ≤ m) : 0 ≤ dp pr tp tb up ub k i j ∧ dp pr tp tb up ub k i j < 1000000 := by
  have := dq_R (oC_of hp ht hu hk) hn hm i j hi hj
  rw [dp_dq]
  rw [i_le, i_lt, i_0, show (1000000 : Int32).toInt = 1000000 from rfl]
  omega
theorem dp_mo (hp : oPr pr) (ht : oT n tp tb) (hu : oT m up ub) (hk : oKy k) (hn : n ≤ 24) (hm : m ≤ 24) {bd : Int32} (h : ∃ i, i ≤ n ∧ ∀ j, j ≤ m → bd ≤ dp pr tp tb up ub k i j) : bd ≤ dp pr tp tb up ub k n m := by
  obtain ⟨i, hi, hb⟩ := h
  rw [dp_dq] at hb ⊢
  have := dq_ups (oC_of hp ht hu hk) hn hm hb (n - i) (by omega) m (Nat.le_refl _)
  rwa [show i + (n - i) = n by omega] at this
theorem co2_swap {p b p2 b2 : Int32} (h1 : oNt p b) (h2 : oNt p2 b2) (hk : oKy k) : co2 pr p2 b2 p b (-k) = co2 pr p b p2 b2 k := by
  simp only [oNt, oKy, i_le, i_0, i_m1, i_n60, i_n16, i_m12, i_n12b] at h1 h2 hk
  have e0 : (-k).toInt = -k.toInt := i_neg (by omega)
  have e1 : (p + k).toInt = p.toInt + k.toInt := i_add (by omega)
  have e2 : (p + k - p2).toInt = p.toInt + k.toInt - p2.toInt := by rw [i_sub (by omega), e1]
  have e3 : (b - b2).toInt = b.toInt - b2.toInt := i_sub (by omega)
  have e4 : p2 + -k - p = -(p + k - p2) := by
    rw [i_eq, i_neg (by omega), e2, i_sub (by rw [i_add (by omega)]; omega), i_add (by omega)]
    omega
  have e5 : b2 - b = -(b - b2) := by
    rw [i_eq, i_neg (by omega), e3, i_sub (by omega)]
    omega
  unfold co2
  rw [e4, e5, iabs_neg (by omega), iabs_neg (by omega)]
  by_cases q : p = -1 ∨ p2 = -1
  · rw [if_pos q, if_pos q.symm]
  · rw [if_neg q, if_neg (fun h => q h.symm)]
theorem dp_swap (ht : oT n tp tb) (hu : oT m up ub) (hk : oKy k) : dp pr up ub tp tb (-k) m n = dp pr tp tb up ub k n m := by
  rw [dp_dq, dp_dq]
  exact (dq_swap (c3 := fun j i => co2 pr (up j) (ub j) (tp i) (tb i) (-k)) (fun i j hi hj => co2_swap (ht i hi) (hu j hj) hk) n m (Nat.le_refl _) (Nat.le_refl _)).symm
end RNG
theorem keyAt_R : ∀ N : Nat, N < 25 → oKy (keyAt N) := by decide +kernel
def kSw (N : Nat) : Nat := if N = 0 then 0 else if N % 2 = 0 then N - 1 else N + 1
theorem kSw_ok : ∀ N : Nat, N < 25 → kSw N < 25 ∧ keyAt (kSw N) = -(keyAt N) := by decide +kernel
theorem lt_top {v : Int32} (h : v < 1000000) : v < 2147483647 := by
  rw [i_lt, show (1000000 : Int32).toInt = 1000000 from rfl] at h
  rw [i_lt, show (2147483647 : Int32).toInt = 2147483647 from rfl]
  omega
theorem tl_k {f : Nat → Int32} {k0 k1 : Int32} (h : f 0 < 1000000) : ∀ N, tlB f k0 (N + 1) = tl f k1 (N + 1)
  | 0 => by
    show (if _ then _ else _) = (if _ then _ else _)
    rw [if_pos (show f 0 < (tlB f k0 0).1 from h), if_pos (show f 0 < (tl f k1 0).1 from lt_top h)]
  | N + 1 => by
    show (if f (N + 1) < (tlB f k0 (N + 1)).1 then _ else tlB f k0 (N + 1)) = (if f (N + 1) < (tl f k1 (N + 1)).1 then _ else tl f k1 (N + 1))
    rw [tl_k h N]
theorem tl_le {f : Nat → Int32} {k0 : Int32} : ∀ {N k : Nat}, k < N → (tl f k0 N).1 ≤ f k
  | N + 1, k, h => by
    show (if f N < (tl f k0 N).1 then (f N, keyAt N) else tl f k0 N).1 ≤ f k
    by_cases hk : k = N
    · subst hk
      split
      · exact Int32.le_refl _
      · rename_i q; exact Int32.not_lt.mp q
    · have ih := tl_le (f := f) (k0 := k0) (show k < N by omega)
      split
      · rename_i q; exact Int32.le_trans (Int32.le_of_lt q) ih
      · exact ih
theorem tl_at {f : Nat → Int32} {k0 : Int32} : ∀ N, tl f k0 N = (2147483647, k0) ∨ ∃ k, k < N ∧ tl f k0 N = (f k, keyAt k)
  | 0 => Or.inl rfl
  | N + 1 => by
    show (if f N < (tl f k0 N).1 then (f N, keyAt N) else tl f k0 N) = _ ∨ ∃ k, k < N + 1 ∧ (if f N < (tl f k0 N).1 then (f N, keyAt N) else tl f k0 N) = _
    split
    · exact Or.inr ⟨N, Nat.lt_succ_self _, rfl⟩
    · rcases tl_at (f := f) (k0 := k0) N with h | ⟨k, hk, h⟩
      · exact Or.inl h
      · exact Or.inr ⟨k, by omega, h⟩
theorem tl_pick {f : Nat → Int32} {k0 : Int32} (h : f 0 < 1000000) : ∃ k, k < 25 ∧ tl f k0 25 = (f k, keyAt k) := by
  rcases tl_at (f := f) (k0 := k0) 25 with q | q
  · have := tl_le (f := f) (k0 := k0) (show 0 < 25 by omega)
    rw [q] at this
    exact absurd (lt_top h) (Int32.not_lt.mpr this)
  · exact q
theorem tl_swap {f g : Nat → Int32} (hf : f 0 < 1000000) (hg : g 0 < 1000000) (h : ∀ N, N < 25 → g (kSw N) = f N) (h2 : ∀ N, N < 25 → f (kSw N) = g N) : (tl f 0 25).1 = (tl g 0 25).1 := by
  obtain ⟨a, ha, ea⟩ := tl_pick (k0 := 0) hf
  obtain ⟨b, hb, eb⟩ := tl_pick (k0 := 0) hg
  have l1 := tl_le (f := f) (k0 := 0) (kSw_ok b hb).1
  have l2 := tl_le (f := g) (k0 := 0) (kSw_ok a ha).1
  rw [h2 b hb] at l1
  rw [h a ha] at l2
  rw [ea] at l1 ⊢
  rw [eb] at l2 ⊢
  exact Int32.le_antisymm l1 l2
/-! what the class's questions rest on -/
theorem ks_R {n c d w : Nat} {ln : Nat → Nat} {fo nt : Int32} {ar : Nat → Nat → Int32} {rb : Nat → Int32} (hT : TD n c d w ln fo nt ar rb) {i g : Nat} (hi : i < n) (hg : g < ln i) : ∀ e, e ≤ c → oNt (ks ar i g false e) (ks ar i g true e)
  | 0, _ => hT.2.2.2.2.2.2.2.2.1 i g hi hg
  | e + 1, he => by
    have ih := ks_R hT hi hg e (by omega)
    show oNt (if _ then _ else _) (if _ then _ else _)
    split
    · have := (hT.2.2.2.2.2.2.2.1 e (by omega)).2.2
      exact this
    · exact ih
theorem TD.pr {n c d w : Nat} {ln : Nat → Nat} {fo nt : Int32} {ar : Nat → Nat → Int32} {rb : Nat → Int32} (hT : TD n c d w ln fo nt ar rb) : oPr (ar 15) := by
  obtain ⟨-, -, -, -, -, -, -, -, -, -, -, -, -, -, p0, p1, p2, p3, -⟩ := hT
  exact ⟨p0, p1, p2, p3⟩
theorem KN.oT {n c d w : Nat} {ln kl ep : Nat → Nat} {fo nt : Int32} {ar : Nat → Nat → Int32} {rb : Nat → Int32} {kp kb : Nat → Nat → Int32} (hK : KN ar n c ln kl ep kp kb) (hT : TD n c d w ln fo nt ar rb) {i : Nat} (hi : i < n) : oT (kl i) (kp i) (kb i) := fun g hg => by
  obtain ⟨h1, h2, h3⟩ := hK i hi
  rw [(h3 g hg).1, (h3 g hg).2]
  exact ks_R hT hi (by omega) _ h2
theorem learn_hyps {pr tp tb up ub : Nat → Int32} {n m : Nat} (hp : oPr pr) (ht : oT n tp tb) (hu : oT m up ub) (hn : n ≤ 24) (hm : m ≤ 24) :
    (∀ N, N < 25 → 0 ≤ dp pr tp tb up ub (keyAt N) n m) ∧ (∀ (N : Nat) (bd : Int32), N < 25 → (∃ i, i ≤ n ∧ ∀ j, j ≤ m → bd ≤ dp pr tp tb up ub (keyAt N) i j) → bd ≤ dp pr tp tb up ub (keyAt N) n m) ∧ (∀ k0 k1, tlB (fun N => dp pr tp tb up ub (keyAt N) n m) k0 25 = tl (fun N => dp pr tp tb up ub (keyAt N) n m) k1 25) ∧ oKy (tl (fun N => dp pr tp tb up ub (keyAt N) n m) 0 25).2 := by
  have h0 := (dp_R hp ht hu (keyAt_R 0 (by omega)) hn hm (Nat.le_refl n) (Nat.le_refl m)).2
  refine ⟨fun N hN => (dp_R hp ht hu (keyAt_R N hN) hn hm (Nat.le_refl _) (Nat.le_refl _)).1, fun N bd hN h => dp_mo hp ht hu (keyAt_R N hN) hn hm h, fun k0 k1 => tl_k (f := fun N => dp pr tp tb up ub (keyAt N) n m) h0 24, ?_⟩
  obtain ⟨a, ha, ea⟩ := tl_pick (f := fun N => dp pr tp tb up ub (keyAt N) n m) (k0 := 0) h0
  rw [ea]
  exact keyAt_R a ha
theorem KD_swap {n c d w : Nat} {ln kl ep : Nat → Nat} {fo nt : Int32} {ar : Nat → Nat → Int32} {rb : Nat → Int32} {kp kb : Nat → Nat → Int32} (hK : KN ar n c ln kl ep kp kb) (hT : TD n c d w ln fo nt ar rb) {a b : Nat} (ha : a < n) (hb : b < n) : (KD ar kl kp kb a b).1 = (KD ar kl kp kb b a).1 := by
  have ta := hK.oT hT ha
  have tb := hK.oT hT hb
  have l1 := (hK a ha).1
  have l2 := (hK b hb).1
  have l3 := hT.2.2.2.2.1 a ha
  have l4 := hT.2.2.2.2.1 b hb
  refine tl_swap (dp_R hT.pr ta tb (keyAt_R 0 (by omega)) (by omega) (by omega) (Nat.le_refl _) (Nat.le_refl _)).2 (dp_R hT.pr tb ta (keyAt_R 0 (by omega)) (by omega) (by omega) (Nat.le_refl _) (Nat.le_refl _)).2 (fun N hN => ?_) (fun N hN => ?_)
  · show dp _ _ _ _ _ (keyAt (kSw N)) _ _ = dp _ _ _ _ _ (keyAt N) _ _
    rw [(kSw_ok N hN).2]
    exact dp_swap ta tb (keyAt_R N hN)
  · show dp _ _ _ _ _ (keyAt (kSw N)) _ _ = dp _ _ _ _ _ (keyAt N) _ _
    rw [(kSw_ok N hN).2]
    exact dp_swap tb ta (keyAt_R N hN)
