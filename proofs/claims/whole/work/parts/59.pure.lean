/-! the gathered are the sheets of one label -/
def Pre (x y : Nat × (Nat → Nat)) : Prop := x.1 ≤ y.1 ∧ ∀ g, g < x.1 → y.2 g = x.2 g
theorem Pre.rf {x : Nat × (Nat → Nat)} : Pre x x := ⟨Nat.le_refl _, fun _ _ => rfl⟩
theorem Pre.trans {x y z : Nat × (Nat → Nat)} (h1 : Pre x y) (h2 : Pre y z) : Pre x z := ⟨Nat.le_trans h1.1 h2.1, fun g hg => by rw [h2.2 g (by have := h1.1; omega), h1.2 g hg]⟩
theorem Pre.add {x : Nat × (Nat → Nat)} {k : Nat} : Pre x (x.1 + 1, zup x.2 x.1 k) := ⟨Nat.le_succ _, fun g hg => zup_n (by omega)⟩
section GA
variable {ar : Nat → Nat → Int32} {D1 : Nat → Int32} {q bar : Int32} {x : Nat × (Nat → Nat)}
theorem alk_pre : ∀ i, Pre x (alk ar D1 q bar x i)
  | 0 => Pre.rf
  | i + 1 => by
    have ih := alk_pre i
    rw [alk_s]
    split
    · exact ih.trans Pre.add
    · exact ih
theorem alk_mem {P : Nat → Prop} (hx : ∀ g, g < x.1 → P (x.2 g)) (hP : ∀ k, ¬ frg ar k q → D1 k ≤ bar → P k) : ∀ i g, g < (alk ar D1 q bar x i).1 → P ((alk ar D1 q bar x i).2 g)
  | 0, g, h => hx g h
  | i + 1, g, h => by
    have ih := alk_mem hx hP i
    rw [alk_s] at h ⊢
    split at h
    · rename_i h2
      rw [if_pos h2]
      show P (zup _ _ _ g)
      by_cases e : g = (alk ar D1 q bar x i).1
      · rw [e, zup_s]; exact hP i h2.1 h2.2.2
      · rw [zup_n e]; exact ih g (by have h : g < (alk ar D1 q bar x i).1 + 1 := h; omega)
    · rename_i h2
      rw [if_neg h2]; exact ih g h
theorem alk_has : ∀ i k, k < i → ¬ frg ar k q → D1 k ≤ bar → ∃ g, g < (alk ar D1 q bar x i).1 ∧ (alk ar D1 q bar x i).2 g = k
  | 0, k, h, _, _ => absurd h (Nat.not_lt_zero _)
  | i + 1, k, h, hf, hd => by
    have ih := alk_has i k
    rw [alk_s]
    by_cases e : k = i
    · subst e
      by_cases hg : ∃ g, g < (alk ar D1 q bar x k).1 ∧ (alk ar D1 q bar x k).2 g = k
      · rw [if_neg (fun h2 => h2.2.1 hg)]; exact hg
      · rw [if_pos ⟨hf, hg, hd⟩]
        exact ⟨(alk ar D1 q bar x k).1, Nat.lt_succ_self _, zup_s⟩
    · obtain ⟨g, h1, h2⟩ := ih (by omega) hf hd
      split
      · exact ⟨g, Nat.lt_succ_of_lt h1, by show zup _ _ _ g = k; rw [zup_n (by omega)]; exact h2⟩
      · exact ⟨g, h1, h2⟩
end GA
section GB
variable {ar : Nat → Nat → Int32} {D : Nat → Nat → Int32} {q bar : Int32} {n a : Nat}
theorem gth_s {h : Nat} : gth ar D q bar n a (h + 1) = if h < (gth ar D q bar n a h).1 then alk ar (D ((gth ar D q bar n a h).2 h)) q bar (gth ar D q bar n a h) n else gth ar D q bar n a h := rfl
theorem gth_pre {h : Nat} : ∀ e, Pre (gth ar D q bar n a h) (gth ar D q bar n a (h + e))
  | 0 => Pre.rf
  | e + 1 => by
    have ih := gth_pre (h := h) e
    show Pre _ (gth ar D q bar n a (h + e + 1))
    rw [gth_s]
    split
    · exact ih.trans (alk_pre n)
    · exact ih
theorem gth_mem {P : Nat → Prop} (h0 : P a) (hs : ∀ e k, e < n → P e → ¬ frg ar k q → D e k ≤ bar → P k) (ha : a < n) : ∀ h g, g < (gth ar D q bar n a h).1 → P ((gth ar D q bar n a h).2 g)
  | 0, g, h => by
    have : g = 0 := by have h : g < 0 + 1 := h; omega
    subst this
    exact h0
  | h + 1, g, hg => by
    have ih := gth_mem h0 hs ha h
    rw [gth_s] at hg ⊢
    split at hg
    · rename_i h2
      rw [if_pos h2]
      exact alk_mem ih (fun k hf hd => hs _ k ((gth_GT ha h).1 h h2) (ih h h2) hf hd) n g hg
    · rename_i h2
      rw [if_neg h2]; exact ih g hg
theorem gth_closed (hn : n ≤ 20) (ha : a < n) {g k : Nat} (hg : g < (gth ar D q bar n a 20).1) (hk : k < n) (hf : ¬ frg ar k q) (hd : D ((gth ar D q bar n a 20).2 g) k ≤ bar) : ∃ g2, g2 < (gth ar D q bar n a 20).1 ∧ (gth ar D q bar n a 20).2 g2 = k := by
  have hGT := gth_GT (ar := ar) (D := D) (q := q) (bar := bar) ha 20
  have hm := pig n _ _ hGT.1 (fun p r hp hr e => hGT.2 p r hp hr e)
  have hg20 : g < 20 := by omega
  have hpre := gth_pre (ar := ar) (D := D) (q := q) (bar := bar) (n := n) (a := a) (h := g) (20 - g)
  rw [show g + (20 - g) = 20 by omega] at hpre
  have hgh : g < (gth ar D q bar n a g).1 := by
    refine Nat.not_le.mp fun hle => ?_
    have hst := gth_stop (ar := ar) (D := D) (q := q) (bar := bar) (n := n) (a := a) (h := g) (by omega) (20 - g)
    rw [show g + (20 - g) = 20 by omega] at hst
    rw [hst] at hg
    omega
  have hpre1 := gth_pre (ar := ar) (D := D) (q := q) (bar := bar) (n := n) (a := a) (h := g + 1) (20 - (g + 1))
  rw [show g + 1 + (20 - (g + 1)) = 20 by omega] at hpre1
  rw [hpre.2 g hgh] at hd
  have hh := alk_has (ar := ar) (D1 := D ((gth ar D q bar n a g).2 g)) (q := q) (bar := bar) (x := gth ar D q bar n a g) n k hk hf hd
  have e1 : gth ar D q bar n a (g + 1) = alk ar (D ((gth ar D q bar n a g).2 g)) q bar (gth ar D q bar n a g) n := by rw [gth_s, if_pos hgh]
  rw [← e1] at hh
  obtain ⟨g2, h1, h2⟩ := hh
  exact ⟨g2, Nat.lt_of_lt_of_le h1 hpre1.1, by rw [hpre1.2 g2 h1]; exact h2⟩
theorem gth_fst : 0 < (gth ar D q bar n a 20).1 ∧ (gth ar D q bar n a 20).2 0 = a := by
  have hpre := gth_pre (ar := ar) (D := D) (q := q) (bar := bar) (n := n) (a := a) (h := 0) 20
  rw [Nat.zero_add] at hpre
  exact ⟨Nat.lt_of_lt_of_le Nat.zero_lt_one hpre.1, (hpre.2 0 Nat.zero_lt_one).trans rfl⟩
theorem fam_mem {c : Nat} {ln lab : Nat → Nat} (hFL : FL n ar c ln q bar lab) (hsym : ∀ a b, a < n → b < n → sD ar c ln q a b = sD ar c ln q b a) (hDD : ∀ a b, a < n → b < n → sD ar c ln q a b = D a b) (hn : n ≤ 20) (ha : a < n) (hf : ¬ frg ar a q) :
    (∀ g, g < (gth ar D q bar n a 20).1 → (gth ar D q bar n a 20).2 g < n ∧ ¬ frg ar ((gth ar D q bar n a 20).2 g) q ∧ lab ((gth ar D q bar n a 20).2 g) = lab a) ∧
    (∀ k, k < n → ¬ frg ar k q → lab k = lab a → ∃ g, g < (gth ar D q bar n a 20).1 ∧ (gth ar D q bar n a 20).2 g = k) ∧ ∃ g, g < (gth ar D q bar n a 20).1 ∧ (gth ar D q bar n a 20).2 g = lab a := by
  have hGT := gth_GT (ar := ar) (D := D) (q := q) (bar := bar) ha 20
  have hcl : ∀ x y, x < n → y < n → (∃ g, g < (gth ar D q bar n a 20).1 ∧ (gth ar D q bar n a 20).2 g = x) → (Lk ar c ln q bar x y ∨ Lk ar c ln q bar y x) → ∃ g, g < (gth ar D q bar n a 20).1 ∧ (gth ar D q bar n a 20).2 g = y := fun x y hx hy ⟨g, h1, h2⟩ hl => by
    have hl2 : ¬ frg ar y q ∧ sD ar c ln q x y ≤ bar := hl.elim (fun h => ⟨h.2.1, h.2.2⟩) (fun h => ⟨h.1, by rw [hsym x y hx hy]; exact h.2.2⟩)
    exact gth_closed hn ha h1 hy hl2.1 (by rw [h2, ← hDD x y hx hy]; exact hl2.2)
  have hr : ∃ g, g < (gth ar D q bar n a 20).1 ∧ (gth ar D q bar n a 20).2 g = lab a := (hFL.1 a ha hf).2 (fun x => ∃ g, g < (gth ar D q bar n a 20).1 ∧ (gth ar D q bar n a 20).2 g = x) ⟨0, gth_fst.1, gth_fst.2⟩ (fun x y hx hy hp hl => hcl x y hx hy hp hl)
  refine ⟨fun g hg => ⟨hGT.1 g hg, gth_mem (P := fun k => ¬ frg ar k q ∧ (k < n → lab k = lab a)) ⟨hf, fun _ => rfl⟩ (fun e k he hP hfk hd => ⟨hfk, fun hk => ?_⟩) ha 20 g hg |>.imp id (fun h => h (hGT.1 g hg))⟩, fun k hk hfk hl => ?_, hr⟩
  · rw [← hDD e k he hk] at hd
    rcases Nat.lt_trichotomy e k with h | h | h
    · rw [hFL.2 k e h hk ⟨hfk, hP.1, by rw [hsym k e hk he]; exact hd⟩]; exact hP.2 he
    · rw [← h]; exact hP.2 he
    · rw [← hFL.2 e k h he ⟨hP.1, hfk, hd⟩]; exact hP.2 he
  · have hk2 := (hFL.1 k hk hfk).2 (fun x => (∃ g, g < (gth ar D q bar n a 20).1 ∧ (gth ar D q bar n a 20).2 g = x) → ∃ g, g < (gth ar D q bar n a 20).1 ∧ (gth ar D q bar n a 20).2 g = k) id (fun x y hx hy hp hl hy2 => hp (hcl y x hy hx hy2 hl.symm))
    exact hk2 (by rw [hl]; exact hr)
end GB
/-! counted, joined, least -/
theorem cnt_enum {F : Nat → Nat} (P : Nat → Prop) (h0 : F 0 = 0) (h1 : ∀ k, P k → F (k + 1) = F k + 1) (h2 : ∀ k, ¬ P k → F (k + 1) = F k) : ∀ (n m : Nat) (f : Nat → Nat), (∀ p, p < m → f p < n ∧ P (f p)) → (∀ p r, p < m → r < m → f p = f r → p = r) → (∀ k, k < n → P k → ∃ p, p < m ∧ f p = k) → F n = m
  | 0, m, f, hf, _, _ => by
    rcases m with _ | m
    · exact h0
    · exact absurd (hf 0 (by omega)).1 (Nat.not_lt_zero _)
  | n + 1, m, f, hf, hi, ho => by
    by_cases hp : P n
    · obtain ⟨p0, hp0, e0⟩ := ho n (Nat.lt_succ_self _) hp
      rcases m with _ | m
      · omega
      · rw [h1 n hp]
        refine congrArg (· + 1) (cnt_enum P h0 h1 h2 n m (fun p => if p = p0 then f m else f p) (fun p hpm => ?_) (fun p r hpm hrm e => ?_) (fun k hk hpk => ?_))
        · show (if p = p0 then f m else f p) < n ∧ P (if p = p0 then f m else f p)
          split
          · have a1 := hf m (by omega)
            have : f m ≠ n := fun q => by have := hi m p0 (by omega) hp0 (by omega); omega
            exact ⟨by omega, a1.2⟩
          · rename_i hne
            have a1 := hf p (by omega)
            have : f p ≠ n := fun q => hne (hi p p0 (by omega) hp0 (by omega))
            exact ⟨by omega, a1.2⟩
        · have e : (if p = p0 then f m else f p) = (if r = p0 then f m else f r) := e
          split at e <;> split at e
          · omega
          · have := hi m r (by omega) (by omega) e; omega
          · have := hi p m (by omega) (by omega) e; omega
          · exact hi p r (by omega) (by omega) e
        · obtain ⟨p, hpm, e⟩ := ho k (by omega) hpk
          have hne : p ≠ p0 := fun q => by subst q; omega
          by_cases em : p = m
          · subst em
            exact ⟨p0, by omega, by show (if p0 = p0 then f p else f p0) = k; rw [if_pos rfl]; exact e⟩
          · exact ⟨p, by omega, by show (if p = p0 then f m else f p) = k; rw [if_neg hne]; exact e⟩
    · rw [h2 n hp]
      exact cnt_enum P h0 h1 h2 n m f (fun p hpm => by
        have a1 := hf p hpm
        have : f p ≠ n := fun q => hp (by rw [← q]; exact a1.2)
        exact ⟨by omega, a1.2⟩) hi (fun k hk hpk => ho k (by omega) hpk)
def kinN (ar : Nat → Nat → Int32) (q : Int32) (lab : Nat → Nat) (a : Nat) : Nat → Nat
  | 0 => 0
  | k + 1 => kinN ar q lab a k + (if ¬ frg ar k q ∧ lab k = lab a then 1 else 0)
theorem kinM_N {ar : Nat → Nat → Int32} {q : Int32} {lab : Nat → Nat} {a : Nat} : ∀ k, kinM ar q lab a k = nI (kinN ar q lab a k)
  | 0 => rfl
  | k + 1 => by
    unfold kinM kinN
    rw [kinM_N k]
    unfold zb
    split
    · rw [nI_1]
    · rw [Int32.add_zero, Nat.add_zero]
theorem or_le_r {x A c : Int32} (h : x ||| A = A) : x ||| (A ||| c) = A ||| c := by rw [← Int32.or_assoc, h]
theorem or_le_l {x A c : Int32} (h : x ||| c = c) : x ||| (A ||| c) = A ||| c := by rw [Int32.or_comm A c, ← Int32.or_assoc, h]
theorem or_lub {x y Z : Int32} (h1 : x ||| Z = Z) (h2 : y ||| Z = Z) : (x ||| y) ||| Z = Z := by rw [Int32.or_assoc, h2, h1]
section GC
variable {ar : Nat → Nat → Int32} {q : Int32} {lab : Nat → Nat} {a n : Nat} {X : Nat × (Nat → Nat)}
theorem sng_up {Z : Int32} : ∀ {m : Nat}, (∀ g, g < m → (1 <<< (ar 3 (X.2 g) &&& 31)) ||| Z = Z) → sngC ar X m ||| Z = Z
  | 0, _ => Int32.zero_or
  | m + 1, h => or_lub (sng_up (fun g hg => h g (by omega))) (h m (by omega))
theorem sng_in : ∀ {m g : Nat}, g < m → (1 <<< (ar 3 (X.2 g) &&& 31)) ||| sngC ar X m = sngC ar X m
  | 0, g, h => absurd h (Nat.not_lt_zero _)
  | m + 1, g, h => by
    show _ ||| (sngC ar X m ||| _) = (sngC ar X m ||| _)
    by_cases e : g = m
    · subst e; exact or_le_l Int32.or_self
    · exact or_le_r (sng_in (show g < m by omega))
theorem sgm_up {Z : Int32} : ∀ {m : Nat}, (∀ k, k < m → ¬ frg ar k q → lab k = lab a → (1 <<< (ar 3 k &&& 31)) ||| Z = Z) → sungM ar q lab a m ||| Z = Z
  | 0, _ => Int32.zero_or
  | m + 1, h => or_lub (sgm_up (fun g hg => h g (by omega))) (by
    split
    · rename_i h2; exact h m (by omega) h2.1 h2.2
    · exact Int32.zero_or)
theorem sgm_in : ∀ {m k : Nat}, k < m → ¬ frg ar k q → lab k = lab a → (1 <<< (ar 3 k &&& 31)) ||| sungM ar q lab a m = sungM ar q lab a m
  | 0, k, h, _, _ => absurd h (Nat.not_lt_zero _)
  | m + 1, k, h, h1, h2 => by
    show _ ||| (sungM ar q lab a m ||| _) = (sungM ar q lab a m ||| _)
    by_cases e : k = m
    · subst e; rw [if_pos ⟨h1, h2⟩]; exact or_le_l Int32.or_self
    · exact or_le_r (sgm_in (show k < m by omega) h1 h2)
theorem imin_l {x y : Int32} : imin x y ≤ x := by
  unfold imin
  split
  · rename_i h; rw [i_lt] at h; rw [i_le]; omega
  · exact Int32.le_refl _
theorem imin_r {x y : Int32} : imin x y ≤ y := by
  unfold imin
  split
  · exact Int32.le_refl _
  · rename_i h; rw [i_lt] at h; rw [i_le]; omega
theorem imin_g {x y z : Int32} (h1 : z ≤ x) (h2 : z ≤ y) : z ≤ imin x y := by
  unfold imin
  split
  · exact h2
  · exact h1
theorem famC_lo {z : Int32} (h20 : z ≤ 20) : ∀ {m : Nat}, (∀ g, g < m → z ≤ nI (X.2 g)) → z ≤ famC X m
  | 0, _ => h20
  | m + 1, h => imin_g (famC_lo h20 (fun g hg => h g (by omega))) (h m (by omega))
theorem famC_up : ∀ {m g : Nat}, g < m → famC X m ≤ nI (X.2 g)
  | 0, g, h => absurd h (Nat.not_lt_zero _)
  | m + 1, g, h => by
    show imin (famC X m) (nI (X.2 m)) ≤ _
    by_cases e : g = m
    · subst e; exact imin_r
    · exact Int32.le_trans imin_l (famC_up (show g < m by omega))
end GC
section GD
variable {ar : Nat → Nat → Int32} {D : Nat → Nat → Int32} {q bar : Int32} {n a c : Nat} {ln lab : Nat → Nat}
theorem kin_eq (hFL : FL n ar c ln q bar lab) (hsym : ∀ a b, a < n → b < n → sD ar c ln q a b = sD ar c ln q b a) (hDD : ∀ a b, a < n → b < n → sD ar c ln q a b = D a b) (hn : n ≤ 20) (ha : a < n) (hf : ¬ frg ar a q) : nI (gth ar D q bar n a 20).1 = kinM ar q lab a n := by
  obtain ⟨h1, h2, -⟩ := fam_mem hFL hsym hDD hn ha hf
  have hGT := gth_GT (ar := ar) (D := D) (q := q) (bar := bar) ha 20
  rw [kinM_N]
  refine congrArg nI (cnt_enum (F := kinN ar q lab a) (fun k => ¬ frg ar k q ∧ lab k = lab a) rfl (fun k h => ?_) (fun k h => ?_) n _ _ (fun p hp => ⟨(h1 p hp).1, (h1 p hp).2⟩) (fun p r hp hr e => hGT.2 p r hp hr e) (fun k hk hp => h2 k hk hp.1 hp.2)).symm
  · show kinN ar q lab a k + _ = _; rw [if_pos h]
  · show kinN ar q lab a k + _ = _; rw [if_neg h, Nat.add_zero]
theorem sung_eq (hFL : FL n ar c ln q bar lab) (hsym : ∀ a b, a < n → b < n → sD ar c ln q a b = sD ar c ln q b a) (hDD : ∀ a b, a < n → b < n → sD ar c ln q a b = D a b) (hn : n ≤ 20) (ha : a < n) (hf : ¬ frg ar a q) : sngC ar (gth ar D q bar n a 20) (gth ar D q bar n a 20).1 = sungM ar q lab a n := by
  obtain ⟨h1, h2, -⟩ := fam_mem hFL hsym hDD hn ha hf
  have e1 := sng_up (ar := ar) (X := gth ar D q bar n a 20) (Z := sungM ar q lab a n) (fun g hg => sgm_in (h1 g hg).1 (h1 g hg).2.1 (h1 g hg).2.2)
  have e2 := sgm_up (ar := ar) (q := q) (lab := lab) (a := a) (m := n) (Z := sngC ar (gth ar D q bar n a 20) (gth ar D q bar n a 20).1) (fun k hk hfk hl => by
    obtain ⟨g, g1, g2⟩ := h2 k hk hfk hl
    have := sng_in (ar := ar) (X := gth ar D q bar n a 20) g1
    rw [g2] at this
    exact this)
  rw [Int32.or_comm] at e2
  exact e2.symm.trans e1
theorem fam_eq (hFL : FL n ar c ln q bar lab) (hsym : ∀ a b, a < n → b < n → sD ar c ln q a b = sD ar c ln q b a) (hDD : ∀ a b, a < n → b < n → sD ar c ln q a b = D a b) (hn : n ≤ 20) (ha : a < n) (hf : ¬ frg ar a q) : famC (gth ar D q bar n a 20) (gth ar D q bar n a 20).1 = nI (lab a) := by
  obtain ⟨h1, -, g, g1, g2⟩ := fam_mem hFL hsym hDD hn ha hf
  have hla := (hFL.1 a ha hf).1
  have lo := famC_lo (X := gth ar D q bar n a 20) (z := nI (lab a)) (by show nI (lab a) ≤ nI 20; rw [nI_leI (by omega) (by omega)]; omega) (m := (gth ar D q bar n a 20).1) (fun g hg => by
    obtain ⟨x1, x2, x3⟩ := h1 g hg
    have := (hFL.1 _ x1 x2).1
    rw [nI_leI (by omega) (by omega)]
    omega)
  have up := famC_up (X := gth ar D q bar n a 20) g1
  rw [g2] at up
  exact Int32.le_antisymm up lo
end GD
