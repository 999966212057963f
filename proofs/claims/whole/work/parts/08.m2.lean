/-! the pure words of the reference -/
def iabs (x : Int32) : Int32 := if 0 ≤ x then x else 0 - x
def imin (a b : Int32) : Int32 := if b < a then b else a
def imax (a b : Int32) : Int32 := if a < b then b else a
/-- what a column of two costs, and one alone -/
def co2 (pr : Nat → Int32) (p b p2 b2 k : Int32) : Int32 := if p = -1 ∨ p2 = -1 then 0 else imin (pr 1) (pr 0 * iabs (p + k - p2)) + pr 2 * iabs (b - b2)
def co1 (pr : Nat → Int32) (p : Int32) : Int32 := if p = -1 then 0 else pr 3
def dpr0 (c1 : Nat → Int32) : Nat → Int32
  | 0 => 0
  | j + 1 => dpr0 c1 j + c1 j
def dpr (prev : Nat → Int32) (a : Int32) (c2 c1 : Nat → Int32) : Nat → Int32
  | 0 => prev 0 + a
  | j + 1 => imin (imin (prev j + c2 j) (prev (j + 1) + a)) (dpr prev a c2 c1 j + c1 j)
/-- the least sum of the first i notes and the first j, with a key -/
def dp (pr tp tb up ub : Nat → Int32) (k : Int32) : Nat → Nat → Int32
  | 0 => dpr0 (fun j => co1 pr (up j))
  | i + 1 => dpr (dp pr tp tb up ub k i) (co1 pr (tp i)) (fun j => co2 pr (tp i) (tb i) (up j) (ub j) k) (fun j => co1 pr (up j))
/-- a note as known on a day, out of the first c corrections -/
def kn (ar : Nat → Nat → Int32) (s i : Nat) (q : Int32) (b : Bool) : Nat → Int32
  | 0 => if b = true then ar 7 (24 * s + i) else ar 6 (24 * s + i)
  | k + 1 => if ar 8 k = nI s ∧ ar 9 k = nI i ∧ ar 12 k ≤ q then (if b = true then ar 11 k else ar 10 k) else kn ar s i q b k
theorem kn_congr {ar ar2 : Nat → Nat → Int32} (h : ∀ k, k < 20 → ar2 k = ar k) (s i : Nat) (q : Int32) (b : Bool) : ∀ c, kn ar2 s i q b c = kn ar s i q b c
  | 0 => by unfold kn; rw [h 7 (by omega), h 6 (by omega)]
  | c + 1 => by unfold kn; rw [kn_congr h s i q b c, h 8 (by omega), h 9 (by omega), h 10 (by omega), h 11 (by omega), h 12 (by omega)]
abbrev rX8_isNote : Room := rmK 1 0 0 22
set_option maxRecDepth 100000 in
set_option maxHeartbeats 400000 in
theorem c_mIsNote (l : Launch) {κ : zK} {G : zH} (v b : Int32)  : Ct l yX8_isNote cX8_isNote 2 (some FieldType.boolean) rX8_isNote κ [.int v, .int b] G (zP (zb (v = -1 ∨ (0 ≤ v ∧ v ≤ 60) ∧ 1 ≤ b ∧ b ≤ 16)) G) := by
  refine Ct.of (by decide +kernel) (fun v hv => by
    simp only [List.mem_cons, List.mem_nil_iff, or_false, List.not_mem_nil] at hv
    rcases hv with rfl | rfl <;> rfl) (Nat.le_of_ble_eq_true rfl) ?_
  intro p e s m args below meth cC
  refine z_L (L' := [some (.int v), some (.int b)]) rfl ?_
  generalize hQx : MQ below (zQc κ _) args s _ _ (zA κ) = Qx
  refine z_il0 (pc := 0) dX8_isNote_0 ?_
  refine z_iconst (pc := 1) (-1) (by decide) dX8_isNote_1 ?_
  refine z_icmp_eq (pc := 2) 25 dX8_isNote_2 rfl (fun c2 => ?_) (fun c2 => ?_)
  · refine z_iconst (pc := 25) (1) (by decide) dX8_isNote_25 ?_
    refine z_goto (pc := 26) 30 dX8_isNote_26 rfl ?_
    rw [← hQx]
    refine z_zret (pc := 30) rfl rfl (by decide) dX8_isNote_30 (⟨_, rfl, (zb_t (by simp only [i_lt, i_le, i_eq, i_0, i_m1, i_lit, Nat.reduceLT, Nat.reducePow, ne_eq] at *; omega)).symm, rfl⟩)
  · refine z_il0 (pc := 5) dX8_isNote_5 ?_
    refine z_iconst (pc := 6) (0) (by decide) dX8_isNote_6 ?_
    refine z_bipush (pc := 7) (60) (by decide) dX8_isNote_7 ?_
    refine z_callSr (pc := 9) (c_mIsIn l v 0 60) kw_837 zc_X8_isIn (by decide) (by decide) rfl (Nat.le_of_ble_eq_true rfl) dX8_isNote_9 ?_
    refine z_ifz_eq (pc := 12) 29 dX8_isNote_12 rfl (fun c12 => ?_) (fun c12 => ?_)
    · refine z_iconst (pc := 29) (0) (by decide) dX8_isNote_29 ?_
      rw [← hQx]
      refine z_zret (pc := 30) rfl rfl (by decide) dX8_isNote_30 (⟨_, rfl, (zb_f (by simp only [i_lt, i_le, i_eq, i_0, i_m1, i_lit, Nat.reduceLT, Nat.reducePow, ne_eq] at *; omega)).symm, rfl⟩)
    · refine z_il1 (pc := 15) dX8_isNote_15 ?_
      refine z_iconst (pc := 16) (1) (by decide) dX8_isNote_16 ?_
      refine z_bipush (pc := 17) (16) (by decide) dX8_isNote_17 ?_
      refine z_callSr (pc := 19) (c_mIsIn l b 1 16) kw_837 zc_X8_isIn (by decide) (by decide) rfl (Nat.le_of_ble_eq_true rfl) dX8_isNote_19 ?_
      refine z_ifz_eq (pc := 22) 29 dX8_isNote_22 rfl (fun c22 => ?_) (fun c22 => ?_)
      · refine z_iconst (pc := 29) (0) (by decide) dX8_isNote_29 ?_
        rw [← hQx]
        refine z_zret (pc := 30) rfl rfl (by decide) dX8_isNote_30 (⟨_, rfl, (zb_f (by simp only [i_lt, i_le, i_eq, i_0, i_m1, i_lit, Nat.reduceLT, Nat.reducePow, ne_eq] at *; omega)).symm, rfl⟩)
      · refine z_iconst (pc := 25) (1) (by decide) dX8_isNote_25 ?_
        refine z_goto (pc := 26) 30 dX8_isNote_26 rfl ?_
        rw [← hQx]
        refine z_zret (pc := 30) rfl rfl (by decide) dX8_isNote_30 (⟨_, rfl, (zb_t (by simp only [i_lt, i_le, i_eq, i_0, i_m1, i_lit, Nat.reduceLT, Nat.reducePow, ne_eq] at *; omega)).symm, rfl⟩)
abbrev rX8_isForged : Room := rmK 0 0 0 0
set_option maxRecDepth 100000 in
set_option maxHeartbeats 400000 in
theorem c_mIsForged (l : Launch) {κ : zK} {G : zH} {x : Nat} {ad : Nat → Nat} {sc : Nat → Int32} {ar : Nat → Nat → Int32} (j : Nat) (q : Int32) (hM : RM κ G x ad sc ar) (hj : j < 20) : Ct l yX8_isForged cX8_isForged 3 (some FieldType.boolean) rX8_isForged κ [.ref x, .int (nI j), .int q] G (zP (zb (ar 5 j ≠ -1 ∧ ar 5 j ≤ q)) G) := by
  refine Ct.of (by decide +kernel) (fun v hv => by
    simp only [List.mem_cons, List.mem_nil_iff, or_false, List.not_mem_nil] at hv
    rcases hv with rfl | rfl | rfl <;> rfl) (Nat.le_of_ble_eq_true rfl) ?_
  intro p e s m args below meth cC
  refine z_L (L' := [some (.ref x), some (.int (nI j)), some (.int q)]) rfl ?_
  generalize hQx : MQ below (zQc κ _) args s _ _ (zA κ) = Qx
  refine z_al0 (pc := 0) dX8_isForged_0 ?_
  refine z_mg5 (pc := 1) hM rfl dX8_isForged_1 ?_
  refine z_il1 (pc := 4) dX8_isForged_4 ?_
  refine z_mld (pc := 5) 5 20 hM rfl (by decide) rfl (by omega) dX8_isForged_5 ?_
  refine z_iconst (pc := 6) (-1) (by decide) dX8_isForged_6 ?_
  refine z_icmp_eq (pc := 7) 24 dX8_isForged_7 rfl (fun c7 => ?_) (fun c7 => ?_)
  · refine z_iconst (pc := 24) (0) (by decide) dX8_isForged_24 ?_
    rw [← hQx]
    refine z_zret (pc := 25) rfl rfl (by decide) dX8_isForged_25 (⟨_, rfl, (zb_f (by simp only [i_lt, i_le, i_eq, ne_eq] at *; omega)).symm, rfl⟩)
  · refine z_al0 (pc := 10) dX8_isForged_10 ?_
    refine z_mg5 (pc := 11) hM rfl dX8_isForged_11 ?_
    refine z_il1 (pc := 14) dX8_isForged_14 ?_
    refine z_mld (pc := 15) 5 20 hM rfl (by decide) rfl (by omega) dX8_isForged_15 ?_
    refine z_il2 (pc := 16) dX8_isForged_16 ?_
    refine z_icmp_gt (pc := 17) 24 dX8_isForged_17 rfl (fun c17 => ?_) (fun c17 => ?_)
    · refine z_iconst (pc := 24) (0) (by decide) dX8_isForged_24 ?_
      rw [← hQx]
      refine z_zret (pc := 25) rfl rfl (by decide) dX8_isForged_25 (⟨_, rfl, (zb_f (by simp only [i_lt, i_le, i_eq, ne_eq] at *; omega)).symm, rfl⟩)
    · refine z_iconst (pc := 20) (1) (by decide) dX8_isForged_20 ?_
      refine z_goto (pc := 21) 25 dX8_isForged_21 rfl ?_
      rw [← hQx]
      refine z_zret (pc := 25) rfl rfl (by decide) dX8_isForged_25 (⟨_, rfl, (zb_t (by simp only [i_lt, i_le, i_eq, ne_eq] at *; omega)).symm, rfl⟩)
abbrev rX8_alone : Room := rmK 0 0 0 0
set_option maxRecDepth 100000 in
set_option maxHeartbeats 400000 in
theorem c_mAlone (l : Launch) {κ : zK} {G : zH} {x : Nat} {ad : Nat → Nat} {sc : Nat → Int32} {ar : Nat → Nat → Int32} (v : Int32) (hM : RM κ G x ad sc ar) : Ct l yX8_alone cX8_alone 2 (some FieldType.int) rX8_alone κ [.ref x, .int v] G (zP (co1 (ar 15) v) G) := by
  refine Ct.of (by decide +kernel) (fun v hv => by
    simp only [List.mem_cons, List.mem_nil_iff, or_false, List.not_mem_nil] at hv
    rcases hv with rfl | rfl <;> rfl) (Nat.le_of_ble_eq_true rfl) ?_
  intro p e s m args below meth cC
  refine z_L (L' := [some (.ref x), some (.int v)]) rfl ?_
  generalize hQx : MQ below (zQc κ _) args s _ _ (zA κ) = Qx
  refine z_il1 (pc := 0) dX8_alone_0 ?_
  refine z_iconst (pc := 1) (-1) (by decide) dX8_alone_1 ?_
  refine z_icmp_ne (pc := 2) 9 dX8_alone_2 rfl (fun c2 => ?_) (fun c2 => ?_)
  · refine z_al0 (pc := 9) dX8_alone_9 ?_
    refine z_mg15 (pc := 10) hM rfl dX8_alone_10 ?_
    refine z_iconst (pc := 13) (3) (by decide) dX8_alone_13 ?_
    refine z_mld (pc := 14) 15 5 hM rfl (by decide) (show (3 : Int32) = nI 3 from rfl) (by decide) dX8_alone_14 ?_
    rw [← hQx]
    refine z_iret (pc := 15) rfl (by decide) dX8_alone_15 (⟨_, rfl, by simp_all [co1], rfl⟩)
  · refine z_iconst (pc := 5) (0) (by decide) dX8_alone_5 ?_
    refine z_goto (pc := 6) 15 dX8_alone_6 rfl ?_
    rw [← hQx]
    refine z_iret (pc := 15) rfl (by decide) dX8_alone_15 (⟨_, rfl, by simp_all [co1], rfl⟩)
abbrev rX8_ofTwo : Room := rmK 1 0 0 21
set_option maxRecDepth 100000 in
set_option maxHeartbeats 400000 in
theorem c_mOfTwo (l : Launch) {κ : zK} {G : zH} {x : Nat} {ad : Nat → Nat} {sc : Nat → Int32} {ar : Nat → Nat → Int32} (i j : Nat) (key : Int32) (hM : RM κ G x ad sc ar) (hi : i < 24) (hj : j < 24) : Ct l yX8_ofTwo cX8_ofTwo 4 (some FieldType.int) rX8_ofTwo κ [.ref x, .int (nI i), .int (nI j), .int key] G (zP (co2 (ar 15) (ar 20 i) (ar 21 i) (ar 22 j) (ar 23 j) key) G) := by
  refine Ct.of (by decide +kernel) (fun v hv => by
    simp only [List.mem_cons, List.mem_nil_iff, or_false, List.not_mem_nil] at hv
    rcases hv with rfl | rfl | rfl | rfl <;> rfl) (Nat.le_of_ble_eq_true rfl) ?_
  intro p e s m args below meth cC
  refine z_L (L' := [some (.ref x), some (.int (nI i)), some (.int (nI j)), some (.int key)]) rfl ?_
  generalize hQx : MQ below (zQc κ _) args s _ _ (zA κ) = Qx
  refine z_al0 (pc := 0) dX8_ofTwo_0 ?_
  refine z_mg20 (pc := 1) hM rfl dX8_ofTwo_1 ?_
  refine z_il1 (pc := 4) dX8_ofTwo_4 ?_
  refine z_mld (pc := 5) 20 24 hM rfl (by decide) rfl (by omega) dX8_ofTwo_5 ?_
  refine z_iconst (pc := 6) (-1) (by decide) dX8_ofTwo_6 ?_
  refine z_icmp_eq (pc := 7) 20 dX8_ofTwo_7 rfl (fun c7 => ?_) (fun c7 => ?_)
  · refine z_iconst (pc := 20) (0) (by decide) dX8_ofTwo_20 ?_
    rw [← hQx]
    refine z_iret (pc := 21) rfl (by decide) dX8_ofTwo_21 (⟨_, rfl, by simp_all [co2, imin, iabs], rfl⟩)
  · refine z_al0 (pc := 10) dX8_ofTwo_10 ?_
    refine z_mg22 (pc := 11) hM rfl dX8_ofTwo_11 ?_
    refine z_il2 (pc := 14) dX8_ofTwo_14 ?_
    refine z_mld (pc := 15) 22 24 hM rfl (by decide) rfl (by omega) dX8_ofTwo_15 ?_
    refine z_iconst (pc := 16) (-1) (by decide) dX8_ofTwo_16 ?_
    refine z_icmp_ne (pc := 17) 22 dX8_ofTwo_17 rfl (fun c17 => ?_) (fun c17 => ?_)
    · refine z_al0 (pc := 22) dX8_ofTwo_22 ?_
      refine z_mg15 (pc := 23) hM rfl dX8_ofTwo_23 ?_
      refine z_iconst (pc := 26) (1) (by decide) dX8_ofTwo_26 ?_
      refine z_mld (pc := 27) 15 5 hM rfl (by decide) (show (1 : Int32) = nI 1 from rfl) (by omega) dX8_ofTwo_27 ?_
      refine z_al0 (pc := 28) dX8_ofTwo_28 ?_
      refine z_mg15 (pc := 29) hM rfl dX8_ofTwo_29 ?_
      refine z_iconst (pc := 32) (0) (by decide) dX8_ofTwo_32 ?_
      refine z_mld (pc := 33) 15 5 hM rfl (by decide) (show (0 : Int32) = nI 0 from rfl) (by omega) dX8_ofTwo_33 ?_
      refine z_al0 (pc := 34) dX8_ofTwo_34 ?_
      refine z_mg20 (pc := 35) hM rfl dX8_ofTwo_35 ?_
      refine z_il1 (pc := 38) dX8_ofTwo_38 ?_
      refine z_mld (pc := 39) 20 24 hM rfl (by decide) rfl (by omega) dX8_ofTwo_39 ?_
      refine z_il3 (pc := 40) dX8_ofTwo_40 ?_
      refine z_iadd (pc := 41) dX8_ofTwo_41 ?_
      refine z_al0 (pc := 42) dX8_ofTwo_42 ?_
      refine z_mg22 (pc := 43) hM rfl dX8_ofTwo_43 ?_
      refine z_il2 (pc := 46) dX8_ofTwo_46 ?_
      refine z_mld (pc := 47) 22 24 hM rfl (by decide) rfl (by omega) dX8_ofTwo_47 ?_
      refine z_isub (pc := 48) dX8_ofTwo_48 ?_
      refine z_mabs (pc := 49) kw_908 kw_909 kw_12 kw_910 (by decide) (Nat.le_of_ble_eq_true rfl) dX8_ofTwo_49 ?_
      refine z_imul (pc := 52) dX8_ofTwo_52 ?_
      refine z_mmin (pc := 53) kw_911 kw_280 kw_12 kw_281 (by decide) (Nat.le_of_ble_eq_true rfl) dX8_ofTwo_53 ?_
      refine z_al0 (pc := 56) dX8_ofTwo_56 ?_
      refine z_mg15 (pc := 57) hM rfl dX8_ofTwo_57 ?_
      refine z_iconst (pc := 60) (2) (by decide) dX8_ofTwo_60 ?_
      refine z_mld (pc := 61) 15 5 hM rfl (by decide) (show (2 : Int32) = nI 2 from rfl) (by omega) dX8_ofTwo_61 ?_
      refine z_al0 (pc := 62) dX8_ofTwo_62 ?_
      refine z_mg21 (pc := 63) hM rfl dX8_ofTwo_63 ?_
      refine z_il1 (pc := 66) dX8_ofTwo_66 ?_
      refine z_mld (pc := 67) 21 24 hM rfl (by decide) rfl (by omega) dX8_ofTwo_67 ?_
      refine z_al0 (pc := 68) dX8_ofTwo_68 ?_
      refine z_mg23 (pc := 69) hM rfl dX8_ofTwo_69 ?_
      refine z_il2 (pc := 72) dX8_ofTwo_72 ?_
      refine z_mld (pc := 73) 23 24 hM rfl (by decide) rfl (by omega) dX8_ofTwo_73 ?_
      refine z_isub (pc := 74) dX8_ofTwo_74 ?_
      refine z_mabs (pc := 75) kw_908 kw_909 kw_12 kw_910 (by decide) (Nat.le_of_ble_eq_true rfl) dX8_ofTwo_75 ?_
      refine z_imul (pc := 78) dX8_ofTwo_78 ?_
      refine z_iadd (pc := 79) dX8_ofTwo_79 ?_
      rw [← hQx]
      refine z_iret (pc := 80) rfl (by decide) dX8_ofTwo_80 (⟨_, rfl, by simp_all [co2, imin, iabs], rfl⟩)
    · refine z_iconst (pc := 20) (0) (by decide) dX8_ofTwo_20 ?_
      rw [← hQx]
      refine z_iret (pc := 21) rfl (by decide) dX8_ofTwo_21 (⟨_, rfl, by simp_all [co2, imin, iabs], rfl⟩)
abbrev rX8_known : Room := rmK 0 0 0 0
set_option maxRecDepth 100000 in
set_option maxHeartbeats 400000 in
theorem c_mKnown (l : Launch) {κ : zK} {G : zH} {x : Nat} {ad : Nat → Nat} {sc : Nat → Int32} {ar : Nat → Nat → Int32} (s0 i0 c0 : Nat) (q : Int32) (b : Bool) (hM : RM κ G x ad sc ar) (hs0 : s0 < 20) (hi0 : i0 < 24) (hc : sc 17 = nI c0) (hc2 : c0 ≤ 200) : Ct l yX8_known cX8_known 7 (some FieldType.int) rX8_known κ [.ref x, .int (nI s0), .int (nI i0), .int q, .int (zb (b = true))] G (zP (kn ar s0 i0 q b c0) G) := by
  refine Ct.of (by decide +kernel) (fun v hv => by
    simp only [List.mem_cons, List.mem_nil_iff, or_false, List.not_mem_nil] at hv
    rcases hv with rfl | rfl | rfl | rfl | rfl <;> rfl) (Nat.le_of_ble_eq_true rfl) ?_
  intro p e s m args below meth cC
  refine z_L (L' := [some (.ref x), some (.int (nI s0)), some (.int (nI i0)), some (.int q), some (.int (zb (b = true))), none, none]) rfl ?_
  generalize hQx : MQ below (zQc κ _) args s _ _ (zA κ) = Qx
  have hF : True := trivial
  have lp : ∀ (d k : Nat), k + d = c0 → Z p l e rX8_known s m args below meth cC yX8_known cX8_known 7 (some FieldType.int) κ Qx 0 0 G [some (.ref x), some (.int (nI s0)), some (.int (nI i0)), some (.int q), some (.int (zb (b = true))), some (.int (kn ar s0 i0 q b k)), some (.int (nI k))] 35 [] := by
    intro d
    induction d with
    | zero =>
      intro k hk
      refine z_il6 (pc := 35) dX8_known_35 ?_
      refine z_al0 (pc := 37) dX8_known_37 ?_
      refine z_mg17 (pc := 38) hM rfl dX8_known_38 ?_
      rw [hc]
      refine z_icmp_ge (pc := 41) 107 dX8_known_41 rfl (fun c41 => ?_) (fun c41 => absurd (by rw [show k = c0 by omega]; exact Int32.le_refl _) c41)
      rw [show k = c0 by omega]
      refine z_il5 (pc := 107) dX8_known_107 ?_
      rw [← hQx]
      refine z_iret (pc := 109) rfl (by decide) dX8_known_109 (⟨_, rfl, rfl, rfl⟩)
    | succ d ih =>
      intro k hk
      refine z_il6 (pc := 35) dX8_known_35 ?_
      refine z_al0 (pc := 37) dX8_known_37 ?_
      refine z_mg17 (pc := 38) hM rfl dX8_known_38 ?_
      rw [hc]
      refine z_icmp_ge (pc := 41) 107 dX8_known_41 rfl (fun c41 => absurd c41 (by rw [nI_leI (by omega) (by omega)]; omega)) (fun c41 => ?_)
      refine z_al0 (pc := 44) dX8_known_44 ?_
      refine z_mg8 (pc := 45) hM rfl dX8_known_45 ?_
      refine z_il6 (pc := 48) dX8_known_48 ?_
      refine z_mld (pc := 50) 8 200 hM rfl (by decide) rfl (by omega) dX8_known_50 ?_
      refine z_il1 (pc := 51) dX8_known_51 ?_
      refine z_icmp_ne (pc := 52) 101 dX8_known_52 rfl (fun c52 => ?_) (fun c52 => ?_)
      · refine z_ii6 (pc := 101) _ dX8_known_101 rfl (by decide) ?_
        refine z_goto (pc := 104) 35 dX8_known_104 rfl ?_
        rw [show nI k + Int32.ofInt 1 = nI (k + 1) from nI_1 k]
        refine z_L (L' := [some (.ref x), some (.int (nI s0)), some (.int (nI i0)), some (.int q), some (.int (zb (b = true))), some (.int (kn ar s0 i0 q b (k + 1))), some (.int (nI (k + 1)))]) (by simp_all [kn, ← Int32.not_le]) ?_
        exact ih (k + 1) (by omega)
      · refine z_al0 (pc := 55) dX8_known_55 ?_
        refine z_mg9 (pc := 56) hM rfl dX8_known_56 ?_
        refine z_il6 (pc := 59) dX8_known_59 ?_
        refine z_mld (pc := 61) 9 200 hM rfl (by decide) rfl (by omega) dX8_known_61 ?_
        refine z_il2 (pc := 62) dX8_known_62 ?_
        refine z_icmp_ne (pc := 63) 101 dX8_known_63 rfl (fun c63 => ?_) (fun c63 => ?_)
        · refine z_ii6 (pc := 101) _ dX8_known_101 rfl (by decide) ?_
          refine z_goto (pc := 104) 35 dX8_known_104 rfl ?_
          rw [show nI k + Int32.ofInt 1 = nI (k + 1) from nI_1 k]
          refine z_L (L' := [some (.ref x), some (.int (nI s0)), some (.int (nI i0)), some (.int q), some (.int (zb (b = true))), some (.int (kn ar s0 i0 q b (k + 1))), some (.int (nI (k + 1)))]) (by simp_all [kn, ← Int32.not_le]) ?_
          exact ih (k + 1) (by omega)
        · refine z_al0 (pc := 66) dX8_known_66 ?_
          refine z_mg12 (pc := 67) hM rfl dX8_known_67 ?_
          refine z_il6 (pc := 70) dX8_known_70 ?_
          refine z_mld (pc := 72) 12 200 hM rfl (by decide) rfl (by omega) dX8_known_72 ?_
          refine z_il3 (pc := 73) dX8_known_73 ?_
          refine z_icmp_gt (pc := 74) 101 dX8_known_74 rfl (fun c74 => ?_) (fun c74 => ?_)
          · refine z_ii6 (pc := 101) _ dX8_known_101 rfl (by decide) ?_
            refine z_goto (pc := 104) 35 dX8_known_104 rfl ?_
            rw [show nI k + Int32.ofInt 1 = nI (k + 1) from nI_1 k]
            refine z_L (L' := [some (.ref x), some (.int (nI s0)), some (.int (nI i0)), some (.int q), some (.int (zb (b = true))), some (.int (kn ar s0 i0 q b (k + 1))), some (.int (nI (k + 1)))]) (by simp_all [kn, ← Int32.not_le]) ?_
            exact ih (k + 1) (by omega)
          · refine z_il4 (pc := 77) dX8_known_77 ?_
            refine z_ifz_eq (pc := 79) 92 dX8_known_79 rfl (fun c79 => ?_) (fun c79 => ?_)
            · refine z_al0 (pc := 92) dX8_known_92 ?_
              refine z_mg10 (pc := 93) hM rfl dX8_known_93 ?_
              refine z_il6 (pc := 96) dX8_known_96 ?_
              refine z_mld (pc := 98) 10 200 hM rfl (by decide) rfl (by omega) dX8_known_98 ?_
              refine z_is5 (pc := 99) dX8_known_99 (by decide) ?_
              refine z_ii6 (pc := 101) _ dX8_known_101 rfl (by decide) ?_
              refine z_goto (pc := 104) 35 dX8_known_104 rfl ?_
              rw [show nI k + Int32.ofInt 1 = nI (k + 1) from nI_1 k]
              refine z_L (L' := [some (.ref x), some (.int (nI s0)), some (.int (nI i0)), some (.int q), some (.int (zb (b = true))), some (.int (kn ar s0 i0 q b (k + 1))), some (.int (nI (k + 1)))]) (by simp_all [kn, ← Int32.not_le]) ?_
              exact ih (k + 1) (by omega)
            · refine z_al0 (pc := 82) dX8_known_82 ?_
              refine z_mg11 (pc := 83) hM rfl dX8_known_83 ?_
              refine z_il6 (pc := 86) dX8_known_86 ?_
              refine z_mld (pc := 88) 11 200 hM rfl (by decide) rfl (by omega) dX8_known_88 ?_
              refine z_goto (pc := 89) 99 dX8_known_89 rfl ?_
              refine z_is5 (pc := 99) dX8_known_99 (by decide) ?_
              refine z_ii6 (pc := 101) _ dX8_known_101 rfl (by decide) ?_
              refine z_goto (pc := 104) 35 dX8_known_104 rfl ?_
              rw [show nI k + Int32.ofInt 1 = nI (k + 1) from nI_1 k]
              refine z_L (L' := [some (.ref x), some (.int (nI s0)), some (.int (nI i0)), some (.int q), some (.int (zb (b = true))), some (.int (kn ar s0 i0 q b (k + 1))), some (.int (nI (k + 1)))]) (by simp_all [kn, ← Int32.not_le]) ?_
              exact ih (k + 1) (by omega)
  refine z_il4 (pc := 0) dX8_known_0 ?_
  refine z_ifz_eq (pc := 2) 19 dX8_known_2 rfl (fun c2 => ?_) (fun c2 => ?_)
  · refine z_al0 (pc := 19) dX8_known_19 ?_
    refine z_mg6 (pc := 20) hM rfl dX8_known_20 ?_
    refine z_bipush (pc := 23) (24) (by decide) dX8_known_23 ?_
    refine z_il1 (pc := 25) dX8_known_25 ?_
    refine z_imul (pc := 26) dX8_known_26 ?_
    refine z_il2 (pc := 27) dX8_known_27 ?_
    refine z_iadd (pc := 28) dX8_known_28 ?_
    refine z_mld (pc := 29) 6 480 hM rfl (by decide) (ix24 _ _) (by omega) dX8_known_29 ?_
    refine z_is5 (pc := 30) dX8_known_30 (by decide) ?_
    refine z_iconst (pc := 32) (0) (by decide) dX8_known_32 ?_
    refine z_is6 (pc := 33) dX8_known_33 (by decide) ?_
    refine z_L (L' := [some (.ref x), some (.int (nI s0)), some (.int (nI i0)), some (.int q), some (.int (zb (b = true))), some (.int (kn ar s0 i0 q b 0)), some (.int (nI 0))]) (by simp_all [kn, nI_0]) ?_
    exact lp c0 0 (by omega)
  · refine z_al0 (pc := 5) dX8_known_5 ?_
    refine z_mg7 (pc := 6) hM rfl dX8_known_6 ?_
    refine z_bipush (pc := 9) (24) (by decide) dX8_known_9 ?_
    refine z_il1 (pc := 11) dX8_known_11 ?_
    refine z_imul (pc := 12) dX8_known_12 ?_
    refine z_il2 (pc := 13) dX8_known_13 ?_
    refine z_iadd (pc := 14) dX8_known_14 ?_
    refine z_mld (pc := 15) 7 480 hM rfl (by decide) (ix24 _ _) (by omega) dX8_known_15 ?_
    refine z_goto (pc := 16) 30 dX8_known_16 rfl ?_
    refine z_is5 (pc := 30) dX8_known_30 (by decide) ?_
    refine z_iconst (pc := 32) (0) (by decide) dX8_known_32 ?_
    refine z_is6 (pc := 33) dX8_known_33 (by decide) ?_
    refine z_L (L' := [some (.ref x), some (.int (nI s0)), some (.int (nI i0)), some (.int q), some (.int (zb (b = true))), some (.int (kn ar s0 i0 q b 0)), some (.int (nI 0))]) (by simp_all [kn, nI_0]) ?_
    exact lp c0 0 (by omega)
