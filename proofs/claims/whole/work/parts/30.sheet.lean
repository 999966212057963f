/-! sheets, corrections, pairs -/
/-- what a note reads after the first so many corrections of its sheet -/
def cf (base : Nat → Int32) (pl v : Nat → Int32) (k : Nat) : Nat → Int32
  | 0 => base k
  | j + 1 => if pl j = nI k then v j else cf base pl v k j
abbrev nb (p b : Int32) : Int32 := if p = -1 then 0 else b
abbrev rX5_append : Room := rmK 3 0 0 66
set_option maxRecDepth 100000 in
set_option maxHeartbeats 400000 in
theorem c_sAppend (l : Launch) {κ : zK} {G : zH} {t kt tt am : Nat} {ha ye wo ap fg : Int32} (i : Nat) (n : Nat) {tp tb : Nat → Int32} (p0 b0 : Int32) (ht : zSH G t i ha ye wo kt tt am ap fg) (hd : zTU κ G tt (2 * i + 1) n tp tb) : Ct l yX5_append cX5_append 3 (some FieldType.boolean) rX5_append κ [.ref t, .int p0, .int b0] G (pI (fun r G2 => (n < 24 ∧ r = 1 ∧ zTU κ G2 tt (2 * i + 1) (n + 1) (upd tp n p0) (upd tb n (if p0 = -1 then 0 else b0)) ∧ zFP (isTU (2 * i + 1)) G G2) ∨ (¬ n < 24 ∧ r = 0 ∧ G2 = G))) := by
  refine Ct.of (by decide +kernel) (fun v hv => by
    simp only [List.mem_cons, List.mem_nil_iff, or_false, List.not_mem_nil] at hv
    rcases hv with rfl | rfl | rfl <;> rfl) (Nat.le_of_ble_eq_true rfl) ?_
  intro p e s m args below meth cC
  refine z_L (L' := [some (.ref t), some (.int p0), some (.int b0)]) rfl ?_
  generalize hQx : MQ below (zQc κ _) args s _ _ (zA κ) = Qx
  obtain ⟨da, db, hd1, -⟩ := id hd
  refine z_al0 (pc := 0) dX5_append_0 ?_
  refine z_get (pc := 1) 5 ht rfl iw_X5 (by decide) kw_206 rfl dX5_append_1 ?_
  refine z_il1 (pc := 4) dX5_append_4 ?_
  refine z_il2 (pc := 5) dX5_append_5 ?_
  refine z_callVi (pc := 6) _ (c_tAppend l (2 * i + 1) n p0 b0 hd) rfl hd1 rfl rfl kw_316 zc_X6_append (by decide) rfl (Nat.le_of_ble_eq_true rfl) dX5_append_6 (fun v G2 hv => ?_)
  rw [← hQx]
  refine z_zret (pc := 9) rfl (by rcases hv with ⟨-, rfl, -⟩ | ⟨-, rfl, -⟩ <;> rfl) (by decide) dX5_append_9 (⟨_, rfl, hv⟩)
abbrev rX5_length : Room := rmK 1 0 0 20
set_option maxRecDepth 100000 in
set_option maxHeartbeats 400000 in
theorem c_sLen (l : Launch) {κ : zK} {G : zH} {t kt tt am : Nat} {ha ye wo ap fg : Int32} (i : Nat) (n : Nat) {tp tb : Nat → Int32} (ht : zSH G t i ha ye wo kt tt am ap fg) (hd : zTU κ G tt (2 * i + 1) n tp tb) : Ct l yX5_length cX5_length 1 (some FieldType.int) rX5_length κ [.ref t] G (zP (nI n) G) := by
  refine Ct.of (by decide +kernel) (fun v hv => by
    simp only [List.mem_cons, List.mem_nil_iff, or_false, List.not_mem_nil] at hv
    rcases hv with rfl <;> rfl) (Nat.le_of_ble_eq_true rfl) ?_
  intro p e s m args below meth cC
  refine z_L (L' := [some (.ref t)]) rfl ?_
  generalize hQx : MQ below (zQc κ _) args s _ _ (zA κ) = Qx
  obtain ⟨da, db, hd1, -⟩ := id hd
  refine z_al0 (pc := 0) dX5_length_0 ?_
  refine z_get (pc := 1) 5 ht rfl iw_X5 (by decide) kw_206 rfl dX5_length_1 ?_
  refine z_callVr (pc := 4) (c_tLen l (2 * i + 1) n hd) hd1 rfl rfl kw_332 zc_X6_length (by decide) (by decide) rfl (Nat.le_of_ble_eq_true rfl) dX5_length_4 ?_
  rw [← hQx]
  refine z_iret (pc := 7) rfl (by decide) dX5_length_7 (⟨_, rfl, rfl, rfl⟩)
abbrev rX5_has : Room := rmK 1 0 0 21
set_option maxRecDepth 100000 in
set_option maxHeartbeats 400000 in
theorem c_sHas (l : Launch) {κ : zK} {G : zH} {t kt tt am : Nat} {ha ye wo ap fg : Int32} (i : Nat) (n : Nat) {tp tb : Nat → Int32} (v : Int32) (ht : zSH G t i ha ye wo kt tt am ap fg) (hd : zTU κ G tt (2 * i + 1) n tp tb) : Ct l yX5_has cX5_has 2 (some FieldType.boolean) rX5_has κ [.ref t, .int v] G (zP (zb (0 ≤ v ∧ v < nI n)) G) := by
  refine Ct.of (by decide +kernel) (fun v hv => by
    simp only [List.mem_cons, List.mem_nil_iff, or_false, List.not_mem_nil] at hv
    rcases hv with rfl | rfl <;> rfl) (Nat.le_of_ble_eq_true rfl) ?_
  intro p e s m args below meth cC
  refine z_L (L' := [some (.ref t), some (.int v)]) rfl ?_
  generalize hQx : MQ below (zQc κ _) args s _ _ (zA κ) = Qx
  obtain ⟨da, db, hd1, -⟩ := id hd
  refine z_al0 (pc := 0) dX5_has_0 ?_
  refine z_get (pc := 1) 5 ht rfl iw_X5 (by decide) kw_206 rfl dX5_has_1 ?_
  refine z_il1 (pc := 4) dX5_has_4 ?_
  refine z_callVr (pc := 5) (c_tHas l (2 * i + 1) n v hd) hd1 rfl rfl kw_344 zc_X6_has (by decide) (by decide) rfl (Nat.le_of_ble_eq_true rfl) dX5_has_5 ?_
  rw [← hQx]
  refine z_zret (pc := 8) rfl zb_n (by decide) dX5_has_8 (⟨_, rfl, rfl, rfl⟩)
abbrev rX5_isForgedBy : Room := rmK 0 0 0 0
set_option maxRecDepth 100000 in
set_option maxHeartbeats 400000 in
theorem c_sForged (l : Launch) {κ : zK} {G : zH} {t kt tt am : Nat} {ha ye wo ap fg : Int32} (i : Nat) (q : Int32) (ht : zSH G t i ha ye wo kt tt am ap fg) : Ct l yX5_isForgedBy cX5_isForgedBy 2 (some FieldType.boolean) rX5_isForgedBy κ [.ref t, .int q] G (zP (zb (fg ≠ -1 ∧ fg ≤ q)) G) := by
  refine Ct.of (by decide +kernel) (fun v hv => by
    simp only [List.mem_cons, List.mem_nil_iff, or_false, List.not_mem_nil] at hv
    rcases hv with rfl | rfl <;> rfl) (Nat.le_of_ble_eq_true rfl) ?_
  intro p e s m args below meth cC
  refine z_L (L' := [some (.ref t), some (.int q)]) rfl ?_
  generalize hQx : MQ below (zQc κ _) args s _ _ (zA κ) = Qx
  refine z_al0 (pc := 0) dX5_isForgedBy_0 ?_
  refine z_get (pc := 1) 8 ht rfl iw_X5 (by decide) kw_209 rfl dX5_isForgedBy_1 ?_
  refine z_iconst (pc := 4) (-1) (by decide) dX5_isForgedBy_4 ?_
  refine z_icmp_eq (pc := 5) 20 dX5_isForgedBy_5 rfl (fun c5 => ?_) (fun c5 => ?_)
  · refine z_iconst (pc := 20) (0) (by decide) dX5_isForgedBy_20 ?_
    rw [← hQx]
    refine z_zret (pc := 21) rfl rfl (by decide) dX5_isForgedBy_21 (⟨_, rfl, (zb_f (fun h => h.1 c5)).symm, rfl⟩)
  · refine z_al0 (pc := 8) dX5_isForgedBy_8 ?_
    refine z_get (pc := 9) 8 ht rfl iw_X5 (by decide) kw_209 rfl dX5_isForgedBy_9 ?_
    refine z_il1 (pc := 12) dX5_isForgedBy_12 ?_
    refine z_icmp_gt (pc := 13) 20 dX5_isForgedBy_13 rfl (fun c13 => ?_) (fun c13 => ?_)
    · refine z_iconst (pc := 20) (0) (by decide) dX5_isForgedBy_20 ?_
      rw [← hQx]
      refine z_zret (pc := 21) rfl rfl (by decide) dX5_isForgedBy_21 (⟨_, rfl, (zb_f (fun h => absurd h.2 (Int32.not_le.mpr c13))).symm, rfl⟩)
    · refine z_iconst (pc := 16) (1) (by decide) dX5_isForgedBy_16 ?_
      refine z_goto (pc := 17) 21 dX5_isForgedBy_17 rfl ?_
      rw [← hQx]
      refine z_zret (pc := 21) rfl rfl (by decide) dX5_isForgedBy_21 (⟨_, rfl, (zb_t ⟨c5, Int32.not_lt.mp c13⟩).symm, rfl⟩)
abbrev rX5_markForged : Room := rmK 0 0 0 0
set_option maxRecDepth 100000 in
set_option maxHeartbeats 400000 in
theorem c_sMark (l : Launch) {κ : zK} {G : zH} {t kt tt am : Nat} {ha ye wo ap fg : Int32} (i : Nat) (q : Int32) (ht : zSH G t i ha ye wo kt tt am ap fg) : Ct l yX5_markForged cX5_markForged 2 none rX5_markForged κ [.ref t, .int q] G (pV (fun G2 => zSH G2 t i ha ye wo kt tt am ap q ∧ zFP (fun r => r = (2, 15, i)) G G2)) := by
  refine Ct.of (by decide +kernel) (fun v hv => by
    simp only [List.mem_cons, List.mem_nil_iff, or_false, List.not_mem_nil] at hv
    rcases hv with rfl | rfl <;> rfl) (Nat.le_of_ble_eq_true rfl) ?_
  intro p e s m args below meth cC
  refine z_L (L' := [some (.ref t), some (.int q)]) rfl ?_
  generalize hQx : MQ below (zQc κ _) args s _ _ (zA κ) = Qx
  refine z_al0 (pc := 0) dX5_markForged_0 ?_
  refine z_il1 (pc := 1) dX5_markForged_1 ?_
  skip
  refine z_putg (pc := 2) 8 ht rfl iw_X5 tyX5 tyX5_ok nmX5 (by decide) kw_209 rfl rfl rfl rfl (Nat.le_of_ble_eq_true rfl) dX5_markForged_2 (fun G4 h4x hF4 => ?_)
  rw [← hQx]
  refine z_vret (pc := 5) rfl (by decide) dX5_markForged_5 (⟨rfl, h4x, hF4⟩)
abbrev rX5_isEarlierThan : Room := rmK 0 0 0 0
set_option maxRecDepth 100000 in
set_option maxHeartbeats 400000 in
theorem c_sEarlier (l : Launch) {κ : zK} {G : zH} {t kt tt am u ku tu au : Nat} {ha ye wo ap fg ha2 ye2 wo2 ap2 fg2 : Int32} (i j : Nat) (ht : zSH G t i ha ye wo kt tt am ap fg) (hu : zSH G u j ha2 ye2 wo2 ku tu au ap2 fg2) : Ct l yX5_isEarlierThan cX5_isEarlierThan 2 (some FieldType.boolean) rX5_isEarlierThan κ [.ref t, .ref u] G (zP (zb (ye < ye2 ∨ ye = ye2 ∧ nI i < nI j)) G) := by
  refine Ct.of (by decide +kernel) (fun v hv => by
    simp only [List.mem_cons, List.mem_nil_iff, or_false, List.not_mem_nil] at hv
    rcases hv with rfl | rfl <;> rfl) (Nat.le_of_ble_eq_true rfl) ?_
  intro p e s m args below meth cC
  refine z_L (L' := [some (.ref t), some (.ref u)]) rfl ?_
  generalize hQx : MQ below (zQc κ _) args s _ _ (zA κ) = Qx
  refine z_al0 (pc := 0) dX5_isEarlierThan_0 ?_
  refine z_get (pc := 1) 2 ht rfl iw_X5 (by decide) kw_199 rfl dX5_isEarlierThan_1 ?_
  refine z_al1 (pc := 4) dX5_isEarlierThan_4 ?_
  refine z_get (pc := 5) 2 hu rfl iw_X5 (by decide) kw_199 rfl dX5_isEarlierThan_5 ?_
  refine z_icmp_lt (pc := 8) 33 dX5_isEarlierThan_8 rfl (fun c8 => ?_) (fun c8 => ?_)
  · refine z_iconst (pc := 33) (1) (by decide) dX5_isEarlierThan_33 ?_
    refine z_goto (pc := 34) 38 dX5_isEarlierThan_34 rfl ?_
    rw [← hQx]
    refine z_zret (pc := 38) rfl rfl (by decide) dX5_isEarlierThan_38 (⟨_, rfl, (zb_t (Or.inl c8)).symm, rfl⟩)
  · refine z_al0 (pc := 11) dX5_isEarlierThan_11 ?_
    refine z_get (pc := 12) 2 ht rfl iw_X5 (by decide) kw_199 rfl dX5_isEarlierThan_12 ?_
    refine z_al1 (pc := 15) dX5_isEarlierThan_15 ?_
    refine z_get (pc := 16) 2 hu rfl iw_X5 (by decide) kw_199 rfl dX5_isEarlierThan_16 ?_
    refine z_icmp_ne (pc := 19) 37 dX5_isEarlierThan_19 rfl (fun c19 => ?_) (fun c19 => ?_)
    · refine z_iconst (pc := 37) (0) (by decide) dX5_isEarlierThan_37 ?_
      rw [← hQx]
      refine z_zret (pc := 38) rfl rfl (by decide) dX5_isEarlierThan_38 (⟨_, rfl, (zb_f (fun h => h.elim c8 (fun q => c19 q.1))).symm, rfl⟩)
    · refine z_al0 (pc := 22) dX5_isEarlierThan_22 ?_
      refine z_get (pc := 23) 0 ht rfl iw_X5 (by decide) kw_193 rfl dX5_isEarlierThan_23 ?_
      refine z_al1 (pc := 26) dX5_isEarlierThan_26 ?_
      refine z_get (pc := 27) 0 hu rfl iw_X5 (by decide) kw_193 rfl dX5_isEarlierThan_27 ?_
      refine z_icmp_ge (pc := 30) 37 dX5_isEarlierThan_30 rfl (fun c30 => ?_) (fun c30 => ?_)
      · refine z_iconst (pc := 37) (0) (by decide) dX5_isEarlierThan_37 ?_
        rw [← hQx]
        refine z_zret (pc := 38) rfl rfl (by decide) dX5_isEarlierThan_38 (⟨_, rfl, (zb_f (fun h => h.elim c8 (fun q => absurd q.2 (Int32.not_lt.mpr c30)))).symm, rfl⟩)
      · refine z_iconst (pc := 33) (1) (by decide) dX5_isEarlierThan_33 ?_
        refine z_goto (pc := 34) 38 dX5_isEarlierThan_34 rfl ?_
        rw [← hQx]
        refine z_zret (pc := 38) rfl rfl (by decide) dX5_isEarlierThan_38 (⟨_, rfl, (zb_t (Or.inr ⟨c19, Int32.not_le.mp c30⟩)).symm, rfl⟩)
set_option maxRecDepth 100000 in
set_option maxHeartbeats 400000 in
theorem c_sAmend (l : Launch) {κ : zK} {G : zH} {t kt tt am : Nat} {ha ye wo ap fg : Int32} (i : Nat) (cm x : Nat) {es : Nat → Nat} (ht : zSH G t i ha ye wo kt tt am ap fg) (hLs : zLs κ G (3 + i) am 299 cm es) (hob : ∀ k, k < cm → zObj G (es k)) (hx : zObj G x) (hm : cm < 200) : Ct l yX5_amend cX5_amend 2 none (rmK 7 1 299 191) κ [.ref t, .ref x] G (pV (fun G2 => zLs κ G2 (3 + i) am 299 (cm + 1) (zup es cm x) ∧ zFL (3 + i) G G2)) := by
  refine Ct.of (by decide +kernel) (fun v hv => by
    simp only [List.mem_cons, List.mem_nil_iff, or_false, List.not_mem_nil] at hv
    rcases hv with rfl | rfl <;> rfl) (Nat.le_of_ble_eq_true rfl) ?_
  intro p e s m args below meth cC
  refine z_L (L' := [some (.ref t), some (.ref x)]) rfl ?_
  generalize hQx : MQ below (zQc κ _) args s _ _ (zA κ) = Qx
  obtain ⟨mc, ea, hm0, -⟩ := id hLs
  refine z_al0 (pc := 0) dX5_amend_0 ?_
  refine z_get (pc := 1) 6 ht rfl iw_X5 (by decide) kw_207 rfl dX5_amend_1 ?_
  refine z_al1 (pc := 4) dX5_amend_4 ?_
  refine z_callVi (pc := 5) _ (c_jAdd l (3 + i) am 299 cm x hLs hob hx (by omega)) rfl hm0 rfl rfl kw_372 zc_Jx4a65c_add_9ea2d (by decide) rfl (Nat.le_of_ble_eq_true rfl) dX5_amend_5 (fun v G2 hv => ?_)
  refine z_pop (pc := 8) rfl dX5_amend_8 ?_
  rw [← hQx]
  refine z_vret (pc := 9) rfl (by decide) dX5_amend_9 (⟨rfl, hv.2⟩)
abbrev rX5_amendedBy : Room := rmK 3 0 0 64
set_option maxRecDepth 100000 in
set_option maxHeartbeats 400000 in
theorem c_sDue (l : Launch) {κ : zK} {G : zH} {t kt tt am : Nat} {ha ye wo ap fg : Int32} (i : Nat) (cm due : Nat) {es rk : Nat → Nat} {si pl pi be : Nat → Int32} (q : Int32) (ht : zSH G t i ha ye wo kt tt am ap fg) (hLs : zLs κ G (3 + i) am 299 cm es) (hm : cm ≤ 200) (hCo : ∀ j, j < cm → G (es j) = some ((2, 19, rk j), .inr (2, [.int (si j), .int (pl j), .int (pi j), .int (be j)]))) (hd1 : due ≤ cm) (hd2 : ∀ j, j < due → si j ≤ q) (hd3 : due < cm → ¬ si due ≤ q) : Ct l yX5_amendedBy cX5_amendedBy 3 (some FieldType.int) rX5_amendedBy κ [.ref t, .int q] G (zP (nI due) G) := by
  refine Ct.of (by decide +kernel) (fun v hv => by
    simp only [List.mem_cons, List.mem_nil_iff, or_false, List.not_mem_nil] at hv
    rcases hv with rfl | rfl <;> rfl) (Nat.le_of_ble_eq_true rfl) ?_
  intro p e s m args below meth cC
  refine z_L (L' := [some (.ref t), some (.int q), none]) rfl ?_
  generalize hQx : MQ below (zQc κ _) args s _ _ (zA κ) = Qx
  obtain ⟨mc, ea, hm0, -⟩ := id hLs
  have lp : ∀ (fu k : Nat), k + fu = due → Z p l e rX5_amendedBy s m args below meth cC yX5_amendedBy cX5_amendedBy 3 (some FieldType.int) κ Qx 0 0 G [some (.ref t), some (.int q), some (.int (nI k))] 2 [] := by
    intro fu
    induction fu with
    | zero =>
      intro k hk
      by_cases hlt : k < cm
      · refine z_il2 (pc := 2) dX5_amendedBy_2 ?_
        refine z_al0 (pc := 3) dX5_amendedBy_3 ?_
        refine z_get (pc := 4) 6 ht rfl iw_X5 (by decide) kw_207 rfl dX5_amendedBy_4 ?_
        refine z_callVr (pc := 7) (c_jSize l (3 + i) am 299 cm hLs) hm0 rfl rfl kw_449 zc_Jx4a65c_size_8abf5 (by decide) (by decide) rfl (Nat.le_of_ble_eq_true rfl) dX5_amendedBy_7 ?_
        refine z_icmp_ge (pc := 10) 37 dX5_amendedBy_10 rfl (fun c10 => absurd c10 (by rw [nI_leI (by omega) (by omega)]; omega)) (fun c10 => ?_)
        refine z_al0 (pc := 13) dX5_amendedBy_13 ?_
        refine z_get (pc := 14) 6 ht rfl iw_X5 (by decide) kw_207 rfl dX5_amendedBy_14 ?_
        refine z_il2 (pc := 17) dX5_amendedBy_17 ?_
        skip
        refine z_callVrq (pc := 18) (c_jGet l (3 + i) am 299 cm k hLs hlt (by omega)) hm0 rfl rfl kw_450 zc_Jx4a65c_get_915e3 (by decide) (by decide) rfl (Nat.le_of_ble_eq_true rfl) dX5_amendedBy_18 ?_
        refine z_castS (pc := 21) (hCo k hlt) rfl kw_451 dX5_amendedBy_21 ?_
        refine z_get (pc := 24) 0 (hCo k hlt) rfl iw_X1 (by decide) kw_352 rfl dX5_amendedBy_24 ?_
        refine z_il1 (pc := 27) dX5_amendedBy_27 ?_
        refine z_icmp_gt (pc := 28) 37 dX5_amendedBy_28 rfl (fun c28 => ?_) (fun c28 => absurd (by rw [show k = due by omega] at *; exact Int32.not_le.mp (hd3 hlt)) c28)
        refine z_il2 (pc := 37) dX5_amendedBy_37 ?_
        rw [← hQx]
        refine z_iret (pc := 38) rfl (by decide) dX5_amendedBy_38 (⟨_, rfl, by rw [show k = due by omega], rfl⟩)
      · refine z_il2 (pc := 2) dX5_amendedBy_2 ?_
        refine z_al0 (pc := 3) dX5_amendedBy_3 ?_
        refine z_get (pc := 4) 6 ht rfl iw_X5 (by decide) kw_207 rfl dX5_amendedBy_4 ?_
        refine z_callVr (pc := 7) (c_jSize l (3 + i) am 299 cm hLs) hm0 rfl rfl kw_449 zc_Jx4a65c_size_8abf5 (by decide) (by decide) rfl (Nat.le_of_ble_eq_true rfl) dX5_amendedBy_7 ?_
        refine z_icmp_ge (pc := 10) 37 dX5_amendedBy_10 rfl (fun c10 => ?_) (fun c10 => absurd (by rw [nI_leI (by omega) (by omega)]; omega) c10)
        refine z_il2 (pc := 37) dX5_amendedBy_37 ?_
        rw [← hQx]
        refine z_iret (pc := 38) rfl (by decide) dX5_amendedBy_38 (⟨_, rfl, by rw [show k = due by omega], rfl⟩)
    | succ fu ih =>
      intro k hk
      refine z_il2 (pc := 2) dX5_amendedBy_2 ?_
      refine z_al0 (pc := 3) dX5_amendedBy_3 ?_
      refine z_get (pc := 4) 6 ht rfl iw_X5 (by decide) kw_207 rfl dX5_amendedBy_4 ?_
      refine z_callVr (pc := 7) (c_jSize l (3 + i) am 299 cm hLs) hm0 rfl rfl kw_449 zc_Jx4a65c_size_8abf5 (by decide) (by decide) rfl (Nat.le_of_ble_eq_true rfl) dX5_amendedBy_7 ?_
      refine z_icmp_ge (pc := 10) 37 dX5_amendedBy_10 rfl (fun c10 => absurd c10 (by rw [nI_leI (by omega) (by omega)]; omega)) (fun c10 => ?_)
      refine z_al0 (pc := 13) dX5_amendedBy_13 ?_
      refine z_get (pc := 14) 6 ht rfl iw_X5 (by decide) kw_207 rfl dX5_amendedBy_14 ?_
      refine z_il2 (pc := 17) dX5_amendedBy_17 ?_
      skip
      refine z_callVrq (pc := 18) (c_jGet l (3 + i) am 299 cm k hLs (by omega) (by omega)) hm0 rfl rfl kw_450 zc_Jx4a65c_get_915e3 (by decide) (by decide) rfl (Nat.le_of_ble_eq_true rfl) dX5_amendedBy_18 ?_
      refine z_castS (pc := 21) (hCo k (by omega)) rfl kw_451 dX5_amendedBy_21 ?_
      refine z_get (pc := 24) 0 (hCo k (by omega)) rfl iw_X1 (by decide) kw_352 rfl dX5_amendedBy_24 ?_
      refine z_il1 (pc := 27) dX5_amendedBy_27 ?_
      refine z_icmp_gt (pc := 28) 37 dX5_amendedBy_28 rfl (fun c28 => absurd c28 (Int32.not_lt.mpr (hd2 k (by omega)))) (fun c28 => ?_)
      refine z_ii2 (pc := 31) (nI (k + 1)) dX5_amendedBy_31 (nI_1 _) (by decide) ?_
      refine z_goto (pc := 34) 2 dX5_amendedBy_34 rfl ?_
      refine z_L (L' := [some (.ref t), some (.int q), some (.int (nI (k + 1)))]) rfl ?_
      exact ih (k + 1) (by omega)
  refine z_iconst (pc := 0) (0) (by decide) dX5_amendedBy_0 ?_
  refine z_is2 (pc := 1) dX5_amendedBy_1 (by decide) ?_
  refine z_L (L' := [some (.ref t), some (.int q), some (.int (nI 0))]) rfl ?_
  exact lp due 0 (by omega)
abbrev rX5_openOn : Room := rmK 4 0 0 86
abbrev isOp (i : Nat) (r : zR) : Prop := isTU (2 * i) r ∨ r = (2, 15, i)
theorem cf_step {pl v base f : Nat → Int32} {n j : Nat} (hp : 0 ≤ pl j ∧ pl j < nI n) (hn : n ≤ 24) (h : ∀ k, k < n → f k = cf base pl v k j) : ∀ k, k < n → upd f (iN (pl j)) (v j) k = cf base pl v k (j + 1) := fun k hk => by
  obtain ⟨g, hg, hgn⟩ := ix_in hp.1 hp.2 (by omega)
  show _ = if pl j = nI k then v j else cf base pl v k j
  rw [hg, iN_nI (by omega)]
  by_cases hkg : k = g
  · subst hkg; rw [if_pos rfl]; exact upd_s
  · rw [if_neg (fun q => hkg ((nI_eq (by omega) (by omega)).mp q).symm), upd_n hkg]; exact h k hk
set_option maxRecDepth 100000 in
set_option maxHeartbeats 400000 in
theorem c_sOpen (l : Launch) {κ : zK} {G : zH} {t kt tt am : Nat} {ha ye wo ap fg : Int32} (i : Nat) (cm due : Nat) {es rk : Nat → Nat} {si pl pi be : Nat → Int32} (kl n : Nat) {kp kb tp tb : Nat → Int32} (apn : Nat) (q : Int32) (ht : zSH G t i ha ye wo kt tt am ap fg) (hLs : zLs κ G (3 + i) am 299 cm es) (hm : cm ≤ 200) (hCo : ∀ j, j < cm → G (es j) = some ((2, 19, rk j), .inr (2, [.int (si j), .int (pl j), .int (pi j), .int (be j)]))) (hd1 : due ≤ cm) (hd2 : ∀ j, j < due → si j ≤ q) (hd3 : due < cm → ¬ si due ≤ q) (hk : zTU κ G kt (2 * i) kl kp kb) (hd : zTU κ G tt (2 * i + 1) n tp tb) (hpl : ∀ j, j < cm → 0 ≤ pl j ∧ pl j < nI n) (hap : ap = nI apn ∧ apn ≤ 200) : Ct l yX5_openOn cX5_openOn 5 (some FieldType.boolean) rX5_openOn κ [.ref t, .int q] G (pI (fun r G2 => (r = 0 ∧ G2 = G ∧ due = apn ∧ kl = n) ∨ (r = 1 ∧ zSH G2 t i ha ye wo kt tt am (nI due) fg ∧ ∃ kp2 kb2, zTU κ G2 kt (2 * i) n kp2 kb2 ∧ (∀ k, k < n → kp2 k = cf tp pl pi k due) ∧ (∀ k, k < n → kb2 k = cf tb pl (fun g => nb (pi g) (be g)) k due) ∧ zFP (isOp i) G G2))) := by
  refine Ct.of (by decide +kernel) (fun v hv => by
    simp only [List.mem_cons, List.mem_nil_iff, or_false, List.not_mem_nil] at hv
    rcases hv with rfl | rfl <;> rfl) (Nat.le_of_ble_eq_true rfl) ?_
  intro p e s m args below meth cC
  refine z_L (L' := [some (.ref t), some (.int q), none, none, none]) rfl ?_
  generalize hQx : MQ below (zQc κ _) args s _ _ (zA κ) = Qx
  obtain ⟨mc, ea, hm0, -⟩ := id hLs
  obtain ⟨ka, kb_, hk1, -, -, hkn⟩ := id hk
  obtain ⟨da, db, hdd1, -, -, hdn⟩ := id hd
  have hd1_ := hdd1
  have lp : ∀ (fu k : Nat) (G2 : zH) (kp2 kb2 : Nat → Int32) (q4 : Option Value), k + fu = due → zSH G2 t i ha ye wo kt tt am ap fg → zTU κ G2 kt (2 * i) n kp2 kb2 → zLs κ G2 (3 + i) am 299 cm es → (∀ j, j < cm → G2 (es j) = some ((2, 19, rk j), .inr (2, [.int (si j), .int (pl j), .int (pi j), .int (be j)]))) → (∀ j, j < n → kp2 j = cf tp pl pi j k) → (∀ j, j < n → kb2 j = cf tb pl (fun g => nb (pi g) (be g)) j k) → zFP (isOp i) G G2 → Z p l e rX5_openOn s m args below meth cC yX5_openOn cX5_openOn 5 (some FieldType.boolean) κ Qx 0 0 G2 [some (.ref t), some (.int q), some (.int (nI due)), some (.int (nI k)), q4] 46 [] := by
    intro fu
    induction fu with
    | zero =>
      intro k G2 kp2 kb2 q4 hdk ht hk hLs hCo hE1 hE2 hF
      obtain ⟨mc, ea, hm0, -⟩ := id hLs
      obtain ⟨ka, kb_, hk1, -, -, hn⟩ := id hk
      refine z_il3 (pc := 46) dX5_openOn_46 ?_
      refine z_il2 (pc := 47) dX5_openOn_47 ?_
      refine z_icmp_ge (pc := 48) 103 dX5_openOn_48 rfl (fun c48 => ?_) (fun c48 => absurd (by rw [nI_leI (by omega) (by omega)]; omega) c48)
      refine z_al0 (pc := 103) dX5_openOn_103 ?_
      refine z_il2 (pc := 104) dX5_openOn_104 ?_
      skip
      refine z_putg (pc := 105) 7 ht rfl iw_X5 tyX5 tyX5_ok nmX5 (by decide) kw_208 rfl rfl rfl rfl (Nat.le_of_ble_eq_true rfl) dX5_openOn_105 (fun G6 h6x hF6 => ?_)
      refine z_iconst (pc := 108) (1) (by decide) dX5_openOn_108 ?_
      rw [← hQx]
      refine z_zret (pc := 109) rfl rfl (by decide) dX5_openOn_109 (⟨_, rfl, Or.inr ⟨rfl, h6x, kp2, kb2, hk.keep hF6 (fun r h q => by rcases h with rfl | rfl | rfl <;> cases q), fun j hj => by rw [hE1 j hj, show k = due by omega], fun j hj => by rw [hE2 j hj, show k = due by omega], hF.trans (hF6.mono (fun r h => Or.inr h))⟩⟩)
    | succ fu ih =>
      intro k G2 kp2 kb2 q4 hdk ht hk hLs hCo hE1 hE2 hF
      obtain ⟨mc, ea, hm0, -⟩ := id hLs
      obtain ⟨ka, kb_, hk1, -, -, hn⟩ := id hk
      refine z_il3 (pc := 46) dX5_openOn_46 ?_
      refine z_il2 (pc := 47) dX5_openOn_47 ?_
      refine z_icmp_ge (pc := 48) 103 dX5_openOn_48 rfl (fun c48 => absurd c48 (by rw [nI_leI (by omega) (by omega)]; omega)) (fun c48 => ?_)
      refine z_il3 (pc := 51) dX5_openOn_51 ?_
      refine z_al0 (pc := 52) dX5_openOn_52 ?_
      refine z_get (pc := 53) 6 ht rfl iw_X5 (by decide) kw_207 rfl dX5_openOn_53 ?_
      refine z_callVr (pc := 56) (c_jSize l (3 + i) am 299 cm hLs) hm0 rfl rfl kw_449 zc_Jx4a65c_size_8abf5 (by decide) (by decide) rfl (Nat.le_of_ble_eq_true rfl) dX5_openOn_56 ?_
      refine z_icmp_ge (pc := 59) 103 dX5_openOn_59 rfl (fun c59 => absurd c59 (by rw [nI_leI (by omega) (by omega)]; omega)) (fun c59 => ?_)
      refine z_al0 (pc := 62) dX5_openOn_62 ?_
      refine z_get (pc := 63) 6 ht rfl iw_X5 (by decide) kw_207 rfl dX5_openOn_63 ?_
      refine z_il3 (pc := 66) dX5_openOn_66 ?_
      skip
      refine z_callVrq (pc := 67) (c_jGet l (3 + i) am 299 cm k hLs (by omega) (by omega)) hm0 rfl rfl kw_450 zc_Jx4a65c_get_915e3 (by decide) (by decide) rfl (Nat.le_of_ble_eq_true rfl) dX5_openOn_67 ?_
      refine z_castS (pc := 70) (hCo k (by omega)) rfl kw_451 dX5_openOn_70 ?_
      refine z_as4 (pc := 73) dX5_openOn_73 (by decide) ?_
      refine z_al0 (pc := 75) dX5_openOn_75 ?_
      refine z_get (pc := 76) 4 ht rfl iw_X5 (by decide) kw_203 rfl dX5_openOn_76 ?_
      refine z_al4 (pc := 79) dX5_openOn_79 ?_
      refine z_get (pc := 81) 1 (hCo k (by omega)) rfl iw_X1 (by decide) kw_354 rfl dX5_openOn_81 ?_
      refine z_al4 (pc := 84) dX5_openOn_84 ?_
      refine z_get (pc := 86) 2 (hCo k (by omega)) rfl iw_X1 (by decide) kw_356 rfl dX5_openOn_86 ?_
      refine z_al4 (pc := 89) dX5_openOn_89 ?_
      refine z_get (pc := 91) 3 (hCo k (by omega)) rfl iw_X1 (by decide) kw_358 rfl dX5_openOn_91 ?_
      refine z_callVv (pc := 94) _ (c_tPut l (2 * i) n (pl k) (pi k) (be k) hk) rfl hk1 rfl rfl kw_456 zc_X6_put (by decide) rfl (Nat.le_of_ble_eq_true rfl) dX5_openOn_94 (fun G5 hv => ?_)
      replace hv := hv.resolve_right (fun q => q.1 (hpl k (by omega)))
      obtain ⟨-, hk5, hF5⟩ := hv
      refine z_ii3 (pc := 97) (nI (k + 1)) dX5_openOn_97 (nI_1 _) (by decide) ?_
      refine z_goto (pc := 100) 46 dX5_openOn_100 rfl ?_
      refine z_L rfl ?_
      exact ih (k + 1) G5 _ _ _ (by omega) (hF5.1 _ _ _ (fun h => by rcases h with h | h | h <;> cases h) ht) hk5 (hLs.keep hF5 (fun h => by rcases h with h | h | h <;> cases h) (fun h => by rcases h with h | h | h <;> cases h)) (fun j hj => hF5.1 _ _ _ (fun h => by rcases h with h | h | h <;> cases h) (hCo j hj)) (cf_step (hpl k (by omega)) hn hE1) (cf_step (v := fun g => nb (pi g) (be g)) (hpl k (by omega)) hn hE2) (hF.trans (hF5.mono (fun r h => Or.inl h)))
  refine z_al0 (pc := 0) dX5_openOn_0 ?_
  refine z_il1 (pc := 1) dX5_openOn_1 ?_
  refine z_callVr (pc := 2) (c_sDue l i cm due q ht hLs hm hCo hd1 hd2 hd3) ht rfl rfl kw_445 zc_X5_amendedBy (by decide) (by decide) rfl (Nat.le_of_ble_eq_true rfl) dX5_openOn_2 ?_
  refine z_is2 (pc := 5) dX5_openOn_5 (by decide) ?_
  refine z_il2 (pc := 6) dX5_openOn_6 ?_
  refine z_al0 (pc := 7) dX5_openOn_7 ?_
  refine z_get (pc := 8) 7 ht rfl iw_X5 (by decide) kw_208 rfl dX5_openOn_8 ?_
  rw [hap.1]
  refine z_icmp_ne (pc := 11) 33 dX5_openOn_11 rfl (fun c11 => ?_) (fun c11 => ?_)
  · refine z_al0 (pc := 33) dX5_openOn_33 ?_
    refine z_get (pc := 34) 4 ht rfl iw_X5 (by decide) kw_203 rfl dX5_openOn_34 ?_
    refine z_al0 (pc := 37) dX5_openOn_37 ?_
    refine z_get (pc := 38) 5 ht rfl iw_X5 (by decide) kw_206 rfl dX5_openOn_38 ?_
    refine z_callVv (pc := 41) _ (c_tCopy l (2 * i) kl (2 * i + 1) n hk hd (by omega)) rfl hk1 rfl rfl kw_452 zc_X6_copy (by decide) rfl (Nat.le_of_ble_eq_true rfl) dX5_openOn_41 (fun G5 hv => ?_)
    obtain ⟨kp2, kb2, hk5, hkk, hF5⟩ := hv
    refine z_iconst (pc := 44) (0) (by decide) dX5_openOn_44 ?_
    refine z_is3 (pc := 45) dX5_openOn_45 (by decide) ?_
    refine z_L rfl ?_
    exact lp due 0 G5 kp2 kb2 none (by omega) (hF5.1 _ _ _ (fun h => by rcases h with h | h | h <;> cases h) ht) hk5 (hLs.keep hF5 (fun h => by rcases h with h | h | h <;> cases h) (fun h => by rcases h with h | h | h <;> cases h)) (fun j hj => hF5.1 _ _ _ (fun h => by rcases h with h | h | h <;> cases h) (hCo j hj)) (fun j hj => (hkk j hj).1) (fun j hj => (hkk j hj).2) (hF5.mono (fun r h => Or.inl h))
  · refine z_al0 (pc := 14) dX5_openOn_14 ?_
    refine z_get (pc := 15) 4 ht rfl iw_X5 (by decide) kw_203 rfl dX5_openOn_15 ?_
    refine z_callVr (pc := 18) (c_tLen l (2 * i) kl hk) hk1 rfl rfl kw_332 zc_X6_length (by decide) (by decide) rfl (Nat.le_of_ble_eq_true rfl) dX5_openOn_18 ?_
    refine z_al0 (pc := 21) dX5_openOn_21 ?_
    refine z_get (pc := 22) 5 ht rfl iw_X5 (by decide) kw_206 rfl dX5_openOn_22 ?_
    refine z_callVr (pc := 25) (c_tLen l (2 * i + 1) n hd) hdd1 rfl rfl kw_332 zc_X6_length (by decide) (by decide) rfl (Nat.le_of_ble_eq_true rfl) dX5_openOn_25 ?_
    refine z_icmp_ne (pc := 28) 33 dX5_openOn_28 rfl (fun c28 => ?_) (fun c28 => ?_)
    · refine z_al0 (pc := 33) dX5_openOn_33 ?_
      refine z_get (pc := 34) 4 ht rfl iw_X5 (by decide) kw_203 rfl dX5_openOn_34 ?_
      refine z_al0 (pc := 37) dX5_openOn_37 ?_
      refine z_get (pc := 38) 5 ht rfl iw_X5 (by decide) kw_206 rfl dX5_openOn_38 ?_
      refine z_callVv (pc := 41) _ (c_tCopy l (2 * i) kl (2 * i + 1) n hk hd (by omega)) rfl hk1 rfl rfl kw_452 zc_X6_copy (by decide) rfl (Nat.le_of_ble_eq_true rfl) dX5_openOn_41 (fun G5 hv => ?_)
      obtain ⟨kp2, kb2, hk5, hkk, hF5⟩ := hv
      refine z_iconst (pc := 44) (0) (by decide) dX5_openOn_44 ?_
      refine z_is3 (pc := 45) dX5_openOn_45 (by decide) ?_
      refine z_L rfl ?_
      exact lp due 0 G5 kp2 kb2 none (by omega) (hF5.1 _ _ _ (fun h => by rcases h with h | h | h <;> cases h) ht) hk5 (hLs.keep hF5 (fun h => by rcases h with h | h | h <;> cases h) (fun h => by rcases h with h | h | h <;> cases h)) (fun j hj => hF5.1 _ _ _ (fun h => by rcases h with h | h | h <;> cases h) (hCo j hj)) (fun j hj => (hkk j hj).1) (fun j hj => (hkk j hj).2) (hF5.mono (fun r h => Or.inl h))
    · refine z_iconst (pc := 31) (0) (by decide) dX5_openOn_31 ?_
      rw [← hQx]
      refine z_zret (pc := 32) rfl rfl (by decide) dX5_openOn_32 (⟨_, rfl, Or.inl ⟨rfl, rfl, (nI_eq (by omega) (by omega)).mp c11, (nI_eq (by omega) (by omega)).mp c28⟩⟩)
abbrev rX3_joins : Room := rmK 0 0 0 0
set_option maxRecDepth 100000 in
set_option maxHeartbeats 400000 in
theorem c_prJoins (l : Launch) {κ : zK} {G : zH} {q s1 s2 : Nat} (k : Nat) (a b : Nat) (hq : G q = some ((2, 20, k), .inr (4, [.ref s1, .ref s2]))) : Ct l yX3_joins cX3_joins 3 (some FieldType.boolean) rX3_joins κ [.ref q, .ref a, .ref b] G (zP (zb ((s1 = a ∧ s2 = b) ∨ (s1 = b ∧ s2 = a))) G) := by
  refine Ct.of (by decide +kernel) (fun v hv => by
    simp only [List.mem_cons, List.mem_nil_iff, or_false, List.not_mem_nil] at hv
    rcases hv with rfl | rfl | rfl <;> rfl) (Nat.le_of_ble_eq_true rfl) ?_
  intro p e s m args below meth cC
  refine z_L (L' := [some (.ref q), some (.ref a), some (.ref b)]) rfl ?_
  generalize hQx : MQ below (zQc κ _) args s _ _ (zA κ) = Qx
  refine z_al0 (pc := 0) dX3_joins_0 ?_
  refine z_get (pc := 1) 0 hq rfl iw_X3 (by decide) kw_403 rfl dX3_joins_1 ?_
  refine z_al1 (pc := 4) dX3_joins_4 ?_
  refine z_acmp_ne (pc := 5) 16 dX3_joins_5 rfl (show _ = va_rf (some _) from rfl) (show _ = va_rf (some _) from rfl) (fun c5 => ?_) (fun c5 => ?_)
  · refine z_al0 (pc := 16) dX3_joins_16 ?_
    refine z_get (pc := 17) 0 hq rfl iw_X3 (by decide) kw_403 rfl dX3_joins_17 ?_
    refine z_al2 (pc := 20) dX3_joins_20 ?_
    refine z_acmp_ne (pc := 21) 36 dX3_joins_21 rfl (show _ = va_rf (some _) from rfl) (show _ = va_rf (some _) from rfl) (fun c21 => ?_) (fun c21 => ?_)
    · refine z_iconst (pc := 36) (0) (by decide) dX3_joins_36 ?_
      rw [← hQx]
      refine z_zret (pc := 37) rfl rfl (by decide) dX3_joins_37 (⟨_, rfl, (zb_f (by simp_all)).symm, rfl⟩)
    · refine z_al0 (pc := 24) dX3_joins_24 ?_
      refine z_get (pc := 25) 1 hq rfl iw_X3 (by decide) kw_404 rfl dX3_joins_25 ?_
      refine z_al1 (pc := 28) dX3_joins_28 ?_
      refine z_acmp_ne (pc := 29) 36 dX3_joins_29 rfl (show _ = va_rf (some _) from rfl) (show _ = va_rf (some _) from rfl) (fun c29 => ?_) (fun c29 => ?_)
      · refine z_iconst (pc := 36) (0) (by decide) dX3_joins_36 ?_
        rw [← hQx]
        refine z_zret (pc := 37) rfl rfl (by decide) dX3_joins_37 (⟨_, rfl, (zb_f (by simp_all)).symm, rfl⟩)
      · refine z_iconst (pc := 32) (1) (by decide) dX3_joins_32 ?_
        refine z_goto (pc := 33) 37 dX3_joins_33 rfl ?_
        rw [← hQx]
        refine z_zret (pc := 37) rfl rfl (by decide) dX3_joins_37 (⟨_, rfl, (zb_t (by simp_all)).symm, rfl⟩)
  · refine z_al0 (pc := 8) dX3_joins_8 ?_
    refine z_get (pc := 9) 1 hq rfl iw_X3 (by decide) kw_404 rfl dX3_joins_9 ?_
    refine z_al2 (pc := 12) dX3_joins_12 ?_
    refine z_acmp_eq (pc := 13) 32 dX3_joins_13 rfl (show _ = va_rf (some _) from rfl) (show _ = va_rf (some _) from rfl) (fun c13 => ?_) (fun c13 => ?_)
    · refine z_iconst (pc := 32) (1) (by decide) dX3_joins_32 ?_
      refine z_goto (pc := 33) 37 dX3_joins_33 rfl ?_
      rw [← hQx]
      refine z_zret (pc := 37) rfl rfl (by decide) dX3_joins_37 (⟨_, rfl, (zb_t (by simp_all)).symm, rfl⟩)
    · refine z_al0 (pc := 16) dX3_joins_16 ?_
      refine z_get (pc := 17) 0 hq rfl iw_X3 (by decide) kw_403 rfl dX3_joins_17 ?_
      refine z_al2 (pc := 20) dX3_joins_20 ?_
      refine z_acmp_ne (pc := 21) 36 dX3_joins_21 rfl (show _ = va_rf (some _) from rfl) (show _ = va_rf (some _) from rfl) (fun c21 => ?_) (fun c21 => ?_)
      · refine z_iconst (pc := 36) (0) (by decide) dX3_joins_36 ?_
        rw [← hQx]
        refine z_zret (pc := 37) rfl rfl (by decide) dX3_joins_37 (⟨_, rfl, (zb_f (by simp_all)).symm, rfl⟩)
      · refine z_al0 (pc := 24) dX3_joins_24 ?_
        refine z_get (pc := 25) 1 hq rfl iw_X3 (by decide) kw_404 rfl dX3_joins_25 ?_
        refine z_al1 (pc := 28) dX3_joins_28 ?_
        refine z_acmp_ne (pc := 29) 36 dX3_joins_29 rfl (show _ = va_rf (some _) from rfl) (show _ = va_rf (some _) from rfl) (fun c29 => ?_) (fun c29 => ?_)
        · refine z_iconst (pc := 36) (0) (by decide) dX3_joins_36 ?_
          rw [← hQx]
          refine z_zret (pc := 37) rfl rfl (by decide) dX3_joins_37 (⟨_, rfl, (zb_f (by simp_all)).symm, rfl⟩)
        · refine z_iconst (pc := 32) (1) (by decide) dX3_joins_32 ?_
          refine z_goto (pc := 33) 37 dX3_joins_33 rfl ?_
          rw [← hQx]
          refine z_zret (pc := 37) rfl rfl (by decide) dX3_joins_37 (⟨_, rfl, (zb_t (by simp_all)).symm, rfl⟩)
abbrev rX3_sheetOf : Room := rmK 0 0 0 0
set_option maxRecDepth 100000 in
set_option maxHeartbeats 400000 in
theorem c_prOf (l : Launch) {κ : zK} {G : zH} {q s1 s2 : Nat} (k : Nat) {k1 t1 m1 k2 t2 m2 : Nat} {ha ye wo ap fg ha2 ye2 wo2 ap2 fg2 : Int32} (i j : Nat) (v : Int32) (hq : G q = some ((2, 20, k), .inr (4, [.ref s1, .ref s2]))) (h1 : zSH G s1 i ha ye wo k1 t1 m1 ap fg) (h2 : zSH G s2 j ha2 ye2 wo2 k2 t2 m2 ap2 fg2) : Ct l yX3_sheetOf cX3_sheetOf 2 (some (FieldType.object "TuneHouse$Sheet")) rX3_sheetOf κ [.ref q, .int v] G (zPq (if ha = v then some s1 else if ha2 = v then some s2 else none) G) := by
  refine Ct.of (by decide +kernel) (fun v hv => by
    simp only [List.mem_cons, List.mem_nil_iff, or_false, List.not_mem_nil] at hv
    rcases hv with rfl | rfl <;> rfl) (Nat.le_of_ble_eq_true rfl) ?_
  intro p e s m args below meth cC
  refine z_L (L' := [some (.ref q), some (.int v)]) rfl ?_
  generalize hQx : MQ below (zQc κ _) args s _ _ (zA κ) = Qx
  refine z_al0 (pc := 0) dX3_sheetOf_0 ?_
  refine z_get (pc := 1) 0 hq rfl iw_X3 (by decide) kw_403 rfl dX3_sheetOf_1 ?_
  refine z_get (pc := 4) 1 h1 rfl iw_X5 (by decide) kw_197 rfl dX3_sheetOf_4 ?_
  refine z_il1 (pc := 7) dX3_sheetOf_7 ?_
  refine z_icmp_ne (pc := 8) 16 dX3_sheetOf_8 rfl (fun c8 => ?_) (fun c8 => ?_)
  · refine z_al0 (pc := 16) dX3_sheetOf_16 ?_
    refine z_get (pc := 17) 1 hq rfl iw_X3 (by decide) kw_404 rfl dX3_sheetOf_17 ?_
    refine z_get (pc := 20) 1 h2 rfl iw_X5 (by decide) kw_197 rfl dX3_sheetOf_20 ?_
    refine z_il1 (pc := 23) dX3_sheetOf_23 ?_
    refine z_icmp_ne (pc := 24) 34 dX3_sheetOf_24 rfl (fun c24 => ?_) (fun c24 => ?_)
    · refine z_null (pc := 34) dX3_sheetOf_34 ?_
      rw [← hQx]
      refine z_aret (pc := 35) none rfl rfl (Or.inl ⟨_, rfl⟩) (by decide) dX3_sheetOf_35 (⟨none, rfl, ((if_neg c8).trans (if_neg c24)).symm, rfl⟩)
    · refine z_al0 (pc := 27) dX3_sheetOf_27 ?_
      refine z_get (pc := 28) 1 hq rfl iw_X3 (by decide) kw_404 rfl dX3_sheetOf_28 ?_
      refine z_goto (pc := 31) 35 dX3_sheetOf_31 rfl ?_
      rw [← hQx]
      refine z_aret (pc := 35) (some _) rfl rfl (Or.inl ⟨_, rfl⟩) (by decide) dX3_sheetOf_35 (⟨some s2, rfl, ((if_neg c8).trans (if_pos c24)).symm, rfl⟩)
  · refine z_al0 (pc := 11) dX3_sheetOf_11 ?_
    refine z_get (pc := 12) 0 hq rfl iw_X3 (by decide) kw_403 rfl dX3_sheetOf_12 ?_
    rw [← hQx]
    refine z_aret (pc := 15) (some _) rfl rfl (Or.inl ⟨_, rfl⟩) (by decide) dX3_sheetOf_15 (⟨some s1, rfl, (if_pos c8).symm, rfl⟩)
abbrev rX3_init : Room := rmK 1 0 0 20
set_option maxRecDepth 100000 in
set_option maxHeartbeats 400000 in
theorem c_prInit (l : Launch) {κ : zK} {G : zH} {q : Nat} (k a b : Nat) (hq : G q = some ((2, 20, k), .inr (4, [.null, .null]))) : Ct l yX3_init cX3_init 3 none rX3_init κ [.ref q, .ref a, .ref b] G (pV (fun G2 => G2 q = some ((2, 20, k), .inr (4, [.ref a, .ref b])) ∧ zFP (fun r => r = (2, 20, k)) G G2)) := by
  refine Ct.of (by decide +kernel) (fun v hv => by
    simp only [List.mem_cons, List.mem_nil_iff, or_false, List.not_mem_nil] at hv
    rcases hv with rfl | rfl | rfl <;> rfl) (Nat.le_of_ble_eq_true rfl) ?_
  intro p e s m args below meth cC
  refine z_L (L' := [some (.ref q), some (.ref a), some (.ref b)]) rfl ?_
  generalize hQx : MQ below (zQc κ _) args s _ _ (zA κ) = Qx
  refine z_al0 (pc := 0) dX3_init_0 ?_
  refine z_objInit (pc := 1) kw_402 kw_29 kw_30 (Nat.le_of_ble_eq_true rfl |> fun h => ⟨h, Nat.le_of_ble_eq_true rfl⟩) dX3_init_1 ?_
  refine z_al0 (pc := 4) dX3_init_4 ?_
  refine z_al1 (pc := 5) dX3_init_5 ?_
  skip
  refine z_putFg (pc := 6) 0 hq rfl iw_X3 tyX3 tyX3_ok nmX3 (by decide) kw_403 rfl rfl rfl rfl rfl rfl (Nat.le_of_ble_eq_true rfl) dX3_init_6 (fun G4 h4x hF4 => ?_)
  replace hq := h4x
  refine z_al0 (pc := 9) dX3_init_9 ?_
  refine z_al2 (pc := 10) dX3_init_10 ?_
  skip
  refine z_putFg (pc := 11) 1 hq rfl iw_X3 tyX3 tyX3_ok nmX3 (by decide) kw_404 rfl rfl rfl rfl rfl rfl (Nat.le_of_ble_eq_true rfl) dX3_init_11 (fun G5 h5x hF5 => ?_)
  rw [← hQx]
  refine z_vret (pc := 14) rfl (by decide) dX3_init_14 (⟨rfl, h5x, hF4.trans hF5⟩)
abbrev rX1_init : Room := rmK 1 0 0 20
set_option maxRecDepth 100000 in
set_option maxHeartbeats 400000 in
theorem c_coInit (l : Launch) {κ : zK} {G : zH} {q : Nat} (k : Nat) (v1 v2 v3 v4 : Int32) (hq : G q = some ((2, 19, k), .inr (2, [.int 0, .int 0, .int 0, .int 0]))) : Ct l yX1_init cX1_init 5 none rX1_init κ [.ref q, .int v1, .int v2, .int v3, .int v4] G (pV (fun G2 => G2 q = some ((2, 19, k), .inr (2, [.int v1, .int v2, .int v3, .int v4])) ∧ zFP (fun r => r = (2, 19, k)) G G2)) := by
  refine Ct.of (by decide +kernel) (fun v hv => by
    simp only [List.mem_cons, List.mem_nil_iff, or_false, List.not_mem_nil] at hv
    rcases hv with rfl | rfl | rfl | rfl | rfl <;> rfl) (Nat.le_of_ble_eq_true rfl) ?_
  intro p e s m args below meth cC
  refine z_L (L' := [some (.ref q), some (.int v1), some (.int v2), some (.int v3), some (.int v4)]) rfl ?_
  generalize hQx : MQ below (zQc κ _) args s _ _ (zA κ) = Qx
  refine z_al0 (pc := 0) dX1_init_0 ?_
  refine z_objInit (pc := 1) kw_350 kw_29 kw_30 (Nat.le_of_ble_eq_true rfl |> fun h => ⟨h, Nat.le_of_ble_eq_true rfl⟩) dX1_init_1 ?_
  refine z_al0 (pc := 4) dX1_init_4 ?_
  refine z_il1 (pc := 5) dX1_init_5 ?_
  skip
  refine z_putFg (pc := 6) 0 hq rfl iw_X1 tyX1 tyX1_ok nmX1 (by decide) kw_351 rfl rfl rfl rfl rfl rfl (Nat.le_of_ble_eq_true rfl) dX1_init_6 (fun G4 h4x hF4 => ?_)
  replace hq := h4x
  refine z_al0 (pc := 9) dX1_init_9 ?_
  refine z_il2 (pc := 10) dX1_init_10 ?_
  skip
  refine z_putFg (pc := 11) 1 hq rfl iw_X1 tyX1 tyX1_ok nmX1 (by decide) kw_353 rfl rfl rfl rfl rfl rfl (Nat.le_of_ble_eq_true rfl) dX1_init_11 (fun G5 h5x hF5 => ?_)
  replace hq := h5x
  refine z_al0 (pc := 14) dX1_init_14 ?_
  refine z_il3 (pc := 15) dX1_init_15 ?_
  skip
  refine z_putFg (pc := 16) 2 hq rfl iw_X1 tyX1 tyX1_ok nmX1 (by decide) kw_355 rfl rfl rfl rfl rfl rfl (Nat.le_of_ble_eq_true rfl) dX1_init_16 (fun G6 h6x hF6 => ?_)
  replace hq := h6x
  refine z_al0 (pc := 19) dX1_init_19 ?_
  refine z_il4 (pc := 20) dX1_init_20 ?_
  skip
  refine z_putFg (pc := 22) 3 hq rfl iw_X1 tyX1 tyX1_ok nmX1 (by decide) kw_357 rfl rfl rfl rfl rfl rfl (Nat.le_of_ble_eq_true rfl) dX1_init_22 (fun G7 h7x hF7 => ?_)
  rw [← hQx]
  refine z_vret (pc := 25) rfl (by decide) dX1_init_25 (⟨rfl, h7x, (hF4.trans hF5).trans (hF6.trans hF7)⟩)
