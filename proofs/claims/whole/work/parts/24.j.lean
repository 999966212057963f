theorem nI_subL (n : Nat) : nI (n + 1) - nI n = nI 1 := by
  rw [← nI_1 n, Int32.add_comm, Int32.add_sub_cancel]; rfl
theorem nI_half0 : ∀ n : Nat, n < 2000 → nI n >>> ((1 : Int32) &&& 31) = nI (n / 2) := by decide +kernel
theorem nI_half {n : Nat} (h : n < 2000) : nI n >>> ((1 : Int32) &&& 31) = nI (n / 2) := nI_half0 n h
/-! lists: the list object and its array, by the list's number j -/
abbrev zFL (j : Nat) : zH → zH → Prop := zFP (fun r => r = (2, 13, j) ∨ r = (2, 14, j))
def zLs (κ : zK) (G : zH) (j la Mx n : Nat) (es : Nat → Nat) : Prop := ∃ (mc : Int32) (ea : Nat), G la = some ((2, 13, j), .inr (0, [.int mc, .ref ea, .int (nI n)])) ∧ ((ea = κ.2.2 1 ∧ n = 0) ∨ ∃ (cap : Nat) (f : Nat → Option Nat), n ≤ cap ∧ 0 < cap ∧ cap ≤ Mx ∧ G ea = some ((2, 14, j), .inl (κ.2.1 2, zQ cap f)) ∧ ∀ i, i < n → f i = some (es i))
/-- objects that a list may hold -/
def zObj (G : zH) (x : Nat) : Prop := ∃ (rx : zR) (ci : Nat) (xs : List Value) (vc : vw_C), G x = some (rx, .inr (ci, xs)) ∧ vwCl[ci]? = some vc ∧ Cond.castable vc.1 "java/lang/Object" ∈ NB ∧ rx.2.1 ≠ 13 ∧ rx.2.1 ≠ 14
theorem zLs.keep {κ : zK} {G G2 : zH} {j la Mx n : Nat} {es : Nat → Nat} {P : zR → Prop} (h : zLs κ G j la Mx n es) (hF : zFP P G G2) (h1 : ¬ P (2, 13, j)) (h2 : ¬ P (2, 14, j)) : zLs κ G2 j la Mx n es := by
  obtain ⟨mc, ea, g1, g2⟩ := h
  refine ⟨mc, ea, hF.1 _ _ _ h1 g1, g2.imp id (fun ⟨cap, f, a1, a2, a3, a4, a5⟩ => ⟨cap, f, a1, a2, a3, hF.1 _ _ _ h2 a4, a5⟩)⟩
theorem zLs.congr {κ : zK} {G : zH} {j la Mx n : Nat} {es es2 : Nat → Nat} (h : zLs κ G j la Mx n es) (he : ∀ i, i < n → es i = es2 i) : zLs κ G j la Mx n es2 := by
  obtain ⟨mc, ea, g1, g2⟩ := h
  exact ⟨mc, ea, g1, g2.imp id (fun ⟨cap, f, a1, a2, a3, a4, a5⟩ => ⟨cap, f, a1, a2, a3, a4, fun i hi => by rw [a5 i hi, he i hi]⟩)⟩
theorem zObj.keep {G G2 : zH} {x j : Nat} (h : zObj G x) (hF : zFL j G G2) : zObj G2 x := by
  obtain ⟨rx, ci, xs, vc, g1, g2, g3, g4, g5⟩ := h
  exact ⟨rx, ci, xs, vc, hF.1 _ _ _ (fun q => by rcases q with rfl | rfl; exact g4 rfl; exact g5 rfl) g1, g2, g3, g4, g5⟩
abbrev rJ3_checkIndex_8e157 : Room := rmK 0 0 0 0
set_option maxRecDepth 100000 in
set_option maxHeartbeats 400000 in
theorem c_jCheck3 (l : Launch) {κ : zK} {G : zH} (i n : Nat) (hi : i < n) (hn : n < 2 ^ 31) : Ct l yJ3_checkIndex_8e157 cJ3_checkIndex_8e157 3 (some FieldType.int) rJ3_checkIndex_8e157 κ [.int (nI i), .int (nI n), .null] G (zP (nI i) G) := by
  refine CtF.of (by decide +kernel) (fun v hv => by
    simp only [List.mem_cons, List.mem_nil_iff, or_false, List.not_mem_nil] at hv
    rcases hv with rfl | rfl | rfl <;> rfl) (Nat.le_of_ble_eq_true rfl) ?_
  intro p e s m args below meth cC
  refine z_L (L' := [some (.int (nI i)), some (.int (nI n)), some (.null)]) rfl ?_
  generalize hQx : MQ below (zQc κ _) args s _ _ (zA κ) = Qx
  refine z_il0 (pc := 0) dJ3_checkIndex_8e157_0 ?_
  refine z_if_lt (pc := 1) 9 dJ3_checkIndex_8e157_1 rfl (fun c1 => absurd c1 (nI_pos (by omega))) (fun c1 => ?_)
  refine z_il0 (pc := 4) dJ3_checkIndex_8e157_4 ?_
  refine z_il1 (pc := 5) dJ3_checkIndex_8e157_5 ?_
  refine z_icmp_lt (pc := 6) 16 dJ3_checkIndex_8e157_6 rfl (fun c6 => ?_) (fun c6 => absurd (nI_lt hi hn) c6)
  refine z_il0 (pc := 16) dJ3_checkIndex_8e157_16 ?_
  rw [← hQx]
  refine z_iret (pc := 17) rfl (by decide) dJ3_checkIndex_8e157_17 (⟨_, rfl, rfl, rfl⟩)
abbrev rJ15_checkIndex_7cf53 : Room := rmK 1 0 0 22
set_option maxRecDepth 100000 in
set_option maxHeartbeats 400000 in
theorem c_jCheck2 (l : Launch) {κ : zK} {G : zH} (i n : Nat) (hi : i < n) (hn : n < 2 ^ 31) : Ct l yJ15_checkIndex_7cf53 cJ15_checkIndex_7cf53 2 (some FieldType.int) rJ15_checkIndex_7cf53 κ [.int (nI i), .int (nI n)] G (zP (nI i) G) := by
  refine CtF.of (by decide +kernel) (fun v hv => by
    simp only [List.mem_cons, List.mem_nil_iff, or_false, List.not_mem_nil] at hv
    rcases hv with rfl | rfl <;> rfl) (Nat.le_of_ble_eq_true rfl) ?_
  intro p e s m args below meth cC
  refine z_L (L' := [some (.int (nI i)), some (.int (nI n))]) rfl ?_
  generalize hQx : MQ below (zQc κ _) args s _ _ (zA κ) = Qx
  refine z_il0 (pc := 0) dJ15_checkIndex_7cf53_0 ?_
  refine z_il1 (pc := 1) dJ15_checkIndex_7cf53_1 ?_
  refine z_null (pc := 2) dJ15_checkIndex_7cf53_2 ?_
  refine z_callSr (pc := 3) (c_jCheck3 l i n hi hn) kw_302 zc_J3_checkIndex_8e157 (by decide) (by decide) rfl (Nat.le_of_ble_eq_true rfl) dJ15_checkIndex_7cf53_3 ?_
  rw [← hQx]
  refine z_iret (pc := 6) rfl (by decide) dJ15_checkIndex_7cf53_6 (⟨_, rfl, rfl, rfl⟩)
abbrev rJx4a65c_elementData_915e3 : Room := rmK 0 0 0 0
set_option maxRecDepth 100000 in
set_option maxHeartbeats 400000 in
theorem c_jElem (l : Launch) {κ : zK} {G : zH} {es : Nat → Nat} (j la Mx n : Nat) (i : Nat) (hL : zLs κ G j la Mx n es) (hi : i < n) (hMx : Mx < 2000) : Ct l yJx4a65c_elementData_915e3 cJx4a65c_elementData_915e3 2 (some (FieldType.object "java/lang/Object")) rJx4a65c_elementData_915e3 κ [.ref la, .int (nI i)] G (zPq (some (es i)) G) := by
  refine CtF.of (by decide +kernel) (fun v hv => by
    simp only [List.mem_cons, List.mem_nil_iff, or_false, List.not_mem_nil] at hv
    rcases hv with rfl | rfl <;> rfl) (Nat.le_of_ble_eq_true rfl) ?_
  intro p e s m args below meth cC
  refine z_L (L' := [some (.ref la), some (.int (nI i))]) rfl ?_
  generalize hQx : MQ below (zQc κ _) args s _ _ (zA κ) = Qx
  obtain ⟨mc, ea, hL0, hL⟩ := hL
  obtain ⟨cap, f, h1, h2, h3, h4, h5⟩ := hL.resolve_left (fun q => by omega)
  refine z_al0 (pc := 0) dJx4a65c_elementData_915e3_0 ?_
  refine z_get (pc := 1) 1 hL0 rfl iw_J (by decide) kw_106 rfl dJx4a65c_elementData_915e3_1 ?_
  refine z_il1 (pc := 4) dJx4a65c_elementData_915e3_4 ?_
  refine z_aald (pc := 5) i h4 rfl (by omega) (by omega) dJx4a65c_elementData_915e3_5 ?_
  rw [h5 i hi]
  rw [← hQx]
  refine z_aret (pc := 6) (some _) rfl rfl (Or.inl ⟨_, rfl⟩) (by decide) dJx4a65c_elementData_915e3_6 (⟨some (es i), rfl, rfl, rfl⟩)
abbrev rJx4a65c_get_915e3 : Room := rmK 2 0 0 43
set_option maxRecDepth 100000 in
set_option maxHeartbeats 400000 in
theorem c_jGet (l : Launch) {κ : zK} {G : zH} {es : Nat → Nat} (j la Mx n : Nat) (i : Nat) (hL : zLs κ G j la Mx n es) (hi : i < n) (hMx : Mx < 2000) : Ct l yJx4a65c_get_915e3 cJx4a65c_get_915e3 2 (some (FieldType.object "java/lang/Object")) rJx4a65c_get_915e3 κ [.ref la, .int (nI i)] G (zPq (some (es i)) G) := by
  refine CtF.of (by decide +kernel) (fun v hv => by
    simp only [List.mem_cons, List.mem_nil_iff, or_false, List.not_mem_nil] at hv
    rcases hv with rfl | rfl <;> rfl) (Nat.le_of_ble_eq_true rfl) ?_
  intro p e s m args below meth cC
  refine z_L (L' := [some (.ref la), some (.int (nI i))]) rfl ?_
  generalize hQx : MQ below (zQc κ _) args s _ _ (zA κ) = Qx
  obtain ⟨mc, ea, hL0, hL2⟩ := id hL
  have hn2 : n ≤ Mx := by rcases hL2 with h | ⟨cap, f, h1, h2, h3, -⟩ <;> omega
  refine z_il1 (pc := 0) dJx4a65c_get_915e3_0 ?_
  refine z_al0 (pc := 1) dJx4a65c_get_915e3_1 ?_
  refine z_get (pc := 2) 2 hL0 rfl iw_J (by decide) kw_107 rfl dJx4a65c_get_915e3_2 ?_
  refine z_callSr (pc := 5) (c_jCheck2 l i n hi (by omega)) kw_299 zc_J15_checkIndex_7cf53 (by decide) (by decide) rfl (Nat.le_of_ble_eq_true rfl) dJx4a65c_get_915e3_5 ?_
  refine z_pop (pc := 8) rfl dJx4a65c_get_915e3_8 ?_
  refine z_al0 (pc := 9) dJx4a65c_get_915e3_9 ?_
  refine z_il1 (pc := 10) dJx4a65c_get_915e3_10 ?_
  refine z_callVrq (pc := 11) (c_jElem l j la Mx n i hL hi hMx) hL0 rfl rfl kw_305 zc_Jx4a65c_elementData_915e3 (by decide) (by decide) rfl (Nat.le_of_ble_eq_true rfl) dJx4a65c_get_915e3_11 ?_
  rw [← hQx]
  refine z_aret (pc := 14) (some _) rfl rfl (Or.inl ⟨_, rfl⟩) (by decide) dJx4a65c_get_915e3_14 (⟨some (es i), rfl, rfl, rfl⟩)
abbrev rJx4a65c_size_8abf5 : Room := rmK 0 0 0 0
set_option maxRecDepth 100000 in
set_option maxHeartbeats 400000 in
theorem c_jSize (l : Launch) {κ : zK} {G : zH} {es : Nat → Nat} (j la Mx n : Nat) (hL : zLs κ G j la Mx n es) : Ct l yJx4a65c_size_8abf5 cJx4a65c_size_8abf5 1 (some FieldType.int) rJx4a65c_size_8abf5 κ [.ref la] G (zP (nI n) G) := by
  refine CtF.of (by decide +kernel) (fun v hv => by
    simp only [List.mem_cons, List.mem_nil_iff, or_false, List.not_mem_nil] at hv
    rcases hv with rfl <;> rfl) (Nat.le_of_ble_eq_true rfl) ?_
  intro p e s m args below meth cC
  refine z_L (L' := [some (.ref la)]) rfl ?_
  generalize hQx : MQ below (zQc κ _) args s _ _ (zA κ) = Qx
  obtain ⟨mc, ea, hL0, -⟩ := hL
  refine z_al0 (pc := 0) dJx4a65c_size_8abf5_0 ?_
  refine z_get (pc := 1) 2 hL0 rfl iw_J (by decide) kw_107 rfl dJx4a65c_size_8abf5_1 ?_
  rw [← hQx]
  refine z_iret (pc := 4) rfl (by decide) dJx4a65c_size_8abf5_4 (⟨_, rfl, rfl, rfl⟩)
abbrev rJ8_newLength_cabcc : Room := rmK 1 0 0 21
set_option maxRecDepth 100000 in
set_option maxHeartbeats 400000 in
theorem c_jNewLen (l : Launch) {κ : zK} {G : zH} (n : Nat) (hn : n < 2000) : Ct l yJ8_newLength_cabcc cJ8_newLength_cabcc 4 (some FieldType.int) rJ8_newLength_cabcc κ [.int (nI n), .int (nI 1), .int (nI (n / 2))] G (zP (nI (n + max 1 (n / 2))) G) := by
  refine CtF.of (by decide +kernel) (fun v hv => by
    simp only [List.mem_cons, List.mem_nil_iff, or_false, List.not_mem_nil] at hv
    rcases hv with rfl | rfl | rfl <;> rfl) (Nat.le_of_ble_eq_true rfl) ?_
  intro p e s m args below meth cC
  refine z_L (L' := [some (.int (nI n)), some (.int (nI 1)), some (.int (nI (n / 2))), none]) rfl ?_
  generalize hQx : MQ below (zQc κ _) args s _ _ (zA κ) = Qx
  refine z_il0 (pc := 0) dJ8_newLength_cabcc_0 ?_
  refine z_il1 (pc := 1) dJ8_newLength_cabcc_1 ?_
  refine z_il2 (pc := 2) dJ8_newLength_cabcc_2 ?_
  refine z_mmax (pc := 3) kw_248 kw_249 kw_12 kw_250 (by decide) (Nat.le_of_ble_eq_true rfl) dJ8_newLength_cabcc_3 ?_
  rw [show (if nI 1 < nI (n / 2) then nI (n / 2) else nI 1) = nI (max 1 (n / 2)) from by
    split
    · rename_i e; rw [nI_ltI (by omega) (by omega)] at e; rw [Nat.max_eq_right (by omega)]
    · rename_i e; rw [nI_ltI (by omega) (by omega)] at e; rw [Nat.max_eq_left (by omega)]]
  refine z_iadd (pc := 6) dJ8_newLength_cabcc_6 ?_
  rw [nI_add]
  refine z_is3 (pc := 7) dJ8_newLength_cabcc_7 (by decide) ?_
  refine z_iconst (pc := 8) (0) (by decide) dJ8_newLength_cabcc_8 ?_
  refine z_il3 (pc := 9) dJ8_newLength_cabcc_9 ?_
  refine z_icmp_ge (pc := 10) 21 dJ8_newLength_cabcc_10 rfl (fun c10 => absurd c10 (by rw [show (0 : Int32) = nI 0 from rfl, nI_leI (by omega) (by omega)]; omega)) (fun c10 => ?_)
  refine z_il3 (pc := 13) dJ8_newLength_cabcc_13 ?_
  refine z_ldc (pc := 14) kw_251 dJ8_newLength_cabcc_14 ?_
  refine z_icmp_gt (pc := 16) 21 dJ8_newLength_cabcc_16 rfl (fun c16 => absurd c16 (by rw [show (2147483639 : Int32) = nI 2147483639 from rfl, nI_ltI (by omega) (by omega)]; omega)) (fun c16 => ?_)
  refine z_il3 (pc := 19) dJ8_newLength_cabcc_19 ?_
  rw [← hQx]
  refine z_iret (pc := 20) rfl (by decide) dJ8_newLength_cabcc_20 (⟨_, rfl, rfl, rfl⟩)
set_option maxRecDepth 100000 in
set_option maxHeartbeats 400000 in
theorem c_jCopy3 (l : Launch) {κ : zK} {G : zH} (j a0 n0 N : Nat) {r0 : zR} {f : Nat → Option Nat} (h0 : G a0 = some (r0, .inl (κ.2.1 2, zQ n0 f))) (hn : n0 ≤ N ∧ N < 2000) (hel : ∀ i : Nat, i < n0 → ∀ x : Nat, f i = some x → zObj G x) : Ct l yJ7_copyOf_6403c cJ7_copyOf_6403c 4 (some (FieldType.array (FieldType.object "java/lang/Object"))) (rmK 1 1 N 60) κ [.ref a0, .int (nI N), .ref (κ.2.2 3)] G (pA (fun v G2 => ∃ q, v = some q ∧ G q = none ∧ G2 q = some ((2, 14, j), .inl (κ.2.1 2, zQ N (va_cpy f (fun _ => none) 0 0 n0))) ∧ zFP (fun r => r = (2, 14, j)) G G2)) := by
  refine CtF.of (by decide +kernel) (fun v hv => by
    simp only [List.mem_cons, List.mem_nil_iff, or_false, List.not_mem_nil] at hv
    rcases hv with rfl | rfl | rfl <;> rfl) (Nat.le_of_ble_eq_true rfl) ?_
  intro p e s m args below meth cC
  refine z_L (L' := [some (.ref a0), some (.int (nI N)), some (.ref (κ.2.2 3)), none]) rfl ?_
  generalize hQx : MQ below (zQc κ _) args s _ _ (zA κ) = Qx
  refine z_al2 (pc := 0) dJ7_copyOf_6403c_0 ?_
  refine z_ldcM (pc := 1) kw_276 dJ7_copyOf_6403c_1 ?_
  refine z_acmp_ne (pc := 3) 13 dJ7_copyOf_6403c_3 rfl (rx := some (κ.2.2 3)) (ry := some (κ.2.2 3)) rfl rfl (fun h => absurd rfl h) (fun _ => ?_)
  refine z_il1 (pc := 6) dJ7_copyOf_6403c_6 ?_
  refine z_anew (pc := 7) (2, 14, j) N kw_278 rfl (by omega) ⟨Nat.le_refl _, by simp⟩ dJ7_copyOf_6403c_7 (fun q0 G1 hq0 _ hq hF => ?_)
  refine z_goto (pc := 10) 24 dJ7_copyOf_6403c_10 rfl ?_
  refine z_as3 (pc := 24) dJ7_copyOf_6403c_24 (by decide) ?_
  refine z_al0 (pc := 25) dJ7_copyOf_6403c_25 ?_
  refine z_iconst (pc := 26) (0) (by decide) dJ7_copyOf_6403c_26 ?_
  refine z_al3 (pc := 27) dJ7_copyOf_6403c_27 ?_
  refine z_iconst (pc := 28) (0) (by decide) dJ7_copyOf_6403c_28 ?_
  refine z_al0 (pc := 29) dJ7_copyOf_6403c_29 ?_
  refine z_alen (pc := 30) (v := nI n0) 2 (hF.1 _ _ _ (fun h => h) h0) rfl rfl dJ7_copyOf_6403c_30 ?_
  refine z_il1 (pc := 31) dJ7_copyOf_6403c_31 ?_
  refine z_mmin (pc := 32) kw_279 kw_280 kw_12 kw_281 ⟨Nat.le_of_ble_eq_true rfl, Nat.le_of_ble_eq_true rfl, Nat.le_of_ble_eq_true rfl, Nat.le_of_eq (Nat.zero_add _)⟩ (Nat.le_of_ble_eq_true rfl) dJ7_copyOf_6403c_32 ?_
  rw [show (if nI N < nI n0 then nI N else nI n0) = nI n0 from if_neg (by rw [nI_ltI (by omega) (by omega)]; omega)]
  refine z_copy (pc := 35) kw_282 (hF.1 _ _ _ (fun h => h) h0) hq (by omega) (fun i hi x hx => ?_) ⟨Nat.le_of_ble_eq_true rfl, Nat.le_of_ble_eq_true rfl⟩ (Nat.le_of_ble_eq_true rfl) dJ7_copyOf_6403c_35 (fun G2 hq2 hF2 => ?_)
  · obtain ⟨rx, ci, xs, vc, g1, g2, g3, -, -⟩ := hel i hi x hx
    exact ⟨rx, ci, xs, vc, hF.1 _ _ _ (fun h => h) g1, g2, g3⟩
  replace hF : zFP (fun r => r = (2, 14, j)) G G2 := (hF.mono (fun _ h => h.elim)).trans hF2
  replace hq := hq2
  refine z_al3 (pc := 38) dJ7_copyOf_6403c_38 ?_
  rw [← hQx]
  refine z_aret (pc := 39) (some _) rfl rfl (Or.inr ⟨_, rfl⟩) ⟨Nat.le_of_ble_eq_true rfl, Nat.le_of_eq (Nat.zero_add _)⟩ dJ7_copyOf_6403c_39 (⟨some q0, rfl, q0, rfl, hq0, hq, hF⟩)
set_option maxRecDepth 100000 in
set_option maxHeartbeats 400000 in
theorem c_jCopy2 (l : Launch) {κ : zK} {G : zH} (j a0 n0 N : Nat) {r0 : zR} {f : Nat → Option Nat} (h0 : G a0 = some (r0, .inl (κ.2.1 2, zQ n0 f))) (hn : n0 ≤ N ∧ N < 2000) (hel : ∀ i : Nat, i < n0 → ∀ x : Nat, f i = some x → zObj G x) : Ct l yJ7_copyOf_1904c cJ7_copyOf_1904c 2 (some (FieldType.array (FieldType.object "java/lang/Object"))) (rmK 2 1 N 83) κ [.ref a0, .int (nI N)] G (pA (fun v G2 => ∃ q, v = some q ∧ G q = none ∧ G2 q = some ((2, 14, j), .inl (κ.2.1 2, zQ N (va_cpy f (fun _ => none) 0 0 n0))) ∧ zFP (fun r => r = (2, 14, j)) G G2)) := by
  refine CtF.of (by decide +kernel) (fun v hv => by
    simp only [List.mem_cons, List.mem_nil_iff, or_false, List.not_mem_nil] at hv
    rcases hv with rfl | rfl <;> rfl) (Nat.le_of_ble_eq_true rfl) ?_
  intro p e s m args below meth cC
  refine z_L (L' := [some (.ref a0), some (.int (nI N))]) rfl ?_
  generalize hQx : MQ below (zQc κ _) args s _ _ (zA κ) = Qx
  refine z_al0 (pc := 0) dJ7_copyOf_1904c_0 ?_
  refine z_il1 (pc := 1) dJ7_copyOf_1904c_1 ?_
  refine z_al0 (pc := 2) dJ7_copyOf_1904c_2 ?_
  refine z_getC (pc := 3) kw_258 h0 ⟨Nat.le_of_ble_eq_true rfl, Nat.le_of_ble_eq_true rfl⟩ (Nat.le_of_ble_eq_true rfl) dJ7_copyOf_1904c_3 ?_
  refine z_callSa (pc := 6) _ (c_jCopy3 l j a0 n0 N h0 hn hel) rfl kw_273 zc_J7_copyOf_6403c ⟨Nat.le_of_ble_eq_true rfl, Nat.le_of_ble_eq_true rfl, Nat.le_of_ble_eq_true rfl, Nat.le_of_eq (Nat.zero_add _)⟩ rfl (Nat.le_of_ble_eq_true rfl) dJ7_copyOf_1904c_6 (fun v G2 hv => ?_)
  rw [← hQx]
  refine z_aret (pc := 9) _ rfl rfl (Or.inr ⟨_, rfl⟩) ⟨Nat.le_of_ble_eq_true rfl, Nat.le_of_eq (Nat.zero_add _)⟩ dJ7_copyOf_1904c_9 (⟨_, rfl, hv⟩)
set_option maxRecDepth 100000 in
set_option maxHeartbeats 400000 in
theorem c_jGrow1 (l : Launch) {κ : zK} {G : zH} {es : Nat → Nat} (j la Mx n : Nat) {mc : Int32} {ea : Nat} (hG : G la = some ((2, 13, j), .inr (0, [.int mc, .ref ea, .int (nI n)]))) (hL : (ea = κ.2.2 1 ∧ n = 0) ∨ ∃ f : Nat → Option Nat, 0 < n ∧ n ≤ Mx ∧ G ea = some ((2, 14, j), .inl (κ.2.1 2, zQ n f)) ∧ (∀ i, i < n → f i = some (es i)) ∧ ∀ i, i < n → zObj G (es i)) (hMx : n + n / 2 + 1 ≤ Mx ∧ 10 ≤ Mx ∧ Mx < 2000) : Ct l yJx4a65c_grow_92f84 cJx4a65c_grow_92f84 4 (some (FieldType.array (FieldType.object "java/lang/Object"))) (rmK 3 1 Mx 104) κ [.ref la, .int (nI (n + 1))] G (pA (fun v G2 => ∃ (q cap : Nat) (f : Nat → Option Nat), v = some q ∧ G2 la = some ((2, 13, j), .inr (0, [.int mc, .ref q, .int (nI n)])) ∧ n < cap ∧ cap ≤ Mx ∧ G2 q = some ((2, 14, j), .inl (κ.2.1 2, zQ cap f)) ∧ (∀ i, i < n → f i = some (es i)) ∧ zFL j G G2)) := by
  refine CtF.of (by decide +kernel) (fun v hv => by
    simp only [List.mem_cons, List.mem_nil_iff, or_false, List.not_mem_nil] at hv
    rcases hv with rfl | rfl <;> rfl) (Nat.le_of_ble_eq_true rfl) ?_
  intro p e s m args below meth cC
  refine z_L (L' := [some (.ref la), some (.int (nI (n + 1))), none, none]) rfl ?_
  generalize hQx : MQ below (zQc κ _) args s _ _ (zA κ) = Qx
  rcases hL with ⟨rfl, rfl⟩ | ⟨f, hn0, hnM, hA, hes, hob⟩
  · refine z_al0 (pc := 0) dJx4a65c_grow_92f84_0 ?_
    refine z_get (pc := 1) 1 hG rfl iw_J (by decide) kw_106 rfl dJx4a65c_grow_92f84_1 ?_
    refine z_tlen (pc := 4) (v := 0) (fun h => h.2.1) rfl dJx4a65c_grow_92f84_4 ?_
    refine z_is2 (pc := 5) dJx4a65c_grow_92f84_5 (by decide) ?_
    refine z_il2 (pc := 6) dJx4a65c_grow_92f84_6 ?_
    refine z_if_gt (pc := 7) 20 dJx4a65c_grow_92f84_7 rfl (fun h => absurd h (by decide)) (fun _ => ?_)
    refine z_al0 (pc := 10) dJx4a65c_grow_92f84_10 ?_
    refine z_get (pc := 11) 1 hG rfl iw_J (by decide) kw_106 rfl dJx4a65c_grow_92f84_11 ?_
    refine z_gets (pc := 14) (ref := "") (fun h => h.1) kw_104 dJx4a65c_grow_92f84_14 ?_
    refine z_acmp_eq (pc := 17) 45 dJx4a65c_grow_92f84_17 rfl (rx := some (κ.2.2 1)) (ry := some (κ.2.2 1)) rfl rfl (fun _ => ?_) (fun h => absurd rfl h)
    refine z_al0 (pc := 45) dJx4a65c_grow_92f84_45 ?_
    refine z_bipush (pc := 46) (10) (by decide) dJx4a65c_grow_92f84_46 ?_
    refine z_il1 (pc := 48) dJx4a65c_grow_92f84_48 ?_
    refine z_mmax (pc := 49) kw_285 kw_249 kw_12 kw_250 ⟨Nat.le_of_ble_eq_true rfl, Nat.le_of_ble_eq_true rfl, Nat.le_of_ble_eq_true rfl, Nat.zero_le _⟩ (Nat.le_of_ble_eq_true rfl) dJx4a65c_grow_92f84_49 ?_
    rw [show (if (10 : Int32) < nI 1 then nI 1 else (10 : Int32)) = nI 10 from rfl]
    refine z_anew (pc := 52) (2, 14, j) 10 kw_286 rfl (by omega) ⟨Nat.le_of_ble_eq_true rfl, by show _ ≤ Mx; omega⟩ dJx4a65c_grow_92f84_52 (fun q0 G1 hq0 _ hq hF => ?_)
    refine z_dup_x1 (pc := 55) rfl rfl dJx4a65c_grow_92f84_55 ?_
    refine z_putg (pc := 56) 1 (hF.1 _ _ _ (fun h => h) hG) rfl iw_J tyJx4a65c tyJx4a65c_ok nmJx4a65c (by decide) kw_106 rfl rfl rfl rfl (Nat.le_of_ble_eq_true rfl) dJx4a65c_grow_92f84_56 (fun G3 h3 hF3 => ?_)
    rw [← hQx]
    refine z_aret (pc := 59) (some _) rfl rfl (Or.inr ⟨_, rfl⟩) ⟨Nat.le_of_ble_eq_true rfl, by show _ ≤ Mx; omega⟩ dJx4a65c_grow_92f84_59 (⟨some q0, rfl, q0, 10, fun _ => none, rfl, h3, by omega, by omega, hF3.1 _ _ _ (fun h => by cases h) hq, fun i hi => by omega, (hF.mono (fun _ h => h.elim)).trans (hF3.mono (fun _ h => Or.inl h))⟩)
  · refine z_al0 (pc := 0) dJx4a65c_grow_92f84_0 ?_
    refine z_get (pc := 1) 1 hG rfl iw_J (by decide) kw_106 rfl dJx4a65c_grow_92f84_1 ?_
    refine z_alen (pc := 4) (v := nI n) 2 hA rfl rfl dJx4a65c_grow_92f84_4 ?_
    refine z_is2 (pc := 5) dJx4a65c_grow_92f84_5 (by decide) ?_
    refine z_il2 (pc := 6) dJx4a65c_grow_92f84_6 ?_
    refine z_if_gt (pc := 7) 20 dJx4a65c_grow_92f84_7 rfl (fun c7 => ?_) (fun c7 => absurd (by rw [show (0 : Int32) = nI 0 from rfl, nI_ltI (by omega) (by omega)]; omega) c7)
    refine z_il2 (pc := 20) dJx4a65c_grow_92f84_20 ?_
    refine z_il1 (pc := 21) dJx4a65c_grow_92f84_21 ?_
    refine z_il2 (pc := 22) dJx4a65c_grow_92f84_22 ?_
    refine z_isub (pc := 23) dJx4a65c_grow_92f84_23 ?_
    refine z_il2 (pc := 24) dJx4a65c_grow_92f84_24 ?_
    refine z_iconst (pc := 25) (1) (by decide) dJx4a65c_grow_92f84_25 ?_
    rw [show nI (n + 1) - nI n = nI 1 from nI_subL _]
    refine z_ishr (pc := 26) dJx4a65c_grow_92f84_26 ?_
    rw [show nI n >>> ((1 : Int32) &&& 31) = nI (n / 2) from nI_half (by omega)]
    refine z_callSr (pc := 27) (c_jNewLen l n (by omega)) kw_245 zc_J8_newLength_cabcc ⟨Nat.le_of_ble_eq_true rfl, Nat.le_of_ble_eq_true rfl, Nat.le_of_ble_eq_true rfl, Nat.zero_le _⟩ ⟨rfl, rfl⟩ rfl (Nat.le_of_ble_eq_true rfl) dJx4a65c_grow_92f84_27 ?_
    refine z_is3 (pc := 30) dJx4a65c_grow_92f84_30 (by decide) ?_
    refine z_al0 (pc := 31) dJx4a65c_grow_92f84_31 ?_
    refine z_al0 (pc := 32) dJx4a65c_grow_92f84_32 ?_
    refine z_get (pc := 33) 1 hG rfl iw_J (by decide) kw_106 rfl dJx4a65c_grow_92f84_33 ?_
    refine z_il3 (pc := 36) dJx4a65c_grow_92f84_36 ?_
    refine z_callSa (pc := 37) _ (c_jCopy2 l j ea n (n + max 1 (n / 2)) hA (by omega) (fun i hi x hx => by rw [hes i hi] at hx; cases hx; exact hob i hi)) rfl kw_255 zc_J7_copyOf_1904c ⟨Nat.le_of_ble_eq_true rfl, Nat.le_of_ble_eq_true rfl, Nat.le_of_ble_eq_true rfl, by show 0 + (n + max 1 (n / 2)) ≤ Mx; omega⟩ rfl (Nat.le_of_ble_eq_true rfl) dJx4a65c_grow_92f84_37 (fun v G2 hv => ?_)
    obtain ⟨q0, rfl, hq0, hq, hF⟩ := hv
    refine z_dup_x1 (pc := 40) rfl rfl dJx4a65c_grow_92f84_40 ?_
    skip
    refine z_putg (pc := 41) 1 (hF.1 _ _ _ (fun h => by cases h) hG) rfl iw_J tyJx4a65c tyJx4a65c_ok nmJx4a65c (by decide) kw_106 rfl rfl rfl rfl (Nat.le_of_ble_eq_true rfl) dJx4a65c_grow_92f84_41 (fun G3 h3 hF3 => ?_)
    rw [← hQx]
    refine z_aret (pc := 44) (some _) rfl rfl (Or.inr ⟨_, rfl⟩) ⟨Nat.le_of_ble_eq_true rfl, by show 0 + (n + max 1 (n / 2)) ≤ Mx; omega⟩ dJx4a65c_grow_92f84_44 (⟨some q0, rfl, q0, n + max 1 (n / 2), _, rfl, h3, by omega, by omega, hF3.1 _ _ _ (fun h => by cases h) hq, fun i hi => by rw [show va_cpy f (fun _ => none) 0 0 n i = f i from by simp [va_cpy, hi]]; exact hes i hi, (hF.mono (fun _ h => Or.inr h)).trans (hF3.mono (fun _ h => Or.inl h))⟩)
set_option maxRecDepth 100000 in
set_option maxHeartbeats 400000 in
theorem c_jGrow0 (l : Launch) {κ : zK} {G : zH} {es : Nat → Nat} (j la Mx n : Nat) {mc : Int32} {ea : Nat} (hG : G la = some ((2, 13, j), .inr (0, [.int mc, .ref ea, .int (nI n)]))) (hL : (ea = κ.2.2 1 ∧ n = 0) ∨ ∃ f : Nat → Option Nat, 0 < n ∧ n ≤ Mx ∧ G ea = some ((2, 14, j), .inl (κ.2.1 2, zQ n f)) ∧ (∀ i, i < n → f i = some (es i)) ∧ ∀ i, i < n → zObj G (es i)) (hMx : n + n / 2 + 1 ≤ Mx ∧ 10 ≤ Mx ∧ Mx < 2000) : Ct l yJx4a65c_grow_d5877 cJx4a65c_grow_d5877 1 (some (FieldType.array (FieldType.object "java/lang/Object"))) (rmK 4 1 Mx 127) κ [.ref la] G (pA (fun v G2 => ∃ (q cap : Nat) (f : Nat → Option Nat), v = some q ∧ G2 la = some ((2, 13, j), .inr (0, [.int mc, .ref q, .int (nI n)])) ∧ n < cap ∧ cap ≤ Mx ∧ G2 q = some ((2, 14, j), .inl (κ.2.1 2, zQ cap f)) ∧ (∀ i, i < n → f i = some (es i)) ∧ zFL j G G2)) := by
  refine CtF.of (by decide +kernel) (fun v hv => by
    simp only [List.mem_cons, List.mem_nil_iff, or_false, List.not_mem_nil] at hv
    rcases hv with rfl <;> rfl) (Nat.le_of_ble_eq_true rfl) ?_
  intro p e s m args below meth cC
  refine z_L (L' := [some (.ref la)]) rfl ?_
  generalize hQx : MQ below (zQc κ _) args s _ _ (zA κ) = Qx
  refine z_al0 (pc := 0) dJx4a65c_grow_d5877_0 ?_
  refine z_al0 (pc := 1) dJx4a65c_grow_d5877_1 ?_
  refine z_get (pc := 2) 2 hG rfl iw_J (by decide) kw_107 rfl dJx4a65c_grow_d5877_2 ?_
  refine z_iconst (pc := 5) (1) (by decide) dJx4a65c_grow_d5877_5 ?_
  refine z_iadd (pc := 6) dJx4a65c_grow_d5877_6 ?_
  rw [nI_1]
  refine z_callVa (pc := 7) _ (c_jGrow1 l j la Mx n hG hL hMx) rfl hG rfl rfl kw_241 zc_Jx4a65c_grow_92f84 ⟨Nat.le_of_ble_eq_true rfl, Nat.le_of_ble_eq_true rfl, Nat.le_of_ble_eq_true rfl, Nat.le_of_eq (Nat.zero_add _)⟩ rfl (Nat.le_of_ble_eq_true rfl) dJx4a65c_grow_d5877_7 (fun v G2 hv => ?_)
  rw [← hQx]
  refine z_aret (pc := 10) _ rfl rfl (Or.inr ⟨_, rfl⟩) ⟨Nat.le_of_ble_eq_true rfl, Nat.le_of_eq (Nat.zero_add _)⟩ dJx4a65c_grow_d5877_10 (⟨_, rfl, hv⟩)
def zup (es : Nat → Nat) (n x : Nat) : Nat → Nat := fun i => if i = n then x else es i
theorem zup_s {es : Nat → Nat} {n x : Nat} : zup es n x n = x := if_pos rfl
theorem zup_n {es : Nat → Nat} {n x i : Nat} (h : i ≠ n) : zup es n x i = es i := if_neg h
theorem zup_f {es : Nat → Nat} {n x : Nat} {f : Nat → Option Nat} (h : ∀ i, i < n → f i = some (es i)) : ∀ i, i < n + 1 → va_up f n (some x) i = some (zup es n x i) := fun i hi => by
  unfold va_up zup
  by_cases h2 : i = n
  · rw [if_pos h2, if_pos h2]
  · rw [if_neg h2, if_neg h2]; exact h i (by omega)
set_option maxRecDepth 100000 in
set_option maxHeartbeats 400000 in
theorem c_jAdd3 (l : Launch) {κ : zK} {G : zH} {es : Nat → Nat} (j la Mx n x : Nat) {mc : Int32} {ea : Nat} (hG : G la = some ((2, 13, j), .inr (0, [.int mc, .ref ea, .int (nI n)]))) (hL : (ea = κ.2.2 1 ∧ n = 0) ∨ ∃ (cap : Nat) (f : Nat → Option Nat), n ≤ cap ∧ 0 < cap ∧ cap ≤ Mx ∧ G ea = some ((2, 14, j), .inl (κ.2.1 2, zQ cap f)) ∧ ∀ i, i < n → f i = some (es i)) (hob : ∀ i, i < n → zObj G (es i)) (hx : zObj G x) (hMx : n + n / 2 + 1 ≤ Mx ∧ 10 ≤ Mx ∧ Mx < 2000) : Ct l yJx4a65c_add_72be8 cJx4a65c_add_72be8 4 none (rmK 5 1 Mx 147) κ [.ref la, .ref x, .ref ea, .int (nI n)] G (pV (fun G2 => zLs κ G2 j la Mx (n + 1) (zup es n x) ∧ zFL j G G2)) := by
  refine CtF.of (by decide +kernel) (fun v hv => by
    simp only [List.mem_cons, List.mem_nil_iff, or_false, List.not_mem_nil] at hv
    rcases hv with rfl | rfl | rfl | rfl <;> rfl) (Nat.le_of_ble_eq_true rfl) ?_
  intro p e s m args below meth cC
  refine z_L (L' := [some (.ref la), some (.ref x), some (.ref ea), some (.int (nI n))]) rfl ?_
  generalize hQx : MQ below (zQc κ _) args s _ _ (zA κ) = Qx
  rcases hL with ⟨rfl, rfl⟩ | ⟨cap, f, hn1, hc0, hcM, hA, hes⟩
  · refine z_il3 (pc := 0) dJx4a65c_add_72be8_0 ?_
    refine z_al2 (pc := 1) dJx4a65c_add_72be8_1 ?_
    refine z_tlen (pc := 2) (v := 0) (fun h => h.2.1) rfl dJx4a65c_add_72be8_2 ?_
    refine z_icmp_ne (pc := 3) 11 dJx4a65c_add_72be8_3 rfl (fun c3 => absurd (rfl) c3) (fun c3 => ?_)
    refine z_al0 (pc := 6) dJx4a65c_add_72be8_6 ?_
    refine z_callVa (pc := 7) _ (c_jGrow0 l j la Mx 0 (es := es) hG (Or.inl ⟨rfl, rfl⟩) hMx) rfl hG rfl rfl kw_237 zc_Jx4a65c_grow_d5877 ⟨Nat.le_of_ble_eq_true rfl, Nat.le_of_ble_eq_true rfl, Nat.le_of_ble_eq_true rfl, Nat.le_of_eq (Nat.zero_add _)⟩ rfl (Nat.le_of_ble_eq_true rfl) dJx4a65c_add_72be8_7 (fun v G3 hv => ?_)
    obtain ⟨q3, cap2, f3, rfl, h3, hlt3, hcap3, hA3, hes3, hF3⟩ := hv
    refine z_as2 (pc := 10) dJx4a65c_add_72be8_10 (by decide) ?_
    refine z_al2 (pc := 11) dJx4a65c_add_72be8_11 ?_
    refine z_il3 (pc := 12) dJx4a65c_add_72be8_12 ?_
    refine z_al1 (pc := 13) dJx4a65c_add_72be8_13 ?_
    obtain ⟨rx, ci, xs, vc, gx1, gx2, gx3, -, -⟩ := (hx.keep hF3)
    refine z_aastq (pc := 14) 0 hA3 gx1 gx2 gx3 rfl (by omega) (by omega) dJx4a65c_add_72be8_14 (fun G4 h4 hF4 => ?_)
    refine z_al0 (pc := 15) dJx4a65c_add_72be8_15 ?_
    refine z_il3 (pc := 16) dJx4a65c_add_72be8_16 ?_
    refine z_iconst (pc := 17) (1) (by decide) dJx4a65c_add_72be8_17 ?_
    refine z_iadd (pc := 18) dJx4a65c_add_72be8_18 ?_
    rw [nI_1]
    refine z_putg (pc := 19) 2 (hF4.1 _ _ _ (fun h => by cases h) h3) rfl iw_J tyJx4a65c tyJx4a65c_ok nmJx4a65c (by decide) kw_107 rfl rfl rfl rfl (Nat.le_of_ble_eq_true rfl) dJx4a65c_add_72be8_19 (fun G5 h5 hF5 => ?_)
    rw [← hQx]
    refine z_vret (pc := 22) rfl ⟨Nat.le_of_ble_eq_true rfl, Nat.le_of_eq (Nat.zero_add _)⟩ dJx4a65c_add_72be8_22 (⟨rfl, ⟨mc, _, h5, Or.inr ⟨cap2, _, by omega, by omega, by omega, hF5.1 _ _ _ (fun h => by cases h) h4, zup_f hes3⟩⟩, hF3.trans ((hF4.mono (fun _ h => Or.inr h)).trans (hF5.mono (fun _ h => Or.inl h)))⟩)
  · by_cases hlt : n = cap
    · subst hlt
      skip
      refine z_il3 (pc := 0) dJx4a65c_add_72be8_0 ?_
      refine z_al2 (pc := 1) dJx4a65c_add_72be8_1 ?_
      refine z_alen (pc := 2) (v := nI n) 2 hA rfl rfl dJx4a65c_add_72be8_2 ?_
      refine z_icmp_ne (pc := 3) 11 dJx4a65c_add_72be8_3 rfl (fun c3 => absurd (rfl) c3) (fun c3 => ?_)
      refine z_al0 (pc := 6) dJx4a65c_add_72be8_6 ?_
      refine z_callVa (pc := 7) _ (c_jGrow0 l j la Mx n hG (Or.inr ⟨f, by omega, by omega, hA, hes, hob⟩) hMx) rfl hG rfl rfl kw_237 zc_Jx4a65c_grow_d5877 ⟨Nat.le_of_ble_eq_true rfl, Nat.le_of_ble_eq_true rfl, Nat.le_of_ble_eq_true rfl, Nat.le_of_eq (Nat.zero_add _)⟩ rfl (Nat.le_of_ble_eq_true rfl) dJx4a65c_add_72be8_7 (fun v G3 hv => ?_)
      obtain ⟨q3, cap2, f3, rfl, h3, hlt3, hcap3, hA3, hes3, hF3⟩ := hv
      refine z_as2 (pc := 10) dJx4a65c_add_72be8_10 (by decide) ?_
      refine z_al2 (pc := 11) dJx4a65c_add_72be8_11 ?_
      refine z_il3 (pc := 12) dJx4a65c_add_72be8_12 ?_
      refine z_al1 (pc := 13) dJx4a65c_add_72be8_13 ?_
      obtain ⟨rx, ci, xs, vc, gx1, gx2, gx3, -, -⟩ := (hx.keep hF3)
      refine z_aastq (pc := 14) n hA3 gx1 gx2 gx3 rfl (by omega) (by omega) dJx4a65c_add_72be8_14 (fun G4 h4 hF4 => ?_)
      refine z_al0 (pc := 15) dJx4a65c_add_72be8_15 ?_
      refine z_il3 (pc := 16) dJx4a65c_add_72be8_16 ?_
      refine z_iconst (pc := 17) (1) (by decide) dJx4a65c_add_72be8_17 ?_
      refine z_iadd (pc := 18) dJx4a65c_add_72be8_18 ?_
      rw [nI_1]
      refine z_putg (pc := 19) 2 (hF4.1 _ _ _ (fun h => by cases h) h3) rfl iw_J tyJx4a65c tyJx4a65c_ok nmJx4a65c (by decide) kw_107 rfl rfl rfl rfl (Nat.le_of_ble_eq_true rfl) dJx4a65c_add_72be8_19 (fun G5 h5 hF5 => ?_)
      rw [← hQx]
      refine z_vret (pc := 22) rfl ⟨Nat.le_of_ble_eq_true rfl, Nat.le_of_eq (Nat.zero_add _)⟩ dJx4a65c_add_72be8_22 (⟨rfl, ⟨mc, _, h5, Or.inr ⟨cap2, _, by omega, by omega, by omega, hF5.1 _ _ _ (fun h => by cases h) h4, zup_f hes3⟩⟩, hF3.trans ((hF4.mono (fun _ h => Or.inr h)).trans (hF5.mono (fun _ h => Or.inl h)))⟩)
    · skip
      refine z_il3 (pc := 0) dJx4a65c_add_72be8_0 ?_
      refine z_al2 (pc := 1) dJx4a65c_add_72be8_1 ?_
      refine z_alen (pc := 2) (v := nI cap) 2 hA rfl rfl dJx4a65c_add_72be8_2 ?_
      refine z_icmp_ne (pc := 3) 11 dJx4a65c_add_72be8_3 rfl (fun c3 => ?_) (fun c3 => absurd c3 (fun q => hlt ((nI_eq (by omega) (by omega)).mp q)))
      refine z_al2 (pc := 11) dJx4a65c_add_72be8_11 ?_
      refine z_il3 (pc := 12) dJx4a65c_add_72be8_12 ?_
      refine z_al1 (pc := 13) dJx4a65c_add_72be8_13 ?_
      obtain ⟨rx, ci, xs, vc, gx1, gx2, gx3, -, -⟩ := hx
      refine z_aastq (pc := 14) n hA gx1 gx2 gx3 rfl (by omega) (by omega) dJx4a65c_add_72be8_14 (fun G4 h4 hF4 => ?_)
      refine z_al0 (pc := 15) dJx4a65c_add_72be8_15 ?_
      refine z_il3 (pc := 16) dJx4a65c_add_72be8_16 ?_
      refine z_iconst (pc := 17) (1) (by decide) dJx4a65c_add_72be8_17 ?_
      refine z_iadd (pc := 18) dJx4a65c_add_72be8_18 ?_
      rw [nI_1]
      refine z_putg (pc := 19) 2 (hF4.1 _ _ _ (fun h => by cases h) hG) rfl iw_J tyJx4a65c tyJx4a65c_ok nmJx4a65c (by decide) kw_107 rfl rfl rfl rfl (Nat.le_of_ble_eq_true rfl) dJx4a65c_add_72be8_19 (fun G5 h5 hF5 => ?_)
      rw [← hQx]
      refine z_vret (pc := 22) rfl ⟨Nat.zero_le _, Nat.zero_le _⟩ dJx4a65c_add_72be8_22 (⟨rfl, ⟨mc, _, h5, Or.inr ⟨cap, _, by omega, by omega, by omega, hF5.1 _ _ _ (fun h => by cases h) h4, zup_f hes⟩⟩, (hF4.mono (fun _ h => Or.inr h)).trans (hF5.mono (fun _ h => Or.inl h))⟩)
set_option maxRecDepth 100000 in
set_option maxHeartbeats 400000 in
theorem c_jAdd (l : Launch) {κ : zK} {G : zH} {es : Nat → Nat} (j la Mx n x : Nat) (hL : zLs κ G j la Mx n es) (hob : ∀ i, i < n → zObj G (es i)) (hx : zObj G x) (hMx : n + n / 2 + 1 ≤ Mx ∧ 10 ≤ Mx ∧ Mx < 2000) : Ct l yJx4a65c_add_9ea2d cJx4a65c_add_9ea2d 2 (some FieldType.boolean) (rmK 6 1 Mx 170) κ [.ref la, .ref x] G (pI (fun v G2 => v = 1 ∧ zLs κ G2 j la Mx (n + 1) (zup es n x) ∧ zFL j G G2)) := by
  refine CtF.of (by decide +kernel) (fun v hv => by
    simp only [List.mem_cons, List.mem_nil_iff, or_false, List.not_mem_nil] at hv
    rcases hv with rfl | rfl <;> rfl) (Nat.le_of_ble_eq_true rfl) ?_
  intro p e s m args below meth cC
  refine z_L (L' := [some (.ref la), some (.ref x)]) rfl ?_
  generalize hQx : MQ below (zQc κ _) args s _ _ (zA κ) = Qx
  obtain ⟨mc, ea, hG, hL⟩ := hL
  refine z_al0 (pc := 0) dJx4a65c_add_9ea2d_0 ?_
  refine z_dup (pc := 1) rfl dJx4a65c_add_9ea2d_1 ?_
  refine z_getS (pc := 2) 0 hG rfl iw_J (by decide) kw_109 kw_110 rfl dJx4a65c_add_9ea2d_2 ?_
  refine z_iconst (pc := 5) (1) (by decide) dJx4a65c_add_9ea2d_5 ?_
  refine z_iadd (pc := 6) dJx4a65c_add_9ea2d_6 ?_
  refine z_wk (Nat.le_refl _) (Nat.le_refl _) ?_
  refine z_putS (pc := 7) 0 hG rfl iw_J tyJx4a65c tyJx4a65c_ok nmJx4a65c (by decide) kw_109 kw_110 rfl rfl rfl rfl (Nat.le_of_ble_eq_true rfl) dJx4a65c_add_9ea2d_7 (fun G6 h6 hF6 => ?_)
  have hE : ∀ z, z = 0 → True := fun _ _ => trivial
  clear hE
  replace hG := h6
  refine z_al0 (pc := 10) dJx4a65c_add_9ea2d_10 ?_
  refine z_al1 (pc := 11) dJx4a65c_add_9ea2d_11 ?_
  refine z_al0 (pc := 12) dJx4a65c_add_9ea2d_12 ?_
  refine z_get (pc := 13) 1 hG rfl iw_J (by decide) kw_106 rfl dJx4a65c_add_9ea2d_13 ?_
  refine z_al0 (pc := 16) dJx4a65c_add_9ea2d_16 ?_
  refine z_get (pc := 17) 2 hG rfl iw_J (by decide) kw_107 rfl dJx4a65c_add_9ea2d_17 ?_
  refine z_callVv (pc := 20) _ (c_jAdd3 l j la Mx n x hG (hL.imp id (fun ⟨cap, f, a1, a2, a3, a4, a5⟩ => ⟨cap, f, a1, a2, a3, hF6.1 _ _ _ (fun h => by cases h) a4, a5⟩)) (fun i hi => (hob i hi).keep (hF6.mono (fun _ h => Or.inl h))) (hx.keep (hF6.mono (fun _ h => Or.inl h))) hMx) rfl hG rfl rfl kw_233 zc_Jx4a65c_add_72be8 ⟨Nat.le_of_ble_eq_true rfl, Nat.le_of_ble_eq_true rfl, Nat.le_of_ble_eq_true rfl, Nat.le_of_eq (Nat.zero_add _)⟩ rfl (Nat.le_of_ble_eq_true rfl) dJx4a65c_add_9ea2d_20 (fun G2 hv => ?_)
  refine z_iconst (pc := 23) (1) (by decide) dJx4a65c_add_9ea2d_23 ?_
  rw [← hQx]
  refine z_zret (pc := 24) rfl rfl ⟨Nat.le_of_ble_eq_true rfl, Nat.le_of_eq (Nat.zero_add _)⟩ dJx4a65c_add_9ea2d_24 (⟨1, rfl, rfl, hv.1, (hF6.mono (fun _ h => Or.inl h)).trans hv.2⟩)
abbrev rJx4a65c_clear_da8c8 : Room := rmK 0 0 0 0
set_option maxRecDepth 100000 in
set_option maxHeartbeats 400000 in
theorem c_jClear (l : Launch) {κ : zK} {G : zH} {es : Nat → Nat} (j la Mx n : Nat) (hL : zLs κ G j la Mx n es) (hMx : Mx < 2000) : Ct l yJx4a65c_clear_da8c8 cJx4a65c_clear_da8c8 4 none rJx4a65c_clear_da8c8 κ [.ref la] G (pV (fun G2 => zLs κ G2 j la Mx 0 es ∧ zFL j G G2)) := by
  refine CtF.of (by decide +kernel) (fun v hv => by
    simp only [List.mem_cons, List.mem_nil_iff, or_false, List.not_mem_nil] at hv
    rcases hv with rfl <;> rfl) (Nat.le_of_ble_eq_true rfl) ?_
  intro p e s m args below meth cC
  refine z_L (L' := [some (.ref la), none, none, none]) rfl ?_
  generalize hQx : MQ below (zQc κ _) args s _ _ (zA κ) = Qx
  obtain ⟨mc, ea, hG, hL⟩ := hL
  rcases hL with ⟨rfl, rfl⟩ | ⟨cap, f, hn1, hc0, hcM, hA, hes⟩
  · refine z_al0 (pc := 0) dJx4a65c_clear_da8c8_0 ?_
    refine z_dup (pc := 1) rfl dJx4a65c_clear_da8c8_1 ?_
    refine z_getS (pc := 2) 0 hG rfl iw_J (by decide) kw_109 kw_110 rfl dJx4a65c_clear_da8c8_2 ?_
    refine z_iconst (pc := 5) (1) (by decide) dJx4a65c_clear_da8c8_5 ?_
    refine z_iadd (pc := 6) dJx4a65c_clear_da8c8_6 ?_
    refine z_putS (pc := 7) 0 hG rfl iw_J tyJx4a65c tyJx4a65c_ok nmJx4a65c (by decide) kw_109 kw_110 rfl rfl rfl rfl (Nat.le_of_ble_eq_true rfl) dJx4a65c_clear_da8c8_7 (fun G6 h6 hF6 => ?_)
    replace hG := h6
    refine z_al0 (pc := 10) dJx4a65c_clear_da8c8_10 ?_
    refine z_get (pc := 11) 1 hG rfl iw_J (by decide) kw_106 rfl dJx4a65c_clear_da8c8_11 ?_
    refine z_as1 (pc := 14) dJx4a65c_clear_da8c8_14 (by decide) ?_
    refine z_al0 (pc := 15) dJx4a65c_clear_da8c8_15 ?_
    refine z_get (pc := 16) 2 hG rfl iw_J (by decide) kw_107 rfl dJx4a65c_clear_da8c8_16 ?_
    refine z_is2 (pc := 19) dJx4a65c_clear_da8c8_19 (by decide) ?_
    refine z_al0 (pc := 20) dJx4a65c_clear_da8c8_20 ?_
    refine z_iconst (pc := 21) (0) (by decide) dJx4a65c_clear_da8c8_21 ?_
    refine z_dup_x1 (pc := 22) rfl rfl dJx4a65c_clear_da8c8_22 ?_
    refine z_putg (pc := 23) 2 hG rfl iw_J tyJx4a65c tyJx4a65c_ok nmJx4a65c (by decide) kw_107 rfl rfl rfl rfl (Nat.le_of_ble_eq_true rfl) dJx4a65c_clear_da8c8_23 (fun G7 h7 hF7 => ?_)
    refine z_is3 (pc := 26) dJx4a65c_clear_da8c8_26 (by decide) ?_
    refine z_il3 (pc := 27) dJx4a65c_clear_da8c8_27 ?_
    refine z_il2 (pc := 28) dJx4a65c_clear_da8c8_28 ?_
    refine z_icmp_ge (pc := 29) 42 dJx4a65c_clear_da8c8_29 rfl (fun c29 => ?_) (fun c29 => absurd (Int32.le_refl _) c29)
    rw [← hQx]
    refine z_vret (pc := 42) rfl (by decide) dJx4a65c_clear_da8c8_42 (⟨rfl, ⟨_, _, h7, Or.inl ⟨rfl, rfl⟩⟩, (hF6.trans hF7).mono (fun _ h => Or.inl h)⟩)
  · skip
    have lp : ∀ (mc2 : Int32) (d i : Nat) (G2 : zH) (f2 : Nat → Option Nat), i + d = n → G2 la = some ((2, 13, j), .inr (0, [.int mc2, .ref ea, .int (nI 0)])) → G2 ea = some ((2, 14, j), .inl (κ.2.1 2, zQ cap f2)) → zFL j G G2 → Z p l e rJx4a65c_clear_da8c8 s m args below meth cC yJx4a65c_clear_da8c8 cJx4a65c_clear_da8c8 4 none κ Qx 0 0 G2 [some (.ref la), some (.ref ea), some (.int (nI n)), some (.int (nI i))] 27 [] := by
      intro mc2 d
      induction d with
      | zero =>
        intro i G2 f2 hi h2 hA2 hF2
        refine z_il3 (pc := 27) dJx4a65c_clear_da8c8_27 ?_
        refine z_il2 (pc := 28) dJx4a65c_clear_da8c8_28 ?_
        refine z_icmp_ge (pc := 29) 42 dJx4a65c_clear_da8c8_29 rfl (fun c29 => ?_) (fun c29 => absurd (by rw [nI_leI (by omega) (by omega)]; omega) c29)
        rw [← hQx]
        refine z_vret (pc := 42) rfl (by decide) dJx4a65c_clear_da8c8_42 (⟨rfl, ⟨mc2, ea, h2, Or.inr ⟨cap, f2, Nat.zero_le _, by omega, by omega, hA2, fun i hi => absurd hi (by omega)⟩⟩, hF2⟩)
      | succ d ih =>
        intro i G2 f2 hi h2 hA2 hF2
        refine z_il3 (pc := 27) dJx4a65c_clear_da8c8_27 ?_
        refine z_il2 (pc := 28) dJx4a65c_clear_da8c8_28 ?_
        refine z_icmp_ge (pc := 29) 42 dJx4a65c_clear_da8c8_29 rfl (fun c29 => absurd c29 (by rw [nI_leI (by omega) (by omega)]; omega)) (fun c29 => ?_)
        refine z_al1 (pc := 32) dJx4a65c_clear_da8c8_32 ?_
        refine z_il3 (pc := 33) dJx4a65c_clear_da8c8_33 ?_
        refine z_null (pc := 34) dJx4a65c_clear_da8c8_34 ?_
        refine z_aastN (pc := 35) i hA2 rfl (by omega) (by omega) dJx4a65c_clear_da8c8_35 (fun G4 h4 hF4 => ?_)
        refine z_ii3 (pc := 36) (nI (i + 1)) dJx4a65c_clear_da8c8_36 (nI_1 _) (by decide) ?_
        refine z_goto (pc := 39) 27 dJx4a65c_clear_da8c8_39 rfl ?_
        refine z_L (L' := [some (.ref la), some (.ref ea), some (.int (nI n)), some (.int (nI (i + 1)))]) rfl ?_
        exact ih (i + 1) G4 _ (by omega) (hF4.1 _ _ _ (fun h => by cases h) h2) h4 (hF2.trans (hF4.mono (fun _ h => Or.inr h)))
    refine z_al0 (pc := 0) dJx4a65c_clear_da8c8_0 ?_
    refine z_dup (pc := 1) rfl dJx4a65c_clear_da8c8_1 ?_
    refine z_getS (pc := 2) 0 hG rfl iw_J (by decide) kw_109 kw_110 rfl dJx4a65c_clear_da8c8_2 ?_
    refine z_iconst (pc := 5) (1) (by decide) dJx4a65c_clear_da8c8_5 ?_
    refine z_iadd (pc := 6) dJx4a65c_clear_da8c8_6 ?_
    refine z_putS (pc := 7) 0 hG rfl iw_J tyJx4a65c tyJx4a65c_ok nmJx4a65c (by decide) kw_109 kw_110 rfl rfl rfl rfl (Nat.le_of_ble_eq_true rfl) dJx4a65c_clear_da8c8_7 (fun G6 h6 hF6 => ?_)
    replace hG := h6
    refine z_al0 (pc := 10) dJx4a65c_clear_da8c8_10 ?_
    refine z_get (pc := 11) 1 hG rfl iw_J (by decide) kw_106 rfl dJx4a65c_clear_da8c8_11 ?_
    refine z_as1 (pc := 14) dJx4a65c_clear_da8c8_14 (by decide) ?_
    refine z_al0 (pc := 15) dJx4a65c_clear_da8c8_15 ?_
    refine z_get (pc := 16) 2 hG rfl iw_J (by decide) kw_107 rfl dJx4a65c_clear_da8c8_16 ?_
    refine z_is2 (pc := 19) dJx4a65c_clear_da8c8_19 (by decide) ?_
    refine z_al0 (pc := 20) dJx4a65c_clear_da8c8_20 ?_
    refine z_iconst (pc := 21) (0) (by decide) dJx4a65c_clear_da8c8_21 ?_
    refine z_dup_x1 (pc := 22) rfl rfl dJx4a65c_clear_da8c8_22 ?_
    refine z_putg (pc := 23) 2 hG rfl iw_J tyJx4a65c tyJx4a65c_ok nmJx4a65c (by decide) kw_107 rfl rfl rfl rfl (Nat.le_of_ble_eq_true rfl) dJx4a65c_clear_da8c8_23 (fun G7 h7 hF7 => ?_)
    refine z_is3 (pc := 26) dJx4a65c_clear_da8c8_26 (by decide) ?_
    refine z_L (L' := [some (.ref la), some (.ref ea), some (.int (nI n)), some (.int (nI 0))]) rfl ?_
    exact lp _ n 0 G7 f (by omega) h7 (hF7.1 _ _ _ (fun h => by cases h) (hF6.1 _ _ _ (fun h => by cases h) hA)) ((hF6.trans hF7).mono (fun _ h => Or.inl h))
abbrev rJxa1e45_init_da8c8 : Room := rmK 1 0 0 20
set_option maxRecDepth 100000 in
set_option maxHeartbeats 400000 in
theorem c_jInitC (l : Launch) {κ : zK} {G : zH} (j la : Nat) (hG : G la = some ((2, 13, j), .inr (0, [.int 0, .null, .int 0]))) : Ct l yJxa1e45_init_da8c8 cJxa1e45_init_da8c8 1 none rJxa1e45_init_da8c8 κ [.ref la] G (pV (fun G2 => G2 = G)) := by
  refine CtF.of (by decide +kernel) (fun v hv => by
    simp only [List.mem_cons, List.mem_nil_iff, or_false, List.not_mem_nil] at hv
    rcases hv with rfl <;> rfl) (Nat.le_of_ble_eq_true rfl) ?_
  intro p e s m args below meth cC
  refine z_L (L' := [some (.ref la)]) rfl ?_
  generalize hQx : MQ below (zQc κ _) args s _ _ (zA κ) = Qx
  refine z_al0 (pc := 0) dJxa1e45_init_da8c8_0 ?_
  refine z_objInit (pc := 1) kw_103 kw_29 kw_30 (Nat.le_of_ble_eq_true rfl |> fun h => ⟨h, Nat.le_of_ble_eq_true rfl⟩) dJxa1e45_init_da8c8_1 ?_
  rw [← hQx]
  refine z_vret (pc := 4) rfl (by decide) dJxa1e45_init_da8c8_4 (⟨rfl, rfl⟩)
abbrev rJxc12de_init_da8c8 : Room := rmK 2 0 0 40
set_option maxRecDepth 100000 in
set_option maxHeartbeats 400000 in
theorem c_jInitL (l : Launch) {κ : zK} {G : zH} (j la : Nat) (hG : G la = some ((2, 13, j), .inr (0, [.int 0, .null, .int 0]))) : Ct l yJxc12de_init_da8c8 cJxc12de_init_da8c8 1 none rJxc12de_init_da8c8 κ [.ref la] G (pV (fun G2 => G2 la = some ((2, 13, j), .inr (0, [.int 0, .null, .int 0])) ∧ zFL j G G2)) := by
  refine CtF.of (by decide +kernel) (fun v hv => by
    simp only [List.mem_cons, List.mem_nil_iff, or_false, List.not_mem_nil] at hv
    rcases hv with rfl <;> rfl) (Nat.le_of_ble_eq_true rfl) ?_
  intro p e s m args below meth cC
  refine z_L (L' := [some (.ref la)]) rfl ?_
  generalize hQx : MQ below (zQc κ _) args s _ _ (zA κ) = Qx
  refine z_al0 (pc := 0) dJxc12de_init_da8c8_0 ?_
  refine z_callIv (pc := 1) _ (c_jInitC l j la hG) rfl kw_100 zc_Jxa1e45_init_da8c8 (by decide) rfl (Nat.le_of_ble_eq_true rfl) dJxc12de_init_da8c8_1 (fun G2 hv => ?_)
  subst hv
  refine z_al0 (pc := 4) dJxc12de_init_da8c8_4 ?_
  refine z_iconst (pc := 5) (0) (by decide) dJxc12de_init_da8c8_5 ?_
  refine z_putg (pc := 6) 0 hG rfl iw_J tyJx4a65c tyJx4a65c_ok nmJx4a65c (by decide) kw_108 rfl rfl rfl rfl (Nat.le_of_ble_eq_true rfl) dJxc12de_init_da8c8_6 (fun G3 h3 hF3 => ?_)
  rw [← hQx]
  refine z_vret (pc := 9) rfl (by decide) dJxc12de_init_da8c8_9 (⟨rfl, h3, hF3.mono (fun _ h => Or.inl h)⟩)
abbrev rJx4a65c_init_da8c8 : Room := rmK 3 0 0 60
set_option maxRecDepth 100000 in
set_option maxHeartbeats 400000 in
theorem c_jInit (l : Launch) {κ : zK} {G : zH} (j la : Nat) (Mx : Nat) (es : Nat → Nat) (hG : G la = some ((2, 13, j), .inr (0, [.int 0, .null, .int 0]))) : Ct l yJx4a65c_init_da8c8 cJx4a65c_init_da8c8 1 none rJx4a65c_init_da8c8 κ [.ref la] G (pV (fun G2 => zLs κ G2 j la Mx 0 es ∧ zFL j G G2)) := by
  refine CtF.of (by decide +kernel) (fun v hv => by
    simp only [List.mem_cons, List.mem_nil_iff, or_false, List.not_mem_nil] at hv
    rcases hv with rfl <;> rfl) (Nat.le_of_ble_eq_true rfl) ?_
  intro p e s m args below meth cC
  refine z_L (L' := [some (.ref la)]) rfl ?_
  generalize hQx : MQ below (zQc κ _) args s _ _ (zA κ) = Qx
  refine z_al0 (pc := 0) dJx4a65c_init_da8c8_0 ?_
  refine z_callIv (pc := 1) _ (c_jInitL l j la hG) rfl kw_97 zc_Jxc12de_init_da8c8 (by decide) rfl (Nat.le_of_ble_eq_true rfl) dJx4a65c_init_da8c8_1 (fun G2 hv => ?_)
  refine z_al0 (pc := 4) dJx4a65c_init_da8c8_4 ?_
  refine z_gets (pc := 5) (ref := "") (fun h => h.1) kw_104 dJx4a65c_init_da8c8_5 ?_
  refine z_putg (pc := 8) 1 hv.1 rfl iw_J tyJx4a65c tyJx4a65c_ok nmJx4a65c (by decide) kw_106 rfl rfl rfl rfl (Nat.le_of_ble_eq_true rfl) dJx4a65c_init_da8c8_8 (fun G3 h3 hF3 => ?_)
  rw [← hQx]
  refine z_vret (pc := 11) rfl (by decide) dJx4a65c_init_da8c8_11 (⟨rfl, ⟨_, _, h3, Or.inl ⟨rfl, rfl⟩⟩, hv.2.trans (hF3.mono (fun _ h => Or.inl h))⟩)
