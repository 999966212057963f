/-! lists: the list object and its array, by the list's number j -/
abbrev zFL (j : Nat) : zH → zH → Prop := zFP (fun r => r = (2, 13, j) ∨ r = (2, 14, j))
def LS (κ : zK) (G : zH) (j la Mx n : Nat) (es : Nat → Nat) : Prop := ∃ (mc : Int32) (ea : Nat), G la = some ((2, 13, j), .inr (0, [.int mc, .ref ea, .int (nI n)])) ∧ ((ea = κ.2.2 1 ∧ n = 0) ∨ ∃ (cap : Nat) (f : Nat → Option Nat), n ≤ cap ∧ 0 < cap ∧ cap ≤ Mx ∧ G ea = some ((2, 14, j), .inl (κ.2.1 2, zQ cap f)) ∧ ∀ i, i < n → f i = some (es i))
/-- objects that a list may hold -/
def zObj (G : zH) (x : Nat) : Prop := ∃ (rx : zR) (ci : Nat) (xs : List Value) (vc : vw_C), G x = some (rx, .inr (ci, xs)) ∧ vwCl[ci]? = some vc ∧ Cond.castable vc.1 "java/lang/Object" ∈ NB ∧ rx.2.1 ≠ 13 ∧ rx.2.1 ≠ 14
theorem LS.keep {κ : zK} {G G2 : zH} {j la Mx n : Nat} {es : Nat → Nat} {P : zR → Prop} (h : LS κ G j la Mx n es) (hF : zFP P G G2) (h1 : ¬ P (2, 13, j)) (h2 : ¬ P (2, 14, j)) : LS κ G2 j la Mx n es := by
  obtain ⟨mc, ea, g1, g2⟩ := h
  refine ⟨mc, ea, hF.1 _ _ _ h1 g1, g2.imp id (fun ⟨cap, f, a1, a2, a3, a4, a5⟩ => ⟨cap, f, a1, a2, a3, hF.1 _ _ _ h2 a4, a5⟩)⟩
theorem LS.congr {κ : zK} {G : zH} {j la Mx n : Nat} {es es2 : Nat → Nat} (h : LS κ G j la Mx n es) (he : ∀ i, i < n → es i = es2 i) : LS κ G j la Mx n es2 := by
  obtain ⟨mc, ea, g1, g2⟩ := h
  exact ⟨mc, ea, g1, g2.imp id (fun ⟨cap, f, a1, a2, a3, a4, a5⟩ => ⟨cap, f, a1, a2, a3, a4, fun i hi => by rw [a5 i hi, he i hi]⟩)⟩
theorem zObj.keep {G G2 : zH} {x j : Nat} (h : zObj G x) (hF : zFL j G G2) : zObj G2 x := by
  obtain ⟨rx, ci, xs, vc, g1, g2, g3, g4, g5⟩ := h
  exact ⟨rx, ci, xs, vc, hF.1 _ _ _ (fun q => by rcases q with rfl | rfl; exact g4 rfl; exact g5 rfl) g1, g2, g3, g4, g5⟩
abbrev rJ3_checkIndex_8e157 : Room := rmK 0 0 0 0
set_option maxRecDepth 100000 in
set_option maxHeartbeats 400000 in
theorem c_jCheck3 (l : Launch) {κ : zK} {G : zH} (i n : Nat) (hi : i < n) (hn : n < 2 ^ 31) : Ct l yJ3_checkIndex_8e157 cJ3_checkIndex_8e157 3 (some FieldType.int) rJ3_checkIndex_8e157 κ [.int (nI i), .int (nI n), .null] G (zP (nI i) G) := by
  refine CtF.of (by decide +kernel) (fun v hv => by
    simp only [List.mem_cons, List.mem_nil_iff, or_false, List.not_mem_nil] at hv
    rcases hv with rfl | rfl | rfl <;> rfl) (Nat.le_of_ble_eq_true rfl) ?_
  intro p e s m args below meth cC
  refine z_L (L' := [some (.int (nI i)), some (.int (nI n)), some (.null)]) rfl ?_
  generalize hQx : MQ below (zQc κ _) args s _ _ (zA κ) = Qx
  refine z_il0 (pc := 0) dJ3_checkIndex_8e157_0 ?_
  refine z_if_lt (pc := 1) 9 dJ3_checkIndex_8e157_1 rfl (fun c1 => absurd c1 (nI_pos (by omega))) (fun c1 => ?_)
  refine z_il0 (pc := 4) dJ3_checkIndex_8e157_4 ?_
  refine z_il1 (pc := 5) dJ3_checkIndex_8e157_5 ?_
  refine z_icmp_lt (pc := 6) 16 dJ3_checkIndex_8e157_6 rfl (fun c6 => ?_) (fun c6 => absurd (nI_lt hi hn) c6)
  refine z_il0 (pc := 16) dJ3_checkIndex_8e157_16 ?_
  rw [← hQx]
  refine z_iret (pc := 17) rfl (by decide) dJ3_checkIndex_8e157_17 (⟨_, rfl, rfl, rfl⟩)
abbrev rJ15_checkIndex_7cf53 : Room := rmK 1 0 0 22
set_option maxRecDepth 100000 in
set_option maxHeartbeats 400000 in
theorem c_jCheck2 (l : Launch) {κ : zK} {G : zH} (i n : Nat) (hi : i < n) (hn : n < 2 ^ 31) : Ct l yJ15_checkIndex_7cf53 cJ15_checkIndex_7cf53 2 (some FieldType.int) rJ15_checkIndex_7cf53 κ [.int (nI i), .int (nI n)] G (zP (nI i) G) := by
  refine CtF.of (by decide +kernel) (fun v hv => by
    simp only [List.mem_cons, List.mem_nil_iff, or_false, List.not_mem_nil] at hv
    rcases hv with rfl | rfl <;> rfl) (Nat.le_of_ble_eq_true rfl) ?_
  intro p e s m args below meth cC
  refine z_L (L' := [some (.int (nI i)), some (.int (nI n))]) rfl ?_
  generalize hQx : MQ below (zQc κ _) args s _ _ (zA κ) = Qx
  refine z_il0 (pc := 0) dJ15_checkIndex_7cf53_0 ?_
  refine z_il1 (pc := 1) dJ15_checkIndex_7cf53_1 ?_
  refine z_null (pc := 2) dJ15_checkIndex_7cf53_2 ?_
  refine z_callSr (pc := 3) (c_jCheck3 l i n hi hn) kw_302 zc_J3_checkIndex_8e157 (by decide) (by decide) rfl (Nat.le_of_ble_eq_true rfl) dJ15_checkIndex_7cf53_3 ?_
  rw [← hQx]
  refine z_iret (pc := 6) rfl (by decide) dJ15_checkIndex_7cf53_6 (⟨_, rfl, rfl, rfl⟩)
abbrev rJx4a65c_elementData_915e3 : Room := rmK 0 0 0 0
set_option maxRecDepth 100000 in
set_option maxHeartbeats 400000 in
theorem c_jElem (l : Launch) {κ : zK} {G : zH} {es : Nat → Nat} (j la Mx n : Nat) (i : Nat) (hL : LS κ G j la Mx n es) (hi : i < n) (hMx : Mx < 2000) : Ct l yJx4a65c_elementData_915e3 cJx4a65c_elementData_915e3 2 (some (FieldType.object "java/lang/Object")) rJx4a65c_elementData_915e3 κ [.ref la, .int (nI i)] G (zPq (some (es i)) G) := by
  refine CtF.of (by decide +kernel) (fun v hv => by
    simp only [List.mem_cons, List.mem_nil_iff, or_false, List.not_mem_nil] at hv
    rcases hv with rfl | rfl <;> rfl) (Nat.le_of_ble_eq_true rfl) ?_
  intro p e s m args below meth cC
  refine z_L (L' := [some (.ref la), some (.int (nI i))]) rfl ?_
  generalize hQx : MQ below (zQc κ _) args s _ _ (zA κ) = Qx
  obtain ⟨mc, ea, hL0, hL⟩ := hL
  obtain ⟨cap, f, h1, h2, h3, h4, h5⟩ := hL.resolve_left (fun q => by omega)
  refine z_al0 (pc := 0) dJx4a65c_elementData_915e3_0 ?_
  refine z_get (pc := 1) 1 hL0 rfl iw_J (by decide) kw_106 rfl dJx4a65c_elementData_915e3_1 ?_
  refine z_il1 (pc := 4) dJx4a65c_elementData_915e3_4 ?_
  refine z_aald (pc := 5) i h4 rfl (by omega) (by omega) dJx4a65c_elementData_915e3_5 ?_
  rw [h5 i hi]
  rw [← hQx]
  refine z_aret (pc := 6) (some _) rfl rfl (Or.inl ⟨_, rfl⟩) (by decide) dJx4a65c_elementData_915e3_6 (⟨some (es i), rfl, rfl, rfl⟩)
abbrev rJx4a65c_get_915e3 : Room := rmK 2 0 0 43
set_option maxRecDepth 100000 in
set_option maxHeartbeats 400000 in
theorem c_jGet (l : Launch) {κ : zK} {G : zH} {es : Nat → Nat} (j la Mx n : Nat) (i : Nat) (hL : LS κ G j la Mx n es) (hi : i < n) (hMx : Mx < 2000) : Ct l yJx4a65c_get_915e3 cJx4a65c_get_915e3 2 (some (FieldType.object "java/lang/Object")) rJx4a65c_get_915e3 κ [.ref la, .int (nI i)] G (zPq (some (es i)) G) := by
  refine CtF.of (by decide +kernel) (fun v hv => by
    simp only [List.mem_cons, List.mem_nil_iff, or_false, List.not_mem_nil] at hv
    rcases hv with rfl | rfl <;> rfl) (Nat.le_of_ble_eq_true rfl) ?_
  intro p e s m args below meth cC
  refine z_L (L' := [some (.ref la), some (.int (nI i))]) rfl ?_
  generalize hQx : MQ below (zQc κ _) args s _ _ (zA κ) = Qx
  obtain ⟨mc, ea, hL0, hL2⟩ := id hL
  have hn2 : n ≤ Mx := by rcases hL2 with h | ⟨cap, f, h1, h2, h3, -⟩ <;> omega
  refine z_il1 (pc := 0) dJx4a65c_get_915e3_0 ?_
  refine z_al0 (pc := 1) dJx4a65c_get_915e3_1 ?_
  refine z_get (pc := 2) 2 hL0 rfl iw_J (by decide) kw_107 rfl dJx4a65c_get_915e3_2 ?_
  refine z_callSr (pc := 5) (c_jCheck2 l i n hi (by omega)) kw_299 zc_J15_checkIndex_7cf53 (by decide) (by decide) rfl (Nat.le_of_ble_eq_true rfl) dJx4a65c_get_915e3_5 ?_
  refine z_pop (pc := 8) rfl dJx4a65c_get_915e3_8 ?_
  refine z_al0 (pc := 9) dJx4a65c_get_915e3_9 ?_
  refine z_il1 (pc := 10) dJx4a65c_get_915e3_10 ?_
  refine z_callVrq (pc := 11) (c_jElem l j la Mx n i hL hi hMx) hL0 rfl rfl kw_305 zc_Jx4a65c_elementData_915e3 (by decide) (by decide) rfl (Nat.le_of_ble_eq_true rfl) dJx4a65c_get_915e3_11 ?_
  rw [← hQx]
  refine z_aret (pc := 14) (some _) rfl rfl (Or.inl ⟨_, rfl⟩) (by decide) dJx4a65c_get_915e3_14 (⟨some (es i), rfl, rfl, rfl⟩)
abbrev rJx4a65c_size_8abf5 : Room := rmK 0 0 0 0
set_option maxRecDepth 100000 in
set_option maxHeartbeats 400000 in
theorem c_jSize (l : Launch) {κ : zK} {G : zH} {es : Nat → Nat} (j la Mx n : Nat) (hL : LS κ G j la Mx n es) : Ct l yJx4a65c_size_8abf5 cJx4a65c_size_8abf5 1 (some FieldType.int) rJx4a65c_size_8abf5 κ [.ref la] G (zP (nI n) G) := by
  refine CtF.of (by decide +kernel) (fun v hv => by
    simp only [List.mem_cons, List.mem_nil_iff, or_false, List.not_mem_nil] at hv
    rcases hv with rfl <;> rfl) (Nat.le_of_ble_eq_true rfl) ?_
  intro p e s m args below meth cC
  refine z_L (L' := [some (.ref la)]) rfl ?_
  generalize hQx : MQ below (zQc κ _) args s _ _ (zA κ) = Qx
  obtain ⟨mc, ea, hL0, -⟩ := hL
  refine z_al0 (pc := 0) dJx4a65c_size_8abf5_0 ?_
  refine z_get (pc := 1) 2 hL0 rfl iw_J (by decide) kw_107 rfl dJx4a65c_size_8abf5_1 ?_
  rw [← hQx]
  refine z_iret (pc := 4) rfl (by decide) dJx4a65c_size_8abf5_4 (⟨_, rfl, rfl, rfl⟩)
abbrev rJ8_newLength_cabcc : Room := rmK 1 0 0 21
set_option maxRecDepth 100000 in
set_option maxHeartbeats 400000 in
theorem c_jNewLen (l : Launch) {κ : zK} {G : zH} (n : Nat) (hn : n < 2000) : Ct l yJ8_newLength_cabcc cJ8_newLength_cabcc 4 (some FieldType.int) rJ8_newLength_cabcc κ [.int (nI n), .int (nI 1), .int (nI (n / 2))] G (zP (nI (n + max 1 (n / 2))) G) := by
  refine CtF.of (by decide +kernel) (fun v hv => by
    simp only [List.mem_cons, List.mem_nil_iff, or_false, List.not_mem_nil] at hv
    rcases hv with rfl | rfl | rfl <;> rfl) (Nat.le_of_ble_eq_true rfl) ?_
  intro p e s m args below meth cC
  refine z_L (L' := [some (.int (nI n)), some (.int (nI 1)), some (.int (nI (n / 2))), none]) rfl ?_
  generalize hQx : MQ below (zQc κ _) args s _ _ (zA κ) = Qx
  refine z_il0 (pc := 0) dJ8_newLength_cabcc_0 ?_
  refine z_il1 (pc := 1) dJ8_newLength_cabcc_1 ?_
  refine z_il2 (pc := 2) dJ8_newLength_cabcc_2 ?_
  refine z_mmax (pc := 3) kw_248 kw_249 kw_12 kw_250 (by decide) (Nat.le_of_ble_eq_true rfl) dJ8_newLength_cabcc_3 ?_
  rw [show (if nI 1 < nI (n / 2) then nI (n / 2) else nI 1) = nI (max 1 (n / 2)) from by
    split
    · rename_i e; rw [nI_ltI (by omega) (by omega)] at e; rw [Nat.max_eq_right (by omega)]
    · rename_i e; rw [nI_ltI (by omega) (by omega)] at e; rw [Nat.max_eq_left (by omega)]]
  refine z_iadd (pc := 6) dJ8_newLength_cabcc_6 ?_
  rw [nI_add]
  refine z_is3 (pc := 7) dJ8_newLength_cabcc_7 (by decide) ?_
  refine z_iconst (pc := 8) (0) (by decide) dJ8_newLength_cabcc_8 ?_
  refine z_il3 (pc := 9) dJ8_newLength_cabcc_9 ?_
  refine z_icmp_ge (pc := 10) 21 dJ8_newLength_cabcc_10 rfl (fun c10 => absurd c10 (by rw [show (0 : Int32) = nI 0 from rfl, nI_leI (by omega) (by omega)]; omega)) (fun c10 => ?_)
  refine z_il3 (pc := 13) dJ8_newLength_cabcc_13 ?_
  refine z_ldc (pc := 14) kw_251 dJ8_newLength_cabcc_14 ?_
  refine z_icmp_gt (pc := 16) 21 dJ8_newLength_cabcc_16 rfl (fun c16 => absurd c16 (by rw [show (2147483639 : Int32) = nI 2147483639 from rfl, nI_ltI (by omega) (by omega)]; omega)) (fun c16 => ?_)
  refine z_il3 (pc := 19) dJ8_newLength_cabcc_19 ?_
  rw [← hQx]
  refine z_iret (pc := 20) rfl (by decide) dJ8_newLength_cabcc_20 (⟨_, rfl, rfl, rfl⟩)
set_option maxRecDepth 100000 in
set_option maxHeartbeats 400000 in
theorem c_jCopy3 (l : Launch) {κ : zK} {G : zH} (j a0 n0 N : Nat) {r0 : zR} {f : Nat → Option Nat} (h0 : G a0 = some (r0, .inl (κ.2.1 2, zQ n0 f))) (hn : n0 ≤ N ∧ N < 2000) (hel : ∀ i : Nat, i < n0 → ∀ x : Nat, f i = some x → zObj G x) : Ct l yJ7_copyOf_6403c cJ7_copyOf_6403c 4 (some (FieldType.array (FieldType.object "java/lang/Object"))) (rmK 1 1 N 60) κ [.ref a0, .int (nI N), .ref (κ.2.2 3)] G (pA (fun v G2 => ∃ q, v = some q ∧ G q = none ∧ G2 q = some ((2, 14, j), .inl (κ.2.1 2, zQ N (va_cpy f (fun _ => none) 0 0 n0))) ∧ zFP (fun _ => False) G G2)) := by
  refine CtF.of (by decide +kernel) (fun v hv => by
    simp only [List.mem_cons, List.mem_nil_iff, or_false, List.not_mem_nil] at hv
    rcases hv with rfl | rfl | rfl <;> rfl) (Nat.le_of_ble_eq_true rfl) ?_
  intro p e s m args below meth cC
  refine z_L (L' := [some (.ref a0), some (.int (nI N)), some (.ref (κ.2.2 3)), none]) rfl ?_
  generalize hQx : MQ below (zQc κ _) args s _ _ (zA κ) = Qx
  refine z_al2 (pc := 0) dJ7_copyOf_6403c_0 ?_
  refine z_ldcM (pc := 1) kw_276 dJ7_copyOf_6403c_1 ?_
  refine z_acmp_ne (pc := 3) 13 dJ7_copyOf_6403c_3 rfl (rx := some (κ.2.2 3)) (ry := some (κ.2.2 3)) rfl rfl (fun h => absurd rfl h) (fun _ => ?_)
  refine z_il1 (pc := 6) dJ7_copyOf_6403c_6 ?_
  refine z_anew (pc := 7) (2, 14, j) N kw_278 rfl (by omega) ⟨Nat.le_refl _, by simp⟩ dJ7_copyOf_6403c_7 (fun q0 G1 hq0 _ hq hF => ?_)
  refine z_goto (pc := 10) 24 dJ7_copyOf_6403c_10 rfl ?_
  refine z_as3 (pc := 24) dJ7_copyOf_6403c_24 (by decide) ?_
  refine z_al0 (pc := 25) dJ7_copyOf_6403c_25 ?_
  refine z_iconst (pc := 26) (0) (by decide) dJ7_copyOf_6403c_26 ?_
  refine z_al3 (pc := 27) dJ7_copyOf_6403c_27 ?_
  refine z_iconst (pc := 28) (0) (by decide) dJ7_copyOf_6403c_28 ?_
  refine z_al0 (pc := 29) dJ7_copyOf_6403c_29 ?_
  refine z_alen (pc := 30) (v := nI n0) 2 (hF.1 _ _ _ (fun h => h) h0) rfl rfl dJ7_copyOf_6403c_30 ?_
  refine z_il1 (pc := 31) dJ7_copyOf_6403c_31 ?_
  refine z_mmin (pc := 32) kw_279 kw_280 kw_12 kw_281 (by decide) (Nat.le_of_ble_eq_true rfl) dJ7_copyOf_6403c_32 ?_
  rw [show (if nI N < nI n0 then nI N else nI n0) = nI n0 from if_neg (by rw [nI_ltI (by omega) (by omega)]; omega)]
  refine z_copy (pc := 35) kw_282 (hF.1 _ _ _ (fun h => h) h0) hq (by omega) (fun i hi x hx => ?_) (by decide) (Nat.le_of_ble_eq_true rfl) dJ7_copyOf_6403c_35 (fun G2 hq2 hF2 => ?_)
  · obtain ⟨rx, ci, xs, vc, g1, g2, g3, -, -⟩ := hel i hi x hx
    exact ⟨rx, ci, xs, vc, hF.1 _ _ _ (fun h => h) g1, g2, g3⟩
  replace hF : zFP (fun _ => False) G G2 := ⟨fun a r e _ ha => hF2.1 a r e (fun e0 => by
    sorry) (hF.1 a r e (fun h => h) ha), fun a ha => hF.2 a (hF2.2 a ha)⟩
  replace hq := hq2
  refine z_al3 (pc := 38) dJ7_copyOf_6403c_38 ?_
  rw [← hQx]
  refine z_aret (pc := 39) (some _) rfl rfl (Or.inr ⟨_, rfl⟩) ⟨Nat.le_refl _, by simp⟩ dJ7_copyOf_6403c_39 (⟨some q0, rfl, q0, rfl, hq0, hq, hF⟩)
