/-! what is told of columns -/
def tOf (cols : Nat) (f0 f1 f2 : Nat → Int32) (i what : Int32) : Int32 := if 0 ≤ i ∧ i < nI cols then (if what = 0 then f0 (cols - 1 - iN i) else if what = 1 then f1 (cols - 1 - iN i) else if what = 2 then f2 (cols - 1 - iN i) else -1) else -1
abbrev mtC (n n2 : Nat) (tp up f0 f1 : Nat → Int32) (k : Nat) : Prop := pAt n tp (-1) (f0 k) ≠ -1 ∧ pAt n2 up (-1) (f1 k) ≠ -1
def riC (n n2 : Nat) (tp up f0 f1 : Nat → Int32) (key : Int32) : Nat → Int32
  | 0 => 0
  | k + 1 => if mtC n n2 tp up f0 f1 k then riC n n2 tp up f0 f1 key k + (pAt n tp (-1) (f0 k) + key - pAt n2 up (-1) (f1 k)) else riC n n2 tp up f0 f1 key k
def meC (n n2 : Nat) (tp up f0 f1 : Nat → Int32) : Nat → Int32
  | 0 => 0
  | k + 1 => if mtC n n2 tp up f0 f1 k then meC n n2 tp up f0 f1 k + 1 else meC n n2 tp up f0 f1 k
theorem nI_back {a b : Nat} (h : b < a) : nI a - 1 - nI b = nI (a - 1 - b) := by
  obtain ⟨d, rfl⟩ : ∃ d, a = d + b + 1 := ⟨a - 1 - b, by omega⟩
  rw [nI_pred, show d + b + 1 - 1 - b = d by omega, ← nI_add, Int32.add_sub_cancel]
theorem w3 (v : Int32) : v = 0 ∨ v = 1 ∨ v = 2 ∨ ((v.toInt < 0 ∨ 2 < v.toInt) ∧ v ≠ 0 ∧ v ≠ 1 ∧ v ≠ 2) := by
  simp only [ne_eq, i_eq, i_0, i_n1, i_n2]
  omega
abbrev rX0_toldOf : Room := rmK 0 0 0 0
set_option maxRecDepth 100000 in
set_option maxHeartbeats 400000 in
theorem c_aTold (l : Launch) {κ : zK} {G : zH} {a x : Nat} {cols : Nat} {key : Int32} {f0 f1 f2 : Nat → Int32} {S : Nat → Nat → Int32} (i0_ what : Int32) (hA : zAL κ G a x cols key f0 f1 f2 S) : Ct l yX0_toldOf cX0_toldOf 4 (some FieldType.int) rX0_toldOf κ [.ref a, .int i0_, .int what] G (zP (tOf cols f0 f1 f2 i0_ what) G) := by
  refine Ct.of (by decide +kernel) (fun v hv => by
    simp only [List.mem_cons, List.mem_nil_iff, or_false, List.not_mem_nil] at hv
    rcases hv with rfl | rfl | rfl <;> rfl) (Nat.le_of_ble_eq_true rfl) ?_
  intro p e s m args below meth cC
  refine z_L (L' := [some (.ref a), some (.int i0_), some (.int what), none]) rfl ?_
  generalize hQx : MQ below (zQc κ _) args s _ _ (zA κ) = Qx
  obtain ⟨sa, o1, o2, o3, rw_, hG, hs, hR, h6, h7, h8, hcols⟩ := id hA
  refine z_il1 (pc := 0) dX0_toldOf_0 ?_
  refine z_if_lt (pc := 1) 12 dX0_toldOf_1 rfl (fun c1 => ?_) (fun c1 => ?_)
  · refine z_iconst (pc := 12) (-1) (by decide) dX0_toldOf_12 ?_
    rw [← hQx]
    refine z_iret (pc := 13) rfl (by decide) dX0_toldOf_13 (⟨_, rfl, (if_neg (fun h => absurd h.1 (Int32.not_le.mpr c1))).symm, rfl⟩)
  · refine z_il1 (pc := 4) dX0_toldOf_4 ?_
    refine z_al0 (pc := 5) dX0_toldOf_5 ?_
    refine z_get (pc := 6) 5 hG rfl iw_X0 (by decide) kw_55 rfl dX0_toldOf_6 ?_
    refine z_icmp_lt (pc := 9) 14 dX0_toldOf_9 rfl (fun c9 => ?_) (fun c9 => ?_)
    · refine z_al0 (pc := 14) dX0_toldOf_14 ?_
      refine z_get (pc := 15) 5 hG rfl iw_X0 (by decide) kw_55 rfl dX0_toldOf_15 ?_
      refine z_iconst (pc := 18) (1) (by decide) dX0_toldOf_18 ?_
      refine z_isub (pc := 19) dX0_toldOf_19 ?_
      refine z_il1 (pc := 20) dX0_toldOf_20 ?_
      refine z_isub (pc := 21) dX0_toldOf_21 ?_
      refine z_is3 (pc := 22) dX0_toldOf_22 (by decide) ?_
      refine z_il2 (pc := 23) dX0_toldOf_23 ?_
      obtain ⟨i, rfl, hi⟩ := ix_in (Int32.not_lt.mp c1) c9 (by omega)
      rw [nI_back hi]
      have hin : 0 ≤ nI i ∧ nI i < nI cols := ⟨Int32.not_lt.mp c1, c9⟩
      rcases w3 what with h | h | h | ⟨h, g0, g1, g2⟩
      · subst h
        refine z_tableIn (pc := 24) 52 dX0_toldOf_24 (by decide) (by decide) rfl rfl ?_
        refine z_al0 (pc := 52) dX0_toldOf_52 ?_
        refine z_get (pc := 53) 2 hG rfl iw_X0 (by decide) kw_52 rfl dX0_toldOf_53 ?_
        refine z_il3 (pc := 56) dX0_toldOf_56 ?_
        refine z_iald (pc := 57) _ h6 rfl (by omega) (by omega) dX0_toldOf_57 ?_
        rw [← hQx]
        refine z_iret (pc := 58) rfl (by decide) dX0_toldOf_58 (⟨_, rfl, by unfold tOf; rw [if_pos hin, if_pos rfl, iN_nI (by omega)], rfl⟩)
      · subst h
        refine z_tableIn (pc := 24) 59 dX0_toldOf_24 (by decide) (by decide) rfl rfl ?_
        refine z_al0 (pc := 59) dX0_toldOf_59 ?_
        refine z_get (pc := 60) 3 hG rfl iw_X0 (by decide) kw_53 rfl dX0_toldOf_60 ?_
        refine z_il3 (pc := 63) dX0_toldOf_63 ?_
        refine z_iald (pc := 64) _ h7 rfl (by omega) (by omega) dX0_toldOf_64 ?_
        rw [← hQx]
        refine z_iret (pc := 65) rfl (by decide) dX0_toldOf_65 (⟨_, rfl, by unfold tOf; rw [if_pos hin, if_neg (by decide), if_pos rfl, iN_nI (by omega)], rfl⟩)
      · subst h
        refine z_tableIn (pc := 24) 66 dX0_toldOf_24 (by decide) (by decide) rfl rfl ?_
        refine z_al0 (pc := 66) dX0_toldOf_66 ?_
        refine z_get (pc := 67) 4 hG rfl iw_X0 (by decide) kw_54 rfl dX0_toldOf_67 ?_
        refine z_il3 (pc := 70) dX0_toldOf_70 ?_
        refine z_iald (pc := 71) _ h8 rfl (by omega) (by omega) dX0_toldOf_71 ?_
        rw [← hQx]
        refine z_iret (pc := 72) rfl (by decide) dX0_toldOf_72 (⟨_, rfl, by unfold tOf; rw [if_pos hin, if_neg (by decide), if_neg (by decide), if_pos rfl, iN_nI (by omega)], rfl⟩)
      · refine z_tableOut (pc := 24) 73 dX0_toldOf_24 h rfl ?_
        refine z_iconst (pc := 73) (-1) (by decide) dX0_toldOf_73 ?_
        rw [← hQx]
        refine z_iret (pc := 74) rfl (by decide) dX0_toldOf_74 (⟨_, rfl, by unfold tOf; rw [if_pos hin, if_neg g0, if_neg g1, if_neg g2], rfl⟩)
    · refine z_iconst (pc := 12) (-1) (by decide) dX0_toldOf_12 ?_
      rw [← hQx]
      refine z_iret (pc := 13) rfl (by decide) dX0_toldOf_13 (⟨_, rfl, (if_neg (fun h => absurd h.2 c9)).symm, rfl⟩)
abbrev rX0_isMeeting : Room := rmK 1 0 0 21
set_option maxRecDepth 100000 in
set_option maxHeartbeats 400000 in
theorem c_aMeet (l : Launch) {κ : zK} {G : zH} {a x : Nat} {t u : Nat} {cols : Nat} {key : Int32} {f0 f1 f2 : Nat → Int32} {S : Nat → Nat → Int32} {tp tb up ub : Nat → Int32} (j1 n j2 n2 : Nat) (k : Nat) (hA : zAL κ G a x cols key f0 f1 f2 S) (hT : zTU κ G t j1 n tp tb) (hU : zTU κ G u j2 n2 up ub) (hk : k < 48) : Ct l yX0_isMeeting cX0_isMeeting 4 (some FieldType.boolean) rX0_isMeeting κ [.ref a, .ref t, .ref u, .int (nI k)] G (zP (zb (mtC n n2 tp up f0 f1 k)) G) := by
  refine Ct.of (by decide +kernel) (fun v hv => by
    simp only [List.mem_cons, List.mem_nil_iff, or_false, List.not_mem_nil] at hv
    rcases hv with rfl | rfl | rfl | rfl <;> rfl) (Nat.le_of_ble_eq_true rfl) ?_
  intro p e s m args below meth cC
  refine z_L (L' := [some (.ref a), some (.ref t), some (.ref u), some (.int (nI k))]) rfl ?_
  generalize hQx : MQ below (zQc κ _) args s _ _ (zA κ) = Qx
  obtain ⟨sa, o1, o2, o3, rw_, hG, hs, hR, h6, h7, h8, hcols⟩ := id hA
  obtain ⟨a1, b1, h1, h2, h3, hn⟩ := id hT
  obtain ⟨a2, b2, u1, u2, u3, hn2⟩ := id hU
  refine z_al1 (pc := 0) dX0_isMeeting_0 ?_
  refine z_al0 (pc := 1) dX0_isMeeting_1 ?_
  refine z_get (pc := 2) 2 hG rfl iw_X0 (by decide) kw_52 rfl dX0_isMeeting_2 ?_
  refine z_il3 (pc := 5) dX0_isMeeting_5 ?_
  refine z_iald (pc := 6) _ h6 rfl (by omega) (by omega) dX0_isMeeting_6 ?_
  refine z_callVr (pc := 7) (c_tPitch l j1 n _ hT) h1 rfl rfl kw_633 zc_X6_pitchAt (by decide) (by decide) rfl (Nat.le_of_ble_eq_true rfl) dX0_isMeeting_7 ?_
  refine z_iconst (pc := 10) (-1) (by decide) dX0_isMeeting_10 ?_
  refine z_icmp_eq (pc := 11) 32 dX0_isMeeting_11 rfl (fun c11 => ?_) (fun c11 => ?_)
  · refine z_iconst (pc := 32) (0) (by decide) dX0_isMeeting_32 ?_
    rw [← hQx]
    refine z_zret (pc := 33) rfl rfl (by decide) dX0_isMeeting_33 (⟨_, rfl, (zb_f (fun h => h.1 c11)).symm, rfl⟩)
  · refine z_al2 (pc := 14) dX0_isMeeting_14 ?_
    refine z_al0 (pc := 15) dX0_isMeeting_15 ?_
    refine z_get (pc := 16) 3 hG rfl iw_X0 (by decide) kw_53 rfl dX0_isMeeting_16 ?_
    refine z_il3 (pc := 19) dX0_isMeeting_19 ?_
    refine z_iald (pc := 20) _ h7 rfl (by omega) (by omega) dX0_isMeeting_20 ?_
    refine z_callVr (pc := 21) (c_tPitch l j2 n2 _ hU) u1 rfl rfl kw_633 zc_X6_pitchAt (by decide) (by decide) rfl (Nat.le_of_ble_eq_true rfl) dX0_isMeeting_21 ?_
    refine z_iconst (pc := 24) (-1) (by decide) dX0_isMeeting_24 ?_
    refine z_icmp_eq (pc := 25) 32 dX0_isMeeting_25 rfl (fun c25 => ?_) (fun c25 => ?_)
    · refine z_iconst (pc := 32) (0) (by decide) dX0_isMeeting_32 ?_
      rw [← hQx]
      refine z_zret (pc := 33) rfl rfl (by decide) dX0_isMeeting_33 (⟨_, rfl, (zb_f (fun h => h.2 c25)).symm, rfl⟩)
    · refine z_iconst (pc := 28) (1) (by decide) dX0_isMeeting_28 ?_
      refine z_goto (pc := 29) 33 dX0_isMeeting_29 rfl ?_
      rw [← hQx]
      refine z_zret (pc := 33) rfl rfl (by decide) dX0_isMeeting_33 (⟨_, rfl, (zb_t ⟨c11, c25⟩).symm, rfl⟩)
abbrev rX0_rise : Room := rmK 2 0 0 44
set_option maxRecDepth 100000 in
set_option maxHeartbeats 400000 in
theorem c_aRise (l : Launch) {κ : zK} {G : zH} {a x : Nat} {t u : Nat} {cols : Nat} {key : Int32} {f0 f1 f2 : Nat → Int32} {S : Nat → Nat → Int32} {tp tb up ub : Nat → Int32} (j1 n j2 n2 : Nat) (hA : zAL κ G a x cols key f0 f1 f2 S) (hT : zTU κ G t j1 n tp tb) (hU : zTU κ G u j2 n2 up ub) : Ct l yX0_rise cX0_rise 5 (some FieldType.int) rX0_rise κ [.ref a, .ref t, .ref u] G (zP (riC n n2 tp up f0 f1 key cols) G) := by
  refine Ct.of (by decide +kernel) (fun v hv => by
    simp only [List.mem_cons, List.mem_nil_iff, or_false, List.not_mem_nil] at hv
    rcases hv with rfl | rfl | rfl <;> rfl) (Nat.le_of_ble_eq_true rfl) ?_
  intro p e s m args below meth cC
  refine z_L (L' := [some (.ref a), some (.ref t), some (.ref u), none, none]) rfl ?_
  generalize hQx : MQ below (zQc κ _) args s _ _ (zA κ) = Qx
  obtain ⟨sa, o1, o2, o3, rw_, hG, hs, hR, h6, h7, h8, hcols⟩ := id hA
  obtain ⟨a1, b1, h1, h2, h3, hn⟩ := id hT
  obtain ⟨a2, b2, u1, u2, u3, hn2⟩ := id hU
  have lp : ∀ (d k : Nat), k + d = cols → Z p l e rX0_rise s m args below meth cC yX0_rise cX0_rise 5 (some FieldType.int) κ Qx 0 0 G [some (.ref a), some (.ref t), some (.ref u), some (.int (riC n n2 tp up f0 f1 key k)), some (.int (nI k))] 5 [] := by
    intro d
    induction d with
    | zero =>
      intro k hk
      refine z_il4 (pc := 5) dX0_rise_5 ?_
      refine z_al0 (pc := 7) dX0_rise_7 ?_
      refine z_get (pc := 8) 5 hG rfl iw_X0 (by decide) kw_55 rfl dX0_rise_8 ?_
      refine z_icmp_ge (pc := 11) 62 dX0_rise_11 rfl (fun c11 => ?_) (fun c11 => absurd (by rw [nI_leI (by omega) (by omega)]; omega) c11)
      refine z_il3 (pc := 62) dX0_rise_62 ?_
      rw [← hQx]
      refine z_iret (pc := 63) rfl (by decide) dX0_rise_63 (⟨_, rfl, by rw [show k = cols by omega], rfl⟩)
    | succ d ih =>
      intro k hk
      refine z_il4 (pc := 5) dX0_rise_5 ?_
      refine z_al0 (pc := 7) dX0_rise_7 ?_
      refine z_get (pc := 8) 5 hG rfl iw_X0 (by decide) kw_55 rfl dX0_rise_8 ?_
      refine z_icmp_ge (pc := 11) 62 dX0_rise_11 rfl (fun c11 => absurd c11 (by rw [nI_leI (by omega) (by omega)]; omega)) (fun c11 => ?_)
      refine z_al0 (pc := 14) dX0_rise_14 ?_
      refine z_al1 (pc := 15) dX0_rise_15 ?_
      refine z_al2 (pc := 16) dX0_rise_16 ?_
      refine z_il4 (pc := 17) dX0_rise_17 ?_
      refine z_callVr (pc := 19) (c_aMeet l j1 n j2 n2 k hA hT hU (by omega)) hG rfl rfl kw_629 zc_X0_isMeeting (by decide) (by decide) rfl (Nat.le_of_ble_eq_true rfl) dX0_rise_19 ?_
      refine z_ifz_eq (pc := 22) 56 dX0_rise_22 rfl (fun c22 => ?_) (fun c22 => ?_)
      · refine z_ii4 (pc := 56) (nI (k + 1)) dX0_rise_56 (nI_1 _) (by decide) ?_
        refine z_goto (pc := 59) 5 dX0_rise_59 rfl ?_
        refine z_L (L' := [some (.ref a), some (.ref t), some (.ref u), some (.int (riC n n2 tp up f0 f1 key (k + 1))), some (.int (nI (k + 1)))]) (by
          have e : riC n n2 tp up f0 f1 key (k + 1) = _ := if_neg c22
          rw [e]) ?_
        exact ih (k + 1) (by omega)
      · refine z_il3 (pc := 25) dX0_rise_25 ?_
        refine z_al1 (pc := 26) dX0_rise_26 ?_
        refine z_al0 (pc := 27) dX0_rise_27 ?_
        refine z_get (pc := 28) 2 hG rfl iw_X0 (by decide) kw_52 rfl dX0_rise_28 ?_
        refine z_il4 (pc := 31) dX0_rise_31 ?_
        refine z_iald (pc := 33) _ h6 rfl (by omega) (by omega) dX0_rise_33 ?_
        refine z_callVr (pc := 34) (c_tPitch l j1 n _ hT) h1 rfl rfl kw_633 zc_X6_pitchAt (by decide) (by decide) rfl (Nat.le_of_ble_eq_true rfl) dX0_rise_34 ?_
        refine z_al0 (pc := 37) dX0_rise_37 ?_
        refine z_get (pc := 38) 6 hG rfl iw_X0 (by decide) kw_56 rfl dX0_rise_38 ?_
        refine z_iadd (pc := 41) dX0_rise_41 ?_
        refine z_al2 (pc := 42) dX0_rise_42 ?_
        refine z_al0 (pc := 43) dX0_rise_43 ?_
        refine z_get (pc := 44) 3 hG rfl iw_X0 (by decide) kw_53 rfl dX0_rise_44 ?_
        refine z_il4 (pc := 47) dX0_rise_47 ?_
        refine z_iald (pc := 49) _ h7 rfl (by omega) (by omega) dX0_rise_49 ?_
        refine z_callVr (pc := 50) (c_tPitch l j2 n2 _ hU) u1 rfl rfl kw_633 zc_X6_pitchAt (by decide) (by decide) rfl (Nat.le_of_ble_eq_true rfl) dX0_rise_50 ?_
        refine z_isub (pc := 53) dX0_rise_53 ?_
        refine z_iadd (pc := 54) dX0_rise_54 ?_
        refine z_is3 (pc := 55) dX0_rise_55 (by decide) ?_
        refine z_ii4 (pc := 56) (nI (k + 1)) dX0_rise_56 (nI_1 _) (by decide) ?_
        refine z_goto (pc := 59) 5 dX0_rise_59 rfl ?_
        refine z_L (L' := [some (.ref a), some (.ref t), some (.ref u), some (.int (riC n n2 tp up f0 f1 key (k + 1))), some (.int (nI (k + 1)))]) (by
          have e : riC n n2 tp up f0 f1 key (k + 1) = _ := if_pos c22
          rw [e]) ?_
        exact ih (k + 1) (by omega)
  refine z_iconst (pc := 0) (0) (by decide) dX0_rise_0 ?_
  refine z_is3 (pc := 1) dX0_rise_1 (by decide) ?_
  refine z_iconst (pc := 2) (0) (by decide) dX0_rise_2 ?_
  refine z_is4 (pc := 3) dX0_rise_3 (by decide) ?_
  refine z_L (L' := [some (.ref a), some (.ref t), some (.ref u), some (.int (riC n n2 tp up f0 f1 key 0)), some (.int (nI 0))]) rfl ?_
  exact lp cols 0 (by omega)
abbrev rX0_met : Room := rmK 2 0 0 44
set_option maxRecDepth 100000 in
set_option maxHeartbeats 400000 in
theorem c_aMet (l : Launch) {κ : zK} {G : zH} {a x : Nat} {t u : Nat} {cols : Nat} {key : Int32} {f0 f1 f2 : Nat → Int32} {S : Nat → Nat → Int32} {tp tb up ub : Nat → Int32} (j1 n j2 n2 : Nat) (hA : zAL κ G a x cols key f0 f1 f2 S) (hT : zTU κ G t j1 n tp tb) (hU : zTU κ G u j2 n2 up ub) : Ct l yX0_met cX0_met 5 (some FieldType.int) rX0_met κ [.ref a, .ref t, .ref u] G (zP (meC n n2 tp up f0 f1 cols) G) := by
  refine Ct.of (by decide +kernel) (fun v hv => by
    simp only [List.mem_cons, List.mem_nil_iff, or_false, List.not_mem_nil] at hv
    rcases hv with rfl | rfl | rfl <;> rfl) (Nat.le_of_ble_eq_true rfl) ?_
  intro p e s m args below meth cC
  refine z_L (L' := [some (.ref a), some (.ref t), some (.ref u), none, none]) rfl ?_
  generalize hQx : MQ below (zQc κ _) args s _ _ (zA κ) = Qx
  obtain ⟨sa, o1, o2, o3, rw_, hG, hs, hR, h6, h7, h8, hcols⟩ := id hA
  obtain ⟨a1, b1, h1, h2, h3, hn⟩ := id hT
  obtain ⟨a2, b2, u1, u2, u3, hn2⟩ := id hU
  have lp : ∀ (d k : Nat), k + d = cols → Z p l e rX0_met s m args below meth cC yX0_met cX0_met 5 (some FieldType.int) κ Qx 0 0 G [some (.ref a), some (.ref t), some (.ref u), some (.int (meC n n2 tp up f0 f1 k)), some (.int (nI k))] 5 [] := by
    intro d
    induction d with
    | zero =>
      intro k hk
      refine z_il4 (pc := 5) dX0_met_5 ?_
      refine z_al0 (pc := 7) dX0_met_7 ?_
      refine z_get (pc := 8) 5 hG rfl iw_X0 (by decide) kw_55 rfl dX0_met_8 ?_
      refine z_icmp_ge (pc := 11) 39 dX0_met_11 rfl (fun c11 => ?_) (fun c11 => absurd (by rw [nI_leI (by omega) (by omega)]; omega) c11)
      refine z_il3 (pc := 39) dX0_met_39 ?_
      rw [← hQx]
      refine z_iret (pc := 40) rfl (by decide) dX0_met_40 (⟨_, rfl, by rw [show k = cols by omega], rfl⟩)
    | succ d ih =>
      intro k hk
      refine z_il4 (pc := 5) dX0_met_5 ?_
      refine z_al0 (pc := 7) dX0_met_7 ?_
      refine z_get (pc := 8) 5 hG rfl iw_X0 (by decide) kw_55 rfl dX0_met_8 ?_
      refine z_icmp_ge (pc := 11) 39 dX0_met_11 rfl (fun c11 => absurd c11 (by rw [nI_leI (by omega) (by omega)]; omega)) (fun c11 => ?_)
      refine z_il3 (pc := 14) dX0_met_14 ?_
      refine z_al0 (pc := 15) dX0_met_15 ?_
      refine z_al1 (pc := 16) dX0_met_16 ?_
      refine z_al2 (pc := 17) dX0_met_17 ?_
      refine z_il4 (pc := 18) dX0_met_18 ?_
      refine z_callVr (pc := 20) (c_aMeet l j1 n j2 n2 k hA hT hU (by omega)) hG rfl rfl kw_629 zc_X0_isMeeting (by decide) (by decide) rfl (Nat.le_of_ble_eq_true rfl) dX0_met_20 ?_
      refine z_ifz_eq (pc := 23) 30 dX0_met_23 rfl (fun c23 => ?_) (fun c23 => ?_)
      · refine z_iconst (pc := 30) (0) (by decide) dX0_met_30 ?_
        refine z_iadd (pc := 31) dX0_met_31 ?_
        refine z_is3 (pc := 32) dX0_met_32 (by decide) ?_
        refine z_ii4 (pc := 33) (nI (k + 1)) dX0_met_33 (nI_1 _) (by decide) ?_
        refine z_goto (pc := 36) 5 dX0_met_36 rfl ?_
        refine z_L (L' := [some (.ref a), some (.ref t), some (.ref u), some (.int (meC n n2 tp up f0 f1 (k + 1))), some (.int (nI (k + 1)))]) (by
          have e : meC n n2 tp up f0 f1 (k + 1) = _ := if_neg c23
          rw [e]; rw [Int32.add_zero]) ?_
        exact ih (k + 1) (by omega)
      · refine z_iconst (pc := 26) (1) (by decide) dX0_met_26 ?_
        refine z_goto (pc := 27) 31 dX0_met_27 rfl ?_
        refine z_iadd (pc := 31) dX0_met_31 ?_
        refine z_is3 (pc := 32) dX0_met_32 (by decide) ?_
        refine z_ii4 (pc := 33) (nI (k + 1)) dX0_met_33 (nI_1 _) (by decide) ?_
        refine z_goto (pc := 36) 5 dX0_met_36 rfl ?_
        refine z_L (L' := [some (.ref a), some (.ref t), some (.ref u), some (.int (meC n n2 tp up f0 f1 (k + 1))), some (.int (nI (k + 1)))]) (by
          have e : meC n n2 tp up f0 f1 (k + 1) = _ := if_pos c23
          rw [e]) ?_
        exact ih (k + 1) (by omega)
  refine z_iconst (pc := 0) (0) (by decide) dX0_met_0 ?_
  refine z_is3 (pc := 1) dX0_met_1 (by decide) ?_
  refine z_iconst (pc := 2) (0) (by decide) dX0_met_2 ?_
  refine z_is4 (pc := 3) dX0_met_3 (by decide) ?_
  refine z_L (L' := [some (.ref a), some (.ref t), some (.ref u), some (.int (meC n n2 tp up f0 f1 0)), some (.int (nI 0))]) rfl ?_
  exact lp cols 0 (by omega)
