/-! the start -/
theorem k_arr {args : Array Value} {s : State} {ty : FieldType} (h : (Cond.arrayClass ty).before args s = true) (hp : ∀ C, ty ≠ .object C) : ∃ cA, ArrOfT s cA ty ∧ va_RA s cA ty := by
  obtain ⟨cA, k, comp, h1, h2, h3⟩ := Cond.arrayClass_spec h
  refine ⟨cA, fun n z => ⟨(fun q hq => by cases hq), k, h2, comp, h3⟩, ?_⟩
  cases ty with
  | object C => exact absurd rfl (hp C)
  | _ => exact h1
theorem k_over {args : Array Value} {s : State} {C : String} (h : (Cond.arrayOver (.object C)).before args s = true) : ∃ cA, ArrOfT s cA (.object C) ∧ va_RA s cA (.object C) := by
  obtain ⟨comp, c, k, h1, h2, h3, h4, h5⟩ := Cond.arrayOver_spec h
  exact ⟨c, fun n z => ⟨(fun q hq => by cases hq), k, h3, comp, h4⟩, k, comp, h3, h4, h1, h5⟩
theorem k_overI {args : Array Value} {s : State} (h : (Cond.arrayOver (.array .int)).before args s = true) : ∃ cA, ArrOfT s cA (.array .int) ∧ va_RA s cA (.array .int) := by
  obtain ⟨comp, c, k, h1, h2, h3, h4, h5⟩ := _root_.Jvm.Stand.arrayOver_specB h
  exact ⟨c, fun n z => ⟨(fun q hq => by cases hq), k, h3, comp, h4⟩, h5⟩
set_option maxRecDepth 100000 in
set_option maxHeartbeats 4000000 in
theorem zOK_start {args : Array Value} {s : State} (hts : ∀ w ∈ lw_tbl, w.before args s = true) (hgv : (Jvm.Cond.and given_1 narrow_1).before args s = true) : ∃ κ : zK, κ.2.2 0 = s.heap.size ∧ zOK κ s := by
  have hs := flat_of_before _ hgv
  have hTB : ∀ w ∈ TB, w.before args s = true := fun w hw => hts w (List.mem_filter.mp hw).1
  have hA : ∀ a : Nat, a < s.heap.size → ¬ (fun q : Nat => s.heap.size ≤ q) a := fun a h => Nat.not_le.mpr h
  obtain ⟨c0, i0, k0⟩ := u_known (C := RJx4a65c) (T := TJx4a65c) (N := 3) hTB iw_J (hTB _ kw_93)
  obtain ⟨c1, i1, k1⟩ := u_known (C := RX0) (T := TX0) (N := 7) hTB iw_X0 (hTB _ kw_43)
  obtain ⟨c2, i2, k2⟩ := u_known (C := RX1) (T := TX1) (N := 4) hTB iw_X1 (hTB _ kw_346)
  obtain ⟨c3, i3, k3⟩ := u_known (C := RX2) (T := TX2) (N := 4) hTB iw_X2 (hTB _ kw_73)
  obtain ⟨c4, i4, k4⟩ := u_known (C := RX3) (T := TX3) (N := 2) hTB iw_X3 (hTB _ kw_398)
  obtain ⟨c5, i5, k5⟩ := u_known (C := RX4) (T := TX4) (N := 1) hTB iw_X4 (hTB _ kw_32)
  obtain ⟨c6, i6, k6⟩ := u_known (C := RX5) (T := TX5) (N := 9) hTB iw_X5 (hTB _ kw_167)
  obtain ⟨c7, i7, k7⟩ := u_known (C := RX6) (T := TX6) (N := 3) hTB iw_X6 (hTB _ kw_173)
  obtain ⟨c8, i8, k8⟩ := u_known (C := RX7) (T := TX7) (N := 10) hTB iw_X7 (hTB _ kw_24)
  obtain ⟨c9, i9, k9⟩ := u_known (C := RX8) (T := TX8) (N := 35) hTB iw_X8 (hTB _ kw_718)
  obtain ⟨a0, a0x, a0y⟩ := k_arr (hTB _ kw_41) (fun C h => by cases h)
  obtain ⟨a1, a1x, a1y⟩ := k_arr (hTB _ kw_91) (fun C h => by cases h)
  obtain ⟨a2, a2x, a2y⟩ := k_over (hts (.arrayOver (.object "java/lang/Object")) (by decide +kernel))
  obtain ⟨a3, a3x, a3y⟩ := k_overI (hts (.arrayOver (.array .int)) (by decide +kernel))
  obtain ⟨a4, a4x, a4y⟩ := k_arr (hTB _ kw_993) (fun C h => by cases h)
  obtain ⟨t1, e1, h1⟩ := va_Tof (tm := (.static "java/util/ArrayList" "DEFAULTCAPACITY_EMPTY_ELEMENTDATA" "[Ljava/lang/Object;")) (ty := .object "java/lang/Object") (N := 0) (f := fun _ => .null) (A := fun q : Nat => s.heap.size ≤ q) (by decide) (hs _ (by decide +kernel)) (va_eqt (z := 0) (hs _ (by decide +kernel))) (fun j hj => absurd hj (Nat.not_lt_zero _)) hA
  obtain ⟨t2, e2, h2⟩ := va_Tof (tm := (.static "TuneHouse$Prices" "TOPS" "[I")) (ty := .int) (N := 5) (f := fun j => .int (zTops j)) (A := fun q : Nat => s.heap.size ≤ q) (by decide) (hs _ (by decide +kernel)) (va_eqt (z := 5) (hs _ (by decide +kernel))) (fun j hj => by
    rcases j with _ | _ | _ | _ | _ | j
    · exact va_eqt (t := .elem (.static "TuneHouse$Prices" "TOPS" "[I") (.int 0)) (z := 20) (hs _ (by decide +kernel))
    · exact va_eqt (t := .elem (.static "TuneHouse$Prices" "TOPS" "[I") (.int 1)) (z := 200) (hs _ (by decide +kernel))
    · exact va_eqt (t := .elem (.static "TuneHouse$Prices" "TOPS" "[I") (.int 2)) (z := 20) (hs _ (by decide +kernel))
    · exact va_eqt (t := .elem (.static "TuneHouse$Prices" "TOPS" "[I") (.int 3)) (z := 200) (hs _ (by decide +kernel))
    · exact va_eqt (t := .elem (.static "TuneHouse$Prices" "TOPS" "[I") (.int 4)) (z := 10000) (hs _ (by decide +kernel))
    · omega) hA
  obtain ⟨mi, hmi⟩ := va_Mi.of (C := "[Ljava/lang/Object;") (hs _ (by decide +kernel))
  have z1 := va_Zof (hts (.laysStatic "java/util/ArrayList" "DEFAULTCAPACITY_EMPTY_ELEMENTDATA" "[Ljava/lang/Object;") (by decide +kernel)) (hTB _ kw_7) e1 hA
  have z2 := va_Zof (hts (.laysStatic "TuneHouse$Prices" "TOPS" "[I") (by decide +kernel)) (hTB _ kw_2) e2 hA
  have z3 := vx_Zqof (A := fun q : Nat => s.heap.size ≤ q) (hts (.laysStatic Bundle.tN "UNASSIGNED_STACK" Bundle.steD) (by decide +kernel)) (hTB _ kw_19) (hs _ (by decide +kernel)) hA
  have z4 := vx_Zqof (A := fun q : Nat => s.heap.size ≤ q) (hts (.laysStatic Bundle.tN "SUPPRESSED_SENTINEL" Bundle.listD) (by decide +kernel)) (hTB _ kw_19) (hs _ (by decide +kernel)) hA
  refine ⟨((fun k => match k with | 0 => c0 | 1 => c1 | 2 => c2 | 3 => c3 | 4 => c4 | 5 => c5 | 6 => c6 | 7 => c7 | 8 => c8 | _ => c9, fun k => match k with | 0 => i0 | 1 => i1 | 2 => i2 | 3 => i3 | 4 => i4 | 5 => i5 | 6 => i6 | 7 => i7 | 8 => i8 | _ => i9), fun k => match k with | 0 => a0 | 1 => a1 | 2 => a2 | 3 => a3 | _ => a4, fun k => match k with | 0 => s.heap.size | 1 => t1 | 2 => t2 | _ => mi), rfl, Nat.le_refl _, ⟨fun k q hq => ?_, fun k q hq => ?_⟩, ⟨z1, h1, z2, h2, z3, z4⟩, ⟨fun w hw => va_Nw.of (NB_tab w hw) (hts w (List.mem_filter.mp hw).1), va_AO.of (hts (.arrayOver (.object "java/lang/Object")) (by decide +kernel)), hmi, hts (.arrayOver (.array .int)) (by decide +kernel)⟩⟩
  · match k, hq with
    | 0, hq => cases hq; exact k0
    | 1, hq => cases hq; exact k1
    | 2, hq => cases hq; exact k2
    | 3, hq => cases hq; exact k3
    | 4, hq => cases hq; exact k4
    | 5, hq => cases hq; exact k5
    | 6, hq => cases hq; exact k6
    | 7, hq => cases hq; exact k7
    | 8, hq => cases hq; exact k8
    | 9, hq => cases hq; exact k9
    | k + 10, hq => simp [vwCl] at hq
  · match k, hq with
    | 0, hq => cases hq; exact ⟨a0x, a0y⟩
    | 1, hq => cases hq; exact ⟨a1x, a1y⟩
    | 2, hq => cases hq; exact ⟨a2x, a2y⟩
    | 3, hq => cases hq; exact ⟨a3x, a3y⟩
    | 4, hq => cases hq; exact ⟨a4x, a4y⟩
    | k + 5, hq => simp [zt] at hq
def B0 (hx pr al lk lb lc ld l0 l1 l2 : Nat) : Nat → Nat → Nat := fun k j => if k = 0 then hx else if k = 1 then pr else if k = 3 then al else if k = 9 then lk else if k = 10 then lb else if k = 11 then lc else if k = 12 then ld else if j = 0 then l0 else if j = 1 then l1 else l2
theorem hc_start {κ : zK} {G : zH} {hx pr al lk lb lc ld l0 l1 l2 : Nat} {es0 es1 : Nat → Nat} {ar : Nat → Nat → Int32} (h15 : ar 15 = upd (upd (upd (upd (upd (fun _ => 0) 0 2) 1 8) 2 1) 3 5) 4 30) (hO : G hx = some ((2, 0, 0), .inr (8, [.ref pr, .ref al, .ref lk, .ref l0, .ref l1, .ref l2, .int 0, .int 0, .int 0, .int 0]))) (hP : zPR κ G pr (upd (upd (upd (upd (upd (fun _ => 0) 0 2) 1 8) 2 1) 3 5) 4 30)) (hA : zAL κ G al pr 0 0 (fun _ => 0) (fun _ => 0) (fun _ => 0) (fun _ _ => 0)) (hL : zLK κ G lk al lb lc ld (fun _ => 0) (fun _ => 0) (fun _ => 0)) (h0 : zLs κ G 0 l0 29 0 es0) (h1 : zLs κ G 1 l1 89 0 es1) (h2 : zLs κ G 2 l2 29 0 es0) : HC κ G (B0 hx pr al lk lb lc ld l0 l1 l2) 0 0 0 0 (fun _ => 0) 0 0 ar (fun _ => 0) := by
  refine ⟨?_, fun _ => 0, fun _ => 0, fun _ _ => 0, fun _ _ => 0, fun _ => 0, fun _ => 0, fun _ => 0, ⟨hO, by rw [h15]; exact hP, ⟨_, _, _, _, _, _, hA⟩, hL, h0.congr (fun j hj => absurd hj (Nat.not_lt_zero _)), h1.congr (fun j hj => absurd hj (Nat.not_lt_zero _)), ⟨_, _, h2⟩, fun i hi => absurd hi (Nat.not_lt_zero _), fun i hi => absurd hi (Nat.not_lt_zero _), fun i hi => absurd hi (Nat.not_lt_zero _)⟩, fun i hi => absurd hi (Nat.not_lt_zero _), fun a b _ _ h => absurd rfl h⟩
  unfold TD
  rw [h15]
  exact ⟨by omega, by omega, by omega, by omega, fun i hi => absurd hi (Nat.not_lt_zero _), fun _ i _ hi => absurd hi (Nat.not_lt_zero _), fun i hi => absurd hi (Nat.not_lt_zero _), fun i hi => absurd hi (Nat.not_lt_zero _), fun i _ hi => absurd hi (Nat.not_lt_zero _), fun i hi => absurd hi (Nat.not_lt_zero _), fun i hi => absurd hi (Nat.not_lt_zero _), rfl, rfl, fun i hi => absurd hi (Nat.not_lt_zero _), by decide, by decide, by decide, by decide, by decide, by decide⟩
set_option maxRecDepth 100000 in
set_option maxHeartbeats 4000000 in
theorem whole_start {p : Program} {e : Env} {s : State} {m : MethodId} {below : List Frame} {meth : Method} {c : Code} (l : Launch) (hflags : l.flags = flags0) {b L : Nat} {xs : Nat → Int32} (hL : L ≤ 3072) (C0 : lw_At p s m meth c b L xs) : W p l e room_1 s m #[Value.ref b] below meth c s.heap [] 0 0 (lw_Z below #[Value.ref b] s) (entryFrame m ([Value.ref b] : List Value).toArray 7) := by
  obtain ⟨hx, hb, hr, hml, hown, hts, hX, hbl, hlocks, hgv⟩ := id C0
  have hl9 : l.stackTraces = false := by unfold Launch.stackTraces; rw [hflags]; rfl
  obtain ⟨κ, hk0, hok⟩ := zOK_start hts hgv
  have hTB : ∀ w ∈ TB, w.before #[Value.ref b] s = true := fun w hw => hts w (List.mem_filter.mp hw).1
  have hbA : ¬ zA κ b := by show ¬ κ.2.2 0 ≤ b; rw [hk0]; omega
  have key : Z p l e room_1 s m #[Value.ref b] below meth c (yLw meth.name) cL_law 7 ret κ (lw_Z below #[Value.ref b] s) 0 0 (fun _ => none) [some (.ref b), none, none, none, none, none, none] 0 [] := by
    refine z_newg (pc := 0) (ci := 8) (2, 0, 0) [.null, .null, .null, .null, .null, .null, .int 0, .int 0, .int 0, .int 0] rfl iw_X7 tyX7 tyX7_ok kw_23 kw_24 kw_1 (fun j hj => by rcases j with _ | _ | _ | _ | _ | _ | _ | _ | _ | _ | j <;> first | rfl | omega) ⟨Nat.le_of_ble_eq_true rfl, Nat.le_of_ble_eq_true rfl⟩ dL_law_0 (fun hx0 G1 hn1 _ hq1 hF1 => ?_)
    refine z_dup (pc := 3) rfl dL_law_3 ?_
    refine z_callIv (pc := 4) _ (c_hInit l (fun _ => 0) (fun _ => 0) hq1) rfl kw_25 zc_X7_init ⟨Nat.le_of_ble_eq_true rfl, Nat.le_of_ble_eq_true rfl, Nat.le_of_ble_eq_true rfl, Nat.le_of_ble_eq_true rfl⟩ rfl (Nat.le_of_ble_eq_true rfl) dL_law_4 (fun G2 hv => ?_)
    obtain ⟨pr, al, lk, lb, lc, ld, l0, l1, l2, hO, hP, hA, hLK, h0, h1, h2⟩ := hv
    refine z_astore_n (pc := 7) 1 dL_law_7 rfl (by decide) ⟨some hx0, rfl⟩ rfl ?_
    refine z_newg (pc := 8) (ci := 9) (1, 0, 0) (fsO (fun _ => none)) rfl iw_X8 tyX8 tyX8_ok kw_717 kw_718 kw_8 (fun j hj => by rcases j with _ | _ | _ | _ | _ | _ | _ | _ | _ | _ | _ | _ | _ | _ | _ | _ | _ | _ | _ | _ | _ | _ | _ | _ | _ | _ | _ | _ | _ | _ | _ | _ | _ | _ | _ | j <;> first | rfl | omega) ⟨Nat.le_of_ble_eq_true rfl, Nat.le_of_ble_eq_true rfl⟩ dL_law_8 (fun x G3 hn3 _ hq3 hF3 => ?_)
    refine z_dup (pc := 11) rfl dL_law_11 ?_
    refine z_callIv (pc := 12) _ (c_mInit l (κ := κ) (G := G3) (x := x) ⟨hq3, fun k a h => by cases h⟩) rfl kw_719 zc_X8_init ⟨Nat.le_of_ble_eq_true rfl, Nat.le_of_ble_eq_true rfl, Nat.le_of_ble_eq_true rfl, Nat.le_of_ble_eq_true rfl⟩ rfl (Nat.le_of_ble_eq_true rfl) dL_law_12 (fun G4 hv => ?_)
    obtain ⟨ad, ar, hM, hF4, h15⟩ := hv
    refine z_astore_n (pc := 15) 2 dL_law_15 rfl (by decide) ⟨some x, rfl⟩ rfl ?_
    refine z_iconst (pc := 16) 1 (by decide) dL_law_16 ?_
    refine z_newag (pc := 17) (atype := .long) (ty := .long) (3, 0, 0) 1 (1, .inr (.inl (fun _ => 0))) 4 kw_993 rfl rfl (fun C h => by cases h) (fun cA => rfl) rfl ⟨Nat.le_of_ble_eq_true rfl, Nat.le_of_ble_eq_true rfl⟩ ⟨Nat.le_of_ble_eq_true rfl, Nat.le_of_ble_eq_true rfl⟩ dL_law_17 (fun oa G5 hn5 _ hq5 hF5 => ?_)
    refine z_astore_n (pc := 19) 3 dL_law_19 rfl (by decide) ⟨some oa, rfl⟩ rfl ?_
    refine z_iconst (pc := 20) 0 (by decide) dL_law_20 ?_
    refine z_istore (pc := 21) 4 dL_law_21 (by decide) rfl ?_
    have hF4' : zFP (fun r => r.1 = 1) G3 G4 := hF4
    have hH := (((hc_start (κ := κ) h15 hO hP hA hLK h0 h1 h2).keep hF3 (fun _ _ h => h)).keep hF4' (fun k j (h : 2 = 1) => by cases h)).keep hF5 (fun _ _ h => h)
    have hI : IV κ G5 hx0 x oa := ⟨_, 0, 0, 0, 0, _, 0, 0, ar, _, fun _ => 0, ad, fun _ => 0, rfl, hH, hM.keep (hF5.F (n := 3) (fun r h => h.elim)) (by decide), ⟨rfl, rfl, rfl, rfl⟩, hq5⟩
    refine z_wk (n1 := 100) (n2 := 6000) (Nat.le_of_ble_eq_true rfl) (Nat.le_of_ble_eq_true rfl) ?_
    exact lw_loop hl9 hX hbl hbA (by omega) hL (fun nc ns i G g1 g2 => by
      refine z_iconst (pc := 1138) 1 (by decide) dL_law_1138 ?_
      exact fun C H locs ls hg hs hl => W.widen g1 g2 (fun T hT Xs => lw_ret C.1 C.2.1 C.2.2.2.2.2.2.1 C.2.2.2.2.2.2.2.1 dL_law_1139 T hT (Xs.dropFresh (locs := []) (J := locs) (fun q hq => by have := hs.2.2 q hq; rw [← hk0]; exact this)))) 513 0 100 6000 G5 rfl hI (by omega) (by omega)
  rw [lg_entry_eq]
  have hl := lv_entry ([Value.ref b]) (n := 7) (Nat.le_of_ble_eq_true rfl)
  refine key ⟨hx, hb, hml, hown, hTB, hok, hr, hlocks, rfl⟩ s.heap [] _ (fun a r e h => by cases h) va_S.rf ⟨hl.1, hl.2.1, fun i v hi => ?_⟩
  rcases i with _ | _ | _ | _ | _ | _ | _ | i
  · cases hi
    exact ⟨hl.2.2 (0, .ref b) (by simp [lv_args]), rfl⟩
  all_goals cases hi
