/-! the law: its loop -/
theorem i_m6 {N : Nat} (h : 6 ≤ N) : nI N - 6 = nI (N - 6) := by
  have e : nI N = nI (N - 6) + 6 := by
    show nI N = nI (N - 6) + nI 6
    rw [nI_add, Nat.sub_add_cancel h]
  rw [e, Int32.add_sub_cancel]
theorem i_m6n {N i : Nat} (h : N < 6) (hi : i < 2 ^ 31) : nI N - 6 < nI i := by
  have h0 : nI N - 6 < 0 := by
    rcases N with _ | _ | _ | _ | _ | _ | N
    · decide
    · decide
    · decide
    · decide
    · decide
    · decide
    · omega
  have h1 := nI_pos' hi
  rw [i_lt] at h0 ⊢
  rw [i_le] at h1
  omega
set_option maxRecDepth 100000 in
set_option maxHeartbeats 400000 in
theorem lw_head {p : Program} {l : Launch} {e : Env} {s : State} {m : MethodId} {args : Array Value} {below : List Frame} {meth : Method} {c : Code} {nm : String} {κ : zK} {Q : State → Prop} {nc ns : Nat} {G : zH} {b N i hx x oa : Nat} {xs : Nat → Int32} (hX : va_X b N xs s s.heap) (hbl : b < s.heap.size) (hbA : ¬ zA κ b) (hN : N < 2 ^ 31) (hi : i < 2 ^ 31) (kx : Z p l e room_1 s m args below meth c (yLw nm) cL_law 7 ret κ Q nc ns G (lwL b hx x oa i) 1138 []) (kb : i + 6 ≤ N → Z p l e room_1 s m args below meth c (yLw nm) cL_law 7 ret κ Q nc ns G (lwL b hx x oa i) 33 []) : Z p l e room_1 s m args below meth c (yLw nm) cL_law 7 ret κ Q nc ns G (lwL b hx x oa i) 23 [] := by
  refine z_iload (pc := 23) 4 dL_law_23 rfl ?_
  refine z_aload_n (pc := 25) 0 dL_law_25 rfl rfl ⟨some b, rfl⟩ ?_
  refine z_slen (pc := 26) hX hbl hbA dL_law_26 ?_
  refine z_bipush (pc := 27) 6 (by decide) dL_law_27 ?_
  refine z_isub (pc := 29) dL_law_29 ?_
  by_cases h : i + 6 ≤ N
  · refine z_icmp_gt (pc := 30) 1138 dL_law_30 rfl (fun h2 => absurd h2 ?_) (fun _ => kb h)
    rw [i_m6 (by omega), nI_ltI (by omega) (by omega)]
    omega
  · refine z_icmp_gt (pc := 30) 1138 dL_law_30 rfl (fun _ => kx) (fun h2 => absurd ?_ h2)
    by_cases h6 : 6 ≤ N
    · rw [i_m6 h6, nI_ltI (by omega) (by omega)]; omega
    · exact i_m6n (by omega) hi
set_option maxRecDepth 100000 in
set_option maxHeartbeats 400000 in
theorem lw_body {p : Program} {l : Launch} {e : Env} {s : State} {m : MethodId} {args : Array Value} {below : List Frame} {meth : Method} {c : Code} {nm : String} {κ : zK} {Q : State → Prop} {nc ns : Nat} {G : zH} {b N i hx x oa : Nat} {xs : Nat → Int32} (hl9 : l.stackTraces = false) (hX : va_X b N xs s s.heap) (hbl : b < s.heap.size) (hbA : ¬ zA κ b) (hN : N < 2 ^ 31) (hi : i + 6 ≤ N) (hI : IV κ G hx x oa) (hnc : nc + 401 + 1 ≤ 601024 ∧ ns + 11629 + 400 ≤ 7293033) (k : ∀ (nc2 ns2 : Nat) (G2 : zH), nc2 ≤ nc + 401 + 1 → ns2 ≤ ns + 11629 + 400 → IV κ G2 hx x oa → Z p l e room_1 s m args below meth c (yLw nm) cL_law 7 ret κ Q nc2 ns2 G2 (lwL b hx x oa i) 1132 []) : Z p l e room_1 s m args below meth c (yLw nm) cL_law 7 ret κ Q nc ns G (lwL b hx x oa i) 33 [] := by
  refine z_aload_n (pc := 33) 0 dL_law_33 rfl rfl ⟨some b, rfl⟩ ?_
  refine z_iload (pc := 34) 4 dL_law_34 rfl ?_
  refine z_sld (pc := 36) i hX hbl hbA rfl (by omega) hN dL_law_36 ?_
  refine z_bipush (pc := 37) 31 (by decide) dL_law_37 ?_
  refine z_iand (pc := 39) dL_law_39 ?_
  generalize xs i &&& 31 = v
  by_cases hv : 0 ≤ v.toInt ∧ v.toInt ≤ 20
  · obtain ⟨j, rfl, hj⟩ := ix_in (n := 21) (x := v) (by rw [i_le]; exact hv.1) (by rw [i_lt, nI_toInt (by omega)]; omega) (by omega)
    rcases j with _ | _ | _ | _ | _ | _ | _ | _ | _ | _ | _ | _ | _ | _ | _ | _ | _ | _ | _ | _ | _ | j
    · refine z_tableIn (pc := 40) 140 dL_law_40 (by decide) (by decide) (show _ = some (100 : Int) from by decide) rfl ?_
      exact lw_sheet hX hbl hbA hN hi hI hnc k
    · refine z_tableIn (pc := 40) 189 dL_law_40 (by decide) (by decide) (show _ = some (149 : Int) from by decide) rfl ?_
      exact lw_note hX hbl hbA hN hi hI hnc k
    · refine z_tableIn (pc := 40) 238 dL_law_40 (by decide) (by decide) (show _ = some (198 : Int) from by decide) rfl ?_
      exact lw_correct hX hbl hbA hN hi hI hnc k
    · refine z_tableIn (pc := 40) 299 dL_law_40 (by decide) (by decide) (show _ = some (259 : Int) from by decide) rfl ?_
      exact lw_forge hX hbl hbA hN hi hI hnc k
    · refine z_tableIn (pc := 40) 324 dL_law_40 (by decide) (by decide) (show _ = some (284 : Int) from by decide) rfl ?_
      exact lw_doubles hX hbl hbA hN hi hI hnc k
    · refine z_tableIn (pc := 40) 361 dL_law_40 (by decide) (by decide) (show _ = some (321 : Int) from by decide) rfl ?_
      exact lw_days hX hbl hbA hN hi hI hnc k
    · refine z_tableIn (pc := 40) 386 dL_law_40 (by decide) (by decide) (show _ = some (346 : Int) from by decide) rfl ?_
      exact lw_price hX hbl hbA hN hi hI hnc k
    · refine z_tableIn (pc := 40) 423 dL_law_40 (by decide) (by decide) (show _ = some (383 : Int) from by decide) rfl ?_
      exact lw_at hl9 hX hbl hbA hN hi hI hnc k
    · refine z_tableIn (pc := 40) 515 dL_law_40 (by decide) (by decide) (show _ = some (475 : Int) from by decide) rfl ?_
      exact lw_distance hX hbl hbA hN hi hI hnc k
    · refine z_tableIn (pc := 40) 564 dL_law_40 (by decide) (by decide) (show _ = some (524 : Int) from by decide) rfl ?_
      exact lw_key hX hbl hbA hN hi hI hnc k
    · refine z_tableIn (pc := 40) 613 dL_law_40 (by decide) (by decide) (show _ = some (573 : Int) from by decide) rfl ?_
      exact lw_column hX hbl hbA hN hi hI hnc k
    · refine z_tableIn (pc := 40) 686 dL_law_40 (by decide) (by decide) (show _ = some (646 : Int) from by decide) rfl ?_
      exact lw_family hX hbl hbA hN hi hI hnc k
    · refine z_tableIn (pc := 40) 735 dL_law_40 (by decide) (by decide) (show _ = some (695 : Int) from by decide) rfl ?_
      exact lw_kin hX hbl hbA hN hi hI hnc k
    · refine z_tableIn (pc := 40) 784 dL_law_40 (by decide) (by decide) (show _ = some (744 : Int) from by decide) rfl ?_
      exact lw_sung hX hbl hbA hN hi hI hnc k
    · refine z_tableIn (pc := 40) 833 dL_law_40 (by decide) (by decide) (show _ = some (793 : Int) from by decide) rfl ?_
      exact lw_source hX hbl hbA hN hi hI hnc k
    · refine z_tableIn (pc := 40) 870 dL_law_40 (by decide) (by decide) (show _ = some (830 : Int) from by decide) rfl ?_
      exact lw_changes hX hbl hbA hN hi hI hnc k
    · refine z_tableIn (pc := 40) 907 dL_law_40 (by decide) (by decide) (show _ = some (867 : Int) from by decide) rfl ?_
      exact lw_all hX hbl hbA hN hi hI hnc k
    · refine z_tableIn (pc := 40) 932 dL_law_40 (by decide) (by decide) (show _ = some (892 : Int) from by decide) rfl ?_
      exact lw_doubt hX hbl hbA hN hi hI hnc k
    · refine z_tableIn (pc := 40) 981 dL_law_40 (by decide) (by decide) (show _ = some (941 : Int) from by decide) rfl ?_
      exact lw_habit hX hbl hbA hN hi hI hnc k
    · refine z_tableIn (pc := 40) 1042 dL_law_40 (by decide) (by decide) (show _ = some (1002 : Int) from by decide) rfl ?_
      exact lw_span hX hbl hbA hN hi hI hnc k
    · refine z_tableIn (pc := 40) 1107 dL_law_40 (by decide) (by decide) (show _ = some (1067 : Int) from by decide) rfl ?_
      exact lw_count hX hbl hbA hN hi hI hnc k
    · omega
  · refine z_tableOut (pc := 40) 1132 dL_law_40 (by omega) rfl ?_
    exact k _ _ _ (by omega) (by omega) hI
set_option maxRecDepth 100000 in
set_option maxHeartbeats 400000 in
theorem lw_loop {p : Program} {l : Launch} {e : Env} {s : State} {m : MethodId} {args : Array Value} {below : List Frame} {meth : Method} {c : Code} {nm : String} {κ : zK} {Q : State → Prop} {b N hx x oa : Nat} {xs : Nat → Int32} (hl9 : l.stackTraces = false) (hX : va_X b N xs s s.heap) (hbl : b < s.heap.size) (hbA : ¬ zA κ b) (hN : N < 2 ^ 31) (hN2 : N ≤ 3072) (kx : ∀ (nc ns i : Nat) (G : zH), nc ≤ 601024 → ns ≤ 7293033 → Z p l e room_1 s m args below meth c (yLw nm) cL_law 7 ret κ Q nc ns G (lwL b hx x oa i) 1138 []) : ∀ (d it nc ns : Nat) (G : zH), it + d = 513 → IV κ G hx x oa → nc ≤ 100 + 402 * it → ns ≤ 6000 + 12029 * it → Z p l e room_1 s m args below meth c (yLw nm) cL_law 7 ret κ Q nc ns G (lwL b hx x oa (6 * it)) 23 [] := by
  intro d
  induction d with
  | zero =>
    intro it nc ns G h hI h1 h2
    exact lw_head hX hbl hbA hN (by omega) (kx _ _ _ _ (by omega) (by omega)) (fun h3 => by omega)
  | succ d ih =>
    intro it nc ns G h hI h1 h2
    refine lw_head hX hbl hbA hN (by omega) (kx _ _ _ _ (by omega) (by omega)) (fun h3 => ?_)
    refine lw_body hl9 hX hbl hbA hN h3 hI ⟨by omega, by omega⟩ (fun nc2 ns2 G2 g1 g2 hI2 => ?_)
    refine z_iinc (pc := 1132) (v := nI (6 * it + 6)) 4 dL_law_1132 rfl (by rw [show Int32.ofInt 6 = nI 6 from by decide]; exact nI_add _ 6) (by decide) rfl ?_
    refine z_goto (pc := 1135) 23 dL_law_1135 rfl ?_
    exact ih (it + 1) nc2 ns2 G2 (by omega) hI2 (by omega) (by omega)
