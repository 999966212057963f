/-! arrays of arrays -/
theorem vp_outer (c : ClassId) (N h0 : Nat) : ∀ i : Nat, _root_.Jvm.Free.Multi.outerC c N h0 i = arrV c N (fun j => va_rf (if j < i then some (h0 + 1 + j) else none))
  | 0 => by
    show ({ cls := c, slots := Array.replicate N .null, vm := .none } : Cell) = _
    rw [arrV_new]
    refine congrArg (arrV c N) (funext fun j => ?_)
    simp [va_rf]
  | i + 1 => by
    show (_root_.Jvm.Free.Multi.outerC c N h0 i).setSlot i (.ref (h0 + 1 + i)) = _
    rw [vp_outer c N h0 i, arrV_store]
    refine congrArg (arrV c N) (funext fun j => ?_)
    by_cases e : j = i
    · subst e
      simp [updV, va_rf]
    · by_cases h : j < i
      · simp [updV, e, h, Nat.lt_succ_of_lt h]
      · simp [updV, e, h, show ¬ j < i + 1 by omega]
theorem arrV_ext {c : ClassId} {N : Nat} {f g : Nat → Value} (h : ∀ j, j < N → f j = g j) : arrV c N f = arrV c N g := by
  unfold arrV
  refine congrArg (fun sl => ({ cls := c, slots := sl, vm := .none } : Cell)) (congrArg (fun z => Array.ofFn (n := N) z) (funext fun j => h j.1 j.2))
section ZR6
variable {p : Program} {l : Launch} {e : Env} {R : Room} {s : State} {m : MethodId} {args : Array Value} {below : List Frame} {meth : Method} {c : Code} {y : MethodName} {cc : ByteArray} {nL : Nat} {ret : Option FieldType} {κ : zK} {Q : State → Prop} {nc ns : Nat} {G : zH} {L : List (Option Value)} {pc : Nat} {st : List Value}
set_option maxHeartbeats 1000000 in
theorem z_mna {index : Nat} {n k : Int32} (N' K' : Nat) (ro : zR) (rw0 : Nat → zR) (hcl : Cond.classLink y.cls index "[[I" ∈ TB) (hac : Cond.arrayClass .int ∈ TB) (hn : n = nI N') (hk : k = nI K') (hb : N' ≤ 1000 ∧ K' ≤ 1000) (hR : nc + (1 + N') ≤ R.cells ∧ ns + (N' + N' * K') ≤ R.slots) (hd : decode cc pc = .ok (.multianewarray index 2, 4)) (kk : ∀ (q : Nat) (r : Nat → Nat) (G1 : zH), G q = none → G1 q = some (ro, .inl (κ.2.1 3, zQ N' (fun i => some (r i)))) → (∀ i, i < N' → G1 (r i) = some (rw0 i, .inl (κ.2.1 0, K', .inl (fun _ => 0)))) → zFP (fun _ => False) G G1 → Z p l e R s m args below meth c y cc nL ret κ Q (nc + 1 + N') (ns + N' + N' * K') G1 L (pc + 4) (.ref q :: st)) : Z p l e R s m args below meth c y cc nL ret κ Q nc ns G L pc (.int k :: .int n :: st) := fun C H locs ls hg hs hl T hT Xs => by
  have eN : n.toNatClampNeg = N' := by rw [hn]; exact nI_clamp (by omega)
  have eK : k.toNatClampNeg = K' := by rw [hk]; exact nI_clamp (by omega)
  have hb1 : N' * K' ≤ 1000 * 1000 := Nat.mul_le_mul hb.1 hb.2
  obtain ⟨vm₁, cA, comp, -, fA, fC, hO, -, X', step⟩ := Xs.multianewarray2F (own := y.cls) (index := index) (ty := .int) C.1 C.2.2.2.1 (C.2.2.2.2.1 _ hcl) C.2.2.2.2.2.1.2.2.2.2.2.2 (C.2.2.2.2.1 _ hac) (g := F0 m pc ls (.int k :: .int n :: st)) rfl (by rw [C.2.1]; exact hd) (n := n) (k := k) (rest := st) rfl (by rw [hn]; exact nI_pos (by omega)) (by rw [hk]; exact nI_pos (by omega)) (by rw [eN]; omega) (by rw [eK]; show K' * 4 ≤ _; omega) (by rw [eK]; omega) rfl rfl (by rw [eN]; exact hR.1) (by rw [eN, eK]; exact hR.2)
  rw [eN, eK] at X'
  rw [eN, eK] at step
  have eA : cA = κ.2.1 3 := Option.some.inj (fA.symm.trans (C.2.2.2.2.2.1.2.1.2 3 _ rfl).2)
  have eC : comp = κ.2.1 0 := Option.some.inj (fC.symm.trans (C.2.2.2.2.2.1.2.1.2 0 _ rfl).2)
  subst eA eC
  generalize hF : _root_.Jvm.Free.Multi.fill (T.setVm vm₁) (κ.2.1 3) (κ.2.1 0) N' K' (defaultValue .int) N' = F at X' step
  have hTh : (T.setVm vm₁).heap = H := hT
  obtain ⟨f1, f2, -, -⟩ := _root_.Jvm.Free.Multi.fill_facts (T.setVm vm₁) (κ.2.1 3) (κ.2.1 0) N' K' (defaultValue .int) N'
  rw [hF, hTh] at f1 f2
  have hold : ∀ x : Nat, x < H.size → F.heap[x]? = H[x]? := fun x hx => by
    have := _root_.Jvm.Free.Multi.fill_old (T.setVm vm₁) (κ.2.1 3) (κ.2.1 0) N' K' (defaultValue .int) (a := x) (by rw [hTh]; exact hx) N'
    rw [hF, hTh] at this
    exact this
  have hrow : ∀ j : Nat, j < N' → F.heap[H.size + 1 + j]? = some (vp_cell (κ.2.1 0) (K', .inl (fun _ => 0))) := fun j hj => by
    have := _root_.Jvm.Free.Multi.fill_inner (T.setVm vm₁) (κ.2.1 3) (κ.2.1 0) N' K' (defaultValue .int) N' j hj
    rw [hF, hTh] at this
    rw [this]
    refine congrArg some ?_
    exact arrV_new (κ.2.1 0) K' (.int 0)
  rw [vp_outer, arrV_ext (g := fun j => va_rf (some (H.size + 1 + j))) (fun j hj => by simp [hj])] at f2
  have hA0 : κ.2.2 0 ≤ H.size := Nat.le_trans C.2.2.2.2.2.1.1 hs.1
  obtain ⟨t, a1, b1⟩ := kk H.size (fun i => H.size + 1 + i) (fun b => if b = H.size then some (ro, .inl (κ.2.1 3, zQ N' (fun i => some (H.size + 1 + i)))) else if H.size + 1 ≤ b ∧ b < H.size + 1 + N' then some (rw0 (b - (H.size + 1)), .inl (κ.2.1 0, K', .inl (fun _ => 0))) else G b)
    (by
      cases hG : G H.size with
      | none => rfl
      | some x => exact absurd (zh_lt hg hG) (Nat.lt_irrefl _))
    (if_pos rfl)
    (fun i hi => by
      show (if H.size + 1 + i = H.size then _ else if H.size + 1 ≤ H.size + 1 + i ∧ H.size + 1 + i < H.size + 1 + N' then _ else _) = _
      rw [if_neg (by omega), if_pos ⟨by omega, by omega⟩, show H.size + 1 + i - (H.size + 1) = i by omega])
    ⟨fun a r e _ ha => by
      have hlt := zh_lt hg ha
      show (if a = H.size then _ else if H.size + 1 ≤ a ∧ a < H.size + 1 + N' then _ else G a) = _
      rw [if_neg (by omega), if_neg (by omega)]
      exact ha, fun a ha => by
      dsimp only at ha
      split at ha
      · cases ha
      · split at ha
        · cases ha
        · exact ha⟩
    C F.heap locs ls
    (fun a r e ha => by
      dsimp only at ha
      split at ha
      · next h1 => subst h1; cases ha; exact ⟨f2, hA0⟩
      · split at ha
        · next h1 h2 =>
          cases ha
          refine ⟨?_, by omega⟩
          have := hrow (a - (H.size + 1)) (by omega)
          rw [show H.size + 1 + (a - (H.size + 1)) = a by omega] at this
          exact this
        · obtain ⟨i, hi⟩ := zen_ix hg ha
          exact ⟨(zen_P hg).kept (fun k9 x hx => hold x.1 ((zen_P hg k9 x hx).lt)) i _ hi, (hg _ _ _ ha).2⟩)
    ⟨by rw [f1]; have := hs.1; omega, fun x h1 h2 => (hold x (Nat.lt_of_lt_of_le h1 hs.1)).trans (hs.2.1 x h1 h2), hs.2.2⟩ hl F rfl X'
  refine ⟨t, step t ?_, b1⟩
  have e : T.heap.size = H.size := by rw [hT]
  rw [e]
  exact a1
end ZR6
set_option maxRecDepth 100000 in
set_option maxHeartbeats 400000 in
theorem c_aInit (l : Launch) {κ : zK} {G : zH} {a : Nat} (x : Nat) (ht : G a = some ((2, 3, 0), .inr (1, [.null, .null, .null, .null, .null, .int 0, .int 0]))) : Ct l yX0_init cX0_init 2 none (rmK 1 29 794 20) κ [.ref a, .ref x] G (pV (fun G2 => zAL κ G2 a x 0 0 (fun _ => 0) (fun _ => 0) (fun _ => 0) (fun _ _ => 0) ∧ zFP (fun r => r = (2, 3, 0)) G G2)) := by
  refine Ct.of (by decide +kernel) (fun v hv => by
    simp only [List.mem_cons, List.mem_nil_iff, or_false, List.not_mem_nil] at hv
    rcases hv with rfl | rfl <;> rfl) (Nat.le_of_ble_eq_true rfl) ?_
  intro p e s m args below meth cC
  refine z_L (L' := [some (.ref a), some (.ref x)]) rfl ?_
  generalize hQx : MQ below (zQc κ _) args s _ _ (zA κ) = Qx
  refine z_al0 (pc := 0) dX0_init_0 ?_
  refine z_objInit (pc := 1) kw_47 kw_29 kw_30 (Nat.le_of_ble_eq_true rfl |> fun h => ⟨h, Nat.le_of_ble_eq_true rfl⟩) dX0_init_1 ?_
  refine z_al0 (pc := 4) dX0_init_4 ?_
  refine z_bipush (pc := 5) (25) (by decide) dX0_init_5 ?_
  refine z_bipush (pc := 7) (25) (by decide) dX0_init_7 ?_
  refine z_mna (pc := 9) 25 25 (2, 4, 0) (fun i => (2, 5, i)) kw_48 kw_41 rfl rfl ⟨Nat.le_of_ble_eq_true rfl, Nat.le_of_ble_eq_true rfl⟩ ⟨Nat.le_of_ble_eq_true rfl, Nat.le_of_ble_eq_true rfl⟩ dX0_init_9 (fun q4 rr G4 hn4 hq4 hr4 hF4 => ?_)
  skip
  refine z_putFg (pc := 13) 1 (hF4.1 _ _ _ (fun h => h) ht) rfl iw_X0 tyX0 tyX0_ok nmX0 (by decide) kw_51 rfl rfl rfl rfl rfl rfl (Nat.le_of_ble_eq_true rfl) dX0_init_13 (fun G5 h5x hF5 => ?_)
  refine z_al0 (pc := 16) dX0_init_16 ?_
  refine z_bipush (pc := 17) (48) (by decide) dX0_init_17 ?_
  refine z_newag (pc := 19) (atype := .int) (ty := .int) (2, 6, 0) 48 (48, .inl (fun _ => 0)) 0 kw_41 rfl rfl (fun C h => by cases h) (fun cA => rfl) rfl ⟨Nat.le_of_ble_eq_true rfl, Nat.le_of_ble_eq_true rfl⟩ ⟨Nat.le_of_ble_eq_true rfl, Nat.le_of_ble_eq_true rfl⟩ dX0_init_19 (fun q6 G6 hn6 _ hq6 hF6 => ?_)
  skip
  refine z_putFg (pc := 21) 2 (hF6.1 _ _ _ (fun h => h) h5x) rfl iw_X0 tyX0 tyX0_ok nmX0 (by decide) kw_52 rfl rfl rfl rfl rfl rfl (Nat.le_of_ble_eq_true rfl) dX0_init_21 (fun G7 h7x hF7 => ?_)
  refine z_al0 (pc := 24) dX0_init_24 ?_
  refine z_bipush (pc := 25) (48) (by decide) dX0_init_25 ?_
  refine z_newag (pc := 27) (atype := .int) (ty := .int) (2, 7, 0) 48 (48, .inl (fun _ => 0)) 0 kw_41 rfl rfl (fun C h => by cases h) (fun cA => rfl) rfl ⟨Nat.le_of_ble_eq_true rfl, Nat.le_of_ble_eq_true rfl⟩ ⟨Nat.le_of_ble_eq_true rfl, Nat.le_of_ble_eq_true rfl⟩ dX0_init_27 (fun q8 G8 hn8 _ hq8 hF8 => ?_)
  skip
  refine z_putFg (pc := 29) 3 (hF8.1 _ _ _ (fun h => h) h7x) rfl iw_X0 tyX0 tyX0_ok nmX0 (by decide) kw_53 rfl rfl rfl rfl rfl rfl (Nat.le_of_ble_eq_true rfl) dX0_init_29 (fun G9 h9x hF9 => ?_)
  refine z_al0 (pc := 32) dX0_init_32 ?_
  refine z_bipush (pc := 33) (48) (by decide) dX0_init_33 ?_
  refine z_newag (pc := 35) (atype := .int) (ty := .int) (2, 8, 0) 48 (48, .inl (fun _ => 0)) 0 kw_41 rfl rfl (fun C h => by cases h) (fun cA => rfl) rfl ⟨Nat.le_of_ble_eq_true rfl, Nat.le_of_ble_eq_true rfl⟩ ⟨Nat.le_of_ble_eq_true rfl, Nat.le_of_ble_eq_true rfl⟩ dX0_init_35 (fun q10 G10 hn10 _ hq10 hF10 => ?_)
  skip
  refine z_putFg (pc := 37) 4 (hF10.1 _ _ _ (fun h => h) h9x) rfl iw_X0 tyX0 tyX0_ok nmX0 (by decide) kw_54 rfl rfl rfl rfl rfl rfl (Nat.le_of_ble_eq_true rfl) dX0_init_37 (fun G11 h11x hF11 => ?_)
  refine z_al0 (pc := 40) dX0_init_40 ?_
  refine z_al1 (pc := 41) dX0_init_41 ?_
  skip
  refine z_putFg (pc := 42) 0 h11x rfl iw_X0 tyX0 tyX0_ok nmX0 (by decide) kw_50 rfl rfl rfl rfl rfl rfl (Nat.le_of_ble_eq_true rfl) dX0_init_42 (fun G12 h12x hF12 => ?_)
  rw [← hQx]
  have hS : zFP (fun r => r = (2, 3, 0)) G4 G12 := ((hF5.trans (hF6.mono (fun r h => h.elim))).trans (hF7.trans (hF8.mono (fun r h => h.elim)))).trans ((hF9.trans (hF10.mono (fun r h => h.elim))).trans (hF11.trans hF12))
  have hS1 : zFP (fun r => r = (2, 3, 0)) G6 G12 := (hF7.trans (hF8.mono (fun r h => h.elim))).trans ((hF9.trans (hF10.mono (fun r h => h.elim))).trans (hF11.trans hF12))
  have hS2 : zFP (fun r => r = (2, 3, 0)) G8 G12 := ((hF9.trans (hF10.mono (fun r h => h.elim))).trans (hF11.trans hF12))
  have hS3 : zFP (fun r => r = (2, 3, 0)) G10 G12 := hF11.trans hF12
  refine z_vret (pc := 45) rfl ⟨Nat.le_of_ble_eq_true rfl, Nat.le_of_ble_eq_true rfl⟩ dX0_init_45 (⟨rfl, ⟨q4, q6, q8, q10, rr, h12x, hS.1 _ _ _ (fun h => by cases h) hq4, fun i hi => hS.1 _ _ _ (fun h => by cases h) (hr4 i hi), hS1.1 _ _ _ (fun h => by cases h) hq6, hS2.1 _ _ _ (fun h => by cases h) hq8, hS3.1 _ _ _ (fun h => by cases h) hq10, Nat.zero_le _⟩, (hF4.mono (fun r h => h.elim)).trans hS⟩)
