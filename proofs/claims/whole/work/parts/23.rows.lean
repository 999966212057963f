theorem CtF.of {l : Launch} {y : MethodName} {cc : ByteArray} {nL : Nat} {ret : Option FieldType} {rm : Room} {κ : zK} {av : List Value} {G : zH} {post : Option Value → zH → Prop} (hy : plainFor y = true) (hav : ∀ v ∈ av, v.category = 1) (hn : av.length ≤ nL)
    (body : ∀ (p : Program) (e : Env) (s : State) (m : MethodId) (args : Array Value) (below : List Frame) (meth : Method) (c : Code), Z p l e rm s m args below meth c y cc nL ret κ (MQ below (zQc κ post) args s rm.cells rm.slots (zA κ)) 0 0 G (av.map some ++ List.replicate (nL - av.length) none) 0 []) : Ct l y cc nL ret rm κ av G post := by
  refine va_MetF (cc := cc) (maxL := nL) (ret := ret) hy rfl ?_
  intro p e s m args below meth c s₁ B hml hv
  obtain ⟨rfl, hok, hgh⟩ := hv
  have hts := atoms_spec (ws := .code y cc nL ret :: TB) B.pre
  have hsl := zsl_len av hav
  have hl := lv_entry av (n := nL) (by rw [hsl]; exact hn)
  rw [lg_entry_eq]
  refine body p e s m _ below meth c ⟨B.exec, B.bytes, hml, findClass_of_methodNamed B.named, fun w h => hts w (List.mem_cons_of_mem _ h), hok, B.returns, B.notSynchronized, (name_of_methodNamed B.named B.method).1⟩ s.heap [] _ hgh va_S.rf ⟨hl.1, hl.2.1, fun i v hi => ?_⟩
  by_cases hia : i < av.length
  · rw [List.getElem?_append_left (by simpa using hia), List.getElem?_map] at hi
    cases hv : av[i]? with
    | none => rw [hv] at hi; cases hi
    | some w =>
      rw [hv] at hi
      cases hi
      refine ⟨hl.2.2 (i, v) ?_, hav v (List.mem_of_getElem? hv)⟩
      have := zargs_mem av 0 i v hav hv
      rwa [Nat.zero_add] at this
  · rw [List.getElem?_append_right (by simpa using hia), List.getElem?_replicate] at hi
    split at hi <;> cases hi
/-- what is known at roles that aren't P's stays known -/
def zFP (P : zR → Prop) (G G' : zH) : Prop := (∀ (a : Nat) (r : zR) (e : va_E), ¬ P r → G a = some (r, e) → G' a = some (r, e)) ∧ ∀ a : Nat, G' a = none → G a = none
theorem zFP.rf {P : zR → Prop} {G : zH} : zFP P G G := ⟨fun _ _ _ _ h => h, fun _ h => h⟩
theorem zFP.trans {P : zR → Prop} {G1 G2 G3 : zH} (h1 : zFP P G1 G2) (h2 : zFP P G2 G3) : zFP P G1 G3 := ⟨fun a r e hr h => h2.1 a r e hr (h1.1 a r e hr h), fun a h => h1.2 a (h2.2 a h)⟩
theorem zFP.mono {P P2 : zR → Prop} {G1 G2 : zH} (h : zFP P G1 G2) (hp : ∀ r, P r → P2 r) : zFP P2 G1 G2 := ⟨fun a r e hr ha => h.1 a r e (fun q => hr (hp r q)) ha, h.2⟩
theorem zFP.up {G : zH} {a : Nat} {r : zR} {e e' : va_E} (h : G a = some (r, e)) : zFP (fun q => q = r) G (zu G a (r, e')) := ⟨fun b r2 e2 h2 hb => zu_r h hb h2, fun _ h => zu_no h⟩
theorem zFP.push {P : zR → Prop} {G : zH} {a : Nat} {x : zR × va_E} (h : G a = none) : zFP P G (zu G a x) := ⟨fun b r2 e2 h2 hb => by rw [zu_n (fun q => by rw [q, h] at hb; cases hb)]; exact hb, fun _ h => zu_no h⟩
theorem zFP.F {P : zR → Prop} {n : Nat} {G1 G2 : zH} (h : zFP P G1 G2) (hp : ∀ r, P r → r.1 = n) : zF n G1 G2 := ⟨fun a r e hr ha => h.1 a r e (fun q => hr (hp r q)) ha, h.2⟩
abbrev zQ (n : Nat) (f : Nat → Option Nat) : vp_A := (n, .inr (.inr (.inr (.inr f))))
abbrev zPa (a : Nat) (G : zH) : Option Value → zH → Prop := pA (fun v G' => v = some a ∧ G' = G)
abbrev zPq (v0 : Option Nat) (G : zH) : Option Value → zH → Prop := pA (fun v G' => v = v0 ∧ G' = G)
theorem zAny {κ : zK} {s : State} {H : Heap} {G : zH} {v ci : Nat} {rv : zR} {vs : List Value} {vc : vw_C} (hok : zOK κ s) (hg : zh κ G H) (hv : G v = some (rv, .inr (ci, vs))) (hc : vwCl[ci]? = some vc) (hn : Cond.castable vc.1 "java/lang/Object" ∈ NB) : va_Any "java/lang/Object" s H v := by
  obtain ⟨q0, hq⟩ := zen_ix hg hv
  refine va_rAny hok.2.1 (zen_P hg) hq hc (fun comp c0 h1 h2 => ?_)
  obtain ⟨c3, t3, f1, f2, f3⟩ := Cond.castable_spec (hok.2.2.2.1 _ hn)
  rw [Option.some.inj (h2.symm.trans f1), Option.some.inj (h1.symm.trans f2)]
  exact f3
section ZR5
variable {p : Program} {l : Launch} {e : Env} {R : Room} {s : State} {m : MethodId} {args : Array Value} {below : List Frame} {meth : Method} {c : Code} {y : MethodName} {cc : ByteArray} {nL : Nat} {ret : Option FieldType} {κ : zK} {Q : State → Prop} {nc ns : Nat} {G : zH} {L : List (Option Value)} {pc : Nat} {st : List Value}
theorem z_getS {a : Nat} {r : zR} {ci : Nat} {fs : List Value} {C : String} {T : u_T} {N index : Nat} {v : Value} {ref : String} (k : Nat) (h0 : G a = some (r, .inr (ci, fs))) (hc : vwCl[ci]? = some (C, T, N)) (hin : ∀ w ∈ u_ws C T N, w ∈ TB) (hk : k < N) (hw : Cond.fieldLink y.cls index ref (T k).2.1 (T k).2.2.1 ∈ TB) (hsf : Cond.sameField ref (T k).1 (T k).2.1 (T k).2.2.1 ∈ TB) (hv : fs[k]? = some v) (hd : decode cc pc = .ok (.getfield index, 3)) (kk : Z p l e R s m args below meth c y cc nL ret κ Q nc ns G L (pc + 3) (v :: st)) : Z p l e R s m args below meth c y cc nL ret κ Q nc ns G L pc (.ref a :: st) := fun C H locs ls hg hs hl => by
  obtain ⟨q0, hq⟩ := zen_ix hg h0
  exact va_get C.1 C.2.1 C.2.2.2.2.1 hin C.2.2.2.1 C.2.2.2.2.2.1.2.1 (zen_P hg) q0 hq hc k hk (C.2.2.2.2.1 _ hw) (fun x h => u_same (C.2.2.2.2.1 _ hsf) x h) hv hd (kk C H locs ls hg hs hl)
theorem z_putS {a : Nat} {r : zR} {ci : Nat} {fs : List Value} {C : String} {T : u_T} {N index : Nat} {v : Value} {ty : FieldType} {ref : String} (k : Nat) (h0 : G a = some (r, .inr (ci, fs))) (hc : vwCl[ci]? = some (C, T, N)) (hin : ∀ w ∈ u_ws C T N, w ∈ TB) (ty0 : Nat → FieldType) (hty : ∀ k, k < N → parseFieldDescriptor (T k).2.2.1 = some (ty0 k)) (hnm : ∀ a, a < N → ∀ b, b < N → a ≠ b → (T a).2.1 ≠ (T b).2.1) (hk : k < N) (hw : Cond.fieldLink y.cls index ref (T k).2.1 (T k).2.2.1 ∈ TB) (hsf : Cond.sameField ref (T k).1 (T k).2.1 (T k).2.2.1 ∈ TB) (hfin : (T k).2.2.2 = false) (ht : parseFieldDescriptor (T k).2.2.1 = some ty) (hn : narrow ty v = v) (hfit : fits ty v = true) (hlen : k < fs.length) (hd : decode cc pc = .ok (.putfield index, 3)) (kk : ∀ G1 : zH, G1 a = some (r, .inr (ci, fs.set k v)) → zFP (fun q => q = r) G G1 → Z p l e R s m args below meth c y cc nL ret κ Q nc ns G1 L (pc + 3) st) : Z p l e R s m args below meth c y cc nL ret κ Q nc ns G L pc (v :: .ref a :: st) := fun C H locs ls hg hs hl => by
  obtain ⟨q0, hq⟩ := zen_ix hg h0
  exact va_put C.1 C.2.1 C.2.2.2.2.1 hin ty0 hty hnm C.2.2.2.1 C.2.2.2.2.2.1.2.1 (zen_P hg) (zen_D hg) hs q0 hq hc k hk (C.2.2.2.2.1 _ hw) (fun x h => u_same (C.2.2.2.2.1 _ hsf) x h) hfin ht hn hfit hlen hd (fun H1 locs1 hP _ hS => kk _ zu_s (zFP.up h0) C H1 locs1 ls (zen_set hg h0 hq hP) hS hl)
theorem z_putg {a : Nat} {r : zR} {ci : Nat} {fs : List Value} {C : String} {T : u_T} {N index : Nat} {v : Value} {ty : FieldType} (k : Nat) (h0 : G a = some (r, .inr (ci, fs))) (hc : vwCl[ci]? = some (C, T, N)) (hin : ∀ w ∈ u_ws C T N, w ∈ TB) (ty0 : Nat → FieldType) (hty : ∀ k, k < N → parseFieldDescriptor (T k).2.2.1 = some (ty0 k)) (hnm : ∀ a, a < N → ∀ b, b < N → a ≠ b → (T a).2.1 ≠ (T b).2.1) (hk : k < N) (hw : Cond.fieldLink y.cls index (T k).1 (T k).2.1 (T k).2.2.1 ∈ TB) (hfin : (T k).2.2.2 = false) (ht : parseFieldDescriptor (T k).2.2.1 = some ty) (hn : narrow ty v = v) (hfit : fits ty v = true) (hlen : k < fs.length) (hd : decode cc pc = .ok (.putfield index, 3)) (kk : ∀ G1 : zH, G1 a = some (r, .inr (ci, fs.set k v)) → zFP (fun q => q = r) G G1 → Z p l e R s m args below meth c y cc nL ret κ Q nc ns G1 L (pc + 3) st) : Z p l e R s m args below meth c y cc nL ret κ Q nc ns G L pc (v :: .ref a :: st) := z_put k h0 hc hin ty0 hty hnm hk hw hfin ht hn hfit hlen hd (kk _ zu_s (zFP.up h0))
theorem z_putNg {host : String} {a : Nat} {r : zR} {ci : Nat} {fs : List Value} {C : String} {T : u_T} {N index : Nat} {v : Value} {ty : FieldType} (k : Nat) (h0 : G a = some (r, .inr (ci, fs))) (hc : vwCl[ci]? = some (C, T, N)) (hin : ∀ w ∈ u_ws C T N, w ∈ TB) (ty0 : Nat → FieldType) (hty : ∀ k, k < N → parseFieldDescriptor (T k).2.2.1 = some (ty0 k)) (hnm : ∀ a, a < N → ∀ b, b < N → a ≠ b → (T a).2.1 ≠ (T b).2.1) (hk : k < N) (hw : Cond.fieldLinkNest y.cls index (T k).1 (T k).2.1 (T k).2.2.1 host ∈ NB) (hfin : (T k).2.2.2 = false) (ht : parseFieldDescriptor (T k).2.2.1 = some ty) (hn : narrow ty v = v) (hfit : fits ty v = true) (hlen : k < fs.length) (hd : decode cc pc = .ok (.putfield index, 3)) (kk : ∀ G1 : zH, G1 a = some (r, .inr (ci, fs.set k v)) → zFP (fun q => q = r) G G1 → Z p l e R s m args below meth c y cc nL ret κ Q nc ns G1 L (pc + 3) st) : Z p l e R s m args below meth c y cc nL ret κ Q nc ns G L pc (v :: .ref a :: st) := z_putN k h0 hc hin ty0 hty hnm hk hw hfin ht hn hfit hlen hd (kk _ zu_s (zFP.up h0))
theorem z_putFg {a : Nat} {r : zR} {ci : Nat} {fs : List Value} {C : String} {T : u_T} {N index : Nat} {v : Value} {ty : FieldType} (k : Nat) (h0 : G a = some (r, .inr (ci, fs))) (hc : vwCl[ci]? = some (C, T, N)) (hin : ∀ w ∈ u_ws C T N, w ∈ TB) (ty0 : Nat → FieldType) (hty : ∀ k, k < N → parseFieldDescriptor (T k).2.2.1 = some (ty0 k)) (hnm : ∀ a, a < N → ∀ b, b < N → a ≠ b → (T a).2.1 ≠ (T b).2.1) (hk : k < N) (hw : Cond.fieldLink y.cls index (T k).1 (T k).2.1 (T k).2.2.1 ∈ TB) (hfin : (T k).2.2.2 = true) (hy1 : y.name = "<init>") (hy2 : (T k).1 = y.cls) (ht : parseFieldDescriptor (T k).2.2.1 = some ty) (hn : narrow ty v = v) (hfit : fits ty v = true) (hlen : k < fs.length) (hd : decode cc pc = .ok (.putfield index, 3)) (kk : ∀ G1 : zH, G1 a = some (r, .inr (ci, fs.set k v)) → zFP (fun q => q = r) G G1 → Z p l e R s m args below meth c y cc nL ret κ Q nc ns G1 L (pc + 3) st) : Z p l e R s m args below meth c y cc nL ret κ Q nc ns G L pc (v :: .ref a :: st) := z_putF k h0 hc hin ty0 hty hnm hk hw hfin hy1 hy2 ht hn hfit hlen hd (kk _ zu_s (zFP.up h0))
theorem z_iastg {a : Nat} {r : zR} {n : Nat} {f : Nat → Int32} {i x : Int32} (j : Nat) (h0 : G a = some (r, .inl (κ.2.1 0, n, .inl f))) (hi : i = nI j) (hj : j < n) (hn : n < 2 ^ 31) (hd : decode cc pc = .ok (.iastore, 1)) (kk : ∀ G1 : zH, G1 a = some (r, .inl (κ.2.1 0, n, .inl (upd f j x))) → zFP (fun q => q = r) G G1 → Z p l e R s m args below meth c y cc nL ret κ Q nc ns G1 L (pc + 1) st) : Z p l e R s m args below meth c y cc nL ret κ Q nc ns G L pc (.int x :: .int i :: .ref a :: st) := z_iast j h0 hi hj hn hd (kk _ zu_s (zFP.up h0))
theorem z_zastg {a : Nat} {r : zR} {n : Nat} {f : Nat → Int32} {i x : Int32} (j : Nat) (h0 : G a = some (r, .inl (κ.2.1 1, n, .inl f))) (hi : i = nI j) (hj : j < n) (hn : n < 2 ^ 31) (hd : decode cc pc = .ok (.bastore, 1)) (kk : ∀ G1 : zH, G1 a = some (r, .inl (κ.2.1 1, n, .inl (upd f j (vp_nar .boolean x)))) → zFP (fun q => q = r) G G1 → Z p l e R s m args below meth c y cc nL ret κ Q nc ns G1 L (pc + 1) st) : Z p l e R s m args below meth c y cc nL ret κ Q nc ns G L pc (.int x :: .int i :: .ref a :: st) := z_zast j h0 hi hj hn hd (kk _ zu_s (zFP.up h0))
theorem z_aastq {a v ci : Nat} {r rv : zR} {n : Nat} {f : Nat → Option Nat} {vs : List Value} {vc : vw_C} {i : Int32} (j : Nat) (h0 : G a = some (r, .inl (κ.2.1 2, zQ n f))) (hv : G v = some (rv, .inr (ci, vs))) (hc : vwCl[ci]? = some vc) (hcn : Cond.castable vc.1 "java/lang/Object" ∈ NB) (hi : i = nI j) (hj : j < n) (hn : n < 2 ^ 31) (hd : decode cc pc = .ok (.aastore, 1)) (kk : ∀ G1 : zH, G1 a = some (r, .inl (κ.2.1 2, zQ n (va_up f j (some v)))) → zFP (fun q => q = r) G G1 → Z p l e R s m args below meth c y cc nL ret κ Q nc ns G1 L (pc + 1) st) : Z p l e R s m args below meth c y cc nL ret κ Q nc ns G L pc (.ref v :: .int i :: .ref a :: st) := fun C H locs ls hg hs hl => by
  obtain ⟨q0, hq⟩ := zen_ix hg h0
  subst hi
  refine va_astqM C.1 C.2.1 C.2.2.2.2.2.1.2.1 (zen_P hg) (zen_D hg) hs q0 2 hq rfl (zAny C.2.2.2.2.2.1 hg hv hc hcn) (vp_in_nI hj hn) hd (fun H1 locs1 hP _ hS => ?_)
  rw [nI_clamp (Nat.lt_trans hj hn)] at hP
  exact kk _ zu_s (zFP.up h0) C H1 locs1 ls (zen_set hg h0 hq hP) hS hl
theorem z_aastN {a : Nat} {r : zR} {n : Nat} {f : Nat → Option Nat} {i : Int32} (j : Nat) (h0 : G a = some (r, .inl (κ.2.1 2, zQ n f))) (hi : i = nI j) (hj : j < n) (hn : n < 2 ^ 31) (hd : decode cc pc = .ok (.aastore, 1)) (kk : ∀ G1 : zH, G1 a = some (r, .inl (κ.2.1 2, zQ n (va_up f j none))) → zFP (fun q => q = r) G G1 → Z p l e R s m args below meth c y cc nL ret κ Q nc ns G1 L (pc + 1) st) : Z p l e R s m args below meth c y cc nL ret κ Q nc ns G L pc (.null :: .int i :: .ref a :: st) := fun C H locs ls hg hs hl => by
  obtain ⟨q0, hq⟩ := zen_ix hg h0
  subst hi
  have hin := vp_in_nI hj hn
  have hK := C.2.2.2.2.2.1.2.1
  have hlt : (nI j).toNatClampNeg < n := Nat.not_le.mp fun q => hin (Or.inr q)
  refine va_WaastN C.1 C.2.1 (zen_P hg q0 _ hq) ((hK.2 2 _ rfl).1 n (fun j => va_rf (f j))) (fun q => by cases q) (by show ¬ (nI j < 0 ∨ (arrV _ _ _).slots.size ≤ _); rw [arrV_size]; exact hin) rfl rfl hd fun H1 e z oq => ?_
  have hP1 : va_P κ.1 vwCl ((zen G H.size).set q0 (a, .inl (κ.2.1 2, zQ n (va_up f j none)))) H1 := by
    refine (zen_P hg).set (zen_D hg) hq ?_ oq
    show H1[a]? = some (vp_cell _ _)
    rw [e]
    rw [vp_cell_q, vp_cell_q, arrV_store]
    congr 2
    funext q
    rw [nI_clamp (Nat.lt_trans hj hn)]
    by_cases hqj : q = j
    · subst hqj
      simp [updV, va_up, va_rf]
    · simp [updV, va_up, hqj]
  exact kk _ zu_s (zFP.up h0) C H1 _ ls (zen_set hg h0 hq hP1) (hs.put z oq ((zen_D hg).2 q0 _ hq)) hl
theorem z_anew {index : Nat} {n : Int32} (r : zR) (N' : Nat) (hw : Cond.classLink y.cls index "java/lang/Object" ∈ TB) (hn : n = nI N') (hN : N' * 4 ≤ 536870912 ∧ N' < 2 ^ 31) (hR : nc + 1 ≤ R.cells ∧ ns + N' ≤ R.slots) (hd : decode cc pc = .ok (.anewarray index, 3)) (kk : ∀ (q : Nat) (G1 : zH), G q = none → κ.2.2 0 ≤ q → G1 q = some (r, .inl (κ.2.1 2, zQ N' (fun _ => none))) → zFP (fun _ => False) G G1 → Z p l e R s m args below meth c y cc nL ret κ Q (nc + 1) (ns + N') G1 L (pc + 3) (.ref q :: st)) : Z p l e R s m args below meth c y cc nL ret κ Q nc ns G L pc (.int n :: st) := fun C H locs ls hg hs hl =>
  va_newq C.1 C.2.1 C.2.2.2.1 (C.2.2.2.2.1 _ hw) C.2.2.2.2.2.1.2.2.2.2.1 C.2.2.2.2.2.1.2.1 (zen_P hg) (zen_D hg) hs (fun q h => Nat.le_trans C.2.2.2.2.2.1.1 h) (by rw [hn]; exact nI_pos hN.2) (by rw [hn]; exact nI_clamp hN.2) hN.1 hR.1 hR.2 hd (fun q cA H1 hK hP hD hS => by
    have e1 := (hK.2 (zt κ).length (cA, .object "java/lang/Object") (by simp)).2
    have e2 := (C.2.2.2.2.2.1.2.1.2 2 _ (show (zt κ)[2]? = some (κ.2.1 2, .object "java/lang/Object") from rfl)).2
    have e3 : cA = κ.2.1 2 := by
      obtain ⟨-, -, -, -, -, h4⟩ := e1
      obtain ⟨-, -, -, -, -, h5⟩ := e2
      exact Option.some.inj (h4.symm.trans h5)
    subst e3
    obtain ⟨h1, h2, h3⟩ := zen_push hg r hP hD
    exact kk q _ h1 h2 zu_s (zFP.push h1) C H1 locs ls h3 hS hl)
theorem z_ldcM {index : Nat} (hw : Cond.classLink y.cls index "[Ljava/lang/Object;" ∈ TB) (hd : decode cc pc = .ok (.ldc index, 2)) (kk : Z p l e R s m args below meth c y cc nL ret κ Q nc ns G L (pc + 2) (.ref (κ.2.2 3) :: st)) : Z p l e R s m args below meth c y cc nL ret κ Q nc ns G L pc st := fun C H locs ls hg hs hl => va_ldcM C.1 C.2.1 C.2.2.2.1 (C.2.2.2.2.1 _ hw) C.2.2.2.2.2.1.2.2.2.2.2.1 hd (kk C H locs ls hg hs hl)
theorem z_getC {index a n : Nat} {r : zR} {f : Nat → Option Nat} (w1 : Cond.methodLink y.cls index ⟨"java/lang/Object", "getClass", "()Ljava/lang/Class;"⟩ ∈ TB) (h0 : G a = some (r, .inl (κ.2.1 2, zQ n f))) (hR : 1 ≤ R.frames ∧ 22 ≤ R.locals) (hW : (st.map fun v => v.category).sum ≤ 8) (hd : decode cc pc = .ok (.invokevirtual index, 3)) (kk : Z p l e R s m args below meth c y cc nL ret κ Q nc ns G L (pc + 3) (.ref (κ.2.2 3) :: st)) : Z p l e R s m args below meth c y cc nL ret κ Q nc ns G L pc (.ref a :: st) := fun C H locs ls hg hs hl => by
  obtain ⟨q0, hq⟩ := zen_ix hg h0
  have hK := C.2.2.2.2.2.1.2.1
  have hcls := va_nmO (nm := "[Ljava/lang/Object;") (hK.2 2 (κ.2.1 2, .object "java/lang/Object") rfl).2 (by decide)
  exact va_getC C.1 C.2.1 (by rw [C.2.2.1]; exact hl.1.symm) C.2.2.2.1 (C.2.2.2.2.1 _ w1) (va_Nw.use rfl (C.2.2.2.2.2.1.2.2.2.1 _ kn_1009)) (C.2.2.2.2.1 _ kw_1008) (C.2.2.2.2.1 _ kw_259) (C.2.2.2.2.1 _ kw_272) C.2.2.2.2.2.1.2.2.2.2.2.1 ⟨_, zen_P hg q0 _ hq, rfl, hcls⟩ hR.1 (by have := hR.2; omega) hd (kk C H locs ls hg hs hl)
theorem z_copy {index a a0 n0 n1 N : Nat} {r r0 : zR} {f g : Nat → Option Nat} (w1 : Cond.methodLink y.cls index arraycopyName ∈ TB) (h0 : G a0 = some (r0, .inl (κ.2.1 2, zQ n0 f))) (h1 : G a = some (r, .inl (κ.2.1 2, zQ n1 g))) (hN : N ≤ n0 ∧ N ≤ n1 ∧ n0 < 2 ^ 31) (hel : ∀ i : Nat, i < N → ∀ x : Nat, f i = some x → ∃ (rx : zR) (ci : Nat) (xs : List Value) (vc : vw_C), G x = some (rx, .inr (ci, xs)) ∧ vwCl[ci]? = some vc ∧ Cond.castable vc.1 "java/lang/Object" ∈ NB) (hR : 1 ≤ R.frames ∧ 8 + (nativeFrameWords "java/lang/System" "arraycopy" 5 + 11) ≤ R.locals) (hW : (st.map fun v => v.category).sum ≤ 8) (hd : decode cc pc = .ok (.invokestatic index, 3)) (kk : ∀ G1 : zH, G1 a = some (r, .inl (κ.2.1 2, zQ n1 (va_cpy f g 0 0 N))) → zFP (fun q => q = r) G G1 → Z p l e R s m args below meth c y cc nL ret κ Q nc ns G1 L (pc + 3) st) : Z p l e R s m args below meth c y cc nL ret κ Q nc ns G L pc (.int (nI N) :: .int 0 :: .ref a :: .int 0 :: .ref a0 :: st) := fun C H locs ls hg hs hl => by
  obtain ⟨q0, hq0⟩ := zen_ix hg h0
  obtain ⟨q1, hq1⟩ := zen_ix hg h1
  have e0 : (0 : Int32).toNatClampNeg = 0 := rfl
  have eN : (nI N).toNatClampNeg = N := nI_clamp (by omega)
  refine va_copyM C.1 C.2.1 (by rw [C.2.2.1]; exact hl.1.symm) C.2.2.2.1 (C.2.2.2.2.1 _ w1) (C.2.2.2.2.1 _ kw_284) (C.2.2.2.2.1 _ kw_283) (C.2.2.2.2.1 _ kw_14) C.2.2.2.2.2.1.2.1 (zen_P hg) (zen_D hg) hs q0 q1 2 2 hq0 hq1 rfl rfl (by decide) (by decide) (nI_pos (by omega)) (by rw [e0, eN]; omega) (by rw [e0, eN]; omega) (fun i hi x hx => ?_) hR.1 (by have := hR.2; omega) hd (fun H1 locs1 hP _ hS => ?_)
  · rw [e0, Nat.zero_add] at hx
    rw [eN] at hi
    obtain ⟨rx, ci, xs, vc, g1, g2, g3⟩ := hel i hi x hx
    exact zAny C.2.2.2.2.2.1 hg g1 g2 g3
  · rw [e0, eN] at hP
    exact kk _ zu_s (zFP.up h1) C H1 locs1 ls (zen_set hg h1 hq1 hP) hS hl
theorem z_castS {a ci index : Nat} {r : zR} {fs : List Value} {vc : vw_C} (h0 : G a = some (r, .inr (ci, fs))) (hc : vwCl[ci]? = some vc) (hw : Cond.classLink y.cls index vc.1 ∈ TB) (hd : decode cc pc = .ok (.checkcast index, 3)) (kk : Z p l e R s m args below meth c y cc nL ret κ Q nc ns G L (pc + 3) (.ref a :: st)) : Z p l e R s m args below meth c y cc nL ret κ Q nc ns G L pc (.ref a :: st) := fun C H locs ls hg hs hl => by
  obtain ⟨q0, hq⟩ := zen_ix hg h0
  have hK := C.2.2.2.2.2.1.2.1
  exact va_castS C.1 C.2.1 C.2.2.2.1 (C.2.2.2.2.1 _ hw) (hK.1 ci vc hc).2 (va_recv hK (zen_P hg) hc hq) hd (kk C H locs ls hg hs hl)
theorem z_newg {ci : Nat} {C : String} {T : u_T} {N index : Nat} (r : zR) (fs : List Value) (hc : vwCl[ci]? = some (C, T, N)) (hin : ∀ w ∈ u_ws C T N, w ∈ TB) (ty : Nat → FieldType) (hty : ∀ k, k < N → parseFieldDescriptor (T k).2.2.1 = some (ty k)) (w1 : Cond.classLink y.cls index C ∈ TB) (w2 : Cond.instantiable C N ∈ TB) (w3 : Cond.initialized C ∈ TB) (hfs : ∀ j, j < N → defaultValue (ty j) = vp_V fs j) (hR : nc + 1 ≤ R.cells ∧ ns + N ≤ R.slots) (hd : decode cc pc = .ok (.new index, 3)) (kk : ∀ (q : Nat) (G1 : zH), G q = none → κ.2.2 0 ≤ q → G1 q = some (r, .inr (ci, fs)) → zFP (fun _ => False) G G1 → Z p l e R s m args below meth c y cc nL ret κ Q (nc + 1) (ns + N) G1 L (pc + 3) (.ref q :: st)) : Z p l e R s m args below meth c y cc nL ret κ Q nc ns G L pc st := z_new r fs hc hin ty hty w1 w2 w3 hfs hR hd (fun q h1 h2 => kk q _ h1 h2 zu_s (zFP.push h1))
theorem z_newag {atype : ArrayType} {ty : FieldType} {n : Int32} (r : zR) (N' : Nat) (a0 : vp_A) (t0 : Nat) (hw : Cond.arrayClass (newarray.typeOf atype) ∈ TB) (hty : newarray.typeOf atype = ty) (ht : (zt κ)[t0]? = some (κ.2.1 t0, ty)) (hpr : ∀ C : String, ty ≠ .object C) (ha : ∀ cA : ClassId, vp_cell cA a0 = arrV cA N' (fun _ => defaultValue ty)) (hn : n = nI N') (hN : N' * componentBytes ty ≤ 536870912 ∧ N' < 2 ^ 31) (hR : nc + 1 ≤ R.cells ∧ ns + N' ≤ R.slots) (hd : decode cc pc = .ok (.newarray atype, 2)) (kk : ∀ (q : Nat) (G1 : zH), G q = none → κ.2.2 0 ≤ q → G1 q = some (r, .inl (κ.2.1 t0, a0)) → zFP (fun _ => False) G G1 → Z p l e R s m args below meth c y cc nL ret κ Q (nc + 1) (ns + N') G1 L (pc + 2) (.ref q :: st)) : Z p l e R s m args below meth c y cc nL ret κ Q nc ns G L pc (.int n :: st) := z_newa r N' a0 t0 hw hty ht hpr ha hn hN hR hd (fun q h1 h2 => kk q _ h1 h2 zu_s (zFP.push h1))
theorem z_callVrq {y2 : MethodName} {cc2 : ByteArray} {nL2 : Nat} {ret2 : Option FieldType} {rm2 : Room} {As rest : List Value} {index : Nat} {v0 : Option Nat} {b : Nat} {rr : zR} {ci : Nat} {fs : List Value} {vc : vw_C} (hC : Ct l y2 cc2 nL2 ret2 rm2 κ (.ref b :: As) G (zPq v0 G)) (hb : G b = some (rr, .inr (ci, fs))) (hcl : vwCl[ci]? = some vc) (hvc : vc.1 = y2.cls) (w1 : Cond.methodLink y.cls index y2 ∈ TB) (hV : zcV y2 cc2 nL2 ret2 As.length) (hR : rm2.frames + 1 ≤ R.frames ∧ 8 + (nL2 + 11) + rm2.locals ≤ R.locals ∧ nc + rm2.cells ≤ R.cells ∧ ns + rm2.slots ≤ R.slots) (hz : rm2.cells = 0 ∧ rm2.slots = 0) (hst : st = As.reverse ++ .ref b :: rest) (hW : (rest.map fun v => v.category).sum ≤ 8) (hd : decode cc pc = .ok (.invokevirtual index, 3)) (k : Z p l e R s m args below meth c y cc nL ret κ Q nc ns G L (pc + 3) (va_rf v0 :: rest)) : Z p l e R s m args below meth c y cc nL ret κ Q nc ns G L pc st := z_callVa G hC rfl hb hcl hvc w1 hV hR hst hW hd (fun v G' h => by
  obtain ⟨rfl, rfl⟩ := h
  exact z_nc0 hz.1 hz.2 k)
end ZR5
