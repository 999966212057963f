/-! methods that throw; the law's own at -/
/-- thrown: the class by its name; the ghost heap stands -/
def XN (κ : zK) (G : zH) (cls : String) : String → State → State → Prop := fun E st t => E = cls ∧ zh κ G t.heap ∧ va_F (zA κ) st t
/-- a method that throws and never answers -/
def CtX (l : Launch) (y : MethodName) (cc : ByteArray) (nL : Nat) (ret : Option FieldType) (rm : Room) (κ : zK) (av : List Value) (G : zH) (cls : String) : Prop :=
  vx_Met l y (.code y cc nL ret :: TB) rm (va_Pc av (fun U => zOK κ U ∧ zh κ G U.heap)) (fun _ _ _ _ => False) (XN κ G cls) rm.cells rm.slots (zA κ)
theorem CtX.of {l : Launch} {y : MethodName} {cc : ByteArray} {nL : Nat} {ret : Option FieldType} {rm : Room} {κ : zK} {av : List Value} {G : zH} {cls : String} (hy : plainName y.cls = true) (hav : ∀ v ∈ av, v.category = 1) (hn : av.length ≤ nL)
    (body : ∀ (p : Program) (e : Env) (s : State) (m : MethodId) (args : Array Value) (below : List Frame) (meth : Method) (c : Code), (∀ x ∈ c.exceptionTable.toList, False) → Z p l e rm s m args below meth c y cc nL ret κ (vx_MQ below (fun _ _ _ _ => False) (XN κ G cls) args s rm.cells rm.slots (zA κ)) 0 0 G (av.map some ++ List.replicate (nL - av.length) none) 0 []) : CtX l y cc nL ret rm κ av G cls := by
  refine vx_ofW (cc := cc) (maxL := nL) (ret := ret) hy rfl ?_
  intro p e s m args below meth c s₁ B hml htab hv
  obtain ⟨rfl, hok, hgh⟩ := hv
  have hts := atoms_spec (ws := .code y cc nL ret :: TB) B.pre
  have hsl := zsl_len av hav
  have hl := lv_entry av (n := nL) (by rw [hsl]; exact hn)
  rw [lg_entry_eq]
  refine body p e s m _ below meth c htab ⟨B.exec, B.bytes, hml, findClass_of_methodNamed B.named, fun w h => hts w (List.mem_cons_of_mem _ h), hok, B.returns, B.notSynchronized, (name_of_methodNamed B.named B.method).1⟩ s.heap [] _ hgh va_S.rf ⟨hl.1, hl.2.1, fun i v hi => ?_⟩
  by_cases hia : i < av.length
  · rw [List.getElem?_append_left (by simpa using hia), List.getElem?_map] at hi
    cases hv : av[i]? with
    | none => rw [hv] at hi; cases hi
    | some w =>
      rw [hv] at hi
      cases hi
      refine ⟨hl.2.2 (i, v) ?_, hav v (List.mem_of_getElem? hv)⟩
      have := zargs_mem av 0 i v hav hv
      rwa [Nat.zero_add] at this
  · rw [List.getElem?_append_right (by simpa using hia), List.getElem?_replicate] at hi
    split at hi <;> cases hi
/-- a contract of a method with an exception table -/
def CtW (l : Launch) (y : MethodName) (cc : ByteArray) (nL : Nat) (ret : Option FieldType) (hh : List (Nat × Nat × Nat × Nat)) (rm : Room) (κ : zK) (av : List Value) (G : zH) (post : Option Value → zH → Prop) : Prop :=
  Met l y (.codeWith y cc nL ret hh :: TB) rm (va_Pc av (fun U => zOK κ U ∧ zh κ G U.heap)) (zQc κ post) rm.cells rm.slots (zA κ)
theorem CtW.of0 {l : Launch} {y : MethodName} {cc : ByteArray} {nL : Nat} {ret : Option FieldType} {hh : List (Nat × Nat × Nat × Nat)} {rm : Room} {κ : zK} {av : List Value} {G : zH} {post : Option Value → zH → Prop} (hy : plainName y.cls = true) (hav : ∀ v ∈ av, v.category = 1) (hn : av.length ≤ nL)
    (body : ∀ (p : Program) (e : Env) (s : State) (m : MethodId) (args : Array Value) (below : List Frame) (meth : Method) (c : Code), c.exceptionTable.toList = tableOf hh → Z p l e rm s m args below meth c y cc nL ret κ (vx_MQ below (zQc κ post) (fun _ _ _ => False) args s rm.cells rm.slots (zA κ)) 0 0 G (av.map some ++ List.replicate (nL - av.length) none) 0 []) : vx_Met l y (.codeWith y cc nL ret hh :: TB) rm (va_Pc av (fun U => zOK κ U ∧ zh κ G U.heap)) (zQc κ post) (fun _ _ _ => False) rm.cells rm.slots (zA κ) := by
  refine vx_ofWH (cc := cc) (maxL := nL) (ret := ret) (hh := hh) hy rfl ?_
  intro p e s m args below meth c s₁ B hml  hv
  obtain ⟨rfl, hok, hgh⟩ := hv
  have hts := atoms_spec (ws := .codeWith y cc nL ret hh :: TB) B.pre
  have hsl := zsl_len av hav
  have hl := lv_entry av (n := nL) (by rw [hsl]; exact hn)
  rw [lg_entry_eq]
  refine body p e s m _ below meth c (vx_table (x := y) B (hts _ List.mem_cons_self)) ⟨B.exec, B.bytes, hml, findClass_of_methodNamed B.named, fun w h => hts w (List.mem_cons_of_mem _ h), hok, B.returns, B.notSynchronized, (name_of_methodNamed B.named B.method).1⟩ s.heap [] _ hgh va_S.rf ⟨hl.1, hl.2.1, fun i v hi => ?_⟩
  by_cases hia : i < av.length
  · rw [List.getElem?_append_left (by simpa using hia), List.getElem?_map] at hi
    cases hv : av[i]? with
    | none => rw [hv] at hi; cases hi
    | some w =>
      rw [hv] at hi
      cases hi
      refine ⟨hl.2.2 (i, v) ?_, hav v (List.mem_of_getElem? hv)⟩
      have := zargs_mem av 0 i v hav hv
      rwa [Nat.zero_add] at this
  · rw [List.getElem?_append_right (by simpa using hia), List.getElem?_replicate] at hi
    split at hi <;> cases hi
theorem CtW.of {l : Launch} {y : MethodName} {cc : ByteArray} {nL : Nat} {ret : Option FieldType} {hh : List (Nat × Nat × Nat × Nat)} {rm : Room} {κ : zK} {av : List Value} {G : zH} {post : Option Value → zH → Prop} (hy : plainName y.cls = true) (hav : ∀ v ∈ av, v.category = 1) (hn : av.length ≤ nL)
    (body : ∀ (p : Program) (e : Env) (s : State) (m : MethodId) (args : Array Value) (below : List Frame) (meth : Method) (c : Code), c.exceptionTable.toList = tableOf hh → Z p l e rm s m args below meth c y cc nL ret κ (MQ below (zQc κ post) args s rm.cells rm.slots (zA κ)) 0 0 G (av.map some ++ List.replicate (nL - av.length) none) 0 []) : CtW l y cc nL ret hh rm κ av G post := by
  have h := CtW.of0 hy hav hn (fun p e s m args below meth c ht => fun C H locs ls hg hs hl => vx_ret (body p e s m args below meth c ht C H locs ls hg hs hl))
  unfold vx_Met at h
  unfold CtW Met
  exact MetFree.imp h (fun a s o t q => q.elim id (fun ⟨q9, _, hT⟩ => by obtain ⟨_, _, _, hf, _⟩ := hT; exact hf.elim))
theorem CtW.imp {l : Launch} {y : MethodName} {cc : ByteArray} {nL : Nat} {ret : Option FieldType} {hh : List (Nat × Nat × Nat × Nat)} {rm : Room} {κ : zK} {av : List Value} {G : zH} {post post2 : Option Value → zH → Prop} (h : CtW l y cc nL ret hh rm κ av G post) (hp : ∀ v G2, post v G2 → post2 v G2) : CtW l y cc nL ret hh rm κ av G post2 := by
  unfold CtW Met at *
  exact MetFree.imp h (fun a s o t q => ⟨⟨q.1.1.imp (fun r q1 => q1.imp (fun G1 q2 => ⟨q2.1, hp _ _ q2.2.1, q2.2.2⟩)), q.1.2⟩, q.2⟩)
section ZR7
variable {p : Program} {l : Launch} {e : Env} {R : Room} {s : State} {m : MethodId} {args : Array Value} {below : List Frame} {meth : Method} {c : Code} {y : MethodName} {cc : ByteArray} {nL : Nat} {ret : Option FieldType} {κ : zK} {Q : State → Prop} {nc ns : Nat} {G : zH} {L : List (Option Value)} {pc : Nat} {st : List Value}
theorem zh_grown {H H1 : Heap} (hg : zh κ G H) (h : ∀ q : Nat, q < H.size → H1[q]? = H[q]?) : zh κ G H1 := fun a r e ha => by
  obtain ⟨i, hi⟩ := zen_ix hg ha
  exact ⟨(zen_P hg).kept (fun k9 x hx => h x.1 ((zen_P hg k9 x hx).lt)) i _ hi, (hg _ _ _ ha).2⟩
theorem z_throw0 {Qc : Array Value → State → Outcome → State → Prop} {cls : String} {names : List String} {ik ic mc ms : Nat} (hl9 : l.stackTraces = false) (hcls : Bundle.fit cls = true) (hnames : ∀ n ∈ names, Bundle.fit n = true) (w1 : Cond.classLink y.cls ik cls ∈ TB) (w2 : Cond.initialized cls ∈ TB) (w3 : ∀ w ∈ vx_at0 y.cls ic cls names, w ∈ TB ∨ w ∈ NB) (hgood : ∀ w ∈ Cond.classLink y.cls ik cls :: Cond.initialized cls :: vx_at0 y.cls ic cls names, vx_ot w = true) (hout : ∀ x ∈ c.exceptionTable.toList, False) (d0 : decode cc pc = .ok (.new ik, 3)) (d3 : decode cc (pc + 3) = .ok (.dup, 1)) (d4 : decode cc (pc + 4) = .ok (.invokespecial ic, 3)) (d7 : decode cc (pc + 7) = .ok (.athrow, 1)) (hRf : names.length + 3 < R.frames) (hRl : (st.map fun v => v.category).sum + (13 * (names.length + 1) + 42) ≤ R.locals) (hRc : nc + 1 ≤ R.cells ∧ ns + 6 ≤ R.slots) (hm : nc + 1 ≤ mc ∧ ns + 6 ≤ ms) : Z p l e R s m args below meth c y cc nL ret κ (vx_MQ below Qc (XN κ G cls) args s mc ms (zA κ)) nc ns G L pc st := fun C H locs ls hg hs hl =>
  vx_throw0 C.1 C.2.1 hl9 C.2.2.2.1 hcls hnames (C.2.2.2.2.1 _ w1) (C.2.2.2.2.1 _ w2) (fun w h => (w3 w h).elim (fun q => C.2.2.2.2.1 _ q) (fun q => va_Nw.use (NB_tab w q) (C.2.2.2.2.2.1.2.2.2.1 _ q))) hgood C.2.2.2.2.2.1.2.2.1.2.2.2.2.1 C.2.2.2.2.2.1.2.2.1.2.2.2.2.2 hs (hl.1.trans C.2.2.1.symm) d0 d3 d4 d7 (fun x hx => (hout x hx).elim) hRf hRl hRc.1 hRc.2 C.2.2.2.2.2.2.2.1 (fun t _ hsz hold => ⟨rfl, zh_grown hg hold, Nat.le_trans hs.1 hsz, fun q h1 h2 => (hold q (Nat.lt_of_lt_of_le h1 hs.1)).trans (hs.2.1 q h1 h2)⟩) hs.2.2 hm.1 hm.2
theorem z_callVX {cls : String} {y2 : MethodName} {cc2 : ByteArray} {nL2 : Nat} {ret2 : Option FieldType} {rm2 : Room} {As rest : List Value} {index b tgt : Nat} {rr : zR} {ci : Nat} {fs : List Value} {vc : vw_C} (hM : CtX l y2 cc2 nL2 ret2 rm2 κ (.ref b :: As) G cls) (hb : G b = some (rr, .inr (ci, fs))) (hcl : vwCl[ci]? = some vc) (hvc : vc.1 = y2.cls) (w1 : Cond.methodLink y.cls index y2 ∈ TB) (hV : zcV y2 cc2 nL2 ret2 As.length) (hR : rm2.frames + 1 ≤ R.frames ∧ 8 + (nL2 + 11) + rm2.locals ≤ R.locals ∧ nc + rm2.cells ≤ R.cells ∧ ns + rm2.slots ≤ R.slots) (hst : st = As.reverse ++ .ref b :: rest) (hW : (rest.map fun v => v.category).sum ≤ 8) (hd : decode cc pc = .ok (.invokevirtual index, 3)) (x : ExceptionTableEntry) (htab : c.exceptionTable.toList = [x]) (hx : covers x pc = true) (h0 : x.catchType ≠ 0) (hlink : Cond.classLink y.cls x.catchType cls ∈ TB) (hcast : Cond.castable cls cls ∈ NB) (hh : x.handlerPc = tgt) (k : ∀ q : Nat, Z p l e R s m args below meth c y cc nL ret κ Q (nc + rm2.cells) (ns + rm2.slots) G L tgt [.ref q]) : Z p l e R s m args below meth c y cc nL ret κ Q nc ns G L pc st := fun C H locs ls hg hs hl T hT X => by
  subst hh
  obtain ⟨q0, hq⟩ := zen_ix hg hb
  have hPV : PreV s H y2.cls b (va_Pc (.ref b :: As) (fun U => zOK κ U ∧ zh κ G U.heap)) As := ⟨zblind, by rw [← hvc]; exact va_recv C.2.2.2.2.2.1.2.1 (zen_P hg) hcl hq, fun U hU hW => ⟨rfl, C.2.2.2.2.2.1.at hs hU hW, by rw [hU]; exact hg⟩⟩
  have hr := vx_runV (e := e) (below := below) (meth := meth) (C := y2.cls) (As := As) (rest := rest) (g := F0 m pc ls st) (locs := locs) (cells := nc) (slots := ns) ⟨C.1, C.2.1, C.2.2.1, C.2.2.2.1, C.2.2.2.2.1⟩ hM (cwV (C := y2.cls) As.length C.2.2.2.2.1 (zgi_cons w1 (zgi_cons hV.1 (zgi_cons hV.2.1 (zgi_cons hV.2.2.1 (zgi hV.2.2.2.1))))) rfl rfl rfl ⟨rfl, hV.2.2.2.2⟩ ⟨hR.1, hR.2.1⟩) hPV rfl rfl hl.1 hst (lv_room hW) hd ⟨hR.2.2.1, hR.2.2.2⟩
  rcases hr T hT X with ⟨v, st₀, t, T', Lc, h0', X', hL, e1, e2, hF, stp⟩ | ⟨q, st₀, t, T', Lc, E, ce, h0', X', hL, e1, e2, ⟨hE, hzh, hF⟩, hce, hvm, hcls, stp⟩
  · exact hF.elim
  · subst hE
    have hS1 : va_S (zA κ) s.heap T'.heap (locs ++ Lc) := by
      refine ⟨Nat.le_trans hs.1 (by rw [e1, ← h0']; exact hF.1), fun q h1 h2 => ?_, fun q hq => ?_⟩
      · rw [e1, hF.2 q (by rw [h0']; exact Nat.lt_of_lt_of_le h1 hs.1) h2, h0']
        exact hs.2.1 q h1 h2
      · rcases List.mem_append.mp hq with h | h
        · exact hs.2.2 q h
        · exact hL q h
    obtain ⟨t2, a1, b1⟩ := vx_catch (rest := rest) C.2.2.2.1 [] x [] htab (fun z hz => nomatch hz) hx h0 (C.2.2.2.2.1 _ hlink) (va_Nw.use (NB_tab _ hcast) (C.2.2.2.2.2.1.2.2.2.1 _ hcast)) (by rw [e1]; exact hce) hvm hcls (k q C T'.heap (locs ++ Lc) ls (by rw [e1]; exact hzh) hS1 hl) T' rfl X'
    exact ⟨t2, stp.trans a1, b1⟩
theorem z_callSW {post : Option Value → zH → Prop} {y2 : MethodName} {cc2 : ByteArray} {nL2 : Nat} {ret2 : Option FieldType} {hh : List (Nat × Nat × Nat × Nat)} {rm2 : Room} {As rest : List Value} {index : Nat} (hC : CtW l y2 cc2 nL2 ret2 hh rm2 κ As G post) (w1 : Cond.methodLink y.cls index y2 ∈ TB) (w2 : Cond.static y2 ∈ TB) (w3 : Cond.initialized y2.cls ∈ TB) (w4 : Cond.codeWith y2 cc2 nL2 ret2 hh ∈ TB) (hz : zcM y2 As.length) (hR : rm2.frames + 1 ≤ R.frames ∧ 8 + (nL2 + 11) + rm2.locals ≤ R.locals ∧ nc + rm2.cells ≤ R.cells ∧ ns + rm2.slots ≤ R.slots) (hst : st = As.reverse ++ rest) (hW : (rest.map fun v => v.category).sum ≤ 8) (hd : decode cc pc = .ok (.invokestatic index, 3)) (k : ∀ (r : Option Value) (G' : zH), post r G' → Z p l e R s m args below meth c y cc nL ret κ Q (nc + rm2.cells) (ns + rm2.slots) G' L (pc + 3) (r.toList ++ rest)) : Z p l e R s m args below meth c y cc nL ret κ Q nc ns G L pc st := fun C H locs ls hg hs hl =>
  z_run (av := As) C hs hl (vx_runSW (As := As) (rest := rest) ⟨C.1, C.2.1, C.2.2.1, C.2.2.2.1, C.2.2.2.2.1⟩ hC (vx_cwSW As.length C.2.2.2.2.1 (zgi_cons w1 (zgi_cons w2 (zgi_cons w3 (fun x hx => by
    have : x ∈ TB := by
      rcases List.mem_cons.mp hx with h | h
      · rw [h]; exact w4
      · exact h
    exact ⟨this, TB_good x this⟩)))) rfl rfl rfl hz ⟨hR.1, hR.2.1⟩) ⟨zblind (G := G), fun U hU hW => ⟨rfl, C.2.2.2.2.2.1.at hs hU hW, by rw [hU]; exact hg⟩⟩ rfl rfl hl.1 hst (lv_room hW) hd ⟨hR.2.2.1, hR.2.2.2⟩) k
theorem z_last {a : Nat} {r : zR} {n : Nat} {f : Nat → Int64} {i : Int32} {x : Int64} (j : Nat) (h0 : G a = some (r, .inl (κ.2.1 4, n, .inr (.inl f)))) (hi : i = nI j) (hj : j < n) (hn : n < 2 ^ 31) (hd : decode cc pc = .ok (.lastore, 1)) (kk : ∀ (G1 : zH) (f1 : Nat → Int64), G1 a = some (r, .inl (κ.2.1 4, n, .inr (.inl f1))) → f1 j = x → zFP (fun q => q = r) G G1 → Z p l e R s m args below meth c y cc nL ret κ Q nc ns G1 L (pc + 1) st) : Z p l e R s m args below meth c y cc nL ret κ Q nc ns G L pc (.long x :: .int i :: .ref a :: st) := fun C H locs ls hg hs hl => by
  obtain ⟨q0, hq⟩ := zen_ix hg h0
  subst hi
  refine va_last C.1 C.2.1 C.2.2.2.2.2.1.2.1 (zen_P hg) (zen_D hg) hs q0 4 hq rfl (vp_in_nI hj hn) hd (fun H1 locs1 hP hD hS => ?_)
  rw [nI_clamp (Nat.lt_trans hj hn)] at hP
  exact kk _ _ zu_s (by simp [vp_updL]) (zFP.up h0) C H1 locs1 ls (zen_set hg h0 hq hP) hS hl
theorem z_lald {a : Nat} {r : zR} {n : Nat} {f : Nat → Int64} {i : Int32} (j : Nat) (h0 : G a = some (r, .inl (κ.2.1 4, n, .inr (.inl f)))) (hi : i = nI j) (hj : j < n) (hn : n < 2 ^ 31) (hd : decode cc pc = .ok (.laload, 1)) (kk : Z p l e R s m args below meth c y cc nL ret κ Q nc ns G L (pc + 1) (.long (f j) :: st)) : Z p l e R s m args below meth c y cc nL ret κ Q nc ns G L pc (.int i :: .ref a :: st) := fun C H locs ls hg hs hl => by
  obtain ⟨q0, hq⟩ := zen_ix hg h0
  subst hi
  refine va_lald C.1 C.2.1 C.2.2.2.2.2.1.2.1 (zen_P hg) q0 4 hq rfl (vp_in_nI hj hn) hd ?_
  rw [nI_clamp (Nat.lt_trans hj hn)]
  exact kk C H locs ls hg hs hl
theorem z_lcmp {x w : Int64} (hd : decode cc pc = .ok (.lcmp, 1)) (k : Z p l e R s m args below meth c y cc nL ret κ Q nc ns G L (pc + 1) (.int (lg_cmp x w) :: st)) : Z p l e R s m args below meth c y cc nL ret κ Q nc ns G L pc (.long w :: .long x :: st) := fun C H locs ls hg hs hl => W.lcmp C.1 C.2.1 hd (k C H locs ls hg hs hl)
theorem z_sld {b N : Nat} {xs : Nat → Int32} {i : Int32} (j : Nat) (hX : va_X b N xs s s.heap) (hbl : b < s.heap.size) (hbA : ¬ zA κ b) (hi : i = nI j) (hj : j < N) (hN : N < 2 ^ 31) (hd : decode cc pc = .ok (.iaload, 1)) (kk : Z p l e R s m args below meth c y cc nL ret κ Q nc ns G L (pc + 1) (.int (xs j) :: st)) : Z p l e R s m args below meth c y cc nL ret κ Q nc ns G L pc (.int i :: .ref b :: st) := fun C H locs ls hg hs hl => by
  subst hi
  refine va_sld C.1 C.2.1 hX hbl hbA hs (vp_in_nI hj hN) hd ?_
  rw [nI_clamp (Nat.lt_trans hj hN)]
  exact kk C H locs ls hg hs hl
theorem z_slen {b N : Nat} {xs : Nat → Int32} (hX : va_X b N xs s s.heap) (hbl : b < s.heap.size) (hbA : ¬ zA κ b) (hd : decode cc pc = .ok (.arraylength, 1)) (kk : Z p l e R s m args below meth c y cc nL ret κ Q nc ns G L (pc + 1) (.int (nI N) :: st)) : Z p l e R s m args below meth c y cc nL ret κ Q nc ns G L pc (.ref b :: st) := fun C H locs ls hg hs hl => va_slen C.1 C.2.1 hX hbl hbA hs hd (kk C H locs ls hg hs hl)
end ZR7
theorem ex_words : ∀ w ∈ vx_at0 RX7 137 "java/util/NoSuchElementException" ["java/lang/RuntimeException", "java/lang/Exception"], w ∈ TB ∨ w ∈ NB := by
  have h : ∀ w ∈ vx_at0 RX7 137 "java/util/NoSuchElementException" ["java/lang/RuntimeException", "java/lang/Exception"], w ∈ lw_tbl ∧ (goodWord w || isN w) = true := by decide +kernel
  intro w hw
  obtain ⟨h1, h2⟩ := h w hw
  rcases Bool.or_eq_true_iff.mp h2 with h3 | h3
  · exact Or.inl (List.mem_filter.mpr ⟨h1, h3⟩)
  · exact Or.inr (List.mem_filter.mpr ⟨h1, h3⟩)
theorem ex_good : ∀ w ∈ Cond.classLink RX7 135 "java/util/NoSuchElementException" :: Cond.initialized "java/util/NoSuchElementException" :: vx_at0 RX7 137 "java/util/NoSuchElementException" ["java/lang/RuntimeException", "java/lang/Exception"], vx_ot w = true := by decide +kernel
set_option maxRecDepth 100000 in
set_option maxHeartbeats 400000 in
theorem c_hAtX (l : Launch) (hl9 : l.stackTraces = false) {κ : zK} {G : zH} {B : Nat → Nat → Nat} {n c d w : Nat} {ln kl ep : Nat → Nat} {fo nt : Int32} {ar : Nat → Nat → Int32} {rb : Nat → Int32} {kp kb : Nat → Nat → Int32} {iK sm ky : Nat → Int32} (s0 i0 q what : Int32) (hR : RC κ G B n c d w ln fo nt ar rb kl ep kp kb iK sm ky) (hn : n ≤ 20) (hln : ∀ i, i < n → ln i ≤ 24) (hok : ¬ okAt n w ln s0 i0 q what) : CtX l yX7_at cX7_at 6 (some FieldType.int) (rmK 8 1 6 250) κ [.ref (B 0 0), .int s0, .int i0, .int q, .int what] G "java/util/NoSuchElementException" := by
  refine CtX.of (by decide +kernel) (fun v hv => by
    simp only [List.mem_cons, List.mem_nil_iff, or_false, List.not_mem_nil] at hv
    rcases hv with rfl | rfl | rfl | rfl | rfl <;> rfl) (Nat.le_of_ble_eq_true rfl) ?_
  intro p e s m args below meth cC htab
  refine z_L (L' := [some (.ref (B 0 0)), some (.int s0), some (.int i0), some (.int q), some (.int what), none]) rfl ?_
  have hn20 := hn
  obtain ⟨hO, hP, ⟨cols, key, f0, f1, f2, S, hA⟩, hLK, hl0, hl1, ⟨k2, es2, hl2⟩, hS, hCo, hPr⟩ := id hR
  by_cases hs : okS n s0
  · have hla := iN_lt hs (show n < 2 ^ 31 by omega)
    have hsh := (hS _ hla).1
    obtain ⟨tp, tb, hd, htd⟩ := (hS _ hla).2.2.1
    have h24 := hln _ hla
    by_cases hi : 0 ≤ i0 ∧ i0 < nI (ln (iN s0))
    · by_cases hq : 0 ≤ q ∧ q ≤ nI w
      · have hw : ¬ (0 ≤ what ∧ what ≤ 1) := fun h => hok ⟨hs, hi, hq, h⟩
        refine z_al0 (pc := 0) dX7_at_0 ?_
        refine z_il1 (pc := 1) dX7_at_1 ?_
        refine z_callVrq (pc := 2) (c_findY l s0 hR hn hs) hO rfl rfl kw_291 zc_X7_find ⟨Nat.le_of_ble_eq_true rfl, Nat.le_of_ble_eq_true rfl, Nat.le_of_ble_eq_true rfl, Nat.le_of_ble_eq_true rfl⟩ (by decide) rfl (Nat.le_of_ble_eq_true rfl) dX7_at_2 ?_
        refine z_as5 (pc := 5) dX7_at_5 (by decide) ?_
        refine z_al5 (pc := 7) dX7_at_7 ?_
        refine z_ifnullR (pc := 9) dX7_at_9 ?_
        refine z_al5 (pc := 12) dX7_at_12 ?_
        refine z_il2 (pc := 14) dX7_at_14 ?_
        refine z_callVr (pc := 15) (c_sHas l (iN s0) (ln (iN s0)) i0 hsh hd) hsh rfl rfl kw_340 zc_X5_has ⟨Nat.le_of_ble_eq_true rfl, Nat.le_of_ble_eq_true rfl, Nat.le_of_ble_eq_true rfl, Nat.le_of_ble_eq_true rfl⟩ (by decide) rfl (Nat.le_of_ble_eq_true rfl) dX7_at_15 ?_
        refine z_ifz_eq (pc := 18) 38 dX7_at_18 rfl (fun c18 => absurd (hi) c18) (fun c18 => ?_)
        refine z_al0 (pc := 21) dX7_at_21 ?_
        refine z_il3 (pc := 22) dX7_at_22 ?_
        refine z_callVr (pc := 23) (c_isDay l q hR) hO rfl rfl kw_433 zc_X7_isDay ⟨Nat.le_of_ble_eq_true rfl, Nat.le_of_ble_eq_true rfl, Nat.le_of_ble_eq_true rfl, Nat.le_of_ble_eq_true rfl⟩ (by decide) rfl (Nat.le_of_ble_eq_true rfl) dX7_at_23 ?_
        refine z_ifz_eq (pc := 26) 38 dX7_at_26 rfl (fun c26 => absurd (hq) c26) (fun c26 => ?_)
        refine z_il4 (pc := 29) dX7_at_29 ?_
        refine z_iconst (pc := 31) (1) (by decide) dX7_at_31 ?_
        refine z_callSr (pc := 32) (c_isWithin l what 1) kw_160 zc_X7_isWithin ⟨Nat.le_of_ble_eq_true rfl, Nat.le_of_ble_eq_true rfl, Nat.le_of_ble_eq_true rfl, Nat.le_of_ble_eq_true rfl⟩ (by decide) rfl (Nat.le_of_ble_eq_true rfl) dX7_at_32 ?_
        refine z_ifz_ne (pc := 35) 46 dX7_at_35 rfl (fun c35 => absurd c35 (hw)) (fun c35 => ?_)
        exact z_throw0 (pc := 38) (names := ["java/lang/RuntimeException", "java/lang/Exception"]) hl9 (by decide +kernel) (by decide +kernel) kw_654 kw_22 ex_words ex_good htab dX7_at_38 dX7_at_41 dX7_at_42 dX7_at_45 (Nat.le_of_ble_eq_true rfl) (Nat.le_of_ble_eq_true rfl) ⟨Nat.le_of_ble_eq_true rfl, Nat.le_of_ble_eq_true rfl⟩ ⟨Nat.le_of_ble_eq_true rfl, Nat.le_of_ble_eq_true rfl⟩
      · refine z_al0 (pc := 0) dX7_at_0 ?_
        refine z_il1 (pc := 1) dX7_at_1 ?_
        refine z_callVrq (pc := 2) (c_findY l s0 hR hn hs) hO rfl rfl kw_291 zc_X7_find ⟨Nat.le_of_ble_eq_true rfl, Nat.le_of_ble_eq_true rfl, Nat.le_of_ble_eq_true rfl, Nat.le_of_ble_eq_true rfl⟩ (by decide) rfl (Nat.le_of_ble_eq_true rfl) dX7_at_2 ?_
        refine z_as5 (pc := 5) dX7_at_5 (by decide) ?_
        refine z_al5 (pc := 7) dX7_at_7 ?_
        refine z_ifnullR (pc := 9) dX7_at_9 ?_
        refine z_al5 (pc := 12) dX7_at_12 ?_
        refine z_il2 (pc := 14) dX7_at_14 ?_
        refine z_callVr (pc := 15) (c_sHas l (iN s0) (ln (iN s0)) i0 hsh hd) hsh rfl rfl kw_340 zc_X5_has ⟨Nat.le_of_ble_eq_true rfl, Nat.le_of_ble_eq_true rfl, Nat.le_of_ble_eq_true rfl, Nat.le_of_ble_eq_true rfl⟩ (by decide) rfl (Nat.le_of_ble_eq_true rfl) dX7_at_15 ?_
        refine z_ifz_eq (pc := 18) 38 dX7_at_18 rfl (fun c18 => absurd (hi) c18) (fun c18 => ?_)
        refine z_al0 (pc := 21) dX7_at_21 ?_
        refine z_il3 (pc := 22) dX7_at_22 ?_
        refine z_callVr (pc := 23) (c_isDay l q hR) hO rfl rfl kw_433 zc_X7_isDay ⟨Nat.le_of_ble_eq_true rfl, Nat.le_of_ble_eq_true rfl, Nat.le_of_ble_eq_true rfl, Nat.le_of_ble_eq_true rfl⟩ (by decide) rfl (Nat.le_of_ble_eq_true rfl) dX7_at_23 ?_
        refine z_ifz_eq (pc := 26) 38 dX7_at_26 rfl (fun c26 => ?_) (fun c26 => absurd c26 (hq))
        exact z_throw0 (pc := 38) (names := ["java/lang/RuntimeException", "java/lang/Exception"]) hl9 (by decide +kernel) (by decide +kernel) kw_654 kw_22 ex_words ex_good htab dX7_at_38 dX7_at_41 dX7_at_42 dX7_at_45 (Nat.le_of_ble_eq_true rfl) (Nat.le_of_ble_eq_true rfl) ⟨Nat.le_of_ble_eq_true rfl, Nat.le_of_ble_eq_true rfl⟩ ⟨Nat.le_of_ble_eq_true rfl, Nat.le_of_ble_eq_true rfl⟩
    · refine z_al0 (pc := 0) dX7_at_0 ?_
      refine z_il1 (pc := 1) dX7_at_1 ?_
      refine z_callVrq (pc := 2) (c_findY l s0 hR hn hs) hO rfl rfl kw_291 zc_X7_find ⟨Nat.le_of_ble_eq_true rfl, Nat.le_of_ble_eq_true rfl, Nat.le_of_ble_eq_true rfl, Nat.le_of_ble_eq_true rfl⟩ (by decide) rfl (Nat.le_of_ble_eq_true rfl) dX7_at_2 ?_
      refine z_as5 (pc := 5) dX7_at_5 (by decide) ?_
      refine z_al5 (pc := 7) dX7_at_7 ?_
      refine z_ifnullR (pc := 9) dX7_at_9 ?_
      refine z_al5 (pc := 12) dX7_at_12 ?_
      refine z_il2 (pc := 14) dX7_at_14 ?_
      refine z_callVr (pc := 15) (c_sHas l (iN s0) (ln (iN s0)) i0 hsh hd) hsh rfl rfl kw_340 zc_X5_has ⟨Nat.le_of_ble_eq_true rfl, Nat.le_of_ble_eq_true rfl, Nat.le_of_ble_eq_true rfl, Nat.le_of_ble_eq_true rfl⟩ (by decide) rfl (Nat.le_of_ble_eq_true rfl) dX7_at_15 ?_
      refine z_ifz_eq (pc := 18) 38 dX7_at_18 rfl (fun c18 => ?_) (fun c18 => absurd c18 (hi))
      exact z_throw0 (pc := 38) (names := ["java/lang/RuntimeException", "java/lang/Exception"]) hl9 (by decide +kernel) (by decide +kernel) kw_654 kw_22 ex_words ex_good htab dX7_at_38 dX7_at_41 dX7_at_42 dX7_at_45 (Nat.le_of_ble_eq_true rfl) (Nat.le_of_ble_eq_true rfl) ⟨Nat.le_of_ble_eq_true rfl, Nat.le_of_ble_eq_true rfl⟩ ⟨Nat.le_of_ble_eq_true rfl, Nat.le_of_ble_eq_true rfl⟩
  · refine z_al0 (pc := 0) dX7_at_0 ?_
    refine z_il1 (pc := 1) dX7_at_1 ?_
    refine z_callVrq (pc := 2) (c_findN l s0 hR hs) hO rfl rfl kw_291 zc_X7_find ⟨Nat.le_of_ble_eq_true rfl, Nat.le_of_ble_eq_true rfl, Nat.le_of_ble_eq_true rfl, Nat.le_of_ble_eq_true rfl⟩ (by decide) rfl (Nat.le_of_ble_eq_true rfl) dX7_at_2 ?_
    refine z_as5N (pc := 5) dX7_at_5 (by decide) ?_
    refine z_al5N (pc := 7) dX7_at_7 ?_
    refine z_ifnullN (pc := 9) 38 dX7_at_9 rfl ?_
    exact z_throw0 (pc := 38) (names := ["java/lang/RuntimeException", "java/lang/Exception"]) hl9 (by decide +kernel) (by decide +kernel) kw_654 kw_22 ex_words ex_good htab dX7_at_38 dX7_at_41 dX7_at_42 dX7_at_45 (Nat.le_of_ble_eq_true rfl) (Nat.le_of_ble_eq_true rfl) ⟨Nat.le_of_ble_eq_true rfl, Nat.le_of_ble_eq_true rfl⟩ ⟨Nat.le_of_ble_eq_true rfl, Nat.le_of_ble_eq_true rfl⟩
set_option maxRecDepth 100000 in
set_option maxHeartbeats 400000 in
theorem c_lAtX (l : Launch) {κ : zK} {G : zH} {hx oa : Nat} {rr : zR} {hfs : List Value} {f : Nat → Int64} {p0 p1 p2 p3 : Int32} (hH : G hx = some (rr, .inr (8, hfs))) (hO : G oa = some ((3, 0, 0), .inl (κ.2.1 4, 1, .inr (.inl f)))) (hM : CtX l yX7_at cX7_at 6 (some FieldType.int) (rmK 8 1 6 250) κ [.ref hx, .int p0, .int p1, .int p2, .int p3] G "java/util/NoSuchElementException") : CtW l yL_at cL_at 7 (some FieldType.int) [(0, 14, 17, 13)] (rmK 9 1 6 300) κ [.ref hx, .int p0, .int p1, .int p2, .int p3, .ref oa] G (pI (fun v G3 => v = 1 ∧ G3 = G)) := by
  refine CtW.of (by decide +kernel) (fun v hv => by
    simp only [List.mem_cons, List.mem_nil_iff, or_false, List.not_mem_nil] at hv
    rcases hv with rfl | rfl | rfl | rfl | rfl | rfl <;> rfl) (Nat.le_of_ble_eq_true rfl) ?_
  intro p e s m args below meth c htab
  refine z_L (L' := [some (.ref hx), some (.int p0), some (.int p1), some (.int p2), some (.int p3), some (.ref oa), none]) rfl ?_
  refine z_aload (pc := 0) 5 dL_at_0 rfl ⟨some oa, rfl⟩ ?_
  refine z_iconst (pc := 2) 0 (by decide) dL_at_2 ?_
  refine z_al0 (pc := 3) dL_at_3 ?_
  refine z_il1 (pc := 4) dL_at_4 ?_
  refine z_il2 (pc := 5) dL_at_5 ?_
  refine z_il3 (pc := 6) dL_at_6 ?_
  refine z_iload (pc := 7) 4 dL_at_7 rfl ?_
  refine z_callVX (pc := 9) hM hH rfl rfl kw_650 zc_X7_at ⟨Nat.le_of_ble_eq_true rfl, Nat.le_of_ble_eq_true rfl, Nat.le_of_ble_eq_true rfl, Nat.le_of_ble_eq_true rfl⟩ rfl (Nat.le_of_ble_eq_true rfl) dL_at_9 ⟨0, 14, 17, 13⟩ htab (by decide) (by decide) kw_649 kn_656 rfl (fun q => ?_)
  refine z_astore (pc := 17) 6 dL_at_17 (by decide) ⟨some q, rfl⟩ rfl ?_
  refine z_iconst (pc := 19) 1 (by decide) dL_at_19 ?_
  exact z_iret (pc := 20) rfl ⟨Nat.le_of_ble_eq_true rfl, Nat.le_of_ble_eq_true rfl⟩ dL_at_20 ⟨1, rfl, rfl, rfl⟩
set_option maxRecDepth 100000 in
set_option maxHeartbeats 400000 in
theorem c_lAtR (l : Launch) {κ : zK} {G : zH} {hx oa : Nat} {rr : zR} {hfs : List Value} {f : Nat → Int64} {p0 p1 p2 p3 : Int32} {P : Int32 → zH → Prop} (hH : G hx = some (rr, .inr (8, hfs))) (hO : G oa = some ((3, 0, 0), .inl (κ.2.1 4, 1, .inr (.inl f)))) (hC : Ct l yX7_at cX7_at 6 (some FieldType.int) rX7_at κ [.ref hx, .int p0, .int p1, .int p2, .int p3] G (pI P)) (hk : ∀ r G2, P r G2 → G2 oa = some ((3, 0, 0), .inl (κ.2.1 4, 1, .inr (.inl f)))) : CtW l yL_at cL_at 7 (some FieldType.int) [(0, 14, 17, 13)] (rmK 9 1 6 300) κ [.ref hx, .int p0, .int p1, .int p2, .int p3, .ref oa] G (pI (fun v G3 => v = 0 ∧ ∃ r G2 f1, P r G2 ∧ f1 0 = r.toInt64 ∧ G3 oa = some ((3, 0, 0), .inl (κ.2.1 4, 1, .inr (.inl f1))) ∧ zFP (fun q => q = (3, 0, 0)) G2 G3)) := by
  refine CtW.of (by decide +kernel) (fun v hv => by
    simp only [List.mem_cons, List.mem_nil_iff, or_false, List.not_mem_nil] at hv
    rcases hv with rfl | rfl | rfl | rfl | rfl | rfl <;> rfl) (Nat.le_of_ble_eq_true rfl) ?_
  intro p e s m args below meth c htab
  refine z_L (L' := [some (.ref hx), some (.int p0), some (.int p1), some (.int p2), some (.int p3), some (.ref oa), none]) rfl ?_
  refine z_aload (pc := 0) 5 dL_at_0 rfl ⟨some oa, rfl⟩ ?_
  refine z_iconst (pc := 2) 0 (by decide) dL_at_2 ?_
  refine z_al0 (pc := 3) dL_at_3 ?_
  refine z_il1 (pc := 4) dL_at_4 ?_
  refine z_il2 (pc := 5) dL_at_5 ?_
  refine z_il3 (pc := 6) dL_at_6 ?_
  refine z_iload (pc := 7) 4 dL_at_7 rfl ?_
  refine z_callVi (pc := 9) _ hC rfl hH rfl rfl kw_650 zc_X7_at ⟨Nat.le_of_ble_eq_true rfl, Nat.le_of_ble_eq_true rfl, Nat.le_of_ble_eq_true rfl, Nat.le_of_ble_eq_true rfl⟩ rfl (Nat.le_of_ble_eq_true rfl) dL_at_9 (fun r G2 hP => ?_)
  refine z_i2l (pc := 12) dL_at_12 ?_
  refine z_last (pc := 13) 0 (hk r G2 hP) rfl (by decide) (by decide) dL_at_13 (fun G3 f1 h3 hf1 hF3 => ?_)
  refine z_goto (pc := 14) 21 dL_at_14 rfl ?_
  refine z_iconst (pc := 21) 0 (by decide) dL_at_21 ?_
  exact z_iret (pc := 22) rfl ⟨Nat.le_of_ble_eq_true rfl, Nat.le_of_ble_eq_true rfl⟩ dL_at_22 ⟨0, rfl, rfl, r, G2, f1, hP, hf1, h3, hF3⟩
