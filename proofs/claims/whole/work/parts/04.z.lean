/-! THE GHOST HEAP: what a method knows of the heap, an address its role and its content; a role tells addresses apart -/
abbrev zR : Type := Nat × Nat × Nat
abbrev zH : Type := Nat → Option (zR × va_E)
/-- classes and field places; array classes; numbers fixed for a launch (0: the first address that may be written; 1: the list's static empty array; 2: the table of price tops) -/
abbrev zK : Type := va_G × (Nat → ClassId) × (Nat → Nat)
def zu (G : zH) (a : Nat) (x : zR × va_E) : zH := fun b => if b = a then some x else G b
theorem zu_s {G : zH} {a : Nat} {x : zR × va_E} : zu G a x a = some x := if_pos rfl
theorem zu_n {G : zH} {a b : Nat} {x : zR × va_E} (h : b ≠ a) : zu G a x b = G b := if_neg h
theorem zr_n {G : zH} {a b : Nat} {r1 r2 : zR} {e1 e2 : va_E} (h1 : G a = some (r1, e1)) (h2 : G b = some (r2, e2)) (h : r1 ≠ r2) : a ≠ b := fun q => by
  subst q
  rw [h1] at h2
  cases h2
  exact h rfl
theorem zu_r {G : zH} {a b : Nat} {r1 r2 : zR} {e1 e2 : va_E} {x : zR × va_E} (h1 : G a = some (r1, e1)) (h2 : G b = some (r2, e2)) (h : r2 ≠ r1) : zu G a x b = some (r2, e2) := by
  rw [zu_n (zr_n h2 h1 h)]; exact h2
def zA (κ : zK) : Nat → Prop := fun q => κ.2.2 0 ≤ q
def zh (κ : zK) (G : zH) (H : Heap) : Prop := ∀ (a : Nat) (r : zR) (e : va_E), G a = some (r, e) → va_at κ.1 vwCl (a, e) H ∧ κ.2.2 0 ≤ a
def zt (κ : zK) : List (ClassId × FieldType) := [(κ.2.1 0, .int), (κ.2.1 1, .boolean), (κ.2.1 2, .object "java/lang/Object"), (κ.2.1 3, .array .int), (κ.2.1 4, .long)]
def zen (G : zH) (n : Nat) : va_W := (List.range n).filterMap (fun b => (G b).map (fun x => (b, x.2)))
theorem zen_mem {G : zH} {n a : Nat} {e : va_E} : (a, e) ∈ zen G n ↔ a < n ∧ ∃ r, G a = some (r, e) := by
  unfold zen
  simp only [List.mem_filterMap, List.mem_range, Option.map_eq_some_iff]
  constructor
  · rintro ⟨b, hb, ⟨r, e'⟩, hx, hy⟩
    cases hy
    exact ⟨hb, r, hx⟩
  · rintro ⟨h, r, hr⟩
    exact ⟨a, h, (r, e), hr, rfl⟩
theorem zen_nd {G : zH} {n : Nat} (i j : Nat) (p q : Nat × va_E) (hi : (zen G n)[i]? = some p) (hj : (zen G n)[j]? = some q) (h : p.1 = q.1) : i = j := by
  have hp : (zen G n).Pairwise (fun p q => p.1 ≠ q.1) := by
    unfold zen
    rw [List.pairwise_filterMap]
    refine List.Pairwise.imp ?_ List.nodup_range
    intro a b hab x hx y hy
    obtain ⟨_, _, rfl⟩ := Option.map_eq_some_iff.mp hx
    obtain ⟨_, _, rfl⟩ := Option.map_eq_some_iff.mp hy
    exact hab
  obtain ⟨h1, rfl⟩ := List.getElem?_eq_some_iff.mp hi
  obtain ⟨h2, rfl⟩ := List.getElem?_eq_some_iff.mp hj
  rcases Nat.lt_trichotomy i j with c | c | c
  · exact absurd h (List.pairwise_iff_getElem.mp hp i j h1 h2 c)
  · exact c
  · exact absurd h.symm (List.pairwise_iff_getElem.mp hp j i h2 h1 c)
theorem zen_P {κ : zK} {G : zH} {H : Heap} (h : zh κ G H) : va_P κ.1 vwCl (zen G H.size) H := fun k q hk => by
  obtain ⟨-, r, hr⟩ := zen_mem.mp (List.mem_of_getElem? (show (zen G H.size)[k]? = some (q.1, q.2) from hk))
  exact (h _ _ _ hr).1
theorem zen_D {κ : zK} {G : zH} {H : Heap} (h : zh κ G H) : va_D (zA κ) (zen G H.size) := ⟨zen_nd, fun k q hk => by
  obtain ⟨-, r, hr⟩ := zen_mem.mp (List.mem_of_getElem? (show (zen G H.size)[k]? = some (q.1, q.2) from hk))
  exact (h _ _ _ hr).2⟩
theorem zh_lt {κ : zK} {G : zH} {H : Heap} (h : zh κ G H) {a : Nat} {x : zR × va_E} (ha : G a = some x) : a < H.size := (h a x.1 x.2 ha).1.lt
theorem zen_ix {κ : zK} {G : zH} {H : Heap} (h : zh κ G H) {a : Nat} {r : zR} {e : va_E} (ha : G a = some (r, e)) : ∃ q0 : Nat, (zen G H.size)[q0]? = some (a, e) :=
  List.mem_iff_getElem?.mp (zen_mem.mpr ⟨zh_lt h ha, r, ha⟩)
theorem zen_set {κ : zK} {G : zH} {H H1 : Heap} (h : zh κ G H) {a q0 : Nat} {r : zR} {e e' : va_E} (ha : G a = some (r, e)) (hq : (zen G H.size)[q0]? = some (a, e)) (hP : va_P κ.1 vwCl ((zen G H.size).set q0 (a, e')) H1) : zh κ (zu G a (r, e')) H1 := by
  intro b rb eb hb
  have hl := (List.getElem?_eq_some_iff.mp hq).1
  by_cases hba : b = a
  · subst hba
    rw [zu_s] at hb
    cases hb
    exact ⟨hP q0 _ (by rw [List.getElem?_set]; simp [hl]), (h _ _ _ ha).2⟩
  · rw [zu_n hba] at hb
    obtain ⟨i, hi⟩ := zen_ix h hb
    have hne : q0 ≠ i := fun q => by
      subst q
      rw [hq] at hi
      cases hi
      exact hba rfl
    exact ⟨hP i _ (by rw [List.getElem?_set_ne hne]; exact hi), (h _ _ _ hb).2⟩
theorem zen_push {κ : zK} {G : zH} {H H1 : Heap} (h : zh κ G H) {q : Nat} (r : zR) {e : va_E} (hP : va_P κ.1 vwCl (zen G H.size ++ [(q, e)]) H1) (hD : va_D (zA κ) (zen G H.size ++ [(q, e)])) : G q = none ∧ κ.2.2 0 ≤ q ∧ zh κ (zu G q (r, e)) H1 := by
  have hlast : (zen G H.size ++ [(q, e)])[(zen G H.size).length]? = some (q, e) := by rw [List.getElem?_append_right (Nat.le_refl _)]; simp
  have hA : κ.2.2 0 ≤ q := hD.2 _ _ hlast
  have hn : G q = none := by
    cases hG : G q with
    | none => rfl
    | some x =>
      obtain ⟨i, hi⟩ := zen_ix h (show G q = some (x.1, x.2) from hG)
      have hil := (List.getElem?_eq_some_iff.mp hi).1
      have := hD.1 i _ (q, x.2) (q, e) (by rw [List.getElem?_append_left hil]; exact hi) hlast rfl
      omega
  refine ⟨hn, hA, fun b rb eb hb => ?_⟩
  by_cases hba : b = q
  · subst hba
    rw [zu_s] at hb
    cases hb
    exact ⟨hP _ _ hlast, hA⟩
  · rw [zu_n hba] at hb
    obtain ⟨i, hi⟩ := zen_ix h hb
    have hil := (List.getElem?_eq_some_iff.mp hi).1
    exact ⟨hP i _ (by rw [List.getElem?_append_left hil]; exact hi), (h _ _ _ hb).2⟩
/-! STATICS that nobody writes -/
def zTops (j : Nat) : Int32 := [20, 200, 20, 200, 10000].getD j 0
def zS (κ : zK) (U : State) (H : Heap) : Prop :=
  va_Z "java/util/ArrayList" "DEFAULTCAPACITY_EMPTY_ELEMENTDATA" "[Ljava/lang/Object;" (.ref (κ.2.2 1)) (zA κ) U H ∧
  va_T (.object "java/lang/Object") (κ.2.2 1) 0 (fun _ => .null) (zA κ) U H ∧
  va_Z "TuneHouse$Prices" "TOPS" "[I" (.ref (κ.2.2 2)) (zA κ) U H ∧
  va_T .int (κ.2.2 2) 5 (fun j => .int (zTops j)) (zA κ) U H ∧
  vx_Zq Bundle.tN "UNASSIGNED_STACK" Bundle.steD (zA κ) U H ∧ vx_Zq Bundle.tN "SUPPRESSED_SENTINEL" Bundle.listD (zA κ) U H
theorem zS.moved {κ : zK} {u U : State} {H : Heap} (hvm : u.vm.Alike U.vm) (h : zS κ u H) : zS κ U H := ⟨h.1.moved hvm, h.2.1.moved hvm, h.2.2.1.moved hvm, h.2.2.2.1.moved hvm, h.2.2.2.2.1.moved hvm, h.2.2.2.2.2.moved hvm⟩
theorem zS.kept {κ : zK} {U : State} {H H1 : Heap} {locs : List Loc} (h : zS κ U H) (hS : va_S (zA κ) H H1 locs) : zS κ U H1 := ⟨h.1.kept (fun a h1 h2 => hS.2.1 a h1 h2), h.2.1.kept (fun a h1 h2 => hS.2.1 a h1 h2), h.2.2.1.kept (fun a h1 h2 => hS.2.1 a h1 h2), h.2.2.2.1.kept (fun a h1 h2 => hS.2.1 a h1 h2), h.2.2.2.2.1.kept (fun a h1 h2 => hS.2.1 a h1 h2), h.2.2.2.2.2.kept (fun a h1 h2 => hS.2.1 a h1 h2)⟩
def zAOI (U : State) : Prop := (Cond.arrayOver (.array .int)).before #[] U = true
theorem zAOI.moved {u U : State} (hvm : u.vm.Alike U.vm) (h : zAOI u) : zAOI U := _root_.Jvm.Stand.arrayOver_alikeB hvm h
def zN (κ : zK) (U : State) : Prop := (∀ w ∈ NB, va_Nw w U) ∧ va_AO "java/lang/Object" U ∧ va_Mi "[Ljava/lang/Object;" (κ.2.2 3) U ∧ zAOI U
theorem zN.moved {κ : zK} {s U : State} (hW : s.WarmedH U.vm) (h : zN κ s) : zN κ U := ⟨fun w hw => by
  have h1 := h.1 w hw
  have hi : isN w = true := (List.mem_filter.mp hw).2
  cases w
  case methodLinkNest => exact va_Nw.warmM hW h1
  case fieldLinkNest => exact va_Nw.warmF hW h1
  case castable => exact va_Nw.warmC hW h1
  case declares => exact va_Nw.warmD hW h1
  all_goals exact absurd hi (by simp [isN]), h.2.1.moved hW.alike, h.2.2.1.moved hW.alike, h.2.2.2.moved hW.alike⟩
theorem NB_tab : ∀ w ∈ NB, w.onTables = true := fun w hw => by
  have hi : isN w = true := (List.mem_filter.mp hw).2
  cases w
  case methodLinkNest => rfl
  case fieldLinkNest => rfl
  case castable => rfl
  case declares => rfl
  all_goals exact absurd hi (by simp [isN])
theorem zN.same {κ : zK} {s U : State} (h0 : s.vm = U.vm) (h : zN κ s) : zN κ U := ⟨fun w hw => va_Nw.same (NB_tab w hw) h0 (h.1 w hw), h.2.1.moved (by rw [h0]; exact Vm.Alike.refl U.vm), h.2.2.1.moved (by rw [h0]; exact Vm.Alike.refl U.vm), h.2.2.2.moved (by rw [h0]; exact Vm.Alike.refl U.vm)⟩
def zOK (κ : zK) (U : State) : Prop := κ.2.2 0 ≤ U.heap.size ∧ va_K κ.1 vwCl (zt κ) U ∧ zS κ U U.heap ∧ zN κ U
theorem zOK.at {κ : zK} {s U : State} {H : Heap} {locs : List Loc} (h : zOK κ s) (hS : va_S (zA κ) s.heap H locs) (hU : U.heap = H) (hW : s.WarmedH U.vm) : zOK κ U := by
  subst hU
  exact ⟨Nat.le_trans h.1 hS.1, va_K.moved hW.alike h.2.1, (h.2.2.1.kept hS).moved hW.alike, h.2.2.2.moved hW⟩
theorem zOK.call {κ : zK} {U : State} {g : JFrame} {mk : MethodId} {a : Array Value} (h : zOK κ U) : zOK κ (U.calling g mk a) := ⟨h.1, va_K.moved (u := U) (Vm.Alike.refl U.vm) h.2.1, h.2.2.1.moved (u := U) (Vm.Alike.refl U.vm), h.2.2.2.same (s := U) rfl⟩
/-! LOCALS -/
def zlh (ls : Array Slot) (nL : Nat) (L : List (Option Value)) : Prop := ls.size = nL ∧ lv_wf ls ∧ ∀ (i : Nat) (v : Value), L[i]? = some (some v) → ls[i]? = some (.val v) ∧ v.category = 1
def zpr (L : List (Option Value)) : List (Nat × Value) := (List.range L.length).filterMap (fun i => match L[i]? with | some (some v) => some (i, v) | _ => none)
theorem zpr_mem {L : List (Option Value)} {i : Nat} {v : Value} : (i, v) ∈ zpr L ↔ L[i]? = some (some v) := by
  unfold zpr
  simp only [List.mem_filterMap, List.mem_range]
  constructor
  · rintro ⟨j, hj, h⟩
    cases h1 : L[j]? with
    | none => rw [h1] at h; cases h
    | some w => cases w with
      | none => rw [h1] at h; cases h
      | some w => rw [h1] at h; cases h; exact h1
  · intro h
    exact ⟨i, (List.getElem?_eq_some_iff.mp h).1, by rw [h]⟩
theorem zlh_has {ls : Array Slot} {nL : Nat} {L : List (Option Value)} (h : zlh ls nL L) : lv_has ls nL (zpr L) := ⟨h.1, h.2.1, fun q hq => (h.2.2 q.1 q.2 (zpr_mem.mp hq)).1⟩
theorem zlh_set {ls ls' : Array Slot} {nL i : Nat} {L L' : List (Option Value)} {x : Value} (h : zlh ls nL L) (hc : x.category = 1) (h' : lv_has ls' nL ((i, x) :: (zpr L).filter (fun q => !(q.1 == i) && !(q.1 + 1 == i && q.2.category == 2)))) (hs : L.set i (some x) = L') : zlh ls' nL L' := by
  subst hs
  refine ⟨h'.1, h'.2.1, fun j v hj => ?_⟩
  by_cases hji : j = i
  · subst hji
    have hl : j < L.length := by
      have := (List.getElem?_eq_some_iff.mp hj).1
      simpa using this
    rw [List.getElem?_set] at hj
    simp [hl] at hj
    subst hj
    exact ⟨h'.2.2 (j, x) List.mem_cons_self, hc⟩
  · rw [List.getElem?_set_ne (fun q => hji q.symm)] at hj
    have hv := h.2.2 j v hj
    refine ⟨h'.2.2 (j, v) (List.mem_cons_of_mem _ (List.mem_filter.mpr ⟨zpr_mem.mpr hj, ?_⟩)), hv.2⟩
    simp [hji, hv.2]
theorem zargs_mem : ∀ (vs : List Value) (k i : Nat) (v : Value), (∀ w ∈ vs, w.category = 1) → vs[i]? = some v → (k + i, v) ∈ lv_args k vs
  | [], _, _, _, _, h => by cases h
  | w :: vs, k, 0, v, _, h => by cases h; exact List.mem_cons_self
  | w :: vs, k, i + 1, v, hc, h => by
    have h1 : vs[i]? = some v := h
    have hw : ¬ w.category = 2 := by rw [hc w List.mem_cons_self]; decide
    have := zargs_mem vs (k + 1) i v (fun x hx => hc x (List.mem_cons_of_mem _ hx)) h1
    show (k + (i + 1), v) ∈ (k, w) :: lv_args (if w.category = 2 then k + 2 else k + 1) vs
    rw [if_neg hw]
    refine List.mem_cons_of_mem _ ?_
    rw [show k + (i + 1) = k + 1 + i by omega]
    exact this
/-! THE JUDGEMENT: with what is fixed given, from the frame at pc, over any heap that holds G, the walk comes to Q -/
def zCx (p : Program) (s : State) (m : MethodId) (args : Array Value) (meth : Method) (c : Code) (y : MethodName) (cc : ByteArray) (nL : Nat) (ret : Option FieldType) (κ : zK) : Prop :=
  p.tables.exec = Jvm.exec ∧ c.code = cc ∧ c.maxLocals = nL ∧ s.vm.findClass y.cls = some m.cls ∧ (∀ w ∈ TB, w.before args s = true) ∧ zOK κ s ∧ meth.sig.returnType = ret ∧ meth.locks = false ∧ meth.name = y.name
def Z (p : Program) (l : Launch) (e : Env) (R : Room) (s : State) (m : MethodId) (args : Array Value) (below : List Frame) (meth : Method) (c : Code) (y : MethodName) (cc : ByteArray) (nL : Nat) (ret : Option FieldType) (κ : zK) (Q : State → Prop) (nc ns : Nat) (G : zH) (L : List (Option Value)) (pc : Nat) (st : List Value) : Prop :=
  zCx p s m args meth c y cc nL ret κ → ∀ (H : Heap) (locs : List Loc) (ls : Array Slot), zh κ G H → va_S (zA κ) s.heap H locs → zlh ls nL L → W p l e R s m args below meth c H locs nc ns Q (F0 m pc ls st)
def zQc (κ : zK) (post : Option Value → zH → Prop) : Array Value → State → Outcome → State → Prop := fun _ st oc t => (∃ (r : Option Value) (G' : zH), oc = .returned r ∧ post r G' ∧ zh κ G' t.heap) ∧ va_F (zA κ) st t
/-- a method's contract: from the arguments av and the ghost heap G, it returns, and 'post' tells the answer and the ghost heap behind -/
def Ct (l : Launch) (y : MethodName) (cc : ByteArray) (nL : Nat) (ret : Option FieldType) (rm : Room) (κ : zK) (av : List Value) (G : zH) (post : Option Value → zH → Prop) : Prop :=
  Met l y (.code y cc nL ret :: TB) rm (va_Pc av (fun U => zOK κ U ∧ zh κ G U.heap)) (zQc κ post) rm.cells rm.slots (zA κ)
theorem zsl_len : ∀ (av : List Value), (∀ v ∈ av, v.category = 1) → (lg_sl av).length = av.length
  | [], _ => rfl
  | w :: vs, h => by
    have hw : ¬ w.category = 2 := by rw [h w List.mem_cons_self]; decide
    have ih := zsl_len vs (fun v hv => h v (List.mem_cons_of_mem _ hv))
    unfold lg_sl at ih ⊢
    simp only [List.flatMap_cons, hw, if_false, List.length_append, List.length_cons, List.length_nil]
    rw [ih]
    omega
theorem Ct.of {l : Launch} {y : MethodName} {cc : ByteArray} {nL : Nat} {ret : Option FieldType} {rm : Room} {κ : zK} {av : List Value} {G : zH} {post : Option Value → zH → Prop} (hy : plainName y.cls = true) (hav : ∀ v ∈ av, v.category = 1) (hn : av.length ≤ nL)
    (body : ∀ (p : Program) (e : Env) (s : State) (m : MethodId) (args : Array Value) (below : List Frame) (meth : Method) (c : Code), Z p l e rm s m args below meth c y cc nL ret κ (MQ below (zQc κ post) args s rm.cells rm.slots (zA κ)) 0 0 G (av.map some ++ List.replicate (nL - av.length) none) 0 []) : Ct l y cc nL ret rm κ av G post := by
  refine Met.ofW (cc := cc) (maxL := nL) (ret := ret) hy rfl ?_
  intro p e s m args below meth c s₁ B hml hv
  obtain ⟨rfl, hok, hgh⟩ := hv
  have hts := atoms_spec (ws := .code y cc nL ret :: TB) B.pre
  have hsl := zsl_len av hav
  have hl := lv_entry av (n := nL) (by rw [hsl]; exact hn)
  rw [lg_entry_eq]
  refine body p e s m _ below meth c ⟨B.exec, B.bytes, hml, findClass_of_methodNamed B.named, fun w h => hts w (List.mem_cons_of_mem _ h), hok, B.returns, B.notSynchronized, (name_of_methodNamed B.named B.method).1⟩ s.heap [] _ hgh va_S.rf ⟨hl.1, hl.2.1, fun i v hi => ?_⟩
  by_cases hia : i < av.length
  · rw [List.getElem?_append_left (by simpa using hia), List.getElem?_map] at hi
    cases hv : av[i]? with
    | none => rw [hv] at hi; cases hi
    | some w =>
      rw [hv] at hi
      cases hi
      refine ⟨hl.2.2 (i, v) ?_, hav v (List.mem_of_getElem? hv)⟩
      have := zargs_mem av 0 i v hav hv
      rwa [Nat.zero_add] at this
  · rw [List.getElem?_append_right (by simpa using hia), List.getElem?_replicate] at hi
    split at hi <;> cases hi
abbrev pI (P : Int32 → zH → Prop) : Option Value → zH → Prop := fun r G => ∃ v : Int32, r = some (.int v) ∧ P v G
abbrev pV (P : zH → Prop) : Option Value → zH → Prop := fun r G => r = none ∧ P G
abbrev pA (P : Option Nat → zH → Prop) : Option Value → zH → Prop := fun r G => ∃ v : Option Nat, r = some (va_rf v) ∧ P v G
section ZR
variable {p : Program} {l : Launch} {e : Env} {R : Room} {s : State} {m : MethodId} {args : Array Value} {below : List Frame} {meth : Method} {c : Code} {y : MethodName} {cc : ByteArray} {nL : Nat} {ret : Option FieldType} {κ : zK} {Q : State → Prop} {nc ns : Nat} {G : zH} {L : List (Option Value)} {pc : Nat} {st : List Value}
theorem z_iadd {x w : Int32} (hd : decode cc pc = .ok (.iadd, 1)) (k : Z p l e R s m args below meth c y cc nL ret κ Q nc ns G L (pc + 1) (.int (x + w) :: st)) : Z p l e R s m args below meth c y cc nL ret κ Q nc ns G L pc (.int w :: .int x :: st) := fun C H locs ls hg hs hl => lv_iadd C.1 C.2.1 hd (k C H locs ls hg hs hl)
theorem z_isub {x w : Int32} (hd : decode cc pc = .ok (.isub, 1)) (k : Z p l e R s m args below meth c y cc nL ret κ Q nc ns G L (pc + 1) (.int (x - w) :: st)) : Z p l e R s m args below meth c y cc nL ret κ Q nc ns G L pc (.int w :: .int x :: st) := fun C H locs ls hg hs hl => lv_isub C.1 C.2.1 hd (k C H locs ls hg hs hl)
theorem z_imul {x w : Int32} (hd : decode cc pc = .ok (.imul, 1)) (k : Z p l e R s m args below meth c y cc nL ret κ Q nc ns G L (pc + 1) (.int (x * w) :: st)) : Z p l e R s m args below meth c y cc nL ret κ Q nc ns G L pc (.int w :: .int x :: st) := fun C H locs ls hg hs hl => lv_imul C.1 C.2.1 hd (k C H locs ls hg hs hl)
theorem z_iand {x w : Int32} (hd : decode cc pc = .ok (.iand, 1)) (k : Z p l e R s m args below meth c y cc nL ret κ Q nc ns G L (pc + 1) (.int (x &&& w) :: st)) : Z p l e R s m args below meth c y cc nL ret κ Q nc ns G L pc (.int w :: .int x :: st) := fun C H locs ls hg hs hl => lv_iand C.1 C.2.1 hd (k C H locs ls hg hs hl)
theorem z_ior {x w : Int32} (hd : decode cc pc = .ok (.ior, 1)) (k : Z p l e R s m args below meth c y cc nL ret κ Q nc ns G L (pc + 1) (.int (x ||| w) :: st)) : Z p l e R s m args below meth c y cc nL ret κ Q nc ns G L pc (.int w :: .int x :: st) := fun C H locs ls hg hs hl => lv_ior C.1 C.2.1 hd (k C H locs ls hg hs hl)
theorem z_ishl {x w : Int32} (hd : decode cc pc = .ok (.ishl, 1)) (k : Z p l e R s m args below meth c y cc nL ret κ Q nc ns G L (pc + 1) (.int (x <<< (w &&& 31)) :: st)) : Z p l e R s m args below meth c y cc nL ret κ Q nc ns G L pc (.int w :: .int x :: st) := fun C H locs ls hg hs hl => lv_ishl C.1 C.2.1 hd (k C H locs ls hg hs hl)
theorem z_ishr {x w : Int32} (hd : decode cc pc = .ok (.ishr, 1)) (k : Z p l e R s m args below meth c y cc nL ret κ Q nc ns G L (pc + 1) (.int (x >>> (w &&& 31)) :: st)) : Z p l e R s m args below meth c y cc nL ret κ Q nc ns G L pc (.int w :: .int x :: st) := fun C H locs ls hg hs hl => lv_ishr C.1 C.2.1 hd (k C H locs ls hg hs hl)
theorem z_ineg {x : Int32} (hd : decode cc pc = .ok (.ineg, 1)) (k : Z p l e R s m args below meth c y cc nL ret κ Q nc ns G L (pc + 1) (.int (-x) :: st)) : Z p l e R s m args below meth c y cc nL ret κ Q nc ns G L pc (.int x :: st) := fun C H locs ls hg hs hl => lv_ineg C.1 C.2.1 hd (k C H locs ls hg hs hl)
theorem z_idiv {x w : Int32} (h0 : ¬ w = 0) (hd : decode cc pc = .ok (.idiv, 1)) (k : Z p l e R s m args below meth c y cc nL ret κ Q nc ns G L (pc + 1) (.int (x / w) :: st)) : Z p l e R s m args below meth c y cc nL ret κ Q nc ns G L pc (.int w :: .int x :: st) := fun C H locs ls hg hs hl => lv_idiv C.1 C.2.1 hd h0 (k C H locs ls hg hs hl)
theorem z_irem {x w : Int32} (h0 : ¬ w = 0) (hd : decode cc pc = .ok (.irem, 1)) (k : Z p l e R s m args below meth c y cc nL ret κ Q nc ns G L (pc + 1) (.int (x - x / w * w) :: st)) : Z p l e R s m args below meth c y cc nL ret κ Q nc ns G L pc (.int w :: .int x :: st) := fun C H locs ls hg hs hl => lv_irem C.1 C.2.1 hd h0 (k C H locs ls hg hs hl)
theorem z_i2l {x : Int32} (hd : decode cc pc = .ok (.i2l, 1)) (k : Z p l e R s m args below meth c y cc nL ret κ Q nc ns G L (pc + 1) (.long x.toInt64 :: st)) : Z p l e R s m args below meth c y cc nL ret κ Q nc ns G L pc (.int x :: st) := fun C H locs ls hg hs hl => lv_i2l C.1 C.2.1 hd rfl (k C H locs ls hg hs hl)
theorem z_iconst {n : Int} (v : Int32) (hv : Int32.ofInt n = v) (hd : decode cc pc = .ok (.iconst n, 1)) (k : Z p l e R s m args below meth c y cc nL ret κ Q nc ns G L (pc + 1) (.int v :: st)) : Z p l e R s m args below meth c y cc nL ret κ Q nc ns G L pc st := fun C H locs ls hg hs hl => lv_iconst C.1 C.2.1 hd hv (k C H locs ls hg hs hl)
theorem z_bipush {n : Int} (v : Int32) (hv : (Int8.ofInt n).toInt32 = v) (hd : decode cc pc = .ok (.bipush n, 2)) (k : Z p l e R s m args below meth c y cc nL ret κ Q nc ns G L (pc + 2) (.int v :: st)) : Z p l e R s m args below meth c y cc nL ret κ Q nc ns G L pc st := fun C H locs ls hg hs hl => lv_bipush C.1 C.2.1 hd hv (k C H locs ls hg hs hl)
theorem z_sipush {n : Int} (v : Int32) (hv : (Int16.ofInt n).toInt32 = v) (hd : decode cc pc = .ok (.sipush n, 3)) (k : Z p l e R s m args below meth c y cc nL ret κ Q nc ns G L (pc + 3) (.int v :: st)) : Z p l e R s m args below meth c y cc nL ret κ Q nc ns G L pc st := fun C H locs ls hg hs hl => lv_sipush C.1 C.2.1 hd hv (k C H locs ls hg hs hl)
theorem z_null  (hd : decode cc pc = .ok (.aconst_null, 1)) (k : Z p l e R s m args below meth c y cc nL ret κ Q nc ns G L (pc + 1) (.null :: st)) : Z p l e R s m args below meth c y cc nL ret κ Q nc ns G L pc st := fun C H locs ls hg hs hl => lv_null C.1 C.2.1 hd (k C H locs ls hg hs hl)
theorem z_dup {v : Value} (hv : v.category = 1) (hd : decode cc pc = .ok (.dup, 1)) (k : Z p l e R s m args below meth c y cc nL ret κ Q nc ns G L (pc + 1) (v :: v :: st)) : Z p l e R s m args below meth c y cc nL ret κ Q nc ns G L pc (v :: st) := fun C H locs ls hg hs hl => lv_dup C.1 C.2.1 hd hv (k C H locs ls hg hs hl)
theorem z_dup_x1 {v w : Value} (hv : v.category = 1) (hw : w.category = 1) (hd : decode cc pc = .ok (.dup_x1, 1)) (k : Z p l e R s m args below meth c y cc nL ret κ Q nc ns G L (pc + 1) (v :: w :: v :: st)) : Z p l e R s m args below meth c y cc nL ret κ Q nc ns G L pc (v :: w :: st) := fun C H locs ls hg hs hl => lv_dup_x1 C.1 C.2.1 hd hv hw (k C H locs ls hg hs hl)
theorem z_dup2 {v w : Value} (hv : v.category = 1) (hw : w.category = 1) (hd : decode cc pc = .ok (.dup2, 1)) (k : Z p l e R s m args below meth c y cc nL ret κ Q nc ns G L (pc + 1) (v :: w :: v :: w :: st)) : Z p l e R s m args below meth c y cc nL ret κ Q nc ns G L pc (v :: w :: st) := fun C H locs ls hg hs hl => lv_dup2_11 C.1 C.2.1 hd hv hw (k C H locs ls hg hs hl)
theorem z_pop {v : Value} (hv : v.category = 1) (hd : decode cc pc = .ok (.pop, 1)) (k : Z p l e R s m args below meth c y cc nL ret κ Q nc ns G L (pc + 1) st) : Z p l e R s m args below meth c y cc nL ret κ Q nc ns G L pc (v :: st) := fun C H locs ls hg hs hl => lv_pop C.1 C.2.1 hd hv (k C H locs ls hg hs hl)
theorem z_ldc {i : Nat} {v : Int32} (hw : Cond.constant y.cls i v ∈ TB) (hd : decode cc pc = .ok (.ldc i, 2)) (k : Z p l e R s m args below meth c y cc nL ret κ Q nc ns G L (pc + 2) (.int v :: st)) : Z p l e R s m args below meth c y cc nL ret κ Q nc ns G L pc st := fun C H locs ls hg hs hl => lv_ldc C.1 C.2.1 C.2.2.2.1 (C.2.2.2.2.1 _ hw) hd (k C H locs ls hg hs hl)
theorem z_goto {off : Int} (tgt : Nat) (hd : decode cc pc = .ok (.goto off, 3)) (ht : (pc : Int) + off = (tgt : Int)) (k : Z p l e R s m args below meth c y cc nL ret κ Q nc ns G L tgt st) : Z p l e R s m args below meth c y cc nL ret κ Q nc ns G L pc st := fun C H locs ls hg hs hl => lv_goto C.1 C.2.1 hd ht (k C H locs ls hg hs hl)
theorem z_iload_n {x : Int32} {k0 : Fin 4} (i : Nat) (hd : decode cc pc = .ok (.iload_n k0, 1)) (hi : (k0 : Nat) = i) (hL : L[i]? = some (some (.int x))) (k : Z p l e R s m args below meth c y cc nL ret κ Q nc ns G L (pc + 1) (.int x :: st)) : Z p l e R s m args below meth c y cc nL ret κ Q nc ns G L pc st := fun C H locs ls hg hs hl => lv_iload_n C.1 C.2.1 hd hi (hl.2.2 i _ hL).1 (k C H locs ls hg hs hl)
theorem z_aload_n {v : Value} {k0 : Fin 4} (i : Nat) (hd : decode cc pc = .ok (.aload_n k0, 1)) (hi : (k0 : Nat) = i) (hL : L[i]? = some (some v)) (hv : (∃ o, v = va_rf o)) (k : Z p l e R s m args below meth c y cc nL ret κ Q nc ns G L (pc + 1) (v :: st)) : Z p l e R s m args below meth c y cc nL ret κ Q nc ns G L pc st := fun C H locs ls hg hs hl => by
  obtain ⟨o, rfl⟩ := hv
  have hX := (hl.2.2 i _ hL).1
  have kk := k C H locs ls hg hs hl
  cases o with
  | none => exact lv_aload_nN C.1 C.2.1 hd hi hX kk
  | some a => exact lv_aload_n C.1 C.2.1 hd hi hX kk
theorem z_istore_n {x : Int32} {k0 : Fin 4} {L' : List (Option Value)} (i : Nat) (hd : decode cc pc = .ok (.istore_n k0, 1)) (hi : (k0 : Nat) = i) (hn : i < nL) (hs : L.set i (some (.int x)) = L') (k : Z p l e R s m args below meth c y cc nL ret κ Q nc ns G L' (pc + 1) st) : Z p l e R s m args below meth c y cc nL ret κ Q nc ns G L pc (.int x :: st) := fun C H locs ls hg hS hl => lv_istore_n C.1 C.2.1 hd hi (zlh_has hl) hn rfl (fun ls' h' => k C H locs ls' hg hS (zlh_set hl rfl h' hs))
theorem z_astore_n {v : Value} {k0 : Fin 4} {L' : List (Option Value)} (i : Nat) (hd : decode cc pc = .ok (.astore_n k0, 1)) (hi : (k0 : Nat) = i) (hn : i < nL) (hv : (∃ o, v = va_rf o)) (hs : L.set i (some v) = L') (k : Z p l e R s m args below meth c y cc nL ret κ Q nc ns G L' (pc + 1) st) : Z p l e R s m args below meth c y cc nL ret κ Q nc ns G L pc (v :: st) := fun C H locs ls hg hS hl => by
  obtain ⟨o, rfl⟩ := hv
  cases o with
  | none => exact lv_astore_nN C.1 C.2.1 hd hi (zlh_has hl) hn rfl (fun ls' h' => k C H locs ls' hg hS (zlh_set hl rfl h' hs))
  | some a => exact lv_astore_n C.1 C.2.1 hd hi (zlh_has hl) hn rfl (fun ls' h' => k C H locs ls' hg hS (zlh_set hl rfl h' hs))
theorem z_iload {x : Int32} (i : Nat) (hd : decode cc pc = .ok (.iload i, 2)) (hL : L[i]? = some (some (.int x))) (k : Z p l e R s m args below meth c y cc nL ret κ Q nc ns G L (pc + 2) (.int x :: st)) : Z p l e R s m args below meth c y cc nL ret κ Q nc ns G L pc st := fun C H locs ls hg hs hl => lv_iload C.1 C.2.1 hd (hl.2.2 i _ hL).1 (k C H locs ls hg hs hl)
theorem z_aload {v : Value} (i : Nat) (hd : decode cc pc = .ok (.aload i, 2)) (hL : L[i]? = some (some v)) (hv : (∃ o, v = va_rf o)) (k : Z p l e R s m args below meth c y cc nL ret κ Q nc ns G L (pc + 2) (v :: st)) : Z p l e R s m args below meth c y cc nL ret κ Q nc ns G L pc st := fun C H locs ls hg hs hl => by
  obtain ⟨o, rfl⟩ := hv
  have hX := (hl.2.2 i _ hL).1
  have kk := k C H locs ls hg hs hl
  cases o with
  | none => exact lv_aloadN C.1 C.2.1 hd hX kk
  | some a => exact lv_aload C.1 C.2.1 hd hX kk
theorem z_istore {x : Int32} {L' : List (Option Value)} (i : Nat) (hd : decode cc pc = .ok (.istore i, 2)) (hn : i < nL) (hs : L.set i (some (.int x)) = L') (k : Z p l e R s m args below meth c y cc nL ret κ Q nc ns G L' (pc + 2) st) : Z p l e R s m args below meth c y cc nL ret κ Q nc ns G L pc (.int x :: st) := fun C H locs ls hg hS hl => lv_istore C.1 C.2.1 hd (zlh_has hl) hn rfl (fun ls' h' => k C H locs ls' hg hS (zlh_set hl rfl h' hs))
theorem z_astore {v : Value} {L' : List (Option Value)} (i : Nat) (hd : decode cc pc = .ok (.astore i, 2)) (hn : i < nL) (hv : (∃ o, v = va_rf o)) (hs : L.set i (some v) = L') (k : Z p l e R s m args below meth c y cc nL ret κ Q nc ns G L' (pc + 2) st) : Z p l e R s m args below meth c y cc nL ret κ Q nc ns G L pc (v :: st) := fun C H locs ls hg hS hl => by
  obtain ⟨o, rfl⟩ := hv
  cases o with
  | none => exact lv_astoreN C.1 C.2.1 hd (zlh_has hl) hn rfl (fun ls' h' => k C H locs ls' hg hS (zlh_set hl rfl h' hs))
  | some a => exact lv_astore C.1 C.2.1 hd (zlh_has hl) hn rfl (fun ls' h' => k C H locs ls' hg hS (zlh_set hl rfl h' hs))
theorem z_iinc {x v : Int32} {n : Int} {L' : List (Option Value)} (i : Nat) (hd : decode cc pc = .ok (.iinc i n, 3)) (hL : L[i]? = some (some (.int x))) (hv : x + Int32.ofInt n = v) (hn : i < nL) (hs : L.set i (some (.int v)) = L') (k : Z p l e R s m args below meth c y cc nL ret κ Q nc ns G L' (pc + 3) st) : Z p l e R s m args below meth c y cc nL ret κ Q nc ns G L pc st := fun C H locs ls hg hS hl => by
  obtain ⟨j, hj⟩ := List.mem_iff_getElem?.mp (zpr_mem.mpr hL)
  exact lv_iinc C.1 C.2.1 hd (zlh_has hl) hj hv hn rfl (fun ls' h' => k C H locs ls' hg hS (zlh_set hl rfl h' hs))
theorem z_if_eq {x : Int32} {off : Int} (tgt : Nat) (hd : decode cc pc = .ok (.ifCond .eq off, 3)) (ht : (pc : Int) + off = (tgt : Int)) (kt : x = 0 → Z p l e R s m args below meth c y cc nL ret κ Q nc ns G L tgt st) (kf : ¬ (x = 0) → Z p l e R s m args below meth c y cc nL ret κ Q nc ns G L (pc + 3) st) : Z p l e R s m args below meth c y cc nL ret κ Q nc ns G L pc (.int x :: st) := fun C H locs ls hg hs hl => lv_if_eq C.1 C.2.1 hd ht (fun h => kt h C H locs ls hg hs hl) (fun h => kf h C H locs ls hg hs hl)
theorem z_if_ne {x : Int32} {off : Int} (tgt : Nat) (hd : decode cc pc = .ok (.ifCond .ne off, 3)) (ht : (pc : Int) + off = (tgt : Int)) (kt : ¬ x = 0 → Z p l e R s m args below meth c y cc nL ret κ Q nc ns G L tgt st) (kf : x = 0 → Z p l e R s m args below meth c y cc nL ret κ Q nc ns G L (pc + 3) st) : Z p l e R s m args below meth c y cc nL ret κ Q nc ns G L pc (.int x :: st) := fun C H locs ls hg hs hl => lv_if_ne C.1 C.2.1 hd ht (fun h => kt h C H locs ls hg hs hl) (fun h => kf (by first | exact h | exact Decidable.not_not.mp h) C H locs ls hg hs hl)
theorem z_if_lt {x : Int32} {off : Int} (tgt : Nat) (hd : decode cc pc = .ok (.ifCond .lt off, 3)) (ht : (pc : Int) + off = (tgt : Int)) (kt : x < 0 → Z p l e R s m args below meth c y cc nL ret κ Q nc ns G L tgt st) (kf : ¬ (x < 0) → Z p l e R s m args below meth c y cc nL ret κ Q nc ns G L (pc + 3) st) : Z p l e R s m args below meth c y cc nL ret κ Q nc ns G L pc (.int x :: st) := fun C H locs ls hg hs hl => lv_if_lt C.1 C.2.1 hd ht (fun h => kt h C H locs ls hg hs hl) (fun h => kf h C H locs ls hg hs hl)
theorem z_if_ge {x : Int32} {off : Int} (tgt : Nat) (hd : decode cc pc = .ok (.ifCond .ge off, 3)) (ht : (pc : Int) + off = (tgt : Int)) (kt : 0 ≤ x → Z p l e R s m args below meth c y cc nL ret κ Q nc ns G L tgt st) (kf : ¬ (0 ≤ x) → Z p l e R s m args below meth c y cc nL ret κ Q nc ns G L (pc + 3) st) : Z p l e R s m args below meth c y cc nL ret κ Q nc ns G L pc (.int x :: st) := fun C H locs ls hg hs hl => lv_if_ge C.1 C.2.1 hd ht (fun h => kt h C H locs ls hg hs hl) (fun h => kf h C H locs ls hg hs hl)
theorem z_if_gt {x : Int32} {off : Int} (tgt : Nat) (hd : decode cc pc = .ok (.ifCond .gt off, 3)) (ht : (pc : Int) + off = (tgt : Int)) (kt : 0 < x → Z p l e R s m args below meth c y cc nL ret κ Q nc ns G L tgt st) (kf : ¬ (0 < x) → Z p l e R s m args below meth c y cc nL ret κ Q nc ns G L (pc + 3) st) : Z p l e R s m args below meth c y cc nL ret κ Q nc ns G L pc (.int x :: st) := fun C H locs ls hg hs hl => lv_if_gt C.1 C.2.1 hd ht (fun h => kt h C H locs ls hg hs hl) (fun h => kf h C H locs ls hg hs hl)
theorem z_if_le {x : Int32} {off : Int} (tgt : Nat) (hd : decode cc pc = .ok (.ifCond .le off, 3)) (ht : (pc : Int) + off = (tgt : Int)) (kt : x ≤ 0 → Z p l e R s m args below meth c y cc nL ret κ Q nc ns G L tgt st) (kf : ¬ (x ≤ 0) → Z p l e R s m args below meth c y cc nL ret κ Q nc ns G L (pc + 3) st) : Z p l e R s m args below meth c y cc nL ret κ Q nc ns G L pc (.int x :: st) := fun C H locs ls hg hs hl => lv_if_le C.1 C.2.1 hd ht (fun h => kt h C H locs ls hg hs hl) (fun h => kf h C H locs ls hg hs hl)
theorem z_icmp_eq {x w : Int32} {off : Int} (tgt : Nat) (hd : decode cc pc = .ok (.if_icmp .eq off, 3)) (ht : (pc : Int) + off = (tgt : Int)) (kt : x = w → Z p l e R s m args below meth c y cc nL ret κ Q nc ns G L tgt st) (kf : ¬ (x = w) → Z p l e R s m args below meth c y cc nL ret κ Q nc ns G L (pc + 3) st) : Z p l e R s m args below meth c y cc nL ret κ Q nc ns G L pc (.int w :: .int x :: st) := fun C H locs ls hg hs hl => lv_icmp_eq C.1 C.2.1 hd ht (fun h => kt h C H locs ls hg hs hl) (fun h => kf h C H locs ls hg hs hl)
theorem z_icmp_ne {x w : Int32} {off : Int} (tgt : Nat) (hd : decode cc pc = .ok (.if_icmp .ne off, 3)) (ht : (pc : Int) + off = (tgt : Int)) (kt : ¬ x = w → Z p l e R s m args below meth c y cc nL ret κ Q nc ns G L tgt st) (kf : x = w → Z p l e R s m args below meth c y cc nL ret κ Q nc ns G L (pc + 3) st) : Z p l e R s m args below meth c y cc nL ret κ Q nc ns G L pc (.int w :: .int x :: st) := fun C H locs ls hg hs hl => lv_icmp_ne C.1 C.2.1 hd ht (fun h => kt h C H locs ls hg hs hl) (fun h => kf (by first | exact h | exact Decidable.not_not.mp h) C H locs ls hg hs hl)
theorem z_icmp_lt {x w : Int32} {off : Int} (tgt : Nat) (hd : decode cc pc = .ok (.if_icmp .lt off, 3)) (ht : (pc : Int) + off = (tgt : Int)) (kt : x < w → Z p l e R s m args below meth c y cc nL ret κ Q nc ns G L tgt st) (kf : ¬ (x < w) → Z p l e R s m args below meth c y cc nL ret κ Q nc ns G L (pc + 3) st) : Z p l e R s m args below meth c y cc nL ret κ Q nc ns G L pc (.int w :: .int x :: st) := fun C H locs ls hg hs hl => lv_icmp_lt C.1 C.2.1 hd ht (fun h => kt h C H locs ls hg hs hl) (fun h => kf h C H locs ls hg hs hl)
theorem z_icmp_ge {x w : Int32} {off : Int} (tgt : Nat) (hd : decode cc pc = .ok (.if_icmp .ge off, 3)) (ht : (pc : Int) + off = (tgt : Int)) (kt : w ≤ x → Z p l e R s m args below meth c y cc nL ret κ Q nc ns G L tgt st) (kf : ¬ (w ≤ x) → Z p l e R s m args below meth c y cc nL ret κ Q nc ns G L (pc + 3) st) : Z p l e R s m args below meth c y cc nL ret κ Q nc ns G L pc (.int w :: .int x :: st) := fun C H locs ls hg hs hl => lv_icmp_ge C.1 C.2.1 hd ht (fun h => kt h C H locs ls hg hs hl) (fun h => kf h C H locs ls hg hs hl)
theorem z_icmp_gt {x w : Int32} {off : Int} (tgt : Nat) (hd : decode cc pc = .ok (.if_icmp .gt off, 3)) (ht : (pc : Int) + off = (tgt : Int)) (kt : w < x → Z p l e R s m args below meth c y cc nL ret κ Q nc ns G L tgt st) (kf : ¬ (w < x) → Z p l e R s m args below meth c y cc nL ret κ Q nc ns G L (pc + 3) st) : Z p l e R s m args below meth c y cc nL ret κ Q nc ns G L pc (.int w :: .int x :: st) := fun C H locs ls hg hs hl => lv_icmp_gt C.1 C.2.1 hd ht (fun h => kt h C H locs ls hg hs hl) (fun h => kf h C H locs ls hg hs hl)
theorem z_icmp_le {x w : Int32} {off : Int} (tgt : Nat) (hd : decode cc pc = .ok (.if_icmp .le off, 3)) (ht : (pc : Int) + off = (tgt : Int)) (kt : x ≤ w → Z p l e R s m args below meth c y cc nL ret κ Q nc ns G L tgt st) (kf : ¬ (x ≤ w) → Z p l e R s m args below meth c y cc nL ret κ Q nc ns G L (pc + 3) st) : Z p l e R s m args below meth c y cc nL ret κ Q nc ns G L pc (.int w :: .int x :: st) := fun C H locs ls hg hs hl => lv_icmp_le C.1 C.2.1 hd ht (fun h => kt h C H locs ls hg hs hl) (fun h => kf h C H locs ls hg hs hl)
theorem z_acmp_eq {rx ry : Option Nat} {v1 v2 : Value} {off : Int} (tgt : Nat) (hd : decode cc pc = .ok (.if_acmp .eq off, 3)) (ht : (pc : Int) + off = (tgt : Int)) (h1 : v1 = va_rf ry) (h2 : v2 = va_rf rx) (kt : rx = ry → Z p l e R s m args below meth c y cc nL ret κ Q nc ns G L tgt st) (kf : ¬ rx = ry → Z p l e R s m args below meth c y cc nL ret κ Q nc ns G L (pc + 3) st) : Z p l e R s m args below meth c y cc nL ret κ Q nc ns G L pc (v1 :: v2 :: st) := fun C H locs ls hg hs hl => by
  subst h1; subst h2
  exact lv_acmp_eq C.1 C.2.1 hd ht (fun h => kt h C H locs ls hg hs hl) (fun h => kf h C H locs ls hg hs hl)
theorem z_acmp_ne {rx ry : Option Nat} {v1 v2 : Value} {off : Int} (tgt : Nat) (hd : decode cc pc = .ok (.if_acmp .ne off, 3)) (ht : (pc : Int) + off = (tgt : Int)) (h1 : v1 = va_rf ry) (h2 : v2 = va_rf rx) (kt : ¬ rx = ry → Z p l e R s m args below meth c y cc nL ret κ Q nc ns G L tgt st) (kf : rx = ry → Z p l e R s m args below meth c y cc nL ret κ Q nc ns G L (pc + 3) st) : Z p l e R s m args below meth c y cc nL ret κ Q nc ns G L pc (v1 :: v2 :: st) := fun C H locs ls hg hs hl => by
  subst h1; subst h2
  exact lv_acmp_ne C.1 C.2.1 hd ht (fun h => kt h C H locs ls hg hs hl) (fun h => kf h C H locs ls hg hs hl)
theorem z_ifnullR {a : Nat} {off : Int} (hd : decode cc pc = .ok (.ifnull off, 3)) (k : Z p l e R s m args below meth c y cc nL ret κ Q nc ns G L (pc + 3) st) : Z p l e R s m args below meth c y cc nL ret κ Q nc ns G L pc (.ref a :: st) := fun C H locs ls hg hs hl => lv_ifnull C.1 C.2.1 hd (k C H locs ls hg hs hl)
theorem z_ifnullN {off : Int} (tgt : Nat) (hd : decode cc pc = .ok (.ifnull off, 3)) (ht : (pc : Int) + off = (tgt : Int)) (k : Z p l e R s m args below meth c y cc nL ret κ Q nc ns G L tgt st) : Z p l e R s m args below meth c y cc nL ret κ Q nc ns G L pc (.null :: st) := fun C H locs ls hg hs hl => lv_ifnullN C.1 C.2.1 hd ht (k C H locs ls hg hs hl)
theorem z_ifnonnullR {a : Nat} {off : Int} (tgt : Nat) (hd : decode cc pc = .ok (.ifnonnull off, 3)) (ht : (pc : Int) + off = (tgt : Int)) (k : Z p l e R s m args below meth c y cc nL ret κ Q nc ns G L tgt st) : Z p l e R s m args below meth c y cc nL ret κ Q nc ns G L pc (.ref a :: st) := fun C H locs ls hg hs hl => lv_ifnonnull C.1 C.2.1 hd ht (k C H locs ls hg hs hl)
theorem z_ifnonnullN {off : Int} (hd : decode cc pc = .ok (.ifnonnull off, 3)) (k : Z p l e R s m args below meth c y cc nL ret κ Q nc ns G L (pc + 3) st) : Z p l e R s m args below meth c y cc nL ret κ Q nc ns G L pc (.null :: st) := fun C H locs ls hg hs hl => lv_ifnonnullN C.1 C.2.1 hd (k C H locs ls hg hs hl)
theorem z_tableOut {dflt lo hi : Int} {offs : Array Int} {len : Nat} {x : Int32} (tgt : Nat) (hd : decode cc pc = .ok (.tableswitch dflt lo hi offs, len)) (h : x.toInt < lo ∨ hi < x.toInt) (ht : (pc : Int) + dflt = (tgt : Int)) (k : Z p l e R s m args below meth c y cc nL ret κ Q nc ns G L tgt st) : Z p l e R s m args below meth c y cc nL ret κ Q nc ns G L pc (.int x :: st) := fun C H locs ls hg hs hl => lv_tableOut C.1 C.2.1 hd h ht (k C H locs ls hg hs hl)
theorem z_tableIn {dflt lo hi : Int} {offs : Array Int} {len : Nat} {x : Int32} {off : Int} (tgt : Nat) (hd : decode cc pc = .ok (.tableswitch dflt lo hi offs, len)) (h1 : ¬ x.toInt < lo) (h2 : ¬ hi < x.toInt) (ho : offs[(x.toInt - lo).toNat]? = some off) (ht : (pc : Int) + off = (tgt : Int)) (k : Z p l e R s m args below meth c y cc nL ret κ Q nc ns G L tgt st) : Z p l e R s m args below meth c y cc nL ret κ Q nc ns G L pc (.int x :: st) := fun C H locs ls hg hs hl => lv_tableIn C.1 C.2.1 hd h1 h2 ho ht (k C H locs ls hg hs hl)
theorem z_topi {x : Int32} (k : ∀ v : Int32, v = x → Z p l e R s m args below meth c y cc nL ret κ Q nc ns G L pc (.int v :: st)) : Z p l e R s m args below meth c y cc nL ret κ Q nc ns G L pc (.int x :: st) := k x rfl
theorem z_eq {v w : Value} (h : v = w) (k : Z p l e R s m args below meth c y cc nL ret κ Q nc ns G L pc (w :: st)) : Z p l e R s m args below meth c y cc nL ret κ Q nc ns G L pc (v :: st) := h ▸ k
theorem z_L {L' : List (Option Value)} (h : L = L') (k : Z p l e R s m args below meth c y cc nL ret κ Q nc ns G L' pc st) : Z p l e R s m args below meth c y cc nL ret κ Q nc ns G L pc st := h ▸ k
theorem z_wk {n1 n2 : Nat} (h1 : nc ≤ n1) (h2 : ns ≤ n2) (k : Z p l e R s m args below meth c y cc nL ret κ Q n1 n2 G L pc st) : Z p l e R s m args below meth c y cc nL ret κ Q nc ns G L pc st := fun C H locs ls hg hs hl => W.widen h1 h2 (k C H locs ls hg hs hl)
theorem z_get {a : Nat} {r : zR} {ci : Nat} {fs : List Value} {C : String} {T : u_T} {N index : Nat} {v : Value} (k : Nat) (h0 : G a = some (r, .inr (ci, fs))) (hc : vwCl[ci]? = some (C, T, N)) (hin : ∀ w ∈ u_ws C T N, w ∈ TB) (hk : k < N) (hw : Cond.fieldLink y.cls index (T k).1 (T k).2.1 (T k).2.2.1 ∈ TB) (hv : fs[k]? = some v) (hd : decode cc pc = .ok (.getfield index, 3)) (kk : Z p l e R s m args below meth c y cc nL ret κ Q nc ns G L (pc + 3) (v :: st)) : Z p l e R s m args below meth c y cc nL ret κ Q nc ns G L pc (.ref a :: st) := fun C H locs ls hg hs hl => by
  obtain ⟨q0, hq⟩ := zen_ix hg h0
  exact va_get C.1 C.2.1 C.2.2.2.2.1 hin C.2.2.2.1 C.2.2.2.2.2.1.2.1 (zen_P hg) q0 hq hc k hk (C.2.2.2.2.1 _ hw) (fun _ h => h) hv hd (kk C H locs ls hg hs hl)
theorem z_put {a : Nat} {r : zR} {ci : Nat} {fs : List Value} {C : String} {T : u_T} {N index : Nat} {v : Value} {ty : FieldType} (k : Nat) (h0 : G a = some (r, .inr (ci, fs))) (hc : vwCl[ci]? = some (C, T, N)) (hin : ∀ w ∈ u_ws C T N, w ∈ TB) (ty0 : Nat → FieldType) (hty : ∀ k, k < N → parseFieldDescriptor (T k).2.2.1 = some (ty0 k)) (hnm : ∀ a, a < N → ∀ b, b < N → a ≠ b → (T a).2.1 ≠ (T b).2.1) (hk : k < N) (hw : Cond.fieldLink y.cls index (T k).1 (T k).2.1 (T k).2.2.1 ∈ TB) (hfin : (T k).2.2.2 = false) (ht : parseFieldDescriptor (T k).2.2.1 = some ty) (hn : narrow ty v = v) (hfit : fits ty v = true) (hlen : k < fs.length) (hd : decode cc pc = .ok (.putfield index, 3)) (kk : Z p l e R s m args below meth c y cc nL ret κ Q nc ns (zu G a (r, .inr (ci, fs.set k v))) L (pc + 3) st) : Z p l e R s m args below meth c y cc nL ret κ Q nc ns G L pc (v :: .ref a :: st) := fun C H locs ls hg hs hl => by
  obtain ⟨q0, hq⟩ := zen_ix hg h0
  exact va_put C.1 C.2.1 C.2.2.2.2.1 hin ty0 hty hnm C.2.2.2.1 C.2.2.2.2.2.1.2.1 (zen_P hg) (zen_D hg) hs q0 hq hc k hk (C.2.2.2.2.1 _ hw) (fun _ h => h) hfin ht hn hfit hlen hd (fun H1 locs1 hP _ hS => kk C H1 locs1 ls (zen_set hg h0 hq hP) hS hl)
theorem z_getN {a : Nat} {r : zR} {ci : Nat} {fs : List Value} {C : String} {T : u_T} {N index : Nat} {v : Value} {host : String} (k : Nat) (h0 : G a = some (r, .inr (ci, fs))) (hc : vwCl[ci]? = some (C, T, N)) (hin : ∀ w ∈ u_ws C T N, w ∈ TB) (hk : k < N) (hw : Cond.fieldLinkNest y.cls index (T k).1 (T k).2.1 (T k).2.2.1 host ∈ NB) (hv : fs[k]? = some v) (hd : decode cc pc = .ok (.getfield index, 3)) (kk : Z p l e R s m args below meth c y cc nL ret κ Q nc ns G L (pc + 3) (v :: st)) : Z p l e R s m args below meth c y cc nL ret κ Q nc ns G L pc (.ref a :: st) := fun C H locs ls hg hs hl => by
  obtain ⟨q0, hq⟩ := zen_ix hg h0
  exact va_getN C.1 C.2.1 C.2.2.2.2.1 hin C.2.2.2.1 C.2.2.2.2.2.1.2.1 (zen_P hg) q0 hq hc k hk (va_Nw.use rfl (C.2.2.2.2.2.1.2.2.2.1 _ hw)) (fun _ h => h) hv hd (kk C H locs ls hg hs hl)
theorem z_putN {a : Nat} {r : zR} {ci : Nat} {fs : List Value} {C : String} {T : u_T} {N index : Nat} {v : Value} {ty : FieldType} {host : String} (k : Nat) (h0 : G a = some (r, .inr (ci, fs))) (hc : vwCl[ci]? = some (C, T, N)) (hin : ∀ w ∈ u_ws C T N, w ∈ TB) (ty0 : Nat → FieldType) (hty : ∀ k, k < N → parseFieldDescriptor (T k).2.2.1 = some (ty0 k)) (hnm : ∀ a, a < N → ∀ b, b < N → a ≠ b → (T a).2.1 ≠ (T b).2.1) (hk : k < N) (hw : Cond.fieldLinkNest y.cls index (T k).1 (T k).2.1 (T k).2.2.1 host ∈ NB) (hfin : (T k).2.2.2 = false) (ht : parseFieldDescriptor (T k).2.2.1 = some ty) (hn : narrow ty v = v) (hfit : fits ty v = true) (hlen : k < fs.length) (hd : decode cc pc = .ok (.putfield index, 3)) (kk : Z p l e R s m args below meth c y cc nL ret κ Q nc ns (zu G a (r, .inr (ci, fs.set k v))) L (pc + 3) st) : Z p l e R s m args below meth c y cc nL ret κ Q nc ns G L pc (v :: .ref a :: st) := fun C H locs ls hg hs hl => by
  obtain ⟨q0, hq⟩ := zen_ix hg h0
  exact va_putN C.1 C.2.1 C.2.2.2.2.1 hin ty0 hty hnm C.2.2.2.1 C.2.2.2.2.2.1.2.1 (zen_P hg) (zen_D hg) hs q0 hq hc k hk (va_Nw.use rfl (C.2.2.2.2.2.1.2.2.2.1 _ hw)) (fun _ h => h) hfin ht hn hfit hlen hd (fun H1 locs1 hP _ hS => kk C H1 locs1 ls (zen_set hg h0 hq hP) hS hl)
theorem z_putF {a : Nat} {r : zR} {ci : Nat} {fs : List Value} {C : String} {T : u_T} {N index : Nat} {v : Value} {ty : FieldType} (k : Nat) (h0 : G a = some (r, .inr (ci, fs))) (hc : vwCl[ci]? = some (C, T, N)) (hin : ∀ w ∈ u_ws C T N, w ∈ TB) (ty0 : Nat → FieldType) (hty : ∀ k, k < N → parseFieldDescriptor (T k).2.2.1 = some (ty0 k)) (hnm : ∀ a, a < N → ∀ b, b < N → a ≠ b → (T a).2.1 ≠ (T b).2.1) (hk : k < N) (hw : Cond.fieldLink y.cls index (T k).1 (T k).2.1 (T k).2.2.1 ∈ TB) (hfin : (T k).2.2.2 = true) (hy1 : y.name = "<init>") (hy2 : (T k).1 = y.cls) (ht : parseFieldDescriptor (T k).2.2.1 = some ty) (hn : narrow ty v = v) (hfit : fits ty v = true) (hlen : k < fs.length) (hd : decode cc pc = .ok (.putfield index, 3)) (kk : Z p l e R s m args below meth c y cc nL ret κ Q nc ns (zu G a (r, .inr (ci, fs.set k v))) L (pc + 3) st) : Z p l e R s m args below meth c y cc nL ret κ Q nc ns G L pc (v :: .ref a :: st) := fun C H locs ls hg hs hl => by
  obtain ⟨q0, hq⟩ := zen_ix hg h0
  exact va_putF C.1 C.2.1 C.2.2.2.2.1 hin ty0 hty hnm C.2.2.2.1 C.2.2.2.2.2.1.2.1 (zen_P hg) (zen_D hg) hs q0 hq hc k hk (C.2.2.2.2.1 _ hw) (fun _ h => h) hfin (C.2.2.2.2.2.2.2.2.trans hy1) hy2 ht hn hfit hlen hd (fun H1 locs1 hP _ hS => kk C H1 locs1 ls (zen_set hg h0 hq hP) hS hl)
theorem z_new {ci : Nat} {C : String} {T : u_T} {N index : Nat} (r : zR) (fs : List Value) (hc : vwCl[ci]? = some (C, T, N)) (hin : ∀ w ∈ u_ws C T N, w ∈ TB) (ty : Nat → FieldType) (hty : ∀ k, k < N → parseFieldDescriptor (T k).2.2.1 = some (ty k)) (w1 : Cond.classLink y.cls index C ∈ TB) (w2 : Cond.instantiable C N ∈ TB) (w3 : Cond.initialized C ∈ TB) (hfs : ∀ j, j < N → defaultValue (ty j) = vp_V fs j) (hR : nc + 1 ≤ R.cells ∧ ns + N ≤ R.slots) (hd : decode cc pc = .ok (.new index, 3)) (kk : ∀ q : Nat, G q = none → κ.2.2 0 ≤ q → Z p l e R s m args below meth c y cc nL ret κ Q (nc + 1) (ns + N) (zu G q (r, .inr (ci, fs))) L (pc + 3) (.ref q :: st)) : Z p l e R s m args below meth c y cc nL ret κ Q nc ns G L pc st := fun C H locs ls hg hs hl =>
  va_new C.1 C.2.1 C.2.2.2.2.1 hin ty hty C.2.2.2.1 (C.2.2.2.2.1 _ w1) (C.2.2.2.2.1 _ w2) (C.2.2.2.2.1 _ w3) C.2.2.2.2.2.1.2.1 (zen_P hg) (zen_D hg) hs (fun q h => Nat.le_trans C.2.2.2.2.2.1.1 h) hc hfs hR.1 hR.2 hd (fun q H1 hP hD hS => by
    obtain ⟨h1, h2, h3⟩ := zen_push hg r hP hD
    exact kk q h1 h2 C H1 locs ls h3 hS hl)
theorem z_iald {a : Nat} {r : zR} {n : Nat} {f : Nat → Int32} {i : Int32} (j : Nat) (h0 : G a = some (r, .inl (κ.2.1 0, n, .inl f))) (hi : i = nI j) (hj : j < n) (hn : n < 2 ^ 31) (hd : decode cc pc = .ok (.iaload, 1)) (kk : Z p l e R s m args below meth c y cc nL ret κ Q nc ns G L (pc + 1) (.int (f j) :: st)) : Z p l e R s m args below meth c y cc nL ret κ Q nc ns G L pc (.int i :: .ref a :: st) := fun C H locs ls hg hs hl => by
  obtain ⟨q0, hq⟩ := zen_ix hg h0
  subst hi
  refine va_iald C.1 C.2.1 C.2.2.2.2.2.1.2.1 (zen_P hg) q0 0 hq rfl (vp_in_nI hj hn) hd ?_
  rw [nI_clamp (Nat.lt_trans hj hn)]
  exact kk C H locs ls hg hs hl
theorem z_iast {a : Nat} {r : zR} {n : Nat} {f : Nat → Int32} {i x : Int32} (j : Nat) (h0 : G a = some (r, .inl (κ.2.1 0, n, .inl f))) (hi : i = nI j) (hj : j < n) (hn : n < 2 ^ 31) (hd : decode cc pc = .ok (.iastore, 1)) (kk : Z p l e R s m args below meth c y cc nL ret κ Q nc ns (zu G a (r, .inl (κ.2.1 0, n, .inl (upd f j x)))) L (pc + 1) st) : Z p l e R s m args below meth c y cc nL ret κ Q nc ns G L pc (.int x :: .int i :: .ref a :: st) := fun C H locs ls hg hs hl => by
  obtain ⟨q0, hq⟩ := zen_ix hg h0
  subst hi
  refine va_iast C.1 C.2.1 C.2.2.2.2.2.1.2.1 (zen_P hg) (zen_D hg) hs q0 0 hq rfl (vp_in_nI hj hn) hd (fun H1 locs1 hP _ hS => ?_)
  rw [nI_clamp (Nat.lt_trans hj hn)] at hP
  exact kk C H1 locs1 ls (zen_set hg h0 hq hP) hS hl
theorem z_zald {a : Nat} {r : zR} {n : Nat} {f : Nat → Int32} {i : Int32} (j : Nat) (h0 : G a = some (r, .inl (κ.2.1 1, n, .inl f))) (hi : i = nI j) (hj : j < n) (hn : n < 2 ^ 31) (hd : decode cc pc = .ok (.baload, 1)) (kk : Z p l e R s m args below meth c y cc nL ret κ Q nc ns G L (pc + 1) (.int (f j) :: st)) : Z p l e R s m args below meth c y cc nL ret κ Q nc ns G L pc (.int i :: .ref a :: st) := fun C H locs ls hg hs hl => by
  obtain ⟨q0, hq⟩ := zen_ix hg h0
  subst hi
  refine va_zald C.1 C.2.1 C.2.2.2.2.2.1.2.1 (zen_P hg) q0 1 hq rfl (vp_in_nI hj hn) hd ?_
  rw [nI_clamp (Nat.lt_trans hj hn)]
  exact kk C H locs ls hg hs hl
theorem z_zast {a : Nat} {r : zR} {n : Nat} {f : Nat → Int32} {i x : Int32} (j : Nat) (h0 : G a = some (r, .inl (κ.2.1 1, n, .inl f))) (hi : i = nI j) (hj : j < n) (hn : n < 2 ^ 31) (hd : decode cc pc = .ok (.bastore, 1)) (kk : Z p l e R s m args below meth c y cc nL ret κ Q nc ns (zu G a (r, .inl (κ.2.1 1, n, .inl (upd f j (vp_nar .boolean x))))) L (pc + 1) st) : Z p l e R s m args below meth c y cc nL ret κ Q nc ns G L pc (.int x :: .int i :: .ref a :: st) := fun C H locs ls hg hs hl => by
  obtain ⟨q0, hq⟩ := zen_ix hg h0
  subst hi
  refine va_zast C.1 C.2.1 C.2.2.2.2.2.1.2.1 (zen_P hg) (zen_D hg) hs q0 1 hq rfl (vp_in_nI hj hn) hd (fun H1 locs1 hP _ hS => ?_)
  rw [nI_clamp (Nat.lt_trans hj hn)] at hP
  exact kk C H1 locs1 ls (zen_set hg h0 hq hP) hS hl
theorem z_alen {a : Nat} {r : zR} {x : vp_A} {ty : FieldType} {v : Int32} (t0 : Nat) (h0 : G a = some (r, .inl (κ.2.1 t0, x))) (ht : (zt κ)[t0]? = some (κ.2.1 t0, ty)) (hv : Int32.ofNat x.1 = v) (hd : decode cc pc = .ok (.arraylength, 1)) (kk : Z p l e R s m args below meth c y cc nL ret κ Q nc ns G L (pc + 1) (.int v :: st)) : Z p l e R s m args below meth c y cc nL ret κ Q nc ns G L pc (.ref a :: st) := fun C H locs ls hg hs hl => by
  obtain ⟨q0, hq⟩ := zen_ix hg h0
  exact va_alen C.1 C.2.1 C.2.2.2.2.2.1.2.1 (zen_P hg) q0 t0 hq ht hv hd (kk C H locs ls hg hs hl)
theorem z_newa {atype : ArrayType} {ty : FieldType} {n : Int32} (r : zR) (N' : Nat) (a0 : vp_A) (t0 : Nat) (hw : Cond.arrayClass (newarray.typeOf atype) ∈ TB) (hty : newarray.typeOf atype = ty) (ht : (zt κ)[t0]? = some (κ.2.1 t0, ty)) (hpr : ∀ C : String, ty ≠ .object C) (ha : ∀ cA : ClassId, vp_cell cA a0 = arrV cA N' (fun _ => defaultValue ty)) (hn : n = nI N') (hN : N' * componentBytes ty ≤ 536870912 ∧ N' < 2 ^ 31) (hR : nc + 1 ≤ R.cells ∧ ns + N' ≤ R.slots) (hd : decode cc pc = .ok (.newarray atype, 2)) (kk : ∀ q : Nat, G q = none → κ.2.2 0 ≤ q → Z p l e R s m args below meth c y cc nL ret κ Q (nc + 1) (ns + N') (zu G q (r, .inl (κ.2.1 t0, a0))) L (pc + 2) (.ref q :: st)) : Z p l e R s m args below meth c y cc nL ret κ Q nc ns G L pc (.int n :: st) := fun C H locs ls hg hs hl =>
  va_newa C.1 C.2.1 (C.2.2.2.2.1 _ hw) hty C.2.2.2.2.2.1.2.1 (zen_P hg) (zen_D hg) hs (fun q h => Nat.le_trans C.2.2.2.2.2.1.1 h) ha (by rw [hn]; exact nI_pos hN.2) (by rw [hn]; exact nI_clamp hN.2) hN.1 hR.1 hR.2 hd (fun q cA H1 hK hP hD hS => by
    have e1 := (hK.2 (zt κ).length (cA, ty) (by simp)).2
    have e2 := (C.2.2.2.2.2.1.2.1.2 t0 _ ht).2
    have e3 : cA = κ.2.1 t0 := by
      cases ty with
      | object D => exact absurd rfl (hpr D)
      | _ => exact Option.some.inj (e1.symm.trans e2)
    subst e3
    obtain ⟨h1, h2, h3⟩ := zen_push hg r hP hD
    exact kk q h1 h2 C H1 locs ls h3 hS hl)
theorem z_aald {a : Nat} {r : zR} {n : Nat} {f : Nat → Option Nat} {i : Int32} (j : Nat) (h0 : G a = some (r, .inl (κ.2.1 2, n, .inr (.inr (.inr (.inr f)))))) (hi : i = nI j) (hj : j < n) (hn : n < 2 ^ 31) (hd : decode cc pc = .ok (.aaload, 1)) (kk : Z p l e R s m args below meth c y cc nL ret κ Q nc ns G L (pc + 1) (va_rf (f j) :: st)) : Z p l e R s m args below meth c y cc nL ret κ Q nc ns G L pc (.int i :: .ref a :: st) := fun C H locs ls hg hs hl => by
  obtain ⟨q0, hq⟩ := zen_ix hg h0
  subst hi
  have hin := vp_in_nI hj hn
  have hlt : (nI j).toNatClampNeg < n := Nat.not_le.mp fun q => hin (Or.inr q)
  refine W.aald (v := va_rf (f (nI j).toNatClampNeg)) (ty := .object "java/lang/Object") C.1 C.2.1 (zen_P hg q0 _ hq) ((C.2.2.2.2.2.1.2.1.2 2 _ rfl).1 n (fun j => va_rf (f j))) rfl (fun q => by cases q) (by show ¬ (nI j < 0 ∨ (arrV _ _ _).slots.size ≤ _); rw [arrV_size]; exact hin) (by show (arrV _ _ _).slots[_]? = _; rw [arrV_read _ _ hlt]) rfl rfl hd ?_
  rw [nI_clamp (Nat.lt_trans hj hn)]
  exact kk C H locs ls hg hs hl
theorem z_aaldI {a : Nat} {r : zR} {n : Nat} {f : Nat → Option Nat} {i : Int32} (j : Nat) (h0 : G a = some (r, .inl (κ.2.1 3, n, .inr (.inr (.inr (.inr f)))))) (hi : i = nI j) (hj : j < n) (hn : n < 2 ^ 31) (hd : decode cc pc = .ok (.aaload, 1)) (kk : Z p l e R s m args below meth c y cc nL ret κ Q nc ns G L (pc + 1) (va_rf (f j) :: st)) : Z p l e R s m args below meth c y cc nL ret κ Q nc ns G L pc (.int i :: .ref a :: st) := fun C H locs ls hg hs hl => by
  obtain ⟨q0, hq⟩ := zen_ix hg h0
  subst hi
  have hin := vp_in_nI hj hn
  have hlt : (nI j).toNatClampNeg < n := Nat.not_le.mp fun q => hin (Or.inr q)
  refine W.aald (v := va_rf (f (nI j).toNatClampNeg)) (ty := .array .int) C.1 C.2.1 (zen_P hg q0 _ hq) ((C.2.2.2.2.2.1.2.1.2 3 _ rfl).1 n (fun j => va_rf (f j))) rfl (fun q => by cases q) (by show ¬ (nI j < 0 ∨ (arrV _ _ _).slots.size ≤ _); rw [arrV_size]; exact hin) (by show (arrV _ _ _).slots[_]? = _; rw [arrV_read _ _ hlt]) rfl rfl hd ?_
  rw [nI_clamp (Nat.lt_trans hj hn)]
  exact kk C H locs ls hg hs hl
section ZRET
variable {post : Option Value → zH → Prop} {mc ms : Nat}
theorem z_iret {v : Int32} (hr : ret = some .int) (h : nc ≤ mc ∧ ns ≤ ms) (hd : decode cc pc = .ok (.ireturn, 1)) (hp : post (some (.int v)) G) : Z p l e R s m args below meth c y cc nL ret κ (MQ below (zQc κ post) args s mc ms (zA κ)) nc ns G L pc [.int v] := fun C H locs ls hg hs hl => W.widen h.1 h.2 (W.iret C.1 C.2.1 (C.2.2.2.2.2.2.1.trans hr) (fun t ht hW => ⟨⟨_, G, rfl, hp, by rw [ht]; exact hg⟩, hs.F ht⟩) hs.2.2 hd (hlocks := C.2.2.2.2.2.2.2.1))
theorem z_zret {v : Int32} (hr : ret = some .boolean) (hv : narrow .boolean (.int v) = .int v) (h : nc ≤ mc ∧ ns ≤ ms) (hd : decode cc pc = .ok (.ireturn, 1)) (hp : post (some (.int v)) G) : Z p l e R s m args below meth c y cc nL ret κ (MQ below (zQc κ post) args s mc ms (zA κ)) nc ns G L pc [.int v] := fun C H locs ls hg hs hl => W.widen h.1 h.2 (W.zret C.1 C.2.1 (C.2.2.2.2.2.2.1.trans hr) hv (fun t ht hW => ⟨⟨_, G, rfl, hp, by rw [ht]; exact hg⟩, hs.F ht⟩) hs.2.2 hd (hlocks := C.2.2.2.2.2.2.2.1))
theorem z_vret (hr : ret = none) (h : nc ≤ mc ∧ ns ≤ ms) (hd : decode cc pc = .ok (.return_, 1)) (hp : post none G) : Z p l e R s m args below meth c y cc nL ret κ (MQ below (zQc κ post) args s mc ms (zA κ)) nc ns G L pc [] := fun C H locs ls hg hs hl => W.widen h.1 h.2 (W.vret C.1 C.2.1 (C.2.2.2.2.2.2.1.trans hr) (fun t ht hW => ⟨⟨_, G, rfl, hp, by rw [ht]; exact hg⟩, hs.F ht⟩) hs.2.2 hd (hlocks := C.2.2.2.2.2.2.2.1))
theorem z_aret {v : Value} {rt : FieldType} (o : Option Nat) (hv : v = va_rf o) (hr : ret = some rt) (hrt : (∃ n, rt = .object n) ∨ ∃ t, rt = .array t) (h : nc ≤ mc ∧ ns ≤ ms) (hd : decode cc pc = .ok (.areturn, 1)) (hp : post (some (va_rf o)) G) : Z p l e R s m args below meth c y cc nL ret κ (MQ below (zQc κ post) args s mc ms (zA κ)) nc ns G L pc [v] := fun C H locs ls hg hs hl => by
  subst hv
  exact W.widen h.1 h.2 (W.aret C.1 C.2.1 (C.2.2.2.2.2.2.1.trans hr) hrt (by cases o with | none => exact Or.inl rfl | some a => exact Or.inr ⟨a, rfl⟩) (fun t ht hW => ⟨⟨_, G, rfl, hp, by rw [ht]; exact hg⟩, hs.F ht⟩) hs.2.2 hd (hlocks := C.2.2.2.2.2.2.2.1))
end ZRET
theorem z_objInit {a : Nat} {index : Nat} (w1 : Cond.methodLink y.cls index objectInit ∈ TB) (w2 : Cond.instanceMethod objectInit ∈ TB) (w3 : Cond.code objectInit ⟨#[0xb1]⟩ 1 none ∈ TB) (hR : 1 ≤ R.frames ∧ 12 + (st.map fun v => v.category).sum ≤ R.locals) (hd : decode cc pc = .ok (.invokespecial index, 3)) (kk : Z p l e R s m args below meth c y cc nL ret κ Q nc ns G L (pc + 3) st) : Z p l e R s m args below meth c y cc nL ret κ Q nc ns G L pc (.ref a :: st) := fun C H locs ls hg hs hl =>
  W.objInit C.1 C.2.1 C.2.2.2.1 (C.2.2.2.2.1 _ w1) (C.2.2.2.2.1 _ w2) (C.2.2.2.2.1 _ w3) rfl (by rw [C.2.2.1]; exact hl.1) rfl hd hR.1 (by have := hR.2; show 2 * 0 + _ + 12 ≤ _; omega) (W.eq rfl (kk C H locs ls hg hs hl))
def zcM (y2 : MethodName) (n : Nat) : Prop := y2.cls ≠ "java/lang/invoke/MethodHandle" ∧ y2.cls ≠ "java/lang/invoke/VarHandle" ∧ (parseMethodDescriptor y2.desc).map (fun d => d.parameters.length) = some n
def zcV (y2 : MethodName) (cc2 : ByteArray) (nL2 : Nat) (ret2 : Option FieldType) (n : Nat) : Prop := Cond.instanceMethod y2 ∈ TB ∧ Cond.selects y2.cls y2 y2 ∈ TB ∧ Cond.initialized y2.cls ∈ TB ∧ Cond.code y2 cc2 nL2 ret2 ∈ TB ∧ zcM y2 n
def zcS (y2 : MethodName) (cc2 : ByteArray) (nL2 : Nat) (ret2 : Option FieldType) (n : Nat) : Prop := Cond.static y2 ∈ TB ∧ Cond.initialized y2.cls ∈ TB ∧ Cond.code y2 cc2 nL2 ret2 ∈ TB ∧ zcM y2 n
def zcI (y2 : MethodName) (cc2 : ByteArray) (nL2 : Nat) (n : Nat) : Prop := Cond.instanceMethod y2 ∈ TB ∧ Cond.initialized y2.cls ∈ TB ∧ Cond.code y2 cc2 nL2 none ∈ TB ∧ y2.name = "<init>" ∧ zcM y2 n
theorem zgi {y2 : MethodName} {cc2 : ByteArray} {nL2 : Nat} {ret2 : Option FieldType} (w : Cond.code y2 cc2 nL2 ret2 ∈ TB) : GoodIn TB (.code y2 cc2 nL2 ret2 :: TB) := fun x hx => by
  have : x ∈ TB := by
    rcases List.mem_cons.mp hx with h | h
    · rw [h]; exact w
    · exact h
  exact ⟨this, TB_good x this⟩
theorem zgi_cons {w : Cond} {ws : List Cond} (h : w ∈ TB) (g : GoodIn TB ws) : GoodIn TB (w :: ws) := fun x hx => by
  rcases List.mem_cons.mp hx with h1 | h1
  · rw [h1]; exact ⟨h, TB_good w h⟩
  · exact g x h1
theorem zblind {κ : zK} {av : List Value} {G : zH} : FrameBlind (va_Pc av (fun U => zOK κ U ∧ zh κ G U.heap)) := fun a U g mk q => by
  obtain ⟨q0, q1, q2⟩ := q
  exact ⟨q0, q1.call, q2⟩
theorem z_run {post : Option Value → zH → Prop} {av rest st0 : List Value} {mc ms : Nat} (C : zCx p s m args meth c y cc nL ret κ) {H : Heap} {locs : List Loc} {ls : Array Slot} (hs : va_S (zA κ) s.heap H locs) (hl : zlh ls nL L)
    (hr : va_Run p l e R s m args below meth c H locs nc ns mc ms (F0 m pc ls st0) rest (zQc κ post av.toArray) (zA κ)) (k : ∀ (r : Option Value) (G' : zH), post r G' → Z p l e R s m args below meth c y cc nL ret κ Q (nc + mc) (ns + ms) G' L (pc + 3) (r.toList ++ rest)) : W p l e R s m args below meth c H locs nc ns Q (F0 m pc ls st0) := by
  intro T hT X
  obtain ⟨v, st₀, t, T', Lc, h0, X', hL, e1, e2, ⟨⟨r, G', hr1, hp, hg1⟩, hF⟩, stp⟩ := hr T hT X
  cases hr1
  have hS1 : va_S (zA κ) s.heap T'.heap (locs ++ Lc) := by
    refine ⟨Nat.le_trans hs.1 (by rw [e1, ← h0]; exact hF.1), fun q h1 h2 => ?_, fun q hq => ?_⟩
    · rw [e1, hF.2 q (by rw [h0]; exact Nat.lt_of_lt_of_le h1 hs.1) h2, h0]
      exact hs.2.1 q h1 h2
    · rcases List.mem_append.mp hq with h | h
      · exact hs.2.2 q h
      · exact hL q h
  obtain ⟨t2, a1, b1⟩ := k v G' hp C T'.heap (locs ++ Lc) ls (by rw [e1]; exact hg1) hS1 hl T' rfl X'
  exact ⟨t2, stp t2 a1, b1⟩
theorem z_callV {post : Option Value → zH → Prop} {y2 : MethodName} {cc2 : ByteArray} {nL2 : Nat} {ret2 : Option FieldType} {rm2 : Room} {As rest : List Value} {index : Nat} {b : Nat} {rr : zR} {ci : Nat} {fs : List Value} {vc : vw_C} (G0 : zH) (hC : Ct l y2 cc2 nL2 ret2 rm2 κ (.ref b :: As) G0 post) (hG : G = G0) (hb : G b = some (rr, .inr (ci, fs))) (hcl : vwCl[ci]? = some vc) (hvc : vc.1 = y2.cls) (w1 : Cond.methodLink y.cls index y2 ∈ TB) (hV : zcV y2 cc2 nL2 ret2 As.length) (hR : rm2.frames + 1 ≤ R.frames ∧ 8 + (nL2 + 11) + rm2.locals ≤ R.locals ∧ nc + rm2.cells ≤ R.cells ∧ ns + rm2.slots ≤ R.slots) (hst : st = As.reverse ++ .ref b :: rest) (hW : (rest.map fun v => v.category).sum ≤ 8) (hd : decode cc pc = .ok (.invokevirtual index, 3)) (k : ∀ (r : Option Value) (G' : zH), post r G' → Z p l e R s m args below meth c y cc nL ret κ Q (nc + rm2.cells) (ns + rm2.slots) G' L (pc + 3) (r.toList ++ rest)) : Z p l e R s m args below meth c y cc nL ret κ Q nc ns G L pc st := fun C H locs ls hg hs hl => by
  subst hG
  obtain ⟨q0, hq⟩ := zen_ix hg hb
  have hPV : PreV s H y2.cls b (va_Pc (.ref b :: As) (fun U => zOK κ U ∧ zh κ G U.heap)) As := ⟨zblind, by rw [← hvc]; exact va_recv C.2.2.2.2.2.1.2.1 (zen_P hg) hcl hq, fun U hU hW => ⟨rfl, C.2.2.2.2.2.1.at hs hU hW, by rw [hU]; exact hg⟩⟩
  exact z_run (av := .ref b :: As) C hs hl (va_runV (C := y2.cls) (As := As) (rest := rest) ⟨C.1, C.2.1, C.2.2.1, C.2.2.2.1, C.2.2.2.2.1⟩ hC (cwV (C := y2.cls) As.length C.2.2.2.2.1 (zgi_cons w1 (zgi_cons hV.1 (zgi_cons hV.2.1 (zgi_cons hV.2.2.1 (zgi hV.2.2.2.1))))) rfl rfl rfl ⟨rfl, hV.2.2.2.2⟩ ⟨hR.1, hR.2.1⟩) hPV rfl rfl hl.1 hst (lv_room hW) hd ⟨hR.2.2.1, hR.2.2.2⟩) k
theorem z_callVi {P : Int32 → zH → Prop} {y2 : MethodName} {cc2 : ByteArray} {nL2 : Nat} {ret2 : Option FieldType} {rm2 : Room} {As rest : List Value} {index : Nat} {b : Nat} {rr : zR} {ci : Nat} {fs : List Value} {vc : vw_C} (G0 : zH) (hC : Ct l y2 cc2 nL2 ret2 rm2 κ (.ref b :: As) G0 (pI P)) (hG : G = G0) (hb : G b = some (rr, .inr (ci, fs))) (hcl : vwCl[ci]? = some vc) (hvc : vc.1 = y2.cls) (w1 : Cond.methodLink y.cls index y2 ∈ TB) (hV : zcV y2 cc2 nL2 ret2 As.length) (hR : rm2.frames + 1 ≤ R.frames ∧ 8 + (nL2 + 11) + rm2.locals ≤ R.locals ∧ nc + rm2.cells ≤ R.cells ∧ ns + rm2.slots ≤ R.slots) (hst : st = As.reverse ++ .ref b :: rest) (hW : (rest.map fun v => v.category).sum ≤ 8) (hd : decode cc pc = .ok (.invokevirtual index, 3)) (k : ∀ (v : Int32) (G' : zH), P v G' → Z p l e R s m args below meth c y cc nL ret κ Q (nc + rm2.cells) (ns + rm2.slots) G' L (pc + 3) (.int v :: rest)) : Z p l e R s m args below meth c y cc nL ret κ Q nc ns G L pc st := z_callV G0 hC hG hb hcl hvc w1 hV hR hst hW hd (fun r G' h => by
  obtain ⟨v, rfl, h⟩ := h
  exact k v G' h)
theorem z_callVv {P : zH → Prop} {y2 : MethodName} {cc2 : ByteArray} {nL2 : Nat} {ret2 : Option FieldType} {rm2 : Room} {As rest : List Value} {index : Nat} {b : Nat} {rr : zR} {ci : Nat} {fs : List Value} {vc : vw_C} (G0 : zH) (hC : Ct l y2 cc2 nL2 ret2 rm2 κ (.ref b :: As) G0 (pV P)) (hG : G = G0) (hb : G b = some (rr, .inr (ci, fs))) (hcl : vwCl[ci]? = some vc) (hvc : vc.1 = y2.cls) (w1 : Cond.methodLink y.cls index y2 ∈ TB) (hV : zcV y2 cc2 nL2 ret2 As.length) (hR : rm2.frames + 1 ≤ R.frames ∧ 8 + (nL2 + 11) + rm2.locals ≤ R.locals ∧ nc + rm2.cells ≤ R.cells ∧ ns + rm2.slots ≤ R.slots) (hst : st = As.reverse ++ .ref b :: rest) (hW : (rest.map fun v => v.category).sum ≤ 8) (hd : decode cc pc = .ok (.invokevirtual index, 3)) (k : ∀ (G' : zH), P G' → Z p l e R s m args below meth c y cc nL ret κ Q (nc + rm2.cells) (ns + rm2.slots) G' L (pc + 3) rest) : Z p l e R s m args below meth c y cc nL ret κ Q nc ns G L pc st := z_callV G0 hC hG hb hcl hvc w1 hV hR hst hW hd (fun r G' h => by
  obtain ⟨rfl, h⟩ := h
  exact k G' h)
theorem z_callVa {P : Option Nat → zH → Prop} {y2 : MethodName} {cc2 : ByteArray} {nL2 : Nat} {ret2 : Option FieldType} {rm2 : Room} {As rest : List Value} {index : Nat} {b : Nat} {rr : zR} {ci : Nat} {fs : List Value} {vc : vw_C} (G0 : zH) (hC : Ct l y2 cc2 nL2 ret2 rm2 κ (.ref b :: As) G0 (pA P)) (hG : G = G0) (hb : G b = some (rr, .inr (ci, fs))) (hcl : vwCl[ci]? = some vc) (hvc : vc.1 = y2.cls) (w1 : Cond.methodLink y.cls index y2 ∈ TB) (hV : zcV y2 cc2 nL2 ret2 As.length) (hR : rm2.frames + 1 ≤ R.frames ∧ 8 + (nL2 + 11) + rm2.locals ≤ R.locals ∧ nc + rm2.cells ≤ R.cells ∧ ns + rm2.slots ≤ R.slots) (hst : st = As.reverse ++ .ref b :: rest) (hW : (rest.map fun v => v.category).sum ≤ 8) (hd : decode cc pc = .ok (.invokevirtual index, 3)) (k : ∀ (v : Option Nat) (G' : zH), P v G' → Z p l e R s m args below meth c y cc nL ret κ Q (nc + rm2.cells) (ns + rm2.slots) G' L (pc + 3) (va_rf v :: rest)) : Z p l e R s m args below meth c y cc nL ret κ Q nc ns G L pc st := z_callV G0 hC hG hb hcl hvc w1 hV hR hst hW hd (fun r G' h => by
  obtain ⟨v, rfl, h⟩ := h
  exact k v G' h)
theorem z_callVN {post : Option Value → zH → Prop} {y2 : MethodName} {cc2 : ByteArray} {nL2 : Nat} {ret2 : Option FieldType} {rm2 : Room} {As rest : List Value} {index : Nat} {host : String} {b : Nat} {rr : zR} {ci : Nat} {fs : List Value} {vc : vw_C} (G0 : zH) (hC : Ct l y2 cc2 nL2 ret2 rm2 κ (.ref b :: As) G0 post) (hG : G = G0) (hb : G b = some (rr, .inr (ci, fs))) (hcl : vwCl[ci]? = some vc) (hvc : vc.1 = y2.cls) (w1 : Cond.methodLinkNest y.cls index y2 host ∈ NB) (hV : zcV y2 cc2 nL2 ret2 As.length) (hR : rm2.frames + 1 ≤ R.frames ∧ 8 + (nL2 + 11) + rm2.locals ≤ R.locals ∧ nc + rm2.cells ≤ R.cells ∧ ns + rm2.slots ≤ R.slots) (hst : st = As.reverse ++ .ref b :: rest) (hW : (rest.map fun v => v.category).sum ≤ 8) (hd : decode cc pc = .ok (.invokevirtual index, 3)) (k : ∀ (r : Option Value) (G' : zH), post r G' → Z p l e R s m args below meth c y cc nL ret κ Q (nc + rm2.cells) (ns + rm2.slots) G' L (pc + 3) (r.toList ++ rest)) : Z p l e R s m args below meth c y cc nL ret κ Q nc ns G L pc st := fun C H locs ls hg hs hl => by
  subst hG
  obtain ⟨q0, hq⟩ := zen_ix hg hb
  have hPV : PreV s H y2.cls b (va_Pc (.ref b :: As) (fun U => zOK κ U ∧ zh κ G U.heap)) As := ⟨zblind, by rw [← hvc]; exact va_recv C.2.2.2.2.2.1.2.1 (zen_P hg) hcl hq, fun U hU hW => ⟨rfl, C.2.2.2.2.2.1.at hs hU hW, by rw [hU]; exact hg⟩⟩
  exact z_run (av := .ref b :: As) C hs hl (va_runVN (C := y2.cls) (As := As) (rest := rest) ⟨C.1, C.2.1, C.2.2.1, C.2.2.2.1, C.2.2.2.2.1⟩ hC (⟨va_cnB As.length C.2.2.2.2.1 (zgi hV.2.2.2.1) rfl rfl rfl (C.2.2.2.2.2.1.2.2.2.1 _ w1) (C.2.2.2.2.1 _ hV.2.2.1) hV.2.2.2.2 ⟨hR.1, hR.2.1⟩, C.2.2.2.2.1 _ hV.1, C.2.2.2.2.1 _ hV.2.1⟩) hPV rfl rfl hl.1 hst (lv_room hW) hd ⟨hR.2.2.1, hR.2.2.2⟩) k
theorem z_callVNi {P : Int32 → zH → Prop} {y2 : MethodName} {cc2 : ByteArray} {nL2 : Nat} {ret2 : Option FieldType} {rm2 : Room} {As rest : List Value} {index : Nat} {host : String} {b : Nat} {rr : zR} {ci : Nat} {fs : List Value} {vc : vw_C} (G0 : zH) (hC : Ct l y2 cc2 nL2 ret2 rm2 κ (.ref b :: As) G0 (pI P)) (hG : G = G0) (hb : G b = some (rr, .inr (ci, fs))) (hcl : vwCl[ci]? = some vc) (hvc : vc.1 = y2.cls) (w1 : Cond.methodLinkNest y.cls index y2 host ∈ NB) (hV : zcV y2 cc2 nL2 ret2 As.length) (hR : rm2.frames + 1 ≤ R.frames ∧ 8 + (nL2 + 11) + rm2.locals ≤ R.locals ∧ nc + rm2.cells ≤ R.cells ∧ ns + rm2.slots ≤ R.slots) (hst : st = As.reverse ++ .ref b :: rest) (hW : (rest.map fun v => v.category).sum ≤ 8) (hd : decode cc pc = .ok (.invokevirtual index, 3)) (k : ∀ (v : Int32) (G' : zH), P v G' → Z p l e R s m args below meth c y cc nL ret κ Q (nc + rm2.cells) (ns + rm2.slots) G' L (pc + 3) (.int v :: rest)) : Z p l e R s m args below meth c y cc nL ret κ Q nc ns G L pc st := z_callVN G0 hC hG hb hcl hvc w1 hV hR hst hW hd (fun r G' h => by
  obtain ⟨v, rfl, h⟩ := h
  exact k v G' h)
theorem z_callVNv {P : zH → Prop} {y2 : MethodName} {cc2 : ByteArray} {nL2 : Nat} {ret2 : Option FieldType} {rm2 : Room} {As rest : List Value} {index : Nat} {host : String} {b : Nat} {rr : zR} {ci : Nat} {fs : List Value} {vc : vw_C} (G0 : zH) (hC : Ct l y2 cc2 nL2 ret2 rm2 κ (.ref b :: As) G0 (pV P)) (hG : G = G0) (hb : G b = some (rr, .inr (ci, fs))) (hcl : vwCl[ci]? = some vc) (hvc : vc.1 = y2.cls) (w1 : Cond.methodLinkNest y.cls index y2 host ∈ NB) (hV : zcV y2 cc2 nL2 ret2 As.length) (hR : rm2.frames + 1 ≤ R.frames ∧ 8 + (nL2 + 11) + rm2.locals ≤ R.locals ∧ nc + rm2.cells ≤ R.cells ∧ ns + rm2.slots ≤ R.slots) (hst : st = As.reverse ++ .ref b :: rest) (hW : (rest.map fun v => v.category).sum ≤ 8) (hd : decode cc pc = .ok (.invokevirtual index, 3)) (k : ∀ (G' : zH), P G' → Z p l e R s m args below meth c y cc nL ret κ Q (nc + rm2.cells) (ns + rm2.slots) G' L (pc + 3) rest) : Z p l e R s m args below meth c y cc nL ret κ Q nc ns G L pc st := z_callVN G0 hC hG hb hcl hvc w1 hV hR hst hW hd (fun r G' h => by
  obtain ⟨rfl, h⟩ := h
  exact k G' h)
theorem z_callVNa {P : Option Nat → zH → Prop} {y2 : MethodName} {cc2 : ByteArray} {nL2 : Nat} {ret2 : Option FieldType} {rm2 : Room} {As rest : List Value} {index : Nat} {host : String} {b : Nat} {rr : zR} {ci : Nat} {fs : List Value} {vc : vw_C} (G0 : zH) (hC : Ct l y2 cc2 nL2 ret2 rm2 κ (.ref b :: As) G0 (pA P)) (hG : G = G0) (hb : G b = some (rr, .inr (ci, fs))) (hcl : vwCl[ci]? = some vc) (hvc : vc.1 = y2.cls) (w1 : Cond.methodLinkNest y.cls index y2 host ∈ NB) (hV : zcV y2 cc2 nL2 ret2 As.length) (hR : rm2.frames + 1 ≤ R.frames ∧ 8 + (nL2 + 11) + rm2.locals ≤ R.locals ∧ nc + rm2.cells ≤ R.cells ∧ ns + rm2.slots ≤ R.slots) (hst : st = As.reverse ++ .ref b :: rest) (hW : (rest.map fun v => v.category).sum ≤ 8) (hd : decode cc pc = .ok (.invokevirtual index, 3)) (k : ∀ (v : Option Nat) (G' : zH), P v G' → Z p l e R s m args below meth c y cc nL ret κ Q (nc + rm2.cells) (ns + rm2.slots) G' L (pc + 3) (va_rf v :: rest)) : Z p l e R s m args below meth c y cc nL ret κ Q nc ns G L pc st := z_callVN G0 hC hG hb hcl hvc w1 hV hR hst hW hd (fun r G' h => by
  obtain ⟨v, rfl, h⟩ := h
  exact k v G' h)
theorem z_callS {post : Option Value → zH → Prop} {y2 : MethodName} {cc2 : ByteArray} {nL2 : Nat} {ret2 : Option FieldType} {rm2 : Room} {As rest : List Value} {index : Nat} (G0 : zH) (hC : Ct l y2 cc2 nL2 ret2 rm2 κ As G0 post) (hG : G = G0) (w1 : Cond.methodLink y.cls index y2 ∈ TB) (hV : zcS y2 cc2 nL2 ret2 As.length) (hR : rm2.frames + 1 ≤ R.frames ∧ 8 + (nL2 + 11) + rm2.locals ≤ R.locals ∧ nc + rm2.cells ≤ R.cells ∧ ns + rm2.slots ≤ R.slots) (hst : st = As.reverse ++ rest) (hW : (rest.map fun v => v.category).sum ≤ 8) (hd : decode cc pc = .ok (.invokestatic index, 3)) (k : ∀ (r : Option Value) (G' : zH), post r G' → Z p l e R s m args below meth c y cc nL ret κ Q (nc + rm2.cells) (ns + rm2.slots) G' L (pc + 3) (r.toList ++ rest)) : Z p l e R s m args below meth c y cc nL ret κ Q nc ns G L pc st := fun C H locs ls hg hs hl => by
  subst hG
  exact z_run (av := As) C hs hl (va_runS (As := As) (rest := rest) ⟨C.1, C.2.1, C.2.2.1, C.2.2.2.1, C.2.2.2.2.1⟩ hC (va_cwS As.length C.2.2.2.2.1 (zgi_cons w1 (zgi_cons hV.1 (zgi_cons hV.2.1 (zgi hV.2.2.1)))) rfl rfl rfl hV.2.2.2 ⟨hR.1, hR.2.1⟩) ⟨zblind (G := G), fun U hU hW => ⟨rfl, C.2.2.2.2.2.1.at hs hU hW, by rw [hU]; exact hg⟩⟩ rfl rfl hl.1 hst (lv_room hW) hd ⟨hR.2.2.1, hR.2.2.2⟩) k
theorem z_callSi {P : Int32 → zH → Prop} {y2 : MethodName} {cc2 : ByteArray} {nL2 : Nat} {ret2 : Option FieldType} {rm2 : Room} {As rest : List Value} {index : Nat} (G0 : zH) (hC : Ct l y2 cc2 nL2 ret2 rm2 κ As G0 (pI P)) (hG : G = G0) (w1 : Cond.methodLink y.cls index y2 ∈ TB) (hV : zcS y2 cc2 nL2 ret2 As.length) (hR : rm2.frames + 1 ≤ R.frames ∧ 8 + (nL2 + 11) + rm2.locals ≤ R.locals ∧ nc + rm2.cells ≤ R.cells ∧ ns + rm2.slots ≤ R.slots) (hst : st = As.reverse ++ rest) (hW : (rest.map fun v => v.category).sum ≤ 8) (hd : decode cc pc = .ok (.invokestatic index, 3)) (k : ∀ (v : Int32) (G' : zH), P v G' → Z p l e R s m args below meth c y cc nL ret κ Q (nc + rm2.cells) (ns + rm2.slots) G' L (pc + 3) (.int v :: rest)) : Z p l e R s m args below meth c y cc nL ret κ Q nc ns G L pc st := z_callS G0 hC hG w1 hV hR hst hW hd (fun r G' h => by
  obtain ⟨v, rfl, h⟩ := h
  exact k v G' h)
theorem z_callSv {P : zH → Prop} {y2 : MethodName} {cc2 : ByteArray} {nL2 : Nat} {ret2 : Option FieldType} {rm2 : Room} {As rest : List Value} {index : Nat} (G0 : zH) (hC : Ct l y2 cc2 nL2 ret2 rm2 κ As G0 (pV P)) (hG : G = G0) (w1 : Cond.methodLink y.cls index y2 ∈ TB) (hV : zcS y2 cc2 nL2 ret2 As.length) (hR : rm2.frames + 1 ≤ R.frames ∧ 8 + (nL2 + 11) + rm2.locals ≤ R.locals ∧ nc + rm2.cells ≤ R.cells ∧ ns + rm2.slots ≤ R.slots) (hst : st = As.reverse ++ rest) (hW : (rest.map fun v => v.category).sum ≤ 8) (hd : decode cc pc = .ok (.invokestatic index, 3)) (k : ∀ (G' : zH), P G' → Z p l e R s m args below meth c y cc nL ret κ Q (nc + rm2.cells) (ns + rm2.slots) G' L (pc + 3) rest) : Z p l e R s m args below meth c y cc nL ret κ Q nc ns G L pc st := z_callS G0 hC hG w1 hV hR hst hW hd (fun r G' h => by
  obtain ⟨rfl, h⟩ := h
  exact k G' h)
theorem z_callSa {P : Option Nat → zH → Prop} {y2 : MethodName} {cc2 : ByteArray} {nL2 : Nat} {ret2 : Option FieldType} {rm2 : Room} {As rest : List Value} {index : Nat} (G0 : zH) (hC : Ct l y2 cc2 nL2 ret2 rm2 κ As G0 (pA P)) (hG : G = G0) (w1 : Cond.methodLink y.cls index y2 ∈ TB) (hV : zcS y2 cc2 nL2 ret2 As.length) (hR : rm2.frames + 1 ≤ R.frames ∧ 8 + (nL2 + 11) + rm2.locals ≤ R.locals ∧ nc + rm2.cells ≤ R.cells ∧ ns + rm2.slots ≤ R.slots) (hst : st = As.reverse ++ rest) (hW : (rest.map fun v => v.category).sum ≤ 8) (hd : decode cc pc = .ok (.invokestatic index, 3)) (k : ∀ (v : Option Nat) (G' : zH), P v G' → Z p l e R s m args below meth c y cc nL ret κ Q (nc + rm2.cells) (ns + rm2.slots) G' L (pc + 3) (va_rf v :: rest)) : Z p l e R s m args below meth c y cc nL ret κ Q nc ns G L pc st := z_callS G0 hC hG w1 hV hR hst hW hd (fun r G' h => by
  obtain ⟨v, rfl, h⟩ := h
  exact k v G' h)
theorem z_callSN {post : Option Value → zH → Prop} {y2 : MethodName} {cc2 : ByteArray} {nL2 : Nat} {ret2 : Option FieldType} {rm2 : Room} {As rest : List Value} {index : Nat} {host : String} (G0 : zH) (hC : Ct l y2 cc2 nL2 ret2 rm2 κ As G0 post) (hG : G = G0) (w1 : Cond.methodLinkNest y.cls index y2 host ∈ NB) (hV : zcS y2 cc2 nL2 ret2 As.length) (hR : rm2.frames + 1 ≤ R.frames ∧ 8 + (nL2 + 11) + rm2.locals ≤ R.locals ∧ nc + rm2.cells ≤ R.cells ∧ ns + rm2.slots ≤ R.slots) (hst : st = As.reverse ++ rest) (hW : (rest.map fun v => v.category).sum ≤ 8) (hd : decode cc pc = .ok (.invokestatic index, 3)) (k : ∀ (r : Option Value) (G' : zH), post r G' → Z p l e R s m args below meth c y cc nL ret κ Q (nc + rm2.cells) (ns + rm2.slots) G' L (pc + 3) (r.toList ++ rest)) : Z p l e R s m args below meth c y cc nL ret κ Q nc ns G L pc st := fun C H locs ls hg hs hl => by
  subst hG
  exact z_run (av := As) C hs hl (va_runSN (As := As) (rest := rest) ⟨C.1, C.2.1, C.2.2.1, C.2.2.2.1, C.2.2.2.2.1⟩ hC (⟨va_cnB As.length C.2.2.2.2.1 (zgi hV.2.2.1) rfl rfl rfl (C.2.2.2.2.2.1.2.2.2.1 _ w1) (C.2.2.2.2.1 _ hV.2.1) hV.2.2.2 ⟨hR.1, hR.2.1⟩, C.2.2.2.2.1 _ hV.1, trivial⟩) ⟨zblind (G := G), fun U hU hW => ⟨rfl, C.2.2.2.2.2.1.at hs hU hW, by rw [hU]; exact hg⟩⟩ rfl rfl hl.1 hst (lv_room hW) hd ⟨hR.2.2.1, hR.2.2.2⟩) k
theorem z_callSNi {P : Int32 → zH → Prop} {y2 : MethodName} {cc2 : ByteArray} {nL2 : Nat} {ret2 : Option FieldType} {rm2 : Room} {As rest : List Value} {index : Nat} {host : String} (G0 : zH) (hC : Ct l y2 cc2 nL2 ret2 rm2 κ As G0 (pI P)) (hG : G = G0) (w1 : Cond.methodLinkNest y.cls index y2 host ∈ NB) (hV : zcS y2 cc2 nL2 ret2 As.length) (hR : rm2.frames + 1 ≤ R.frames ∧ 8 + (nL2 + 11) + rm2.locals ≤ R.locals ∧ nc + rm2.cells ≤ R.cells ∧ ns + rm2.slots ≤ R.slots) (hst : st = As.reverse ++ rest) (hW : (rest.map fun v => v.category).sum ≤ 8) (hd : decode cc pc = .ok (.invokestatic index, 3)) (k : ∀ (v : Int32) (G' : zH), P v G' → Z p l e R s m args below meth c y cc nL ret κ Q (nc + rm2.cells) (ns + rm2.slots) G' L (pc + 3) (.int v :: rest)) : Z p l e R s m args below meth c y cc nL ret κ Q nc ns G L pc st := z_callSN G0 hC hG w1 hV hR hst hW hd (fun r G' h => by
  obtain ⟨v, rfl, h⟩ := h
  exact k v G' h)
theorem z_callSNv {P : zH → Prop} {y2 : MethodName} {cc2 : ByteArray} {nL2 : Nat} {ret2 : Option FieldType} {rm2 : Room} {As rest : List Value} {index : Nat} {host : String} (G0 : zH) (hC : Ct l y2 cc2 nL2 ret2 rm2 κ As G0 (pV P)) (hG : G = G0) (w1 : Cond.methodLinkNest y.cls index y2 host ∈ NB) (hV : zcS y2 cc2 nL2 ret2 As.length) (hR : rm2.frames + 1 ≤ R.frames ∧ 8 + (nL2 + 11) + rm2.locals ≤ R.locals ∧ nc + rm2.cells ≤ R.cells ∧ ns + rm2.slots ≤ R.slots) (hst : st = As.reverse ++ rest) (hW : (rest.map fun v => v.category).sum ≤ 8) (hd : decode cc pc = .ok (.invokestatic index, 3)) (k : ∀ (G' : zH), P G' → Z p l e R s m args below meth c y cc nL ret κ Q (nc + rm2.cells) (ns + rm2.slots) G' L (pc + 3) rest) : Z p l e R s m args below meth c y cc nL ret κ Q nc ns G L pc st := z_callSN G0 hC hG w1 hV hR hst hW hd (fun r G' h => by
  obtain ⟨rfl, h⟩ := h
  exact k G' h)
theorem z_callSNa {P : Option Nat → zH → Prop} {y2 : MethodName} {cc2 : ByteArray} {nL2 : Nat} {ret2 : Option FieldType} {rm2 : Room} {As rest : List Value} {index : Nat} {host : String} (G0 : zH) (hC : Ct l y2 cc2 nL2 ret2 rm2 κ As G0 (pA P)) (hG : G = G0) (w1 : Cond.methodLinkNest y.cls index y2 host ∈ NB) (hV : zcS y2 cc2 nL2 ret2 As.length) (hR : rm2.frames + 1 ≤ R.frames ∧ 8 + (nL2 + 11) + rm2.locals ≤ R.locals ∧ nc + rm2.cells ≤ R.cells ∧ ns + rm2.slots ≤ R.slots) (hst : st = As.reverse ++ rest) (hW : (rest.map fun v => v.category).sum ≤ 8) (hd : decode cc pc = .ok (.invokestatic index, 3)) (k : ∀ (v : Option Nat) (G' : zH), P v G' → Z p l e R s m args below meth c y cc nL ret κ Q (nc + rm2.cells) (ns + rm2.slots) G' L (pc + 3) (va_rf v :: rest)) : Z p l e R s m args below meth c y cc nL ret κ Q nc ns G L pc st := z_callSN G0 hC hG w1 hV hR hst hW hd (fun r G' h => by
  obtain ⟨v, rfl, h⟩ := h
  exact k v G' h)
theorem z_callI {post : Option Value → zH → Prop} {y2 : MethodName} {cc2 : ByteArray} {nL2 : Nat} {rm2 : Room} {As rest : List Value} {index : Nat} {b : Nat} (G0 : zH) (hC : Ct l y2 cc2 nL2 none rm2 κ (.ref b :: As) G0 post) (hG : G = G0) (w1 : Cond.methodLink y.cls index y2 ∈ TB) (hV : zcI y2 cc2 nL2 As.length) (hR : rm2.frames + 1 ≤ R.frames ∧ 8 + (nL2 + 11) + rm2.locals ≤ R.locals ∧ nc + rm2.cells ≤ R.cells ∧ ns + rm2.slots ≤ R.slots) (hst : st = As.reverse ++ .ref b :: rest) (hW : (rest.map fun v => v.category).sum ≤ 8) (hd : decode cc pc = .ok (.invokespecial index, 3)) (k : ∀ (r : Option Value) (G' : zH), post r G' → Z p l e R s m args below meth c y cc nL ret κ Q (nc + rm2.cells) (ns + rm2.slots) G' L (pc + 3) (r.toList ++ rest)) : Z p l e R s m args below meth c y cc nL ret κ Q nc ns G L pc st := fun C H locs ls hg hs hl => by
  subst hG
  exact z_run (av := .ref b :: As) C hs hl (va_runI (As := As) (rest := rest) ⟨C.1, C.2.1, C.2.2.1, C.2.2.2.1, C.2.2.2.2.1⟩ hC (cwI As.length C.2.2.2.2.1 (zgi hV.2.2.1) rfl rfl rfl (C.2.2.2.2.1 _ hV.2.1) (C.2.2.2.2.1 _ w1) (C.2.2.2.2.1 _ hV.1) hV.2.2.2.1 hV.2.2.2.2 ⟨hR.1, hR.2.1⟩) ⟨zblind (G := G), fun U hU hW => ⟨rfl, C.2.2.2.2.2.1.at hs hU hW, by rw [hU]; exact hg⟩⟩ rfl rfl hl.1 hst (lv_room hW) hd ⟨hR.2.2.1, hR.2.2.2⟩) k
theorem z_callIv {P : zH → Prop} {y2 : MethodName} {cc2 : ByteArray} {nL2 : Nat} {rm2 : Room} {As rest : List Value} {index : Nat} {b : Nat} (G0 : zH) (hC : Ct l y2 cc2 nL2 none rm2 κ (.ref b :: As) G0 (pV P)) (hG : G = G0) (w1 : Cond.methodLink y.cls index y2 ∈ TB) (hV : zcI y2 cc2 nL2 As.length) (hR : rm2.frames + 1 ≤ R.frames ∧ 8 + (nL2 + 11) + rm2.locals ≤ R.locals ∧ nc + rm2.cells ≤ R.cells ∧ ns + rm2.slots ≤ R.slots) (hst : st = As.reverse ++ .ref b :: rest) (hW : (rest.map fun v => v.category).sum ≤ 8) (hd : decode cc pc = .ok (.invokespecial index, 3)) (k : ∀ (G' : zH), P G' → Z p l e R s m args below meth c y cc nL ret κ Q (nc + rm2.cells) (ns + rm2.slots) G' L (pc + 3) rest) : Z p l e R s m args below meth c y cc nL ret κ Q nc ns G L pc st := z_callI G0 hC hG w1 hV hR hst hW hd (fun r G' h => by
  obtain ⟨rfl, h⟩ := h
  exact k G' h)
theorem z_callIN {post : Option Value → zH → Prop} {y2 : MethodName} {cc2 : ByteArray} {nL2 : Nat} {rm2 : Room} {As rest : List Value} {index : Nat} {host : String} {b : Nat} (G0 : zH) (hC : Ct l y2 cc2 nL2 none rm2 κ (.ref b :: As) G0 post) (hG : G = G0) (w1 : Cond.methodLinkNest y.cls index y2 host ∈ NB) (hV : zcI y2 cc2 nL2 As.length) (hR : rm2.frames + 1 ≤ R.frames ∧ 8 + (nL2 + 11) + rm2.locals ≤ R.locals ∧ nc + rm2.cells ≤ R.cells ∧ ns + rm2.slots ≤ R.slots) (hst : st = As.reverse ++ .ref b :: rest) (hW : (rest.map fun v => v.category).sum ≤ 8) (hd : decode cc pc = .ok (.invokespecial index, 3)) (k : ∀ (r : Option Value) (G' : zH), post r G' → Z p l e R s m args below meth c y cc nL ret κ Q (nc + rm2.cells) (ns + rm2.slots) G' L (pc + 3) (r.toList ++ rest)) : Z p l e R s m args below meth c y cc nL ret κ Q nc ns G L pc st := fun C H locs ls hg hs hl => by
  subst hG
  exact z_run (av := .ref b :: As) C hs hl (va_runIN (As := As) (rest := rest) ⟨C.1, C.2.1, C.2.2.1, C.2.2.2.1, C.2.2.2.2.1⟩ hC (⟨va_cnB As.length C.2.2.2.2.1 (zgi hV.2.2.1) rfl rfl rfl (C.2.2.2.2.2.1.2.2.2.1 _ w1) (C.2.2.2.2.1 _ hV.2.1) hV.2.2.2.2 ⟨hR.1, hR.2.1⟩, hV.2.2.2.1, C.2.2.2.2.1 _ hV.1⟩) ⟨zblind (G := G), fun U hU hW => ⟨rfl, C.2.2.2.2.2.1.at hs hU hW, by rw [hU]; exact hg⟩⟩ rfl rfl hl.1 hst (lv_room hW) hd ⟨hR.2.2.1, hR.2.2.2⟩) k
theorem z_callINv {P : zH → Prop} {y2 : MethodName} {cc2 : ByteArray} {nL2 : Nat} {rm2 : Room} {As rest : List Value} {index : Nat} {host : String} {b : Nat} (G0 : zH) (hC : Ct l y2 cc2 nL2 none rm2 κ (.ref b :: As) G0 (pV P)) (hG : G = G0) (w1 : Cond.methodLinkNest y.cls index y2 host ∈ NB) (hV : zcI y2 cc2 nL2 As.length) (hR : rm2.frames + 1 ≤ R.frames ∧ 8 + (nL2 + 11) + rm2.locals ≤ R.locals ∧ nc + rm2.cells ≤ R.cells ∧ ns + rm2.slots ≤ R.slots) (hst : st = As.reverse ++ .ref b :: rest) (hW : (rest.map fun v => v.category).sum ≤ 8) (hd : decode cc pc = .ok (.invokespecial index, 3)) (k : ∀ (G' : zH), P G' → Z p l e R s m args below meth c y cc nL ret κ Q (nc + rm2.cells) (ns + rm2.slots) G' L (pc + 3) rest) : Z p l e R s m args below meth c y cc nL ret κ Q nc ns G L pc st := z_callIN G0 hC hG w1 hV hR hst hW hd (fun r G' h => by
  obtain ⟨rfl, h⟩ := h
  exact k G' h)
theorem z_mmin {x w : Int32} {index : Nat} (w1 : Cond.methodLink y.cls index Lib.Math.min.name ∈ TB) (w2 : Cond.static Lib.Math.min.name ∈ TB) (w3 : Cond.initialized "java/lang/Math" ∈ TB) (w4 : Cond.code Lib.Math.min.name Lib.Math.min.code 2 (some .int) ∈ TB) (hR : 1 ≤ R.frames ∧ 21 ≤ R.locals ∧ nc ≤ R.cells ∧ ns ≤ R.slots) (hW : (st.map fun v => v.category).sum ≤ 8) (hd : decode cc pc = .ok (.invokestatic index, 3)) (kk : Z p l e R s m args below meth c y cc nL ret κ Q nc ns G L (pc + 3) (.int (if w < x then w else x) :: st)) : Z p l e R s m args below meth c y cc nL ret κ Q nc ns G L pc (.int w :: .int x :: st) := fun C H locs ls hg hs hl => va_mmin C.1 C.2.1 (by rw [C.2.2.1]; exact hl.1.symm) C.2.2.2.1 (C.2.2.2.2.1 _ w1) (C.2.2.2.2.1 _ w2) (C.2.2.2.2.1 _ w3) (C.2.2.2.2.1 _ w4) hR.1 (by have := hR.2.1; omega) hR.2.2.1 hR.2.2.2 hd (kk C H locs ls hg hs hl)
theorem z_mmax {x w : Int32} {index : Nat} (w1 : Cond.methodLink y.cls index Lib.Math.max.name ∈ TB) (w2 : Cond.static Lib.Math.max.name ∈ TB) (w3 : Cond.initialized "java/lang/Math" ∈ TB) (w4 : Cond.code Lib.Math.max.name Lib.Math.max.code 2 (some .int) ∈ TB) (hR : 1 ≤ R.frames ∧ 21 ≤ R.locals ∧ nc ≤ R.cells ∧ ns ≤ R.slots) (hW : (st.map fun v => v.category).sum ≤ 8) (hd : decode cc pc = .ok (.invokestatic index, 3)) (kk : Z p l e R s m args below meth c y cc nL ret κ Q nc ns G L (pc + 3) (.int (if x < w then w else x) :: st)) : Z p l e R s m args below meth c y cc nL ret κ Q nc ns G L pc (.int w :: .int x :: st) := fun C H locs ls hg hs hl => va_mmax C.1 C.2.1 (by rw [C.2.2.1]; exact hl.1.symm) C.2.2.2.1 (C.2.2.2.2.1 _ w1) (C.2.2.2.2.1 _ w2) (C.2.2.2.2.1 _ w3) (C.2.2.2.2.1 _ w4) hR.1 (by have := hR.2.1; omega) hR.2.2.1 hR.2.2.2 hd (kk C H locs ls hg hs hl)
theorem z_mabs {x : Int32} {index : Nat} (w1 : Cond.methodLink y.cls index Lib.Math.abs.name ∈ TB) (w2 : Cond.static Lib.Math.abs.name ∈ TB) (w3 : Cond.initialized "java/lang/Math" ∈ TB) (w4 : Cond.code Lib.Math.abs.name Lib.Math.abs.code 1 (some .int) ∈ TB) (hR : 1 ≤ R.frames ∧ 21 ≤ R.locals ∧ nc ≤ R.cells ∧ ns ≤ R.slots) (hW : (st.map fun v => v.category).sum ≤ 8) (hd : decode cc pc = .ok (.invokestatic index, 3)) (kk : Z p l e R s m args below meth c y cc nL ret κ Q nc ns G L (pc + 3) (.int (if 0 ≤ x then x else 0 - x) :: st)) : Z p l e R s m args below meth c y cc nL ret κ Q nc ns G L pc (.int x :: st) := fun C H locs ls hg hs hl => va_mabs C.1 C.2.1 (by rw [C.2.2.1]; exact hl.1.symm) C.2.2.2.1 (C.2.2.2.2.1 _ w1) (C.2.2.2.2.1 _ w2) (C.2.2.2.2.1 _ w3) (C.2.2.2.2.1 _ w4) hR.1 (by have := hR.2.1; omega) hR.2.2.1 hR.2.2.2 hd (kk C H locs ls hg hs hl)
theorem z_gets {C n d ref : String} {v : Value} {index : Nat} (hZ : zS κ s s.heap → va_Z C n d v (zA κ) s s.heap) (hw : Cond.fieldLink y.cls index C n d ∈ TB) (hd : decode cc pc = .ok (.getstatic index, 3)) (kk : Z p l e R s m args below meth c y cc nL ret κ Q nc ns G L (pc + 3) (v :: st)) : Z p l e R s m args below meth c y cc nL ret κ Q nc ns G L pc st := fun C H locs ls hg hs hl =>
  va_gets C.1 C.2.1 (hZ C.2.2.2.2.2.1.2.2.1) hs C.2.2.2.1 (C.2.2.2.2.1 _ hw) (fun _ h => h) hd (kk C H locs ls hg hs hl)
theorem z_ti {t N : Nat} {f : Nat → Value} {v : Value} {i : Int32} (j : Nat) (hT : zS κ s s.heap → va_T .int t N f (zA κ) s s.heap) (hi : i = nI j) (hj : j < N) (hN : N < 2 ^ 31) (hv : f j = v) (hd : decode cc pc = .ok (.iaload, 1)) (kk : Z p l e R s m args below meth c y cc nL ret κ Q nc ns G L (pc + 1) (v :: st)) : Z p l e R s m args below meth c y cc nL ret κ Q nc ns G L pc (.int i :: .ref t :: st) := fun C H locs ls hg hs hl => by
  subst hi
  exact va_ti C.1 C.2.1 (hT C.2.2.2.2.2.1.2.2.1) hs (vp_in_nI hj hN) (by rw [nI_clamp (Nat.lt_trans hj hN)]; exact hv) hd (kk C H locs ls hg hs hl)
theorem z_tlen {ty : FieldType} {t N : Nat} {f : Nat → Value} {v : Int32} (hT : zS κ s s.heap → va_T ty t N f (zA κ) s s.heap) (hv : Int32.ofNat N = v) (hd : decode cc pc = .ok (.arraylength, 1)) (kk : Z p l e R s m args below meth c y cc nL ret κ Q nc ns G L (pc + 1) (.int v :: st)) : Z p l e R s m args below meth c y cc nL ret κ Q nc ns G L pc (.ref t :: st) := fun C H locs ls hg hs hl =>
  va_tlen C.1 C.2.1 (hT C.2.2.2.2.2.1.2.2.1) hs hv hd (kk C H locs ls hg hs hl)
end ZR
