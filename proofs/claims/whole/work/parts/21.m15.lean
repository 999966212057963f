/-! the model is made: arrays come one after the other -/
def fsO (ob : Nat → Option Nat) : List Value := [.int 0, va_rf (ob 1), va_rf (ob 2), va_rf (ob 3), va_rf (ob 4), va_rf (ob 5), va_rf (ob 6), va_rf (ob 7), va_rf (ob 8), va_rf (ob 9), va_rf (ob 10), va_rf (ob 11), va_rf (ob 12), va_rf (ob 13), va_rf (ob 14), va_rf (ob 15), .int 0, .int 0, .int 0, .int 0, va_rf (ob 20), va_rf (ob 21), va_rf (ob 22), va_rf (ob 23), va_rf (ob 24), .int 0, .int 0, .int 0, .int 0, va_rf (ob 29), va_rf (ob 30), va_rf (ob 31), .int 0, va_rf (ob 33), .int 0]
def oup (ob : Nat → Option Nat) (k a : Nat) : Nat → Option Nat := fun j => if j = k then some a else ob j
def arp (ar : Nat → Nat → Int32) (k : Nat) (f : Nat → Int32) : Nat → Nat → Int32 := fun j => if j = k then f else ar j
def RP (κ : zK) (G : zH) (x : Nat) (ob : Nat → Option Nat) (ar : Nat → Nat → Int32) : Prop :=
  G x = some ((1, 0, 0), .inr (9, fsO ob)) ∧ ∀ k a, ob k = some a → G a = some ((1, 1, k), .inl (κ.2.1 0, mlen k, .inl (ar k)))
theorem RP.push {κ : zK} {G : zH} {x q : Nat} {ob : Nat → Option Nat} {ar : Nat → Nat → Int32} {y : zR × va_E} (h : RP κ G x ob ar) (hq : G q = none) : RP κ (zu G q y) x ob ar :=
  ⟨by rw [zu_n (fun e => by rw [← e, h.1] at hq; cases hq)]; exact h.1, fun k a ha => by rw [zu_n (fun e => by rw [← e, h.2 k a ha] at hq; cases hq)]; exact h.2 k a ha⟩
theorem RP.arr {κ : zK} {G : zH} {x q k : Nat} {ob : Nat → Option Nat} {ar : Nat → Nat → Int32} {e e2 : va_E} (h : RP κ G x ob ar) (hq : G q = some ((1, 1, k), e)) (hk : ob k = none) : RP κ (zu G q ((1, 1, k), e2)) x ob ar :=
  ⟨zu_r hq h.1 (fun q => by cases q), fun k2 a ha => zu_r hq (h.2 k2 a ha) (fun q => by
    have : k2 = k := by cases q; rfl
    rw [this, hk] at ha; cases ha)⟩
theorem RP.put {κ : zK} {G : zH} {x q k : Nat} {ob : Nat → Option Nat} {ar : Nat → Nat → Int32} {f : Nat → Int32} {fs : List Value} (h : RP κ G x ob ar) (hq : G q = some ((1, 1, k), .inl (κ.2.1 0, mlen k, .inl f))) (hk : ob k = none) (hf : fs = fsO (oup ob k q)) : RP κ (zu G x ((1, 0, 0), .inr (9, fs))) x (oup ob k q) (arp ar k f) := by
  subst hf
  refine ⟨zu_s, fun k2 a ha => ?_⟩
  unfold oup at ha
  unfold arp
  by_cases e : k2 = k
  · subst e
    rw [if_pos rfl] at ha
    cases ha
    rw [if_pos rfl]
    exact zu_r h.1 hq (fun q => by cases q)
  · rw [if_neg e] at ha
    rw [if_neg e]
    exact zu_r h.1 (h.2 k2 a ha) (fun q => by cases q)
theorem RP.done {κ : zK} {G : zH} {x : Nat} {ob : Nat → Option Nat} {ad : Nat → Nat} {ar : Nat → Nat → Int32} (h : RP κ G x ob ar) (hd : ∀ k, 0 < mlen k → ob k = some (ad k)) : RM κ G x ad (fun _ => 0) ar := by
  refine ⟨?_, fun k hk => h.2 k _ (hd k hk)⟩
  rw [h.1]
  unfold fsO fsM
  rw [hd 1 (by decide)]
  rw [hd 2 (by decide)]
  rw [hd 3 (by decide)]
  rw [hd 4 (by decide)]
  rw [hd 5 (by decide)]
  rw [hd 6 (by decide)]
  rw [hd 7 (by decide)]
  rw [hd 8 (by decide)]
  rw [hd 9 (by decide)]
  rw [hd 10 (by decide)]
  rw [hd 11 (by decide)]
  rw [hd 12 (by decide)]
  rw [hd 13 (by decide)]
  rw [hd 14 (by decide)]
  rw [hd 15 (by decide)]
  rw [hd 20 (by decide)]
  rw [hd 21 (by decide)]
  rw [hd 22 (by decide)]
  rw [hd 23 (by decide)]
  rw [hd 24 (by decide)]
  rw [hd 29 (by decide)]
  rw [hd 30 (by decide)]
  rw [hd 31 (by decide)]
  rw [hd 33 (by decide)]
  rfl
section ZR4
variable {p : Program} {l : Launch} {e : Env} {R : Room} {s : State} {m : MethodId} {args : Array Value} {below : List Frame} {meth : Method} {c : Code} {y : MethodName} {cc : ByteArray} {nL : Nat} {ret : Option FieldType} {κ : zK} {Q : State → Prop} {nc ns : Nat} {G : zH} {L : List (Option Value)} {pc : Nat} {st : List Value}
variable {x : Nat} {ob : Nat → Option Nat} {ar : Nat → Nat → Int32}
theorem z_pnew {n : Int32} (k N : Nat) (hP : RP κ G x ob ar) (hn : n = nI N) (hN : N * 4 ≤ 536870912 ∧ N < 2 ^ 31) (hR : nc + 1 ≤ R.cells ∧ ns + N ≤ R.slots) (hd : decode cc pc = .ok (.newarray .int, 2)) (kk : ∀ (q : Nat) (G1 : zH), RP κ G1 x ob ar → G1 q = some ((1, 1, k), .inl (κ.2.1 0, N, .inl (fun _ => 0))) → zF 1 G G1 → Z p l e R s m args below meth c y cc nL ret κ Q (nc + 1) (ns + N) G1 L (pc + 2) (.ref q :: st)) : Z p l e R s m args below meth c y cc nL ret κ Q nc ns G L pc (.int n :: st) := z_newa (atype := .int) (ty := .int) (1, 1, k) N (N, .inl (fun _ => 0)) 0 kw_41 rfl rfl (fun C h => by cases h) (fun _ => rfl) hn hN hR hd (fun q h1 h2 => kk q _ (hP.push h1) zu_s (zF.push h1))
theorem fsO_s1 (ob : Nat → Option Nat) (q : Nat) : (fsO ob).set 1 (.ref q) = fsO (oup ob 1 q) := by simp [fsO, oup, va_rf]
theorem z_pp1 {q : Nat} {f : Nat → Int32} (hP : RP κ G x ob ar) (hy : y.cls = RX8) (hy1 : y.name = "<init>") (hq : G q = some ((1, 1, 1), .inl (κ.2.1 0, mlen 1, .inl f))) (hk : ob 1 = none) (hd : decode cc pc = .ok (.putfield 9, 3)) (kk : ∀ G1 : zH, RP κ G1 x (oup ob 1 q) (arp ar 1 f) → zF 1 G G1 → Z p l e R s m args below meth c y cc nL ret κ Q nc ns G1 L (pc + 3) st) : Z p l e R s m args below meth c y cc nL ret κ Q nc ns G L pc (.ref q :: .ref x :: st) := z_putF 1 hP.1 rfl iw_X8 tyX8 tyX8_ok nmX8 (by decide) (by rw [hy]; exact kw_724) rfl hy1 (by rw [hy]; rfl) rfl rfl rfl (Nat.le_of_ble_eq_true rfl) hd (kk _ (hP.put hq hk (fsO_s1 ob q)) (zF.up hP.1 rfl))
theorem fsO_s2 (ob : Nat → Option Nat) (q : Nat) : (fsO ob).set 2 (.ref q) = fsO (oup ob 2 q) := by simp [fsO, oup, va_rf]
theorem z_pp2 {q : Nat} {f : Nat → Int32} (hP : RP κ G x ob ar) (hy : y.cls = RX8) (hy1 : y.name = "<init>") (hq : G q = some ((1, 1, 2), .inl (κ.2.1 0, mlen 2, .inl f))) (hk : ob 2 = none) (hd : decode cc pc = .ok (.putfield 13, 3)) (kk : ∀ G1 : zH, RP κ G1 x (oup ob 2 q) (arp ar 2 f) → zF 1 G G1 → Z p l e R s m args below meth c y cc nL ret κ Q nc ns G1 L (pc + 3) st) : Z p l e R s m args below meth c y cc nL ret κ Q nc ns G L pc (.ref q :: .ref x :: st) := z_putF 2 hP.1 rfl iw_X8 tyX8 tyX8_ok nmX8 (by decide) (by rw [hy]; exact kw_725) rfl hy1 (by rw [hy]; rfl) rfl rfl rfl (Nat.le_of_ble_eq_true rfl) hd (kk _ (hP.put hq hk (fsO_s2 ob q)) (zF.up hP.1 rfl))
theorem fsO_s3 (ob : Nat → Option Nat) (q : Nat) : (fsO ob).set 3 (.ref q) = fsO (oup ob 3 q) := by simp [fsO, oup, va_rf]
theorem z_pp3 {q : Nat} {f : Nat → Int32} (hP : RP κ G x ob ar) (hy : y.cls = RX8) (hy1 : y.name = "<init>") (hq : G q = some ((1, 1, 3), .inl (κ.2.1 0, mlen 3, .inl f))) (hk : ob 3 = none) (hd : decode cc pc = .ok (.putfield 16, 3)) (kk : ∀ G1 : zH, RP κ G1 x (oup ob 3 q) (arp ar 3 f) → zF 1 G G1 → Z p l e R s m args below meth c y cc nL ret κ Q nc ns G1 L (pc + 3) st) : Z p l e R s m args below meth c y cc nL ret κ Q nc ns G L pc (.ref q :: .ref x :: st) := z_putF 3 hP.1 rfl iw_X8 tyX8 tyX8_ok nmX8 (by decide) (by rw [hy]; exact kw_726) rfl hy1 (by rw [hy]; rfl) rfl rfl rfl (Nat.le_of_ble_eq_true rfl) hd (kk _ (hP.put hq hk (fsO_s3 ob q)) (zF.up hP.1 rfl))
theorem fsO_s4 (ob : Nat → Option Nat) (q : Nat) : (fsO ob).set 4 (.ref q) = fsO (oup ob 4 q) := by simp [fsO, oup, va_rf]
theorem z_pp4 {q : Nat} {f : Nat → Int32} (hP : RP κ G x ob ar) (hy : y.cls = RX8) (hy1 : y.name = "<init>") (hq : G q = some ((1, 1, 4), .inl (κ.2.1 0, mlen 4, .inl f))) (hk : ob 4 = none) (hd : decode cc pc = .ok (.putfield 19, 3)) (kk : ∀ G1 : zH, RP κ G1 x (oup ob 4 q) (arp ar 4 f) → zF 1 G G1 → Z p l e R s m args below meth c y cc nL ret κ Q nc ns G1 L (pc + 3) st) : Z p l e R s m args below meth c y cc nL ret κ Q nc ns G L pc (.ref q :: .ref x :: st) := z_putF 4 hP.1 rfl iw_X8 tyX8 tyX8_ok nmX8 (by decide) (by rw [hy]; exact kw_727) rfl hy1 (by rw [hy]; rfl) rfl rfl rfl (Nat.le_of_ble_eq_true rfl) hd (kk _ (hP.put hq hk (fsO_s4 ob q)) (zF.up hP.1 rfl))
theorem fsO_s5 (ob : Nat → Option Nat) (q : Nat) : (fsO ob).set 5 (.ref q) = fsO (oup ob 5 q) := by simp [fsO, oup, va_rf]
theorem z_pp5 {q : Nat} {f : Nat → Int32} (hP : RP κ G x ob ar) (hy : y.cls = RX8) (hy1 : y.name = "<init>") (hq : G q = some ((1, 1, 5), .inl (κ.2.1 0, mlen 5, .inl f))) (hk : ob 5 = none) (hd : decode cc pc = .ok (.putfield 22, 3)) (kk : ∀ G1 : zH, RP κ G1 x (oup ob 5 q) (arp ar 5 f) → zF 1 G G1 → Z p l e R s m args below meth c y cc nL ret κ Q nc ns G1 L (pc + 3) st) : Z p l e R s m args below meth c y cc nL ret κ Q nc ns G L pc (.ref q :: .ref x :: st) := z_putF 5 hP.1 rfl iw_X8 tyX8 tyX8_ok nmX8 (by decide) (by rw [hy]; exact kw_728) rfl hy1 (by rw [hy]; rfl) rfl rfl rfl (Nat.le_of_ble_eq_true rfl) hd (kk _ (hP.put hq hk (fsO_s5 ob q)) (zF.up hP.1 rfl))
theorem fsO_s6 (ob : Nat → Option Nat) (q : Nat) : (fsO ob).set 6 (.ref q) = fsO (oup ob 6 q) := by simp [fsO, oup, va_rf]
theorem z_pp6 {q : Nat} {f : Nat → Int32} (hP : RP κ G x ob ar) (hy : y.cls = RX8) (hy1 : y.name = "<init>") (hq : G q = some ((1, 1, 6), .inl (κ.2.1 0, mlen 6, .inl f))) (hk : ob 6 = none) (hd : decode cc pc = .ok (.putfield 25, 3)) (kk : ∀ G1 : zH, RP κ G1 x (oup ob 6 q) (arp ar 6 f) → zF 1 G G1 → Z p l e R s m args below meth c y cc nL ret κ Q nc ns G1 L (pc + 3) st) : Z p l e R s m args below meth c y cc nL ret κ Q nc ns G L pc (.ref q :: .ref x :: st) := z_putF 6 hP.1 rfl iw_X8 tyX8 tyX8_ok nmX8 (by decide) (by rw [hy]; exact kw_729) rfl hy1 (by rw [hy]; rfl) rfl rfl rfl (Nat.le_of_ble_eq_true rfl) hd (kk _ (hP.put hq hk (fsO_s6 ob q)) (zF.up hP.1 rfl))
theorem fsO_s7 (ob : Nat → Option Nat) (q : Nat) : (fsO ob).set 7 (.ref q) = fsO (oup ob 7 q) := by simp [fsO, oup, va_rf]
theorem z_pp7 {q : Nat} {f : Nat → Int32} (hP : RP κ G x ob ar) (hy : y.cls = RX8) (hy1 : y.name = "<init>") (hq : G q = some ((1, 1, 7), .inl (κ.2.1 0, mlen 7, .inl f))) (hk : ob 7 = none) (hd : decode cc pc = .ok (.putfield 28, 3)) (kk : ∀ G1 : zH, RP κ G1 x (oup ob 7 q) (arp ar 7 f) → zF 1 G G1 → Z p l e R s m args below meth c y cc nL ret κ Q nc ns G1 L (pc + 3) st) : Z p l e R s m args below meth c y cc nL ret κ Q nc ns G L pc (.ref q :: .ref x :: st) := z_putF 7 hP.1 rfl iw_X8 tyX8 tyX8_ok nmX8 (by decide) (by rw [hy]; exact kw_730) rfl hy1 (by rw [hy]; rfl) rfl rfl rfl (Nat.le_of_ble_eq_true rfl) hd (kk _ (hP.put hq hk (fsO_s7 ob q)) (zF.up hP.1 rfl))
theorem fsO_s8 (ob : Nat → Option Nat) (q : Nat) : (fsO ob).set 8 (.ref q) = fsO (oup ob 8 q) := by simp [fsO, oup, va_rf]
theorem z_pp8 {q : Nat} {f : Nat → Int32} (hP : RP κ G x ob ar) (hy : y.cls = RX8) (hy1 : y.name = "<init>") (hq : G q = some ((1, 1, 8), .inl (κ.2.1 0, mlen 8, .inl f))) (hk : ob 8 = none) (hd : decode cc pc = .ok (.putfield 31, 3)) (kk : ∀ G1 : zH, RP κ G1 x (oup ob 8 q) (arp ar 8 f) → zF 1 G G1 → Z p l e R s m args below meth c y cc nL ret κ Q nc ns G1 L (pc + 3) st) : Z p l e R s m args below meth c y cc nL ret κ Q nc ns G L pc (.ref q :: .ref x :: st) := z_putF 8 hP.1 rfl iw_X8 tyX8 tyX8_ok nmX8 (by decide) (by rw [hy]; exact kw_731) rfl hy1 (by rw [hy]; rfl) rfl rfl rfl (Nat.le_of_ble_eq_true rfl) hd (kk _ (hP.put hq hk (fsO_s8 ob q)) (zF.up hP.1 rfl))
theorem fsO_s9 (ob : Nat → Option Nat) (q : Nat) : (fsO ob).set 9 (.ref q) = fsO (oup ob 9 q) := by simp [fsO, oup, va_rf]
theorem z_pp9 {q : Nat} {f : Nat → Int32} (hP : RP κ G x ob ar) (hy : y.cls = RX8) (hy1 : y.name = "<init>") (hq : G q = some ((1, 1, 9), .inl (κ.2.1 0, mlen 9, .inl f))) (hk : ob 9 = none) (hd : decode cc pc = .ok (.putfield 34, 3)) (kk : ∀ G1 : zH, RP κ G1 x (oup ob 9 q) (arp ar 9 f) → zF 1 G G1 → Z p l e R s m args below meth c y cc nL ret κ Q nc ns G1 L (pc + 3) st) : Z p l e R s m args below meth c y cc nL ret κ Q nc ns G L pc (.ref q :: .ref x :: st) := z_putF 9 hP.1 rfl iw_X8 tyX8 tyX8_ok nmX8 (by decide) (by rw [hy]; exact kw_732) rfl hy1 (by rw [hy]; rfl) rfl rfl rfl (Nat.le_of_ble_eq_true rfl) hd (kk _ (hP.put hq hk (fsO_s9 ob q)) (zF.up hP.1 rfl))
theorem fsO_s10 (ob : Nat → Option Nat) (q : Nat) : (fsO ob).set 10 (.ref q) = fsO (oup ob 10 q) := by simp [fsO, oup, va_rf]
theorem z_pp10 {q : Nat} {f : Nat → Int32} (hP : RP κ G x ob ar) (hy : y.cls = RX8) (hy1 : y.name = "<init>") (hq : G q = some ((1, 1, 10), .inl (κ.2.1 0, mlen 10, .inl f))) (hk : ob 10 = none) (hd : decode cc pc = .ok (.putfield 37, 3)) (kk : ∀ G1 : zH, RP κ G1 x (oup ob 10 q) (arp ar 10 f) → zF 1 G G1 → Z p l e R s m args below meth c y cc nL ret κ Q nc ns G1 L (pc + 3) st) : Z p l e R s m args below meth c y cc nL ret κ Q nc ns G L pc (.ref q :: .ref x :: st) := z_putF 10 hP.1 rfl iw_X8 tyX8 tyX8_ok nmX8 (by decide) (by rw [hy]; exact kw_733) rfl hy1 (by rw [hy]; rfl) rfl rfl rfl (Nat.le_of_ble_eq_true rfl) hd (kk _ (hP.put hq hk (fsO_s10 ob q)) (zF.up hP.1 rfl))
theorem fsO_s11 (ob : Nat → Option Nat) (q : Nat) : (fsO ob).set 11 (.ref q) = fsO (oup ob 11 q) := by simp [fsO, oup, va_rf]
theorem z_pp11 {q : Nat} {f : Nat → Int32} (hP : RP κ G x ob ar) (hy : y.cls = RX8) (hy1 : y.name = "<init>") (hq : G q = some ((1, 1, 11), .inl (κ.2.1 0, mlen 11, .inl f))) (hk : ob 11 = none) (hd : decode cc pc = .ok (.putfield 40, 3)) (kk : ∀ G1 : zH, RP κ G1 x (oup ob 11 q) (arp ar 11 f) → zF 1 G G1 → Z p l e R s m args below meth c y cc nL ret κ Q nc ns G1 L (pc + 3) st) : Z p l e R s m args below meth c y cc nL ret κ Q nc ns G L pc (.ref q :: .ref x :: st) := z_putF 11 hP.1 rfl iw_X8 tyX8 tyX8_ok nmX8 (by decide) (by rw [hy]; exact kw_734) rfl hy1 (by rw [hy]; rfl) rfl rfl rfl (Nat.le_of_ble_eq_true rfl) hd (kk _ (hP.put hq hk (fsO_s11 ob q)) (zF.up hP.1 rfl))
theorem fsO_s12 (ob : Nat → Option Nat) (q : Nat) : (fsO ob).set 12 (.ref q) = fsO (oup ob 12 q) := by simp [fsO, oup, va_rf]
theorem z_pp12 {q : Nat} {f : Nat → Int32} (hP : RP κ G x ob ar) (hy : y.cls = RX8) (hy1 : y.name = "<init>") (hq : G q = some ((1, 1, 12), .inl (κ.2.1 0, mlen 12, .inl f))) (hk : ob 12 = none) (hd : decode cc pc = .ok (.putfield 43, 3)) (kk : ∀ G1 : zH, RP κ G1 x (oup ob 12 q) (arp ar 12 f) → zF 1 G G1 → Z p l e R s m args below meth c y cc nL ret κ Q nc ns G1 L (pc + 3) st) : Z p l e R s m args below meth c y cc nL ret κ Q nc ns G L pc (.ref q :: .ref x :: st) := z_putF 12 hP.1 rfl iw_X8 tyX8 tyX8_ok nmX8 (by decide) (by rw [hy]; exact kw_735) rfl hy1 (by rw [hy]; rfl) rfl rfl rfl (Nat.le_of_ble_eq_true rfl) hd (kk _ (hP.put hq hk (fsO_s12 ob q)) (zF.up hP.1 rfl))
theorem fsO_s13 (ob : Nat → Option Nat) (q : Nat) : (fsO ob).set 13 (.ref q) = fsO (oup ob 13 q) := by simp [fsO, oup, va_rf]
theorem z_pp13 {q : Nat} {f : Nat → Int32} (hP : RP κ G x ob ar) (hy : y.cls = RX8) (hy1 : y.name = "<init>") (hq : G q = some ((1, 1, 13), .inl (κ.2.1 0, mlen 13, .inl f))) (hk : ob 13 = none) (hd : decode cc pc = .ok (.putfield 46, 3)) (kk : ∀ G1 : zH, RP κ G1 x (oup ob 13 q) (arp ar 13 f) → zF 1 G G1 → Z p l e R s m args below meth c y cc nL ret κ Q nc ns G1 L (pc + 3) st) : Z p l e R s m args below meth c y cc nL ret κ Q nc ns G L pc (.ref q :: .ref x :: st) := z_putF 13 hP.1 rfl iw_X8 tyX8 tyX8_ok nmX8 (by decide) (by rw [hy]; exact kw_736) rfl hy1 (by rw [hy]; rfl) rfl rfl rfl (Nat.le_of_ble_eq_true rfl) hd (kk _ (hP.put hq hk (fsO_s13 ob q)) (zF.up hP.1 rfl))
theorem fsO_s14 (ob : Nat → Option Nat) (q : Nat) : (fsO ob).set 14 (.ref q) = fsO (oup ob 14 q) := by simp [fsO, oup, va_rf]
theorem z_pp14 {q : Nat} {f : Nat → Int32} (hP : RP κ G x ob ar) (hy : y.cls = RX8) (hy1 : y.name = "<init>") (hq : G q = some ((1, 1, 14), .inl (κ.2.1 0, mlen 14, .inl f))) (hk : ob 14 = none) (hd : decode cc pc = .ok (.putfield 49, 3)) (kk : ∀ G1 : zH, RP κ G1 x (oup ob 14 q) (arp ar 14 f) → zF 1 G G1 → Z p l e R s m args below meth c y cc nL ret κ Q nc ns G1 L (pc + 3) st) : Z p l e R s m args below meth c y cc nL ret κ Q nc ns G L pc (.ref q :: .ref x :: st) := z_putF 14 hP.1 rfl iw_X8 tyX8 tyX8_ok nmX8 (by decide) (by rw [hy]; exact kw_737) rfl hy1 (by rw [hy]; rfl) rfl rfl rfl (Nat.le_of_ble_eq_true rfl) hd (kk _ (hP.put hq hk (fsO_s14 ob q)) (zF.up hP.1 rfl))
theorem fsO_s15 (ob : Nat → Option Nat) (q : Nat) : (fsO ob).set 15 (.ref q) = fsO (oup ob 15 q) := by simp [fsO, oup, va_rf]
theorem z_pp15 {q : Nat} {f : Nat → Int32} (hP : RP κ G x ob ar) (hy : y.cls = RX8) (hy1 : y.name = "<init>") (hq : G q = some ((1, 1, 15), .inl (κ.2.1 0, mlen 15, .inl f))) (hk : ob 15 = none) (hd : decode cc pc = .ok (.putfield 52, 3)) (kk : ∀ G1 : zH, RP κ G1 x (oup ob 15 q) (arp ar 15 f) → zF 1 G G1 → Z p l e R s m args below meth c y cc nL ret κ Q nc ns G1 L (pc + 3) st) : Z p l e R s m args below meth c y cc nL ret κ Q nc ns G L pc (.ref q :: .ref x :: st) := z_putF 15 hP.1 rfl iw_X8 tyX8 tyX8_ok nmX8 (by decide) (by rw [hy]; exact kw_738) rfl hy1 (by rw [hy]; rfl) rfl rfl rfl (Nat.le_of_ble_eq_true rfl) hd (kk _ (hP.put hq hk (fsO_s15 ob q)) (zF.up hP.1 rfl))
theorem fsO_s20 (ob : Nat → Option Nat) (q : Nat) : (fsO ob).set 20 (.ref q) = fsO (oup ob 20 q) := by simp [fsO, oup, va_rf]
theorem z_pp20 {q : Nat} {f : Nat → Int32} (hP : RP κ G x ob ar) (hy : y.cls = RX8) (hy1 : y.name = "<init>") (hq : G q = some ((1, 1, 20), .inl (κ.2.1 0, mlen 20, .inl f))) (hk : ob 20 = none) (hd : decode cc pc = .ok (.putfield 55, 3)) (kk : ∀ G1 : zH, RP κ G1 x (oup ob 20 q) (arp ar 20 f) → zF 1 G G1 → Z p l e R s m args below meth c y cc nL ret κ Q nc ns G1 L (pc + 3) st) : Z p l e R s m args below meth c y cc nL ret κ Q nc ns G L pc (.ref q :: .ref x :: st) := z_putF 20 hP.1 rfl iw_X8 tyX8 tyX8_ok nmX8 (by decide) (by rw [hy]; exact kw_743) rfl hy1 (by rw [hy]; rfl) rfl rfl rfl (Nat.le_of_ble_eq_true rfl) hd (kk _ (hP.put hq hk (fsO_s20 ob q)) (zF.up hP.1 rfl))
theorem fsO_s21 (ob : Nat → Option Nat) (q : Nat) : (fsO ob).set 21 (.ref q) = fsO (oup ob 21 q) := by simp [fsO, oup, va_rf]
theorem z_pp21 {q : Nat} {f : Nat → Int32} (hP : RP κ G x ob ar) (hy : y.cls = RX8) (hy1 : y.name = "<init>") (hq : G q = some ((1, 1, 21), .inl (κ.2.1 0, mlen 21, .inl f))) (hk : ob 21 = none) (hd : decode cc pc = .ok (.putfield 58, 3)) (kk : ∀ G1 : zH, RP κ G1 x (oup ob 21 q) (arp ar 21 f) → zF 1 G G1 → Z p l e R s m args below meth c y cc nL ret κ Q nc ns G1 L (pc + 3) st) : Z p l e R s m args below meth c y cc nL ret κ Q nc ns G L pc (.ref q :: .ref x :: st) := z_putF 21 hP.1 rfl iw_X8 tyX8 tyX8_ok nmX8 (by decide) (by rw [hy]; exact kw_744) rfl hy1 (by rw [hy]; rfl) rfl rfl rfl (Nat.le_of_ble_eq_true rfl) hd (kk _ (hP.put hq hk (fsO_s21 ob q)) (zF.up hP.1 rfl))
theorem fsO_s22 (ob : Nat → Option Nat) (q : Nat) : (fsO ob).set 22 (.ref q) = fsO (oup ob 22 q) := by simp [fsO, oup, va_rf]
theorem z_pp22 {q : Nat} {f : Nat → Int32} (hP : RP κ G x ob ar) (hy : y.cls = RX8) (hy1 : y.name = "<init>") (hq : G q = some ((1, 1, 22), .inl (κ.2.1 0, mlen 22, .inl f))) (hk : ob 22 = none) (hd : decode cc pc = .ok (.putfield 61, 3)) (kk : ∀ G1 : zH, RP κ G1 x (oup ob 22 q) (arp ar 22 f) → zF 1 G G1 → Z p l e R s m args below meth c y cc nL ret κ Q nc ns G1 L (pc + 3) st) : Z p l e R s m args below meth c y cc nL ret κ Q nc ns G L pc (.ref q :: .ref x :: st) := z_putF 22 hP.1 rfl iw_X8 tyX8 tyX8_ok nmX8 (by decide) (by rw [hy]; exact kw_745) rfl hy1 (by rw [hy]; rfl) rfl rfl rfl (Nat.le_of_ble_eq_true rfl) hd (kk _ (hP.put hq hk (fsO_s22 ob q)) (zF.up hP.1 rfl))
theorem fsO_s23 (ob : Nat → Option Nat) (q : Nat) : (fsO ob).set 23 (.ref q) = fsO (oup ob 23 q) := by simp [fsO, oup, va_rf]
theorem z_pp23 {q : Nat} {f : Nat → Int32} (hP : RP κ G x ob ar) (hy : y.cls = RX8) (hy1 : y.name = "<init>") (hq : G q = some ((1, 1, 23), .inl (κ.2.1 0, mlen 23, .inl f))) (hk : ob 23 = none) (hd : decode cc pc = .ok (.putfield 64, 3)) (kk : ∀ G1 : zH, RP κ G1 x (oup ob 23 q) (arp ar 23 f) → zF 1 G G1 → Z p l e R s m args below meth c y cc nL ret κ Q nc ns G1 L (pc + 3) st) : Z p l e R s m args below meth c y cc nL ret κ Q nc ns G L pc (.ref q :: .ref x :: st) := z_putF 23 hP.1 rfl iw_X8 tyX8 tyX8_ok nmX8 (by decide) (by rw [hy]; exact kw_746) rfl hy1 (by rw [hy]; rfl) rfl rfl rfl (Nat.le_of_ble_eq_true rfl) hd (kk _ (hP.put hq hk (fsO_s23 ob q)) (zF.up hP.1 rfl))
theorem fsO_s24 (ob : Nat → Option Nat) (q : Nat) : (fsO ob).set 24 (.ref q) = fsO (oup ob 24 q) := by simp [fsO, oup, va_rf]
theorem z_pp24 {q : Nat} {f : Nat → Int32} (hP : RP κ G x ob ar) (hy : y.cls = RX8) (hy1 : y.name = "<init>") (hq : G q = some ((1, 1, 24), .inl (κ.2.1 0, mlen 24, .inl f))) (hk : ob 24 = none) (hd : decode cc pc = .ok (.putfield 67, 3)) (kk : ∀ G1 : zH, RP κ G1 x (oup ob 24 q) (arp ar 24 f) → zF 1 G G1 → Z p l e R s m args below meth c y cc nL ret κ Q nc ns G1 L (pc + 3) st) : Z p l e R s m args below meth c y cc nL ret κ Q nc ns G L pc (.ref q :: .ref x :: st) := z_putF 24 hP.1 rfl iw_X8 tyX8 tyX8_ok nmX8 (by decide) (by rw [hy]; exact kw_747) rfl hy1 (by rw [hy]; rfl) rfl rfl rfl (Nat.le_of_ble_eq_true rfl) hd (kk _ (hP.put hq hk (fsO_s24 ob q)) (zF.up hP.1 rfl))
theorem fsO_s29 (ob : Nat → Option Nat) (q : Nat) : (fsO ob).set 29 (.ref q) = fsO (oup ob 29 q) := by simp [fsO, oup, va_rf]
theorem z_pp29 {q : Nat} {f : Nat → Int32} (hP : RP κ G x ob ar) (hy : y.cls = RX8) (hy1 : y.name = "<init>") (hq : G q = some ((1, 1, 29), .inl (κ.2.1 0, mlen 29, .inl f))) (hk : ob 29 = none) (hd : decode cc pc = .ok (.putfield 70, 3)) (kk : ∀ G1 : zH, RP κ G1 x (oup ob 29 q) (arp ar 29 f) → zF 1 G G1 → Z p l e R s m args below meth c y cc nL ret κ Q nc ns G1 L (pc + 3) st) : Z p l e R s m args below meth c y cc nL ret κ Q nc ns G L pc (.ref q :: .ref x :: st) := z_putF 29 hP.1 rfl iw_X8 tyX8 tyX8_ok nmX8 (by decide) (by rw [hy]; exact kw_752) rfl hy1 (by rw [hy]; rfl) rfl rfl rfl (Nat.le_of_ble_eq_true rfl) hd (kk _ (hP.put hq hk (fsO_s29 ob q)) (zF.up hP.1 rfl))
theorem fsO_s30 (ob : Nat → Option Nat) (q : Nat) : (fsO ob).set 30 (.ref q) = fsO (oup ob 30 q) := by simp [fsO, oup, va_rf]
theorem z_pp30 {q : Nat} {f : Nat → Int32} (hP : RP κ G x ob ar) (hy : y.cls = RX8) (hy1 : y.name = "<init>") (hq : G q = some ((1, 1, 30), .inl (κ.2.1 0, mlen 30, .inl f))) (hk : ob 30 = none) (hd : decode cc pc = .ok (.putfield 73, 3)) (kk : ∀ G1 : zH, RP κ G1 x (oup ob 30 q) (arp ar 30 f) → zF 1 G G1 → Z p l e R s m args below meth c y cc nL ret κ Q nc ns G1 L (pc + 3) st) : Z p l e R s m args below meth c y cc nL ret κ Q nc ns G L pc (.ref q :: .ref x :: st) := z_putF 30 hP.1 rfl iw_X8 tyX8 tyX8_ok nmX8 (by decide) (by rw [hy]; exact kw_753) rfl hy1 (by rw [hy]; rfl) rfl rfl rfl (Nat.le_of_ble_eq_true rfl) hd (kk _ (hP.put hq hk (fsO_s30 ob q)) (zF.up hP.1 rfl))
theorem fsO_s31 (ob : Nat → Option Nat) (q : Nat) : (fsO ob).set 31 (.ref q) = fsO (oup ob 31 q) := by simp [fsO, oup, va_rf]
theorem z_pp31 {q : Nat} {f : Nat → Int32} (hP : RP κ G x ob ar) (hy : y.cls = RX8) (hy1 : y.name = "<init>") (hq : G q = some ((1, 1, 31), .inl (κ.2.1 0, mlen 31, .inl f))) (hk : ob 31 = none) (hd : decode cc pc = .ok (.putfield 76, 3)) (kk : ∀ G1 : zH, RP κ G1 x (oup ob 31 q) (arp ar 31 f) → zF 1 G G1 → Z p l e R s m args below meth c y cc nL ret κ Q nc ns G1 L (pc + 3) st) : Z p l e R s m args below meth c y cc nL ret κ Q nc ns G L pc (.ref q :: .ref x :: st) := z_putF 31 hP.1 rfl iw_X8 tyX8 tyX8_ok nmX8 (by decide) (by rw [hy]; exact kw_754) rfl hy1 (by rw [hy]; rfl) rfl rfl rfl (Nat.le_of_ble_eq_true rfl) hd (kk _ (hP.put hq hk (fsO_s31 ob q)) (zF.up hP.1 rfl))
theorem fsO_s33 (ob : Nat → Option Nat) (q : Nat) : (fsO ob).set 33 (.ref q) = fsO (oup ob 33 q) := by simp [fsO, oup, va_rf]
theorem z_pp33 {q : Nat} {f : Nat → Int32} (hP : RP κ G x ob ar) (hy : y.cls = RX8) (hy1 : y.name = "<init>") (hq : G q = some ((1, 1, 33), .inl (κ.2.1 0, mlen 33, .inl f))) (hk : ob 33 = none) (hd : decode cc pc = .ok (.putfield 79, 3)) (kk : ∀ G1 : zH, RP κ G1 x (oup ob 33 q) (arp ar 33 f) → zF 1 G G1 → Z p l e R s m args below meth c y cc nL ret κ Q nc ns G1 L (pc + 3) st) : Z p l e R s m args below meth c y cc nL ret κ Q nc ns G L pc (.ref q :: .ref x :: st) := z_putF 33 hP.1 rfl iw_X8 tyX8 tyX8_ok nmX8 (by decide) (by rw [hy]; exact kw_756) rfl hy1 (by rw [hy]; rfl) rfl rfl rfl (Nat.le_of_ble_eq_true rfl) hd (kk _ (hP.put hq hk (fsO_s33 ob q)) (zF.up hP.1 rfl))
theorem z_pst {i v : Int32} {q k N : Nat} {f : Nat → Int32} (j : Nat) (hP : RP κ G x ob ar) (hq : G q = some ((1, 1, k), .inl (κ.2.1 0, N, .inl f))) (hk : ob k = none) (hi : i = nI j) (hj : j < N) (hN : N < 2 ^ 31) (hd : decode cc pc = .ok (.iastore, 1)) (kk : ∀ G1 : zH, RP κ G1 x ob ar → G1 q = some ((1, 1, k), .inl (κ.2.1 0, N, .inl (upd f j v))) → zF 1 G G1 → Z p l e R s m args below meth c y cc nL ret κ Q nc ns G1 L (pc + 1) st) : Z p l e R s m args below meth c y cc nL ret κ Q nc ns G L pc (.int v :: .int i :: .ref q :: st) := z_iast j hq hi hj hN hd (kk _ (hP.arr hq hk) zu_s (zF.up hq rfl))
end ZR4
abbrev rX8_init : Room := rmK 1 24 3070 20
set_option maxRecDepth 100000 in
set_option maxHeartbeats 400000 in
theorem c_mInit (l : Launch) {κ : zK} {G : zH} {x : Nat} (hP : RP κ G x (fun _ => none) (fun _ _ => 0)) : Ct l yX8_init cX8_init 1 none rX8_init κ [.ref x] G (pV (fun G2 => ∃ ad ar, RM κ G2 x ad (fun _ => 0) ar ∧ zF 1 G G2 ∧ ar 15 = upd (upd (upd (upd (upd (fun _ => 0) 0 2) 1 8) 2 1) 3 5) 4 30)) := by
  refine Ct.of (by decide +kernel) (fun v hv => by
    simp only [List.mem_cons, List.mem_nil_iff, or_false, List.not_mem_nil] at hv
    rcases hv with rfl <;> rfl) (Nat.le_of_ble_eq_true rfl) ?_
  intro p e s m args below meth cC
  refine z_L (L' := [some (.ref x)]) rfl ?_
  generalize hQx : MQ below (zQc κ _) args s _ _ (zA κ) = Qx
  have hF : zF 1 G G := zF.rf
  refine z_al0 (pc := 0) dX8_init_0 ?_
  refine z_objInit (pc := 1) kw_722 kw_29 kw_30 (by decide) dX8_init_1 ?_
  refine z_al0 (pc := 4) dX8_init_4 ?_
  refine z_bipush (pc := 5) (20) (by decide) dX8_init_5 ?_
  refine z_pnew (pc := 7) 1 20 hP rfl (by decide) (by decide) dX8_init_7 (fun q1 G1 hP1 hq hF1 => ?_)
  have hF := zF.trans hF hF1
  clear hF1
  replace hP := hP1
  clear hP1
  refine z_pp1 (pc := 9) hP rfl rfl hq rfl dX8_init_9 (fun G1 hP1 hF1 => ?_)
  have hF := zF.trans hF hF1
  clear hF1 hq
  replace hP := hP1
  clear hP1
  refine z_al0 (pc := 12) dX8_init_12 ?_
  refine z_bipush (pc := 13) (20) (by decide) dX8_init_13 ?_
  refine z_pnew (pc := 15) 2 20 hP rfl (by decide) (by decide) dX8_init_15 (fun q2 G1 hP1 hq hF1 => ?_)
  have hF := zF.trans hF hF1
  clear hF1
  replace hP := hP1
  clear hP1
  refine z_pp2 (pc := 17) hP rfl rfl hq rfl dX8_init_17 (fun G1 hP1 hF1 => ?_)
  have hF := zF.trans hF hF1
  clear hF1 hq
  replace hP := hP1
  clear hP1
  refine z_al0 (pc := 20) dX8_init_20 ?_
  refine z_bipush (pc := 21) (20) (by decide) dX8_init_21 ?_
  refine z_pnew (pc := 23) 3 20 hP rfl (by decide) (by decide) dX8_init_23 (fun q3 G1 hP1 hq hF1 => ?_)
  have hF := zF.trans hF hF1
  clear hF1
  replace hP := hP1
  clear hP1
  refine z_pp3 (pc := 25) hP rfl rfl hq rfl dX8_init_25 (fun G1 hP1 hF1 => ?_)
  have hF := zF.trans hF hF1
  clear hF1 hq
  replace hP := hP1
  clear hP1
  refine z_al0 (pc := 28) dX8_init_28 ?_
  refine z_bipush (pc := 29) (20) (by decide) dX8_init_29 ?_
  refine z_pnew (pc := 31) 4 20 hP rfl (by decide) (by decide) dX8_init_31 (fun q4 G1 hP1 hq hF1 => ?_)
  have hF := zF.trans hF hF1
  clear hF1
  replace hP := hP1
  clear hP1
  refine z_pp4 (pc := 33) hP rfl rfl hq rfl dX8_init_33 (fun G1 hP1 hF1 => ?_)
  have hF := zF.trans hF hF1
  clear hF1 hq
  replace hP := hP1
  clear hP1
  refine z_al0 (pc := 36) dX8_init_36 ?_
  refine z_bipush (pc := 37) (20) (by decide) dX8_init_37 ?_
  refine z_pnew (pc := 39) 5 20 hP rfl (by decide) (by decide) dX8_init_39 (fun q5 G1 hP1 hq hF1 => ?_)
  have hF := zF.trans hF hF1
  clear hF1
  replace hP := hP1
  clear hP1
  refine z_pp5 (pc := 41) hP rfl rfl hq rfl dX8_init_41 (fun G1 hP1 hF1 => ?_)
  have hF := zF.trans hF hF1
  clear hF1 hq
  replace hP := hP1
  clear hP1
  refine z_al0 (pc := 44) dX8_init_44 ?_
  refine z_sipush (pc := 45) (480) (by decide) dX8_init_45 ?_
  refine z_pnew (pc := 48) 6 480 hP rfl (by decide) (by decide) dX8_init_48 (fun q6 G1 hP1 hq hF1 => ?_)
  have hF := zF.trans hF hF1
  clear hF1
  replace hP := hP1
  clear hP1
  refine z_pp6 (pc := 50) hP rfl rfl hq rfl dX8_init_50 (fun G1 hP1 hF1 => ?_)
  have hF := zF.trans hF hF1
  clear hF1 hq
  replace hP := hP1
  clear hP1
  refine z_al0 (pc := 53) dX8_init_53 ?_
  refine z_sipush (pc := 54) (480) (by decide) dX8_init_54 ?_
  refine z_pnew (pc := 57) 7 480 hP rfl (by decide) (by decide) dX8_init_57 (fun q7 G1 hP1 hq hF1 => ?_)
  have hF := zF.trans hF hF1
  clear hF1
  replace hP := hP1
  clear hP1
  refine z_pp7 (pc := 59) hP rfl rfl hq rfl dX8_init_59 (fun G1 hP1 hF1 => ?_)
  have hF := zF.trans hF hF1
  clear hF1 hq
  replace hP := hP1
  clear hP1
  refine z_al0 (pc := 62) dX8_init_62 ?_
  refine z_sipush (pc := 63) (200) (by decide) dX8_init_63 ?_
  refine z_pnew (pc := 66) 8 200 hP rfl (by decide) (by decide) dX8_init_66 (fun q8 G1 hP1 hq hF1 => ?_)
  have hF := zF.trans hF hF1
  clear hF1
  replace hP := hP1
  clear hP1
  refine z_pp8 (pc := 68) hP rfl rfl hq rfl dX8_init_68 (fun G1 hP1 hF1 => ?_)
  have hF := zF.trans hF hF1
  clear hF1 hq
  replace hP := hP1
  clear hP1
  refine z_al0 (pc := 71) dX8_init_71 ?_
  refine z_sipush (pc := 72) (200) (by decide) dX8_init_72 ?_
  refine z_pnew (pc := 75) 9 200 hP rfl (by decide) (by decide) dX8_init_75 (fun q9 G1 hP1 hq hF1 => ?_)
  have hF := zF.trans hF hF1
  clear hF1
  replace hP := hP1
  clear hP1
  refine z_pp9 (pc := 77) hP rfl rfl hq rfl dX8_init_77 (fun G1 hP1 hF1 => ?_)
  have hF := zF.trans hF hF1
  clear hF1 hq
  replace hP := hP1
  clear hP1
  refine z_al0 (pc := 80) dX8_init_80 ?_
  refine z_sipush (pc := 81) (200) (by decide) dX8_init_81 ?_
  refine z_pnew (pc := 84) 10 200 hP rfl (by decide) (by decide) dX8_init_84 (fun q10 G1 hP1 hq hF1 => ?_)
  have hF := zF.trans hF hF1
  clear hF1
  replace hP := hP1
  clear hP1
  refine z_pp10 (pc := 86) hP rfl rfl hq rfl dX8_init_86 (fun G1 hP1 hF1 => ?_)
  have hF := zF.trans hF hF1
  clear hF1 hq
  replace hP := hP1
  clear hP1
  refine z_al0 (pc := 89) dX8_init_89 ?_
  refine z_sipush (pc := 90) (200) (by decide) dX8_init_90 ?_
  refine z_pnew (pc := 93) 11 200 hP rfl (by decide) (by decide) dX8_init_93 (fun q11 G1 hP1 hq hF1 => ?_)
  have hF := zF.trans hF hF1
  clear hF1
  replace hP := hP1
  clear hP1
  refine z_pp11 (pc := 95) hP rfl rfl hq rfl dX8_init_95 (fun G1 hP1 hF1 => ?_)
  have hF := zF.trans hF hF1
  clear hF1 hq
  replace hP := hP1
  clear hP1
  refine z_al0 (pc := 98) dX8_init_98 ?_
  refine z_sipush (pc := 99) (200) (by decide) dX8_init_99 ?_
  refine z_pnew (pc := 102) 12 200 hP rfl (by decide) (by decide) dX8_init_102 (fun q12 G1 hP1 hq hF1 => ?_)
  have hF := zF.trans hF hF1
  clear hF1
  replace hP := hP1
  clear hP1
  refine z_pp12 (pc := 104) hP rfl rfl hq rfl dX8_init_104 (fun G1 hP1 hF1 => ?_)
  have hF := zF.trans hF hF1
  clear hF1 hq
  replace hP := hP1
  clear hP1
  refine z_al0 (pc := 107) dX8_init_107 ?_
  refine z_bipush (pc := 108) (60) (by decide) dX8_init_108 ?_
  refine z_pnew (pc := 110) 13 60 hP rfl (by decide) (by decide) dX8_init_110 (fun q13 G1 hP1 hq hF1 => ?_)
  have hF := zF.trans hF hF1
  clear hF1
  replace hP := hP1
  clear hP1
  refine z_pp13 (pc := 112) hP rfl rfl hq rfl dX8_init_112 (fun G1 hP1 hF1 => ?_)
  have hF := zF.trans hF hF1
  clear hF1 hq
  replace hP := hP1
  clear hP1
  refine z_al0 (pc := 115) dX8_init_115 ?_
  refine z_bipush (pc := 116) (60) (by decide) dX8_init_116 ?_
  refine z_pnew (pc := 118) 14 60 hP rfl (by decide) (by decide) dX8_init_118 (fun q14 G1 hP1 hq hF1 => ?_)
  have hF := zF.trans hF hF1
  clear hF1
  replace hP := hP1
  clear hP1
  refine z_pp14 (pc := 120) hP rfl rfl hq rfl dX8_init_120 (fun G1 hP1 hF1 => ?_)
  have hF := zF.trans hF hF1
  clear hF1 hq
  replace hP := hP1
  clear hP1
  refine z_al0 (pc := 123) dX8_init_123 ?_
  refine z_iconst (pc := 124) (5) (by decide) dX8_init_124 ?_
  refine z_pnew (pc := 125) 15 5 hP rfl (by decide) (by decide) dX8_init_125 (fun q15 G1 hP1 hq hF1 => ?_)
  have hF := zF.trans hF hF1
  clear hF1
  replace hP := hP1
  clear hP1
  refine z_dup (pc := 127) rfl dX8_init_127 ?_
  refine z_iconst (pc := 128) (0) (by decide) dX8_init_128 ?_
  refine z_iconst (pc := 129) (2) (by decide) dX8_init_129 ?_
  refine z_pst (pc := 130) 0 hP hq rfl rfl (by decide) (by decide) dX8_init_130 (fun G1 hP1 hq1 hF1 => ?_)
  have hF := zF.trans hF hF1
  clear hF1
  replace hP := hP1
  clear hP1
  replace hq := hq1
  clear hq1
  refine z_dup (pc := 131) rfl dX8_init_131 ?_
  refine z_iconst (pc := 132) (1) (by decide) dX8_init_132 ?_
  refine z_bipush (pc := 133) (8) (by decide) dX8_init_133 ?_
  refine z_pst (pc := 135) 1 hP hq rfl rfl (by decide) (by decide) dX8_init_135 (fun G1 hP1 hq1 hF1 => ?_)
  have hF := zF.trans hF hF1
  clear hF1
  replace hP := hP1
  clear hP1
  replace hq := hq1
  clear hq1
  refine z_dup (pc := 136) rfl dX8_init_136 ?_
  refine z_iconst (pc := 137) (2) (by decide) dX8_init_137 ?_
  refine z_iconst (pc := 138) (1) (by decide) dX8_init_138 ?_
  refine z_pst (pc := 139) 2 hP hq rfl rfl (by decide) (by decide) dX8_init_139 (fun G1 hP1 hq1 hF1 => ?_)
  have hF := zF.trans hF hF1
  clear hF1
  replace hP := hP1
  clear hP1
  replace hq := hq1
  clear hq1
  refine z_dup (pc := 140) rfl dX8_init_140 ?_
  refine z_iconst (pc := 141) (3) (by decide) dX8_init_141 ?_
  refine z_iconst (pc := 142) (5) (by decide) dX8_init_142 ?_
  refine z_pst (pc := 143) 3 hP hq rfl rfl (by decide) (by decide) dX8_init_143 (fun G1 hP1 hq1 hF1 => ?_)
  have hF := zF.trans hF hF1
  clear hF1
  replace hP := hP1
  clear hP1
  replace hq := hq1
  clear hq1
  refine z_dup (pc := 144) rfl dX8_init_144 ?_
  refine z_iconst (pc := 145) (4) (by decide) dX8_init_145 ?_
  refine z_bipush (pc := 146) (30) (by decide) dX8_init_146 ?_
  refine z_pst (pc := 148) 4 hP hq rfl rfl (by decide) (by decide) dX8_init_148 (fun G1 hP1 hq1 hF1 => ?_)
  have hF := zF.trans hF hF1
  clear hF1
  replace hP := hP1
  clear hP1
  replace hq := hq1
  clear hq1
  refine z_pp15 (pc := 149) hP rfl rfl hq rfl dX8_init_149 (fun G1 hP1 hF1 => ?_)
  have hF := zF.trans hF hF1
  clear hF1 hq
  replace hP := hP1
  clear hP1
  refine z_al0 (pc := 152) dX8_init_152 ?_
  refine z_bipush (pc := 153) (24) (by decide) dX8_init_153 ?_
  refine z_pnew (pc := 155) 20 24 hP rfl (by decide) (by decide) dX8_init_155 (fun q20 G1 hP1 hq hF1 => ?_)
  have hF := zF.trans hF hF1
  clear hF1
  replace hP := hP1
  clear hP1
  refine z_pp20 (pc := 157) hP rfl rfl hq rfl dX8_init_157 (fun G1 hP1 hF1 => ?_)
  have hF := zF.trans hF hF1
  clear hF1 hq
  replace hP := hP1
  clear hP1
  refine z_al0 (pc := 160) dX8_init_160 ?_
  refine z_bipush (pc := 161) (24) (by decide) dX8_init_161 ?_
  refine z_pnew (pc := 163) 21 24 hP rfl (by decide) (by decide) dX8_init_163 (fun q21 G1 hP1 hq hF1 => ?_)
  have hF := zF.trans hF hF1
  clear hF1
  replace hP := hP1
  clear hP1
  refine z_pp21 (pc := 165) hP rfl rfl hq rfl dX8_init_165 (fun G1 hP1 hF1 => ?_)
  have hF := zF.trans hF hF1
  clear hF1 hq
  replace hP := hP1
  clear hP1
  refine z_al0 (pc := 168) dX8_init_168 ?_
  refine z_bipush (pc := 169) (24) (by decide) dX8_init_169 ?_
  refine z_pnew (pc := 171) 22 24 hP rfl (by decide) (by decide) dX8_init_171 (fun q22 G1 hP1 hq hF1 => ?_)
  have hF := zF.trans hF hF1
  clear hF1
  replace hP := hP1
  clear hP1
  refine z_pp22 (pc := 173) hP rfl rfl hq rfl dX8_init_173 (fun G1 hP1 hF1 => ?_)
  have hF := zF.trans hF hF1
  clear hF1 hq
  replace hP := hP1
  clear hP1
  refine z_al0 (pc := 176) dX8_init_176 ?_
  refine z_bipush (pc := 177) (24) (by decide) dX8_init_177 ?_
  refine z_pnew (pc := 179) 23 24 hP rfl (by decide) (by decide) dX8_init_179 (fun q23 G1 hP1 hq hF1 => ?_)
  have hF := zF.trans hF hF1
  clear hF1
  replace hP := hP1
  clear hP1
  refine z_pp23 (pc := 181) hP rfl rfl hq rfl dX8_init_181 (fun G1 hP1 hF1 => ?_)
  have hF := zF.trans hF hF1
  clear hF1 hq
  replace hP := hP1
  clear hP1
  refine z_al0 (pc := 184) dX8_init_184 ?_
  refine z_sipush (pc := 185) (625) (by decide) dX8_init_185 ?_
  refine z_pnew (pc := 188) 24 625 hP rfl (by decide) (by decide) dX8_init_188 (fun q24 G1 hP1 hq hF1 => ?_)
  have hF := zF.trans hF hF1
  clear hF1
  replace hP := hP1
  clear hP1
  refine z_pp24 (pc := 190) hP rfl rfl hq rfl dX8_init_190 (fun G1 hP1 hF1 => ?_)
  have hF := zF.trans hF hF1
  clear hF1 hq
  replace hP := hP1
  clear hP1
  refine z_al0 (pc := 193) dX8_init_193 ?_
  refine z_bipush (pc := 194) (48) (by decide) dX8_init_194 ?_
  refine z_pnew (pc := 196) 29 48 hP rfl (by decide) (by decide) dX8_init_196 (fun q29 G1 hP1 hq hF1 => ?_)
  have hF := zF.trans hF hF1
  clear hF1
  replace hP := hP1
  clear hP1
  refine z_pp29 (pc := 198) hP rfl rfl hq rfl dX8_init_198 (fun G1 hP1 hF1 => ?_)
  have hF := zF.trans hF hF1
  clear hF1 hq
  replace hP := hP1
  clear hP1
  refine z_al0 (pc := 201) dX8_init_201 ?_
  refine z_bipush (pc := 202) (48) (by decide) dX8_init_202 ?_
  refine z_pnew (pc := 204) 30 48 hP rfl (by decide) (by decide) dX8_init_204 (fun q30 G1 hP1 hq hF1 => ?_)
  have hF := zF.trans hF hF1
  clear hF1
  replace hP := hP1
  clear hP1
  refine z_pp30 (pc := 206) hP rfl rfl hq rfl dX8_init_206 (fun G1 hP1 hF1 => ?_)
  have hF := zF.trans hF hF1
  clear hF1 hq
  replace hP := hP1
  clear hP1
  refine z_al0 (pc := 209) dX8_init_209 ?_
  refine z_bipush (pc := 210) (48) (by decide) dX8_init_210 ?_
  refine z_pnew (pc := 212) 31 48 hP rfl (by decide) (by decide) dX8_init_212 (fun q31 G1 hP1 hq hF1 => ?_)
  have hF := zF.trans hF hF1
  clear hF1
  replace hP := hP1
  clear hP1
  refine z_pp31 (pc := 214) hP rfl rfl hq rfl dX8_init_214 (fun G1 hP1 hF1 => ?_)
  have hF := zF.trans hF hF1
  clear hF1 hq
  replace hP := hP1
  clear hP1
  refine z_al0 (pc := 217) dX8_init_217 ?_
  refine z_bipush (pc := 218) (20) (by decide) dX8_init_218 ?_
  refine z_pnew (pc := 220) 33 20 hP rfl (by decide) (by decide) dX8_init_220 (fun q33 G1 hP1 hq hF1 => ?_)
  have hF := zF.trans hF hF1
  clear hF1
  replace hP := hP1
  clear hP1
  refine z_pp33 (pc := 222) hP rfl rfl hq rfl dX8_init_222 (fun G1 hP1 hF1 => ?_)
  have hF := zF.trans hF hF1
  clear hF1 hq
  replace hP := hP1
  clear hP1
  rw [← hQx]
  refine z_vret (pc := 225) rfl (by decide) dX8_init_225 ?_
  refine ⟨rfl, (fun k => if k = 1 then q1 else if k = 2 then q2 else if k = 3 then q3 else if k = 4 then q4 else if k = 5 then q5 else if k = 6 then q6 else if k = 7 then q7 else if k = 8 then q8 else if k = 9 then q9 else if k = 10 then q10 else if k = 11 then q11 else if k = 12 then q12 else if k = 13 then q13 else if k = 14 then q14 else if k = 15 then q15 else if k = 20 then q20 else if k = 21 then q21 else if k = 22 then q22 else if k = 23 then q23 else if k = 24 then q24 else if k = 29 then q29 else if k = 30 then q30 else if k = 31 then q31 else if k = 33 then q33 else 0), _, hP.done ?_, hF, rfl⟩
  intro k hk
  unfold mlen at hk
  split at hk
  · rfl
  · rfl
  · rfl
  · rfl
  · rfl
  · rfl
  · rfl
  · rfl
  · rfl
  · rfl
  · rfl
  · rfl
  · rfl
  · rfl
  · rfl
  · rfl
  · rfl
  · rfl
  · rfl
  · rfl
  · rfl
  · rfl
  · rfl
  · rfl
  · exact absurd hk (by decide)
