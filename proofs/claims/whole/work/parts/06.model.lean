/-! plain facts on 32-bit numbers -/
theorem i_lt (a b : Int32) : a < b ↔ a.toInt < b.toInt := Int32.lt_iff_toInt_lt
theorem i_le (a b : Int32) : a ≤ b ↔ a.toInt ≤ b.toInt := Int32.le_iff_toInt_le
theorem i_eq (a b : Int32) : a = b ↔ a.toInt = b.toInt := Int32.toInt_inj.symm
theorem i_lit (n : Nat) (h : n < 2 ^ 31) : (OfNat.ofNat n : Int32).toInt = (n : Int) := nI_toInt h
theorem i_0 : (0 : Int32).toInt = 0 := rfl
theorem i_m1 : (-1 : Int32).toInt = -1 := rfl
theorem i_n1 : (1 : Int32).toInt = 1 := rfl
theorem i_n2 : (2 : Int32).toInt = 2 := rfl
theorem i_n3 : (3 : Int32).toInt = 3 := rfl
theorem i_n4 : (4 : Int32).toInt = 4 := rfl
theorem i_n5 : (5 : Int32).toInt = 5 := rfl
theorem i_n6 : (6 : Int32).toInt = 6 := rfl
theorem i_n9 : (9 : Int32).toInt = 9 := rfl
theorem i_n12 : (12 : Int32).toInt = 12 := rfl
theorem i_n16 : (16 : Int32).toInt = 16 := rfl
theorem i_n19 : (19 : Int32).toInt = 19 := rfl
theorem i_n20 : (20 : Int32).toInt = 20 := rfl
theorem i_n24 : (24 : Int32).toInt = 24 := rfl
theorem i_n25 : (25 : Int32).toInt = 25 := rfl
theorem i_n48 : (48 : Int32).toInt = 48 := rfl
theorem i_n60 : (60 : Int32).toInt = 60 := rfl
theorem i_n100 : (100 : Int32).toInt = 100 := rfl
theorem i_n200 : (200 : Int32).toInt = 200 := rfl
theorem i_n400 : (400 : Int32).toInt = 400 := rfl
theorem i_n480 : (480 : Int32).toInt = 480 := rfl
theorem i_n1000 : (1000 : Int32).toInt = 1000 := rfl
theorem i_n3000 : (3000 : Int32).toInt = 3000 := rfl
theorem i_n10000 : (10000 : Int32).toInt = 10000 := rfl
theorem i_n2147483647 : (2147483647 : Int32).toInt = 2147483647 := rfl
theorem i_rng (x : Int32) : -2147483648 ≤ x.toInt ∧ x.toInt < 2147483648 := ⟨by have := Int32.minValue_le_toInt x; simpa using this, by have := Int32.toInt_lt x; simpa using this⟩
theorem ix_of (a k b : Nat) : nI a * nI k + nI b = nI (a * k + b) := by rw [pk_mul, nI_add]
theorem ix24 (k b : Nat) : (24 : Int32) * nI k + nI b = nI (24 * k + b) := ix_of 24 k b
theorem ix25 (k b : Nat) : (25 : Int32) * nI k + nI b = nI (25 * k + b) := ix_of 25 k b
theorem ix20 (k b : Nat) : (20 : Int32) * nI k + nI b = nI (20 * k + b) := ix_of 20 k b
/-- an index that was looked at is a number -/
theorem ix_in {x : Int32} {n : Nat} (h0 : 0 ≤ x) (h : x < nI n) (hn : n < 2 ^ 31) : ∃ j, x = nI j ∧ j < n := by
  obtain ⟨j, hj, rfl⟩ := nI_of (x := x) (by rw [i_le, i_0] at h0; rw [i_lt, i_0]; omega)
  exact ⟨j, rfl, (nI_ltI hj hn).mp h⟩
/-! frames in words of roles -/
def zF (n : Nat) (G G' : zH) : Prop := (∀ (a : Nat) (r : zR) (e : va_E), r.1 ≠ n → G a = some (r, e) → G' a = some (r, e)) ∧ ∀ a : Nat, G' a = none → G a = none
theorem zF.rf {n : Nat} {G : zH} : zF n G G := ⟨fun _ _ _ _ h => h, fun _ h => h⟩
theorem zF.trans {n : Nat} {G1 G2 G3 : zH} (h1 : zF n G1 G2) (h2 : zF n G2 G3) : zF n G1 G3 := ⟨fun a r e hr h => h2.1 a r e hr (h1.1 a r e hr h), fun a h => h1.2 a (h2.2 a h)⟩
theorem zu_no {G : zH} {a b : Nat} {x : zR × va_E} (h : zu G a x b = none) : G b = none := by
  unfold zu at h
  split at h
  · cases h
  · exact h
theorem zF.up {n : Nat} {G : zH} {a : Nat} {r : zR} {e e' : va_E} (h : G a = some (r, e)) (hr : r.1 = n) : zF n G (zu G a (r, e')) := ⟨fun b r2 e2 h2 hb => zu_r h hb (fun q => h2 (by rw [q]; exact hr)), fun _ h => zu_no h⟩
theorem zF.push {n : Nat} {G : zH} {a : Nat} {x : zR × va_E} (h : G a = none) : zF n G (zu G a x) := ⟨fun b r2 e2 h2 hb => by rw [zu_n (fun q => by rw [q, h] at hb; cases hb)]; exact hb, fun _ h => zu_no h⟩
/-! THE MODEL's STATE: its numbers and its arrays, by the fields' places -/
def mlen (k : Nat) : Nat := match k with
  | 1 => 20
  | 2 => 20
  | 3 => 20
  | 4 => 20
  | 5 => 20
  | 6 => 480
  | 7 => 480
  | 8 => 200
  | 9 => 200
  | 10 => 200
  | 11 => 200
  | 12 => 200
  | 13 => 60
  | 14 => 60
  | 15 => 5
  | 20 => 24
  | 21 => 24
  | 22 => 24
  | 23 => 24
  | 24 => 625
  | 29 => 48
  | 30 => 48
  | 31 => 48
  | 33 => 20
  | _ => 0
def fsM (ad : Nat → Nat) (sc : Nat → Int32) : List Value := [.int (sc 0), .ref (ad 1), .ref (ad 2), .ref (ad 3), .ref (ad 4), .ref (ad 5), .ref (ad 6), .ref (ad 7), .ref (ad 8), .ref (ad 9), .ref (ad 10), .ref (ad 11), .ref (ad 12), .ref (ad 13), .ref (ad 14), .ref (ad 15), .int (sc 16), .int (sc 17), .int (sc 18), .int (sc 19), .ref (ad 20), .ref (ad 21), .ref (ad 22), .ref (ad 23), .ref (ad 24), .int (sc 25), .int (sc 26), .int (sc 27), .int (sc 28), .ref (ad 29), .ref (ad 30), .ref (ad 31), .int (sc 32), .ref (ad 33), .int (sc 34)]
def RM (κ : zK) (G : zH) (x : Nat) (ad : Nat → Nat) (sc : Nat → Int32) (ar : Nat → Nat → Int32) : Prop :=
  G x = some ((1, 0, 0), .inr (9, fsM ad sc)) ∧ ∀ k, 0 < mlen k → G (ad k) = some ((1, 1, k), .inl (κ.2.1 0, mlen k, .inl (ar k)))
def sup (sc : Nat → Int32) (k : Nat) (v : Int32) : Nat → Int32 := fun j => if j = k then v else sc j
def aup (ar : Nat → Nat → Int32) (k i : Nat) (v : Int32) : Nat → Nat → Int32 := fun k2 => if k2 = k then upd (ar k) i v else ar k2
theorem RM.keep {κ : zK} {G G' : zH} {x : Nat} {ad : Nat → Nat} {sc : Nat → Int32} {ar : Nat → Nat → Int32} {n : Nat} (h : RM κ G x ad sc ar) (hF : zF n G G') (hn : n ≠ 1) : RM κ G' x ad sc ar :=
  ⟨hF.1 _ _ _ (fun q => hn q.symm) h.1, fun k hk => hF.1 _ _ _ (fun q => hn q.symm) (h.2 k hk)⟩
theorem RM.sc_up {κ : zK} {G : zH} {x : Nat} {ad : Nat → Nat} {sc sc2 : Nat → Int32} {ar : Nat → Nat → Int32} {fs : List Value} (h : RM κ G x ad sc ar) (hf : fs = fsM ad sc2) : RM κ (zu G x ((1, 0, 0), .inr (9, fs))) x ad sc2 ar := by
  subst hf
  exact ⟨zu_s, fun k hk => zu_r h.1 (h.2 k hk) (fun q => by cases q)⟩
theorem RM.ar_up {κ : zK} {G : zH} {x : Nat} {ad : Nat → Nat} {sc : Nat → Int32} {ar : Nat → Nat → Int32} (h : RM κ G x ad sc ar) (k i : Nat) (v : Int32) (hk : 0 < mlen k) : RM κ (zu G (ad k) ((1, 1, k), .inl (κ.2.1 0, mlen k, .inl (upd (ar k) i v)))) x ad sc (aup ar k i v) := by
  refine ⟨zu_r (h.2 k hk) h.1 (fun q => by cases q), fun k2 hk2 => ?_⟩
  by_cases hq : k2 = k
  · subst hq
    rw [zu_s]
    unfold aup
    rw [if_pos rfl]
  · rw [zu_r (h.2 k hk) (h.2 k2 hk2) (fun q => hq (by cases q; rfl))]
    unfold aup
    rw [if_neg hq]
theorem fsM_s0 (ad : Nat → Nat) (sc : Nat → Int32) (v : Int32) : (fsM ad sc).set 0 (.int v) = fsM ad (sup sc 0 v) := by simp [fsM, sup]
theorem fsM_s16 (ad : Nat → Nat) (sc : Nat → Int32) (v : Int32) : (fsM ad sc).set 16 (.int v) = fsM ad (sup sc 16 v) := by simp [fsM, sup]
theorem fsM_s17 (ad : Nat → Nat) (sc : Nat → Int32) (v : Int32) : (fsM ad sc).set 17 (.int v) = fsM ad (sup sc 17 v) := by simp [fsM, sup]
theorem fsM_s18 (ad : Nat → Nat) (sc : Nat → Int32) (v : Int32) : (fsM ad sc).set 18 (.int v) = fsM ad (sup sc 18 v) := by simp [fsM, sup]
theorem fsM_s19 (ad : Nat → Nat) (sc : Nat → Int32) (v : Int32) : (fsM ad sc).set 19 (.int v) = fsM ad (sup sc 19 v) := by simp [fsM, sup]
theorem fsM_s25 (ad : Nat → Nat) (sc : Nat → Int32) (v : Int32) : (fsM ad sc).set 25 (.int v) = fsM ad (sup sc 25 v) := by simp [fsM, sup]
theorem fsM_s26 (ad : Nat → Nat) (sc : Nat → Int32) (v : Int32) : (fsM ad sc).set 26 (.int v) = fsM ad (sup sc 26 v) := by simp [fsM, sup]
theorem fsM_s27 (ad : Nat → Nat) (sc : Nat → Int32) (v : Int32) : (fsM ad sc).set 27 (.int v) = fsM ad (sup sc 27 v) := by simp [fsM, sup]
theorem fsM_s28 (ad : Nat → Nat) (sc : Nat → Int32) (v : Int32) : (fsM ad sc).set 28 (.int v) = fsM ad (sup sc 28 v) := by simp [fsM, sup]
theorem fsM_s32 (ad : Nat → Nat) (sc : Nat → Int32) (v : Int32) : (fsM ad sc).set 32 (.int v) = fsM ad (sup sc 32 v) := by simp [fsM, sup]
theorem fsM_s34 (ad : Nat → Nat) (sc : Nat → Int32) (v : Int32) : (fsM ad sc).set 34 (.int v) = fsM ad (sup sc 34 v) := by simp [fsM, sup]
section ZR3
variable {p : Program} {l : Launch} {e : Env} {R : Room} {s : State} {m : MethodId} {args : Array Value} {below : List Frame} {meth : Method} {c : Code} {y : MethodName} {cc : ByteArray} {nL : Nat} {ret : Option FieldType} {κ : zK} {Q : State → Prop} {nc ns : Nat} {G : zH} {L : List (Option Value)} {pc : Nat} {st : List Value}
variable {x : Nat} {ad : Nat → Nat} {sc : Nat → Int32} {ar : Nat → Nat → Int32}
theorem z_mg0 (hM : RM κ G x ad sc ar) (hy : y.cls = RX8) (hd : decode cc pc = .ok (.getfield 82, 3)) (kk : Z p l e R s m args below meth c y cc nL ret κ Q nc ns G L (pc + 3) (.int (sc 0) :: st)) : Z p l e R s m args below meth c y cc nL ret κ Q nc ns G L pc (.ref x :: st) := z_get 0 hM.1 rfl iw_X8 (by decide) (by rw [hy]; exact kw_723) rfl hd kk
theorem z_mp0 {v : Int32} (hM : RM κ G x ad sc ar) (hy : y.cls = RX8) (hd : decode cc pc = .ok (.putfield 82, 3)) (kk : ∀ G1 : zH, RM κ G1 x ad (sup sc 0 v) ar → zF 1 G G1 → Z p l e R s m args below meth c y cc nL ret κ Q nc ns G1 L (pc + 3) st) : Z p l e R s m args below meth c y cc nL ret κ Q nc ns G L pc (.int v :: .ref x :: st) := z_put 0 hM.1 rfl iw_X8 tyX8 tyX8_ok nmX8 (by decide) (by rw [hy]; exact kw_723) rfl rfl rfl rfl (Nat.le_of_ble_eq_true rfl) hd (kk _ (hM.sc_up (fsM_s0 ad sc v)) (zF.up hM.1 rfl))
theorem z_mg1 (hM : RM κ G x ad sc ar) (hy : y.cls = RX8) (hd : decode cc pc = .ok (.getfield 9, 3)) (kk : Z p l e R s m args below meth c y cc nL ret κ Q nc ns G L (pc + 3) (.ref (ad 1) :: st)) : Z p l e R s m args below meth c y cc nL ret κ Q nc ns G L pc (.ref x :: st) := z_get 1 hM.1 rfl iw_X8 (by decide) (by rw [hy]; exact kw_724) rfl hd kk
theorem z_mg2 (hM : RM κ G x ad sc ar) (hy : y.cls = RX8) (hd : decode cc pc = .ok (.getfield 13, 3)) (kk : Z p l e R s m args below meth c y cc nL ret κ Q nc ns G L (pc + 3) (.ref (ad 2) :: st)) : Z p l e R s m args below meth c y cc nL ret κ Q nc ns G L pc (.ref x :: st) := z_get 2 hM.1 rfl iw_X8 (by decide) (by rw [hy]; exact kw_725) rfl hd kk
theorem z_mg3 (hM : RM κ G x ad sc ar) (hy : y.cls = RX8) (hd : decode cc pc = .ok (.getfield 16, 3)) (kk : Z p l e R s m args below meth c y cc nL ret κ Q nc ns G L (pc + 3) (.ref (ad 3) :: st)) : Z p l e R s m args below meth c y cc nL ret κ Q nc ns G L pc (.ref x :: st) := z_get 3 hM.1 rfl iw_X8 (by decide) (by rw [hy]; exact kw_726) rfl hd kk
theorem z_mg4 (hM : RM κ G x ad sc ar) (hy : y.cls = RX8) (hd : decode cc pc = .ok (.getfield 19, 3)) (kk : Z p l e R s m args below meth c y cc nL ret κ Q nc ns G L (pc + 3) (.ref (ad 4) :: st)) : Z p l e R s m args below meth c y cc nL ret κ Q nc ns G L pc (.ref x :: st) := z_get 4 hM.1 rfl iw_X8 (by decide) (by rw [hy]; exact kw_727) rfl hd kk
theorem z_mg5 (hM : RM κ G x ad sc ar) (hy : y.cls = RX8) (hd : decode cc pc = .ok (.getfield 22, 3)) (kk : Z p l e R s m args below meth c y cc nL ret κ Q nc ns G L (pc + 3) (.ref (ad 5) :: st)) : Z p l e R s m args below meth c y cc nL ret κ Q nc ns G L pc (.ref x :: st) := z_get 5 hM.1 rfl iw_X8 (by decide) (by rw [hy]; exact kw_728) rfl hd kk
theorem z_mg6 (hM : RM κ G x ad sc ar) (hy : y.cls = RX8) (hd : decode cc pc = .ok (.getfield 25, 3)) (kk : Z p l e R s m args below meth c y cc nL ret κ Q nc ns G L (pc + 3) (.ref (ad 6) :: st)) : Z p l e R s m args below meth c y cc nL ret κ Q nc ns G L pc (.ref x :: st) := z_get 6 hM.1 rfl iw_X8 (by decide) (by rw [hy]; exact kw_729) rfl hd kk
theorem z_mg7 (hM : RM κ G x ad sc ar) (hy : y.cls = RX8) (hd : decode cc pc = .ok (.getfield 28, 3)) (kk : Z p l e R s m args below meth c y cc nL ret κ Q nc ns G L (pc + 3) (.ref (ad 7) :: st)) : Z p l e R s m args below meth c y cc nL ret κ Q nc ns G L pc (.ref x :: st) := z_get 7 hM.1 rfl iw_X8 (by decide) (by rw [hy]; exact kw_730) rfl hd kk
theorem z_mg8 (hM : RM κ G x ad sc ar) (hy : y.cls = RX8) (hd : decode cc pc = .ok (.getfield 31, 3)) (kk : Z p l e R s m args below meth c y cc nL ret κ Q nc ns G L (pc + 3) (.ref (ad 8) :: st)) : Z p l e R s m args below meth c y cc nL ret κ Q nc ns G L pc (.ref x :: st) := z_get 8 hM.1 rfl iw_X8 (by decide) (by rw [hy]; exact kw_731) rfl hd kk
theorem z_mg9 (hM : RM κ G x ad sc ar) (hy : y.cls = RX8) (hd : decode cc pc = .ok (.getfield 34, 3)) (kk : Z p l e R s m args below meth c y cc nL ret κ Q nc ns G L (pc + 3) (.ref (ad 9) :: st)) : Z p l e R s m args below meth c y cc nL ret κ Q nc ns G L pc (.ref x :: st) := z_get 9 hM.1 rfl iw_X8 (by decide) (by rw [hy]; exact kw_732) rfl hd kk
theorem z_mg10 (hM : RM κ G x ad sc ar) (hy : y.cls = RX8) (hd : decode cc pc = .ok (.getfield 37, 3)) (kk : Z p l e R s m args below meth c y cc nL ret κ Q nc ns G L (pc + 3) (.ref (ad 10) :: st)) : Z p l e R s m args below meth c y cc nL ret κ Q nc ns G L pc (.ref x :: st) := z_get 10 hM.1 rfl iw_X8 (by decide) (by rw [hy]; exact kw_733) rfl hd kk
theorem z_mg11 (hM : RM κ G x ad sc ar) (hy : y.cls = RX8) (hd : decode cc pc = .ok (.getfield 40, 3)) (kk : Z p l e R s m args below meth c y cc nL ret κ Q nc ns G L (pc + 3) (.ref (ad 11) :: st)) : Z p l e R s m args below meth c y cc nL ret κ Q nc ns G L pc (.ref x :: st) := z_get 11 hM.1 rfl iw_X8 (by decide) (by rw [hy]; exact kw_734) rfl hd kk
theorem z_mg12 (hM : RM κ G x ad sc ar) (hy : y.cls = RX8) (hd : decode cc pc = .ok (.getfield 43, 3)) (kk : Z p l e R s m args below meth c y cc nL ret κ Q nc ns G L (pc + 3) (.ref (ad 12) :: st)) : Z p l e R s m args below meth c y cc nL ret κ Q nc ns G L pc (.ref x :: st) := z_get 12 hM.1 rfl iw_X8 (by decide) (by rw [hy]; exact kw_735) rfl hd kk
theorem z_mg13 (hM : RM κ G x ad sc ar) (hy : y.cls = RX8) (hd : decode cc pc = .ok (.getfield 46, 3)) (kk : Z p l e R s m args below meth c y cc nL ret κ Q nc ns G L (pc + 3) (.ref (ad 13) :: st)) : Z p l e R s m args below meth c y cc nL ret κ Q nc ns G L pc (.ref x :: st) := z_get 13 hM.1 rfl iw_X8 (by decide) (by rw [hy]; exact kw_736) rfl hd kk
theorem z_mg14 (hM : RM κ G x ad sc ar) (hy : y.cls = RX8) (hd : decode cc pc = .ok (.getfield 49, 3)) (kk : Z p l e R s m args below meth c y cc nL ret κ Q nc ns G L (pc + 3) (.ref (ad 14) :: st)) : Z p l e R s m args below meth c y cc nL ret κ Q nc ns G L pc (.ref x :: st) := z_get 14 hM.1 rfl iw_X8 (by decide) (by rw [hy]; exact kw_737) rfl hd kk
theorem z_mg15 (hM : RM κ G x ad sc ar) (hy : y.cls = RX8) (hd : decode cc pc = .ok (.getfield 52, 3)) (kk : Z p l e R s m args below meth c y cc nL ret κ Q nc ns G L (pc + 3) (.ref (ad 15) :: st)) : Z p l e R s m args below meth c y cc nL ret κ Q nc ns G L pc (.ref x :: st) := z_get 15 hM.1 rfl iw_X8 (by decide) (by rw [hy]; exact kw_738) rfl hd kk
theorem z_mg16 (hM : RM κ G x ad sc ar) (hy : y.cls = RX8) (hd : decode cc pc = .ok (.getfield 86, 3)) (kk : Z p l e R s m args below meth c y cc nL ret κ Q nc ns G L (pc + 3) (.int (sc 16) :: st)) : Z p l e R s m args below meth c y cc nL ret κ Q nc ns G L pc (.ref x :: st) := z_get 16 hM.1 rfl iw_X8 (by decide) (by rw [hy]; exact kw_739) rfl hd kk
theorem z_mp16 {v : Int32} (hM : RM κ G x ad sc ar) (hy : y.cls = RX8) (hd : decode cc pc = .ok (.putfield 86, 3)) (kk : ∀ G1 : zH, RM κ G1 x ad (sup sc 16 v) ar → zF 1 G G1 → Z p l e R s m args below meth c y cc nL ret κ Q nc ns G1 L (pc + 3) st) : Z p l e R s m args below meth c y cc nL ret κ Q nc ns G L pc (.int v :: .ref x :: st) := z_put 16 hM.1 rfl iw_X8 tyX8 tyX8_ok nmX8 (by decide) (by rw [hy]; exact kw_739) rfl rfl rfl rfl (Nat.le_of_ble_eq_true rfl) hd (kk _ (hM.sc_up (fsM_s16 ad sc v)) (zF.up hM.1 rfl))
theorem z_mg17 (hM : RM κ G x ad sc ar) (hy : y.cls = RX8) (hd : decode cc pc = .ok (.getfield 104, 3)) (kk : Z p l e R s m args below meth c y cc nL ret κ Q nc ns G L (pc + 3) (.int (sc 17) :: st)) : Z p l e R s m args below meth c y cc nL ret κ Q nc ns G L pc (.ref x :: st) := z_get 17 hM.1 rfl iw_X8 (by decide) (by rw [hy]; exact kw_740) rfl hd kk
theorem z_mp17 {v : Int32} (hM : RM κ G x ad sc ar) (hy : y.cls = RX8) (hd : decode cc pc = .ok (.putfield 104, 3)) (kk : ∀ G1 : zH, RM κ G1 x ad (sup sc 17 v) ar → zF 1 G G1 → Z p l e R s m args below meth c y cc nL ret κ Q nc ns G1 L (pc + 3) st) : Z p l e R s m args below meth c y cc nL ret κ Q nc ns G L pc (.int v :: .ref x :: st) := z_put 17 hM.1 rfl iw_X8 tyX8 tyX8_ok nmX8 (by decide) (by rw [hy]; exact kw_740) rfl rfl rfl rfl (Nat.le_of_ble_eq_true rfl) hd (kk _ (hM.sc_up (fsM_s17 ad sc v)) (zF.up hM.1 rfl))
theorem z_mg18 (hM : RM κ G x ad sc ar) (hy : y.cls = RX8) (hd : decode cc pc = .ok (.getfield 107, 3)) (kk : Z p l e R s m args below meth c y cc nL ret κ Q nc ns G L (pc + 3) (.int (sc 18) :: st)) : Z p l e R s m args below meth c y cc nL ret κ Q nc ns G L pc (.ref x :: st) := z_get 18 hM.1 rfl iw_X8 (by decide) (by rw [hy]; exact kw_741) rfl hd kk
theorem z_mp18 {v : Int32} (hM : RM κ G x ad sc ar) (hy : y.cls = RX8) (hd : decode cc pc = .ok (.putfield 107, 3)) (kk : ∀ G1 : zH, RM κ G1 x ad (sup sc 18 v) ar → zF 1 G G1 → Z p l e R s m args below meth c y cc nL ret κ Q nc ns G1 L (pc + 3) st) : Z p l e R s m args below meth c y cc nL ret κ Q nc ns G L pc (.int v :: .ref x :: st) := z_put 18 hM.1 rfl iw_X8 tyX8 tyX8_ok nmX8 (by decide) (by rw [hy]; exact kw_741) rfl rfl rfl rfl (Nat.le_of_ble_eq_true rfl) hd (kk _ (hM.sc_up (fsM_s18 ad sc v)) (zF.up hM.1 rfl))
theorem z_mg19 (hM : RM κ G x ad sc ar) (hy : y.cls = RX8) (hd : decode cc pc = .ok (.getfield 89, 3)) (kk : Z p l e R s m args below meth c y cc nL ret κ Q nc ns G L (pc + 3) (.int (sc 19) :: st)) : Z p l e R s m args below meth c y cc nL ret κ Q nc ns G L pc (.ref x :: st) := z_get 19 hM.1 rfl iw_X8 (by decide) (by rw [hy]; exact kw_742) rfl hd kk
theorem z_mp19 {v : Int32} (hM : RM κ G x ad sc ar) (hy : y.cls = RX8) (hd : decode cc pc = .ok (.putfield 89, 3)) (kk : ∀ G1 : zH, RM κ G1 x ad (sup sc 19 v) ar → zF 1 G G1 → Z p l e R s m args below meth c y cc nL ret κ Q nc ns G1 L (pc + 3) st) : Z p l e R s m args below meth c y cc nL ret κ Q nc ns G L pc (.int v :: .ref x :: st) := z_put 19 hM.1 rfl iw_X8 tyX8 tyX8_ok nmX8 (by decide) (by rw [hy]; exact kw_742) rfl rfl rfl rfl (Nat.le_of_ble_eq_true rfl) hd (kk _ (hM.sc_up (fsM_s19 ad sc v)) (zF.up hM.1 rfl))
theorem z_mg20 (hM : RM κ G x ad sc ar) (hy : y.cls = RX8) (hd : decode cc pc = .ok (.getfield 55, 3)) (kk : Z p l e R s m args below meth c y cc nL ret κ Q nc ns G L (pc + 3) (.ref (ad 20) :: st)) : Z p l e R s m args below meth c y cc nL ret κ Q nc ns G L pc (.ref x :: st) := z_get 20 hM.1 rfl iw_X8 (by decide) (by rw [hy]; exact kw_743) rfl hd kk
theorem z_mg21 (hM : RM κ G x ad sc ar) (hy : y.cls = RX8) (hd : decode cc pc = .ok (.getfield 58, 3)) (kk : Z p l e R s m args below meth c y cc nL ret κ Q nc ns G L (pc + 3) (.ref (ad 21) :: st)) : Z p l e R s m args below meth c y cc nL ret κ Q nc ns G L pc (.ref x :: st) := z_get 21 hM.1 rfl iw_X8 (by decide) (by rw [hy]; exact kw_744) rfl hd kk
theorem z_mg22 (hM : RM κ G x ad sc ar) (hy : y.cls = RX8) (hd : decode cc pc = .ok (.getfield 61, 3)) (kk : Z p l e R s m args below meth c y cc nL ret κ Q nc ns G L (pc + 3) (.ref (ad 22) :: st)) : Z p l e R s m args below meth c y cc nL ret κ Q nc ns G L pc (.ref x :: st) := z_get 22 hM.1 rfl iw_X8 (by decide) (by rw [hy]; exact kw_745) rfl hd kk
theorem z_mg23 (hM : RM κ G x ad sc ar) (hy : y.cls = RX8) (hd : decode cc pc = .ok (.getfield 64, 3)) (kk : Z p l e R s m args below meth c y cc nL ret κ Q nc ns G L (pc + 3) (.ref (ad 23) :: st)) : Z p l e R s m args below meth c y cc nL ret κ Q nc ns G L pc (.ref x :: st) := z_get 23 hM.1 rfl iw_X8 (by decide) (by rw [hy]; exact kw_746) rfl hd kk
theorem z_mg24 (hM : RM κ G x ad sc ar) (hy : y.cls = RX8) (hd : decode cc pc = .ok (.getfield 67, 3)) (kk : Z p l e R s m args below meth c y cc nL ret κ Q nc ns G L (pc + 3) (.ref (ad 24) :: st)) : Z p l e R s m args below meth c y cc nL ret κ Q nc ns G L pc (.ref x :: st) := z_get 24 hM.1 rfl iw_X8 (by decide) (by rw [hy]; exact kw_747) rfl hd kk
theorem z_mg25 (hM : RM κ G x ad sc ar) (hy : y.cls = RX8) (hd : decode cc pc = .ok (.getfield 117, 3)) (kk : Z p l e R s m args below meth c y cc nL ret κ Q nc ns G L (pc + 3) (.int (sc 25) :: st)) : Z p l e R s m args below meth c y cc nL ret κ Q nc ns G L pc (.ref x :: st) := z_get 25 hM.1 rfl iw_X8 (by decide) (by rw [hy]; exact kw_748) rfl hd kk
theorem z_mp25 {v : Int32} (hM : RM κ G x ad sc ar) (hy : y.cls = RX8) (hd : decode cc pc = .ok (.putfield 117, 3)) (kk : ∀ G1 : zH, RM κ G1 x ad (sup sc 25 v) ar → zF 1 G G1 → Z p l e R s m args below meth c y cc nL ret κ Q nc ns G1 L (pc + 3) st) : Z p l e R s m args below meth c y cc nL ret κ Q nc ns G L pc (.int v :: .ref x :: st) := z_put 25 hM.1 rfl iw_X8 tyX8 tyX8_ok nmX8 (by decide) (by rw [hy]; exact kw_748) rfl rfl rfl rfl (Nat.le_of_ble_eq_true rfl) hd (kk _ (hM.sc_up (fsM_s25 ad sc v)) (zF.up hM.1 rfl))
theorem z_mg26 (hM : RM κ G x ad sc ar) (hy : y.cls = RX8) (hd : decode cc pc = .ok (.getfield 120, 3)) (kk : Z p l e R s m args below meth c y cc nL ret κ Q nc ns G L (pc + 3) (.int (sc 26) :: st)) : Z p l e R s m args below meth c y cc nL ret κ Q nc ns G L pc (.ref x :: st) := z_get 26 hM.1 rfl iw_X8 (by decide) (by rw [hy]; exact kw_749) rfl hd kk
theorem z_mp26 {v : Int32} (hM : RM κ G x ad sc ar) (hy : y.cls = RX8) (hd : decode cc pc = .ok (.putfield 120, 3)) (kk : ∀ G1 : zH, RM κ G1 x ad (sup sc 26 v) ar → zF 1 G G1 → Z p l e R s m args below meth c y cc nL ret κ Q nc ns G1 L (pc + 3) st) : Z p l e R s m args below meth c y cc nL ret κ Q nc ns G L pc (.int v :: .ref x :: st) := z_put 26 hM.1 rfl iw_X8 tyX8 tyX8_ok nmX8 (by decide) (by rw [hy]; exact kw_749) rfl rfl rfl rfl (Nat.le_of_ble_eq_true rfl) hd (kk _ (hM.sc_up (fsM_s26 ad sc v)) (zF.up hM.1 rfl))
theorem z_mg27 (hM : RM κ G x ad sc ar) (hy : y.cls = RX8) (hd : decode cc pc = .ok (.getfield 147, 3)) (kk : Z p l e R s m args below meth c y cc nL ret κ Q nc ns G L (pc + 3) (.int (sc 27) :: st)) : Z p l e R s m args below meth c y cc nL ret κ Q nc ns G L pc (.ref x :: st) := z_get 27 hM.1 rfl iw_X8 (by decide) (by rw [hy]; exact kw_750) rfl hd kk
theorem z_mp27 {v : Int32} (hM : RM κ G x ad sc ar) (hy : y.cls = RX8) (hd : decode cc pc = .ok (.putfield 147, 3)) (kk : ∀ G1 : zH, RM κ G1 x ad (sup sc 27 v) ar → zF 1 G G1 → Z p l e R s m args below meth c y cc nL ret κ Q nc ns G1 L (pc + 3) st) : Z p l e R s m args below meth c y cc nL ret κ Q nc ns G L pc (.int v :: .ref x :: st) := z_put 27 hM.1 rfl iw_X8 tyX8 tyX8_ok nmX8 (by decide) (by rw [hy]; exact kw_750) rfl rfl rfl rfl (Nat.le_of_ble_eq_true rfl) hd (kk _ (hM.sc_up (fsM_s27 ad sc v)) (zF.up hM.1 rfl))
theorem z_mg28 (hM : RM κ G x ad sc ar) (hy : y.cls = RX8) (hd : decode cc pc = .ok (.getfield 153, 3)) (kk : Z p l e R s m args below meth c y cc nL ret κ Q nc ns G L (pc + 3) (.int (sc 28) :: st)) : Z p l e R s m args below meth c y cc nL ret κ Q nc ns G L pc (.ref x :: st) := z_get 28 hM.1 rfl iw_X8 (by decide) (by rw [hy]; exact kw_751) rfl hd kk
theorem z_mp28 {v : Int32} (hM : RM κ G x ad sc ar) (hy : y.cls = RX8) (hd : decode cc pc = .ok (.putfield 153, 3)) (kk : ∀ G1 : zH, RM κ G1 x ad (sup sc 28 v) ar → zF 1 G G1 → Z p l e R s m args below meth c y cc nL ret κ Q nc ns G1 L (pc + 3) st) : Z p l e R s m args below meth c y cc nL ret κ Q nc ns G L pc (.int v :: .ref x :: st) := z_put 28 hM.1 rfl iw_X8 tyX8 tyX8_ok nmX8 (by decide) (by rw [hy]; exact kw_751) rfl rfl rfl rfl (Nat.le_of_ble_eq_true rfl) hd (kk _ (hM.sc_up (fsM_s28 ad sc v)) (zF.up hM.1 rfl))
theorem z_mg29 (hM : RM κ G x ad sc ar) (hy : y.cls = RX8) (hd : decode cc pc = .ok (.getfield 70, 3)) (kk : Z p l e R s m args below meth c y cc nL ret κ Q nc ns G L (pc + 3) (.ref (ad 29) :: st)) : Z p l e R s m args below meth c y cc nL ret κ Q nc ns G L pc (.ref x :: st) := z_get 29 hM.1 rfl iw_X8 (by decide) (by rw [hy]; exact kw_752) rfl hd kk
theorem z_mg30 (hM : RM κ G x ad sc ar) (hy : y.cls = RX8) (hd : decode cc pc = .ok (.getfield 73, 3)) (kk : Z p l e R s m args below meth c y cc nL ret κ Q nc ns G L (pc + 3) (.ref (ad 30) :: st)) : Z p l e R s m args below meth c y cc nL ret κ Q nc ns G L pc (.ref x :: st) := z_get 30 hM.1 rfl iw_X8 (by decide) (by rw [hy]; exact kw_753) rfl hd kk
theorem z_mg31 (hM : RM κ G x ad sc ar) (hy : y.cls = RX8) (hd : decode cc pc = .ok (.getfield 76, 3)) (kk : Z p l e R s m args below meth c y cc nL ret κ Q nc ns G L (pc + 3) (.ref (ad 31) :: st)) : Z p l e R s m args below meth c y cc nL ret κ Q nc ns G L pc (.ref x :: st) := z_get 31 hM.1 rfl iw_X8 (by decide) (by rw [hy]; exact kw_754) rfl hd kk
theorem z_mg32 (hM : RM κ G x ad sc ar) (hy : y.cls = RX8) (hd : decode cc pc = .ok (.getfield 162, 3)) (kk : Z p l e R s m args below meth c y cc nL ret κ Q nc ns G L (pc + 3) (.int (sc 32) :: st)) : Z p l e R s m args below meth c y cc nL ret κ Q nc ns G L pc (.ref x :: st) := z_get 32 hM.1 rfl iw_X8 (by decide) (by rw [hy]; exact kw_755) rfl hd kk
theorem z_mp32 {v : Int32} (hM : RM κ G x ad sc ar) (hy : y.cls = RX8) (hd : decode cc pc = .ok (.putfield 162, 3)) (kk : ∀ G1 : zH, RM κ G1 x ad (sup sc 32 v) ar → zF 1 G G1 → Z p l e R s m args below meth c y cc nL ret κ Q nc ns G1 L (pc + 3) st) : Z p l e R s m args below meth c y cc nL ret κ Q nc ns G L pc (.int v :: .ref x :: st) := z_put 32 hM.1 rfl iw_X8 tyX8 tyX8_ok nmX8 (by decide) (by rw [hy]; exact kw_755) rfl rfl rfl rfl (Nat.le_of_ble_eq_true rfl) hd (kk _ (hM.sc_up (fsM_s32 ad sc v)) (zF.up hM.1 rfl))
theorem z_mg33 (hM : RM κ G x ad sc ar) (hy : y.cls = RX8) (hd : decode cc pc = .ok (.getfield 79, 3)) (kk : Z p l e R s m args below meth c y cc nL ret κ Q nc ns G L (pc + 3) (.ref (ad 33) :: st)) : Z p l e R s m args below meth c y cc nL ret κ Q nc ns G L pc (.ref x :: st) := z_get 33 hM.1 rfl iw_X8 (by decide) (by rw [hy]; exact kw_756) rfl hd kk
theorem z_mg34 (hM : RM κ G x ad sc ar) (hy : y.cls = RX8) (hd : decode cc pc = .ok (.getfield 177, 3)) (kk : Z p l e R s m args below meth c y cc nL ret κ Q nc ns G L (pc + 3) (.int (sc 34) :: st)) : Z p l e R s m args below meth c y cc nL ret κ Q nc ns G L pc (.ref x :: st) := z_get 34 hM.1 rfl iw_X8 (by decide) (by rw [hy]; exact kw_757) rfl hd kk
theorem z_mp34 {v : Int32} (hM : RM κ G x ad sc ar) (hy : y.cls = RX8) (hd : decode cc pc = .ok (.putfield 177, 3)) (kk : ∀ G1 : zH, RM κ G1 x ad (sup sc 34 v) ar → zF 1 G G1 → Z p l e R s m args below meth c y cc nL ret κ Q nc ns G1 L (pc + 3) st) : Z p l e R s m args below meth c y cc nL ret κ Q nc ns G L pc (.int v :: .ref x :: st) := z_put 34 hM.1 rfl iw_X8 tyX8 tyX8_ok nmX8 (by decide) (by rw [hy]; exact kw_757) rfl rfl rfl rfl (Nat.le_of_ble_eq_true rfl) hd (kk _ (hM.sc_up (fsM_s34 ad sc v)) (zF.up hM.1 rfl))
theorem z_mld {i : Int32} {j : Nat} (k n : Nat) (hM : RM κ G x ad sc ar) (hk : mlen k = n) (hn : 0 < n ∧ n < 2 ^ 31) (hi : i = nI j) (hj : j < n) (hd : decode cc pc = .ok (.iaload, 1)) (kk : Z p l e R s m args below meth c y cc nL ret κ Q nc ns G L (pc + 1) (.int (ar k j) :: st)) : Z p l e R s m args below meth c y cc nL ret κ Q nc ns G L pc (.int i :: .ref (ad k) :: st) := z_iald j (hM.2 k (by rw [hk]; exact hn.1)) hi (by rw [hk]; exact hj) (by rw [hk]; exact hn.2) hd kk
theorem z_mst {i v : Int32} {j : Nat} (k n : Nat) (hM : RM κ G x ad sc ar) (hk : mlen k = n) (hn : 0 < n ∧ n < 2 ^ 31) (hi : i = nI j) (hj : j < n) (hd : decode cc pc = .ok (.iastore, 1)) (kk : ∀ G1 : zH, RM κ G1 x ad sc (aup ar k j v) → zF 1 G G1 → Z p l e R s m args below meth c y cc nL ret κ Q nc ns G1 L (pc + 1) st) : Z p l e R s m args below meth c y cc nL ret κ Q nc ns G L pc (.int v :: .int i :: .ref (ad k) :: st) := z_iast j (hM.2 k (by rw [hk]; exact hn.1)) hi (by rw [hk]; exact hj) (by rw [hk]; exact hn.2) hd (kk _ (hM.ar_up k j v (by rw [hk]; exact hn.1)) (zF.up (hM.2 k (by rw [hk]; exact hn.1)) rfl))
theorem z_dia {P : Int32 → Prop} {pcj : Nat} {st0 : List Value} (kj : ∀ v : Int32, P v → Z p l e R s m args below meth c y cc nL ret κ Q nc ns G L pcj (.int v :: st)) (kd : (∀ v : Int32, P v → Z p l e R s m args below meth c y cc nL ret κ Q nc ns G L pcj (.int v :: st)) → Z p l e R s m args below meth c y cc nL ret κ Q nc ns G L pc st0) : Z p l e R s m args below meth c y cc nL ret κ Q nc ns G L pc st0 := kd kj
end ZR3
