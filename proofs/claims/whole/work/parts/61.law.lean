/-! the law: its cases -/
section ZR8
variable {p : Program} {l : Launch} {e : Env} {R : Room} {s : State} {m : MethodId} {args : Array Value} {below : List Frame} {meth : Method} {c : Code} {y : MethodName} {cc : ByteArray} {nL : Nat} {ret : Option FieldType} {κ : zK} {Q : State → Prop} {nc ns : Nat} {G : zH} {L : List (Option Value)} {pc : Nat} {st : List Value}
theorem z_arg {b N i ki : Nat} {k : Int} {xs : Nat → Int32} (hX : va_X b N xs s s.heap) (hbl : b < s.heap.size) (hbA : ¬ zA κ b) (hN : N < 2 ^ 31) (h0 : L[0]? = some (some (.ref b))) (h4 : L[4]? = some (some (.int (nI i)))) (d0 : decode cc pc = .ok (.aload_n 0, 1)) (d1 : decode cc (pc + 1) = .ok (.iload 4, 2)) (d3 : decode cc (pc + 3) = .ok (.iconst k, 1)) (d4 : decode cc (pc + 4) = .ok (.iadd, 1)) (d5 : decode cc (pc + 5) = .ok (.iaload, 1)) (hk : Int32.ofInt k = nI ki) (hi : i + ki < N) (kk : Z p l e R s m args below meth c y cc nL ret κ Q nc ns G L (pc + 6) (.int (xs (i + ki)) :: st)) : Z p l e R s m args below meth c y cc nL ret κ Q nc ns G L pc st :=
  z_aload_n 0 d0 rfl h0 ⟨some b, rfl⟩ (z_iload 4 d1 h4 (z_iconst (nI ki) hk d3 (z_iadd d4 (by rw [nI_add]; exact z_sld (i + ki) hX hbl hbA rfl hi hN d5 kk))))
/-- what is not looked at again -/
theorem z_fgt {L' : List (Option Value)} (h : ∀ (i : Nat) (v : Value), L'[i]? = some (some v) → L[i]? = some (some v)) (k : Z p l e R s m args below meth c y cc nL ret κ Q nc ns G L' pc st) : Z p l e R s m args below meth c y cc nL ret κ Q nc ns G L pc st := fun C H locs ls hg hs hl => k C H locs ls hg hs ⟨hl.1, hl.2.1, fun i v hi => hl.2.2 i v (h i v hi)⟩
end ZR8
abbrev yLw (nm : String) : MethodName := ⟨RL, nm, ""⟩
abbrev lwL (b hx x oa i : Nat) : List (Option Value) := [some (.ref b), some (.ref hx), some (.ref x), some (.ref oa), some (.int (nI i)), none, none]
theorem st_at {l : Launch} (hl9 : l.stackTraces = false) {κ : zK} {G : zH} {hx x oa : Nat} (s0 i0 q what : Int32) (hI : IV κ G hx x oa) : CtW l yL_at cL_at 7 (some FieldType.int) [(0, 14, 17, 13)] (rmK 9 1 6 300) κ [.ref hx, .int s0, .int i0, .int q, .int what, .ref oa] G (pI (fun r G2 => (∃ fs, G2 x = some ((1, 0, 0), .inr (9, fs))) ∧ Ct l yX8_at cX8_at 5 (some FieldType.int) rX8_at κ [.ref x, .int s0, .int i0, .int q, .int what] G2 (pI (fun r2 G3 => (∃ fs, G3 x = some ((1, 0, 0), .inr (9, fs))) ∧ IV κ G3 hx x oa ∧ Ct l yX8_thrown cX8_thrown 1 (some FieldType.int) rX8_thrown κ [.ref x] G3 (zP r G3) ∧ (r = 0 → ∃ f, G3 oa = some ((3, 0, 0), .inl (κ.2.1 4, 1, .inr (.inl f))) ∧ f 0 = r2.toInt64))))) := by
  obtain ⟨B, n, c, d, w, ln, fo, nt, ar, rb, sc, ad, f, rfl, ⟨hT, kl, ep, kp, kb, iK, sm, ky, hR, hK, hC⟩, hM, hs, hO⟩ := hI
  have hJ := MJ_of hT hs
  have hT9 := hT
  obtain ⟨t1, t2, t3, t4, t5, -⟩ := hT9
  by_cases hok : okAt n w ln s0 i0 q what
  · refine (c_lAtR l hR.1 hO (c_hAt l s0 i0 q what hR hT hK hC hok) (fun r G2 h => h.2.fr.1 _ _ _ (fun (h : 3 = 2) => by cases h) hO)).imp (fun v G3 hv => ?_)
    obtain ⟨r, rfl, hr, r1, G2, f1, ⟨hv1, hQ⟩, hf1, hO3, hF3⟩ := hv
    have hM2 := (hM.keep (hQ.fr.F (n := 2) (fun r h => h)) (by decide)).keep (hF3.F (n := 3) (fun r h => by rw [h])) (by decide)
    refine ⟨r, rfl, ⟨_, hM2.1⟩, (c_mAt l n c d w ln s0 i0 q what hM2 hJ).imp (fun v2 G4 hv2 => ?_)⟩
    obtain ⟨r2, rfl, hM4, hF4, hr2⟩ := hv2
    have hF4' : zFP (fun r => r.1 = 1) G3 G4 := hF4
    have hth := c_mThrown l hM4
    have e0 : sup sc 0 (zb (¬ okAt n w ln s0 i0 q what)) 0 = r := by rw [hr]; unfold sup zb; rw [if_pos rfl, if_neg (fun h => h hok)]
    rw [e0] at hth
    refine ⟨r2, rfl, ⟨_, hM4.1⟩, ⟨B, n, c, d, w, ln, fo, nt, ar, rb, _, ad, f1, rfl, (((hQ.hc hT).keep hF3 (fun k j h => by injection h with h1 h2; cases h1)).keep hF4' (fun k j (h : 2 = 1) => by cases h)), hM4, ⟨hs.1, hs.2.1, hs.2.2.1, hs.2.2.2⟩, hF4.1 _ _ _ (by decide) hO3⟩, hth, fun _ => ⟨f1, hF4.1 _ _ _ (by decide) hO3, ?_⟩⟩
    rw [hf1, hr2, if_pos hok, hv1]
    obtain ⟨-, -, -, w1, w2⟩ := hok
    by_cases hw0 : what = 0
    · subst hw0; rw [if_pos rfl]; rfl
    · have hw1 : what = 1 := by
        rw [i_le, show (0 : Int32).toInt = 0 from rfl] at w1
        rw [i_le, show (1 : Int32).toInt = 1 from by decide] at w2
        rw [i_eq, show (0 : Int32).toInt = 0 from rfl] at hw0
        rw [i_eq, show (1 : Int32).toInt = 1 from by decide]
        omega
      subst hw1; rw [if_neg hw0]; rfl
  · refine CtW.imp (c_lAtX l hR.1 hO (c_hAtX l hl9 s0 i0 q what hR t1 t5 hok)) (fun v G3 hv => ?_)
    obtain ⟨r, rfl, hr, rfl⟩ := hv
    refine ⟨r, rfl, ⟨_, hM.1⟩, (c_mAt l n c d w ln s0 i0 q what hM hJ).imp (fun v2 G4 hv2 => ?_)⟩
    obtain ⟨r2, rfl, hM4, hF4, hr2⟩ := hv2
    have hF4' : zFP (fun r => r.1 = 1) G3 G4 := hF4
    have hth := c_mThrown l hM4
    have e0 : sup sc 0 (zb (¬ okAt n w ln s0 i0 q what)) 0 = r := by rw [hr]; unfold sup zb; rw [if_pos rfl, if_pos hok]
    rw [e0] at hth
    exact ⟨r2, rfl, ⟨_, hM4.1⟩, ⟨B, n, c, d, w, ln, fo, nt, ar, rb, _, ad, f, rfl, HC.keep ⟨hT, kl, ep, kp, kb, iK, sm, ky, hR, hK, hC⟩ hF4' (fun k j (h : 2 = 1) => by cases h), hM4, ⟨hs.1, hs.2.1, hs.2.2.1, hs.2.2.2⟩, hF4.1 _ _ _ (by decide) hO⟩, hth, fun h0 => absurd (h0.symm.trans hr) (by decide)⟩
set_option maxRecDepth 100000 in
set_option maxHeartbeats 400000 in
theorem lw_sheet {p : Program} {l : Launch} {e : Env} {s : State} {m : MethodId} {args : Array Value} {below : List Frame} {meth : Method} {c : Code} {nm : String} {κ : zK} {Q : State → Prop} {nc ns : Nat} {G : zH} {b N i hx x oa : Nat} {xs : Nat → Int32} (hX : va_X b N xs s s.heap) (hbl : b < s.heap.size) (hbA : ¬ zA κ b) (hN : N < 2 ^ 31) (hi : i + 6 ≤ N) (hI : IV κ G hx x oa) (hnc : nc + 401 + 1 ≤ 601024 ∧ ns + 11629 + 400 ≤ 7293033) (k : ∀ (nc2 ns2 : Nat) (G2 : zH), nc2 ≤ nc + 401 + 1 → ns2 ≤ ns + 11629 + 400 → IV κ G2 hx x oa → Z p l e room_1 s m args below meth c (yLw nm) cL_law 7 ret κ Q nc2 ns2 G2 (lwL b hx x oa i) 1132 []) : Z p l e room_1 s m args below meth c (yLw nm) cL_law 7 ret κ Q nc ns G (lwL b hx x oa i) 140 [] := by
  have q1 : nc + 401 ≤ 601024 := by omega
  have q2 : ns + 11629 ≤ 7293033 := by omega
  obtain ⟨fs, hb⟩ := hI.hx
  refine z_al1 (pc := 140) dL_law_140 ?_
  refine z_arg (pc := 141) (ki := 1) hX hbl hbA hN rfl rfl dL_law_141 dL_law_142 dL_law_144 dL_law_145 dL_law_146 (by decide) (by omega) ?_
  refine z_arg (pc := 147) (ki := 2) hX hbl hbA hN rfl rfl dL_law_147 dL_law_148 dL_law_150 dL_law_151 dL_law_152 (by decide) (by omega) ?_
  refine z_arg (pc := 153) (ki := 3) hX hbl hbA hN rfl rfl dL_law_153 dL_law_154 dL_law_156 dL_law_157 dL_law_158 (by decide) (by omega) ?_
  refine z_callVi (pc := 159) _ (st_sheet (xs (i + 1)) (xs (i + 2)) (xs (i + 3)) hI) rfl hb rfl rfl kw_149 zc_X7_sheet ⟨Nat.le_of_ble_eq_true rfl, Nat.le_of_ble_eq_true rfl, (by refine Nat.le_trans (Nat.add_le_add_left ?_ nc) q1; exact Nat.le_of_ble_eq_true rfl), (by refine Nat.le_trans (Nat.add_le_add_left ?_ ns) q2; exact Nat.le_of_ble_eq_true rfl)⟩ rfl (Nat.le_of_ble_eq_true rfl) dL_law_159 (fun r G2 hv => ?_)
  obtain ⟨⟨fs2, hx2⟩, hm⟩ := hv
  refine z_aload_n (pc := 162) 2 dL_law_162 rfl rfl ⟨some x, rfl⟩ ?_
  refine z_arg (pc := 163) (ki := 1) hX hbl hbA hN rfl rfl dL_law_163 dL_law_164 dL_law_166 dL_law_167 dL_law_168 (by decide) (by omega) ?_
  refine z_arg (pc := 169) (ki := 2) hX hbl hbA hN rfl rfl dL_law_169 dL_law_170 dL_law_172 dL_law_173 dL_law_174 (by decide) (by omega) ?_
  refine z_arg (pc := 175) (ki := 3) hX hbl hbA hN rfl rfl dL_law_175 dL_law_176 dL_law_178 dL_law_179 dL_law_180 (by decide) (by omega) ?_
  refine z_callVi (pc := 181) _ hm rfl hx2 rfl rfl kw_833 zc_X8_sheet ⟨Nat.le_of_ble_eq_true rfl, Nat.le_of_ble_eq_true rfl, (by refine Nat.le_trans (Nat.add_le_add (Nat.add_le_add_left ?_ nc) ?_) hnc.1 <;> exact Nat.le_of_ble_eq_true rfl), (by refine Nat.le_trans (Nat.add_le_add (Nat.add_le_add_left ?_ ns) ?_) hnc.2 <;> exact Nat.le_of_ble_eq_true rfl)⟩ rfl (Nat.le_of_ble_eq_true rfl) dL_law_181 (fun r2 G3 hv2 => ?_)
  obtain ⟨rfl, hI3⟩ := hv2
  exact z_icmp_eq (pc := 184) 1132 dL_law_184 rfl (fun _ => k _ _ _ (by refine Nat.add_le_add (Nat.add_le_add_left ?_ nc) ?_ <;> exact Nat.le_of_ble_eq_true rfl) (by refine Nat.add_le_add (Nat.add_le_add_left ?_ ns) ?_ <;> exact Nat.le_of_ble_eq_true rfl) hI3) (fun h => absurd rfl h)
set_option maxRecDepth 100000 in
set_option maxHeartbeats 400000 in
theorem lw_note {p : Program} {l : Launch} {e : Env} {s : State} {m : MethodId} {args : Array Value} {below : List Frame} {meth : Method} {c : Code} {nm : String} {κ : zK} {Q : State → Prop} {nc ns : Nat} {G : zH} {b N i hx x oa : Nat} {xs : Nat → Int32} (hX : va_X b N xs s s.heap) (hbl : b < s.heap.size) (hbA : ¬ zA κ b) (hN : N < 2 ^ 31) (hi : i + 6 ≤ N) (hI : IV κ G hx x oa) (hnc : nc + 401 + 1 ≤ 601024 ∧ ns + 11629 + 400 ≤ 7293033) (k : ∀ (nc2 ns2 : Nat) (G2 : zH), nc2 ≤ nc + 401 + 1 → ns2 ≤ ns + 11629 + 400 → IV κ G2 hx x oa → Z p l e room_1 s m args below meth c (yLw nm) cL_law 7 ret κ Q nc2 ns2 G2 (lwL b hx x oa i) 1132 []) : Z p l e room_1 s m args below meth c (yLw nm) cL_law 7 ret κ Q nc ns G (lwL b hx x oa i) 189 [] := by
  have q1 : nc + 401 ≤ 601024 := by omega
  have q2 : ns + 11629 ≤ 7293033 := by omega
  obtain ⟨fs, hb⟩ := hI.hx
  refine z_al1 (pc := 189) dL_law_189 ?_
  refine z_arg (pc := 190) (ki := 1) hX hbl hbA hN rfl rfl dL_law_190 dL_law_191 dL_law_193 dL_law_194 dL_law_195 (by decide) (by omega) ?_
  refine z_arg (pc := 196) (ki := 2) hX hbl hbA hN rfl rfl dL_law_196 dL_law_197 dL_law_199 dL_law_200 dL_law_201 (by decide) (by omega) ?_
  refine z_arg (pc := 202) (ki := 3) hX hbl hbA hN rfl rfl dL_law_202 dL_law_203 dL_law_205 dL_law_206 dL_law_207 (by decide) (by omega) ?_
  refine z_callVi (pc := 208) _ (st_note (xs (i + 1)) (xs (i + 2)) (xs (i + 3)) hI) rfl hb rfl rfl kw_287 zc_X7_note ⟨Nat.le_of_ble_eq_true rfl, Nat.le_of_ble_eq_true rfl, (by refine Nat.le_trans (Nat.add_le_add_left ?_ nc) q1; exact Nat.le_of_ble_eq_true rfl), (by refine Nat.le_trans (Nat.add_le_add_left ?_ ns) q2; exact Nat.le_of_ble_eq_true rfl)⟩ rfl (Nat.le_of_ble_eq_true rfl) dL_law_208 (fun r G2 hv => ?_)
  obtain ⟨⟨fs2, hx2⟩, hm⟩ := hv
  refine z_aload_n (pc := 211) 2 dL_law_211 rfl rfl ⟨some x, rfl⟩ ?_
  refine z_arg (pc := 212) (ki := 1) hX hbl hbA hN rfl rfl dL_law_212 dL_law_213 dL_law_215 dL_law_216 dL_law_217 (by decide) (by omega) ?_
  refine z_arg (pc := 218) (ki := 2) hX hbl hbA hN rfl rfl dL_law_218 dL_law_219 dL_law_221 dL_law_222 dL_law_223 (by decide) (by omega) ?_
  refine z_arg (pc := 224) (ki := 3) hX hbl hbA hN rfl rfl dL_law_224 dL_law_225 dL_law_227 dL_law_228 dL_law_229 (by decide) (by omega) ?_
  refine z_callVi (pc := 230) _ hm rfl hx2 rfl rfl kw_840 zc_X8_note ⟨Nat.le_of_ble_eq_true rfl, Nat.le_of_ble_eq_true rfl, (by refine Nat.le_trans (Nat.add_le_add (Nat.add_le_add_left ?_ nc) ?_) hnc.1 <;> exact Nat.le_of_ble_eq_true rfl), (by refine Nat.le_trans (Nat.add_le_add (Nat.add_le_add_left ?_ ns) ?_) hnc.2 <;> exact Nat.le_of_ble_eq_true rfl)⟩ rfl (Nat.le_of_ble_eq_true rfl) dL_law_230 (fun r2 G3 hv2 => ?_)
  obtain ⟨rfl, hI3⟩ := hv2
  exact z_icmp_eq (pc := 233) 1132 dL_law_233 rfl (fun _ => k _ _ _ (by refine Nat.add_le_add (Nat.add_le_add_left ?_ nc) ?_ <;> exact Nat.le_of_ble_eq_true rfl) (by refine Nat.add_le_add (Nat.add_le_add_left ?_ ns) ?_ <;> exact Nat.le_of_ble_eq_true rfl) hI3) (fun h => absurd rfl h)
set_option maxRecDepth 100000 in
set_option maxHeartbeats 400000 in
theorem lw_correct {p : Program} {l : Launch} {e : Env} {s : State} {m : MethodId} {args : Array Value} {below : List Frame} {meth : Method} {c : Code} {nm : String} {κ : zK} {Q : State → Prop} {nc ns : Nat} {G : zH} {b N i hx x oa : Nat} {xs : Nat → Int32} (hX : va_X b N xs s s.heap) (hbl : b < s.heap.size) (hbA : ¬ zA κ b) (hN : N < 2 ^ 31) (hi : i + 6 ≤ N) (hI : IV κ G hx x oa) (hnc : nc + 401 + 1 ≤ 601024 ∧ ns + 11629 + 400 ≤ 7293033) (k : ∀ (nc2 ns2 : Nat) (G2 : zH), nc2 ≤ nc + 401 + 1 → ns2 ≤ ns + 11629 + 400 → IV κ G2 hx x oa → Z p l e room_1 s m args below meth c (yLw nm) cL_law 7 ret κ Q nc2 ns2 G2 (lwL b hx x oa i) 1132 []) : Z p l e room_1 s m args below meth c (yLw nm) cL_law 7 ret κ Q nc ns G (lwL b hx x oa i) 238 [] := by
  have q1 : nc + 401 ≤ 601024 := by omega
  have q2 : ns + 11629 ≤ 7293033 := by omega
  obtain ⟨fs, hb⟩ := hI.hx
  refine z_al1 (pc := 238) dL_law_238 ?_
  refine z_arg (pc := 239) (ki := 1) hX hbl hbA hN rfl rfl dL_law_239 dL_law_240 dL_law_242 dL_law_243 dL_law_244 (by decide) (by omega) ?_
  refine z_arg (pc := 245) (ki := 2) hX hbl hbA hN rfl rfl dL_law_245 dL_law_246 dL_law_248 dL_law_249 dL_law_250 (by decide) (by omega) ?_
  refine z_arg (pc := 251) (ki := 3) hX hbl hbA hN rfl rfl dL_law_251 dL_law_252 dL_law_254 dL_law_255 dL_law_256 (by decide) (by omega) ?_
  refine z_arg (pc := 257) (ki := 4) hX hbl hbA hN rfl rfl dL_law_257 dL_law_258 dL_law_260 dL_law_261 dL_law_262 (by decide) (by omega) ?_
  refine z_callVi (pc := 263) _ (st_correct (xs (i + 1)) (xs (i + 2)) (xs (i + 3)) (xs (i + 4)) hI) rfl hb rfl rfl kw_336 zc_X7_correct ⟨Nat.le_of_ble_eq_true rfl, Nat.le_of_ble_eq_true rfl, (by refine Nat.le_trans (Nat.add_le_add_left ?_ nc) q1; exact Nat.le_of_ble_eq_true rfl), (by refine Nat.le_trans (Nat.add_le_add_left ?_ ns) q2; exact Nat.le_of_ble_eq_true rfl)⟩ rfl (Nat.le_of_ble_eq_true rfl) dL_law_263 (fun r G2 hv => ?_)
  obtain ⟨⟨fs2, hx2⟩, hm⟩ := hv
  refine z_aload_n (pc := 266) 2 dL_law_266 rfl rfl ⟨some x, rfl⟩ ?_
  refine z_arg (pc := 267) (ki := 1) hX hbl hbA hN rfl rfl dL_law_267 dL_law_268 dL_law_270 dL_law_271 dL_law_272 (by decide) (by omega) ?_
  refine z_arg (pc := 273) (ki := 2) hX hbl hbA hN rfl rfl dL_law_273 dL_law_274 dL_law_276 dL_law_277 dL_law_278 (by decide) (by omega) ?_
  refine z_arg (pc := 279) (ki := 3) hX hbl hbA hN rfl rfl dL_law_279 dL_law_280 dL_law_282 dL_law_283 dL_law_284 (by decide) (by omega) ?_
  refine z_arg (pc := 285) (ki := 4) hX hbl hbA hN rfl rfl dL_law_285 dL_law_286 dL_law_288 dL_law_289 dL_law_290 (by decide) (by omega) ?_
  refine z_callVi (pc := 291) _ hm rfl hx2 rfl rfl kw_851 zc_X8_correct ⟨Nat.le_of_ble_eq_true rfl, Nat.le_of_ble_eq_true rfl, (by refine Nat.le_trans (Nat.add_le_add (Nat.add_le_add_left ?_ nc) ?_) hnc.1 <;> exact Nat.le_of_ble_eq_true rfl), (by refine Nat.le_trans (Nat.add_le_add (Nat.add_le_add_left ?_ ns) ?_) hnc.2 <;> exact Nat.le_of_ble_eq_true rfl)⟩ rfl (Nat.le_of_ble_eq_true rfl) dL_law_291 (fun r2 G3 hv2 => ?_)
  obtain ⟨rfl, hI3⟩ := hv2
  exact z_icmp_eq (pc := 294) 1132 dL_law_294 rfl (fun _ => k _ _ _ (by refine Nat.add_le_add (Nat.add_le_add_left ?_ nc) ?_ <;> exact Nat.le_of_ble_eq_true rfl) (by refine Nat.add_le_add (Nat.add_le_add_left ?_ ns) ?_ <;> exact Nat.le_of_ble_eq_true rfl) hI3) (fun h => absurd rfl h)
set_option maxRecDepth 100000 in
set_option maxHeartbeats 400000 in
theorem lw_forge {p : Program} {l : Launch} {e : Env} {s : State} {m : MethodId} {args : Array Value} {below : List Frame} {meth : Method} {c : Code} {nm : String} {κ : zK} {Q : State → Prop} {nc ns : Nat} {G : zH} {b N i hx x oa : Nat} {xs : Nat → Int32} (hX : va_X b N xs s s.heap) (hbl : b < s.heap.size) (hbA : ¬ zA κ b) (hN : N < 2 ^ 31) (hi : i + 6 ≤ N) (hI : IV κ G hx x oa) (hnc : nc + 401 + 1 ≤ 601024 ∧ ns + 11629 + 400 ≤ 7293033) (k : ∀ (nc2 ns2 : Nat) (G2 : zH), nc2 ≤ nc + 401 + 1 → ns2 ≤ ns + 11629 + 400 → IV κ G2 hx x oa → Z p l e room_1 s m args below meth c (yLw nm) cL_law 7 ret κ Q nc2 ns2 G2 (lwL b hx x oa i) 1132 []) : Z p l e room_1 s m args below meth c (yLw nm) cL_law 7 ret κ Q nc ns G (lwL b hx x oa i) 299 [] := by
  have q1 : nc + 401 ≤ 601024 := by omega
  have q2 : ns + 11629 ≤ 7293033 := by omega
  obtain ⟨fs, hb⟩ := hI.hx
  refine z_al1 (pc := 299) dL_law_299 ?_
  refine z_arg (pc := 300) (ki := 1) hX hbl hbA hN rfl rfl dL_law_300 dL_law_301 dL_law_303 dL_law_304 dL_law_305 (by decide) (by omega) ?_
  refine z_callVi (pc := 306) _ (st_forge (xs (i + 1)) hI) rfl hb rfl rfl kw_373 zc_X7_forge ⟨Nat.le_of_ble_eq_true rfl, Nat.le_of_ble_eq_true rfl, (by refine Nat.le_trans (Nat.add_le_add_left ?_ nc) q1; exact Nat.le_of_ble_eq_true rfl), (by refine Nat.le_trans (Nat.add_le_add_left ?_ ns) q2; exact Nat.le_of_ble_eq_true rfl)⟩ rfl (Nat.le_of_ble_eq_true rfl) dL_law_306 (fun r G2 hv => ?_)
  obtain ⟨⟨fs2, hx2⟩, hm⟩ := hv
  refine z_aload_n (pc := 309) 2 dL_law_309 rfl rfl ⟨some x, rfl⟩ ?_
  refine z_arg (pc := 310) (ki := 1) hX hbl hbA hN rfl rfl dL_law_310 dL_law_311 dL_law_313 dL_law_314 dL_law_315 (by decide) (by omega) ?_
  refine z_callVi (pc := 316) _ hm rfl hx2 rfl rfl kw_855 zc_X8_forge ⟨Nat.le_of_ble_eq_true rfl, Nat.le_of_ble_eq_true rfl, (by refine Nat.le_trans (Nat.add_le_add (Nat.add_le_add_left ?_ nc) ?_) hnc.1 <;> exact Nat.le_of_ble_eq_true rfl), (by refine Nat.le_trans (Nat.add_le_add (Nat.add_le_add_left ?_ ns) ?_) hnc.2 <;> exact Nat.le_of_ble_eq_true rfl)⟩ rfl (Nat.le_of_ble_eq_true rfl) dL_law_316 (fun r2 G3 hv2 => ?_)
  obtain ⟨rfl, hI3⟩ := hv2
  exact z_icmp_eq (pc := 319) 1132 dL_law_319 rfl (fun _ => k _ _ _ (by refine Nat.add_le_add (Nat.add_le_add_left ?_ nc) ?_ <;> exact Nat.le_of_ble_eq_true rfl) (by refine Nat.add_le_add (Nat.add_le_add_left ?_ ns) ?_ <;> exact Nat.le_of_ble_eq_true rfl) hI3) (fun h => absurd rfl h)
set_option maxRecDepth 100000 in
set_option maxHeartbeats 400000 in
theorem lw_doubles {p : Program} {l : Launch} {e : Env} {s : State} {m : MethodId} {args : Array Value} {below : List Frame} {meth : Method} {c : Code} {nm : String} {κ : zK} {Q : State → Prop} {nc ns : Nat} {G : zH} {b N i hx x oa : Nat} {xs : Nat → Int32} (hX : va_X b N xs s s.heap) (hbl : b < s.heap.size) (hbA : ¬ zA κ b) (hN : N < 2 ^ 31) (hi : i + 6 ≤ N) (hI : IV κ G hx x oa) (hnc : nc + 401 + 1 ≤ 601024 ∧ ns + 11629 + 400 ≤ 7293033) (k : ∀ (nc2 ns2 : Nat) (G2 : zH), nc2 ≤ nc + 401 + 1 → ns2 ≤ ns + 11629 + 400 → IV κ G2 hx x oa → Z p l e room_1 s m args below meth c (yLw nm) cL_law 7 ret κ Q nc2 ns2 G2 (lwL b hx x oa i) 1132 []) : Z p l e room_1 s m args below meth c (yLw nm) cL_law 7 ret κ Q nc ns G (lwL b hx x oa i) 324 [] := by
  have q1 : nc + 401 ≤ 601024 := by omega
  have q2 : ns + 11629 ≤ 7293033 := by omega
  obtain ⟨fs, hb⟩ := hI.hx
  refine z_al1 (pc := 324) dL_law_324 ?_
  refine z_arg (pc := 325) (ki := 1) hX hbl hbA hN rfl rfl dL_law_325 dL_law_326 dL_law_328 dL_law_329 dL_law_330 (by decide) (by omega) ?_
  refine z_arg (pc := 331) (ki := 2) hX hbl hbA hN rfl rfl dL_law_331 dL_law_332 dL_law_334 dL_law_335 dL_law_336 (by decide) (by omega) ?_
  refine z_callVi (pc := 337) _ (st_doubles (xs (i + 1)) (xs (i + 2)) hI) rfl hb rfl rfl kw_385 zc_X7_doubles ⟨Nat.le_of_ble_eq_true rfl, Nat.le_of_ble_eq_true rfl, (by refine Nat.le_trans (Nat.add_le_add_left ?_ nc) q1; exact Nat.le_of_ble_eq_true rfl), (by refine Nat.le_trans (Nat.add_le_add_left ?_ ns) q2; exact Nat.le_of_ble_eq_true rfl)⟩ rfl (Nat.le_of_ble_eq_true rfl) dL_law_337 (fun r G2 hv => ?_)
  obtain ⟨⟨fs2, hx2⟩, hm⟩ := hv
  refine z_aload_n (pc := 340) 2 dL_law_340 rfl rfl ⟨some x, rfl⟩ ?_
  refine z_arg (pc := 341) (ki := 1) hX hbl hbA hN rfl rfl dL_law_341 dL_law_342 dL_law_344 dL_law_345 dL_law_346 (by decide) (by omega) ?_
  refine z_arg (pc := 347) (ki := 2) hX hbl hbA hN rfl rfl dL_law_347 dL_law_348 dL_law_350 dL_law_351 dL_law_352 (by decide) (by omega) ?_
  refine z_callVi (pc := 353) _ hm rfl hx2 rfl rfl kw_859 zc_X8_doubles ⟨Nat.le_of_ble_eq_true rfl, Nat.le_of_ble_eq_true rfl, (by refine Nat.le_trans (Nat.add_le_add (Nat.add_le_add_left ?_ nc) ?_) hnc.1 <;> exact Nat.le_of_ble_eq_true rfl), (by refine Nat.le_trans (Nat.add_le_add (Nat.add_le_add_left ?_ ns) ?_) hnc.2 <;> exact Nat.le_of_ble_eq_true rfl)⟩ rfl (Nat.le_of_ble_eq_true rfl) dL_law_353 (fun r2 G3 hv2 => ?_)
  obtain ⟨rfl, hI3⟩ := hv2
  exact z_icmp_eq (pc := 356) 1132 dL_law_356 rfl (fun _ => k _ _ _ (by refine Nat.add_le_add (Nat.add_le_add_left ?_ nc) ?_ <;> exact Nat.le_of_ble_eq_true rfl) (by refine Nat.add_le_add (Nat.add_le_add_left ?_ ns) ?_ <;> exact Nat.le_of_ble_eq_true rfl) hI3) (fun h => absurd rfl h)
set_option maxRecDepth 100000 in
set_option maxHeartbeats 400000 in
theorem lw_days {p : Program} {l : Launch} {e : Env} {s : State} {m : MethodId} {args : Array Value} {below : List Frame} {meth : Method} {c : Code} {nm : String} {κ : zK} {Q : State → Prop} {nc ns : Nat} {G : zH} {b N i hx x oa : Nat} {xs : Nat → Int32} (hX : va_X b N xs s s.heap) (hbl : b < s.heap.size) (hbA : ¬ zA κ b) (hN : N < 2 ^ 31) (hi : i + 6 ≤ N) (hI : IV κ G hx x oa) (hnc : nc + 401 + 1 ≤ 601024 ∧ ns + 11629 + 400 ≤ 7293033) (k : ∀ (nc2 ns2 : Nat) (G2 : zH), nc2 ≤ nc + 401 + 1 → ns2 ≤ ns + 11629 + 400 → IV κ G2 hx x oa → Z p l e room_1 s m args below meth c (yLw nm) cL_law 7 ret κ Q nc2 ns2 G2 (lwL b hx x oa i) 1132 []) : Z p l e room_1 s m args below meth c (yLw nm) cL_law 7 ret κ Q nc ns G (lwL b hx x oa i) 361 [] := by
  have q1 : nc + 401 ≤ 601024 := by omega
  have q2 : ns + 11629 ≤ 7293033 := by omega
  obtain ⟨fs, hb⟩ := hI.hx
  refine z_al1 (pc := 361) dL_law_361 ?_
  refine z_arg (pc := 362) (ki := 1) hX hbl hbA hN rfl rfl dL_law_362 dL_law_363 dL_law_365 dL_law_366 dL_law_367 (by decide) (by omega) ?_
  refine z_callVi (pc := 368) _ (st_days (xs (i + 1)) hI) rfl hb rfl rfl kw_410 zc_X7_days ⟨Nat.le_of_ble_eq_true rfl, Nat.le_of_ble_eq_true rfl, (by refine Nat.le_trans (Nat.add_le_add_left ?_ nc) q1; exact Nat.le_of_ble_eq_true rfl), (by refine Nat.le_trans (Nat.add_le_add_left ?_ ns) q2; exact Nat.le_of_ble_eq_true rfl)⟩ rfl (Nat.le_of_ble_eq_true rfl) dL_law_368 (fun r G2 hv => ?_)
  obtain ⟨⟨fs2, hx2⟩, hm⟩ := hv
  refine z_aload_n (pc := 371) 2 dL_law_371 rfl rfl ⟨some x, rfl⟩ ?_
  refine z_arg (pc := 372) (ki := 1) hX hbl hbA hN rfl rfl dL_law_372 dL_law_373 dL_law_375 dL_law_376 dL_law_377 (by decide) (by omega) ?_
  refine z_callVi (pc := 378) _ hm rfl hx2 rfl rfl kw_863 zc_X8_days ⟨Nat.le_of_ble_eq_true rfl, Nat.le_of_ble_eq_true rfl, (by refine Nat.le_trans (Nat.add_le_add (Nat.add_le_add_left ?_ nc) ?_) hnc.1 <;> exact Nat.le_of_ble_eq_true rfl), (by refine Nat.le_trans (Nat.add_le_add (Nat.add_le_add_left ?_ ns) ?_) hnc.2 <;> exact Nat.le_of_ble_eq_true rfl)⟩ rfl (Nat.le_of_ble_eq_true rfl) dL_law_378 (fun r2 G3 hv2 => ?_)
  obtain ⟨rfl, hI3⟩ := hv2
  exact z_icmp_eq (pc := 381) 1132 dL_law_381 rfl (fun _ => k _ _ _ (by refine Nat.add_le_add (Nat.add_le_add_left ?_ nc) ?_ <;> exact Nat.le_of_ble_eq_true rfl) (by refine Nat.add_le_add (Nat.add_le_add_left ?_ ns) ?_ <;> exact Nat.le_of_ble_eq_true rfl) hI3) (fun h => absurd rfl h)
set_option maxRecDepth 100000 in
set_option maxHeartbeats 400000 in
theorem lw_price {p : Program} {l : Launch} {e : Env} {s : State} {m : MethodId} {args : Array Value} {below : List Frame} {meth : Method} {c : Code} {nm : String} {κ : zK} {Q : State → Prop} {nc ns : Nat} {G : zH} {b N i hx x oa : Nat} {xs : Nat → Int32} (hX : va_X b N xs s s.heap) (hbl : b < s.heap.size) (hbA : ¬ zA κ b) (hN : N < 2 ^ 31) (hi : i + 6 ≤ N) (hI : IV κ G hx x oa) (hnc : nc + 401 + 1 ≤ 601024 ∧ ns + 11629 + 400 ≤ 7293033) (k : ∀ (nc2 ns2 : Nat) (G2 : zH), nc2 ≤ nc + 401 + 1 → ns2 ≤ ns + 11629 + 400 → IV κ G2 hx x oa → Z p l e room_1 s m args below meth c (yLw nm) cL_law 7 ret κ Q nc2 ns2 G2 (lwL b hx x oa i) 1132 []) : Z p l e room_1 s m args below meth c (yLw nm) cL_law 7 ret κ Q nc ns G (lwL b hx x oa i) 386 [] := by
  have q1 : nc + 401 ≤ 601024 := by omega
  have q2 : ns + 11629 ≤ 7293033 := by omega
  obtain ⟨fs, hb⟩ := hI.hx
  refine z_al1 (pc := 386) dL_law_386 ?_
  refine z_arg (pc := 387) (ki := 1) hX hbl hbA hN rfl rfl dL_law_387 dL_law_388 dL_law_390 dL_law_391 dL_law_392 (by decide) (by omega) ?_
  refine z_arg (pc := 393) (ki := 2) hX hbl hbA hN rfl rfl dL_law_393 dL_law_394 dL_law_396 dL_law_397 dL_law_398 (by decide) (by omega) ?_
  refine z_callVi (pc := 399) _ (st_price (xs (i + 1)) (xs (i + 2)) hI) rfl hb rfl rfl kw_414 zc_X7_price ⟨Nat.le_of_ble_eq_true rfl, Nat.le_of_ble_eq_true rfl, (by refine Nat.le_trans (Nat.add_le_add_left ?_ nc) q1; exact Nat.le_of_ble_eq_true rfl), (by refine Nat.le_trans (Nat.add_le_add_left ?_ ns) q2; exact Nat.le_of_ble_eq_true rfl)⟩ rfl (Nat.le_of_ble_eq_true rfl) dL_law_399 (fun r G2 hv => ?_)
  obtain ⟨⟨fs2, hx2⟩, hm⟩ := hv
  refine z_aload_n (pc := 402) 2 dL_law_402 rfl rfl ⟨some x, rfl⟩ ?_
  refine z_arg (pc := 403) (ki := 1) hX hbl hbA hN rfl rfl dL_law_403 dL_law_404 dL_law_406 dL_law_407 dL_law_408 (by decide) (by omega) ?_
  refine z_arg (pc := 409) (ki := 2) hX hbl hbA hN rfl rfl dL_law_409 dL_law_410 dL_law_412 dL_law_413 dL_law_414 (by decide) (by omega) ?_
  refine z_callVi (pc := 415) _ hm rfl hx2 rfl rfl kw_867 zc_X8_price ⟨Nat.le_of_ble_eq_true rfl, Nat.le_of_ble_eq_true rfl, (by refine Nat.le_trans (Nat.add_le_add (Nat.add_le_add_left ?_ nc) ?_) hnc.1 <;> exact Nat.le_of_ble_eq_true rfl), (by refine Nat.le_trans (Nat.add_le_add (Nat.add_le_add_left ?_ ns) ?_) hnc.2 <;> exact Nat.le_of_ble_eq_true rfl)⟩ rfl (Nat.le_of_ble_eq_true rfl) dL_law_415 (fun r2 G3 hv2 => ?_)
  obtain ⟨rfl, hI3⟩ := hv2
  exact z_icmp_eq (pc := 418) 1132 dL_law_418 rfl (fun _ => k _ _ _ (by refine Nat.add_le_add (Nat.add_le_add_left ?_ nc) ?_ <;> exact Nat.le_of_ble_eq_true rfl) (by refine Nat.add_le_add (Nat.add_le_add_left ?_ ns) ?_ <;> exact Nat.le_of_ble_eq_true rfl) hI3) (fun h => absurd rfl h)
theorem lg_cmp_rf (x : Int64) : lg_cmp x x = 0 := by unfold lg_cmp; simp
set_option maxRecDepth 100000 in
set_option maxHeartbeats 400000 in
theorem lw_at {p : Program} {l : Launch} {e : Env} {s : State} {m : MethodId} {args : Array Value} {below : List Frame} {meth : Method} {c : Code} {nm : String} {κ : zK} {Q : State → Prop} {nc ns : Nat} {G : zH} {b N i hx x oa : Nat} {xs : Nat → Int32} (hl9 : l.stackTraces = false) (hX : va_X b N xs s s.heap) (hbl : b < s.heap.size) (hbA : ¬ zA κ b) (hN : N < 2 ^ 31) (hi : i + 6 ≤ N) (hI : IV κ G hx x oa) (hnc : nc + 401 + 1 ≤ 601024 ∧ ns + 11629 + 400 ≤ 7293033) (k : ∀ (nc2 ns2 : Nat) (G2 : zH), nc2 ≤ nc + 401 + 1 → ns2 ≤ ns + 11629 + 400 → IV κ G2 hx x oa → Z p l e room_1 s m args below meth c (yLw nm) cL_law 7 ret κ Q nc2 ns2 G2 (lwL b hx x oa i) 1132 []) : Z p l e room_1 s m args below meth c (yLw nm) cL_law 7 ret κ Q nc ns G (lwL b hx x oa i) 423 [] := by
  have q1 : nc + 401 ≤ 601024 := by omega
  have q2 : ns + 11629 ≤ 7293033 := by omega
  obtain ⟨fs, hb⟩ := hI.hx
  refine z_al1 (pc := 423) dL_law_423 ?_
  refine z_arg (pc := 424) (ki := 1) hX hbl hbA hN rfl rfl dL_law_424 dL_law_425 dL_law_427 dL_law_428 dL_law_429 (by decide) (by omega) ?_
  refine z_arg (pc := 430) (ki := 2) hX hbl hbA hN rfl rfl dL_law_430 dL_law_431 dL_law_433 dL_law_434 dL_law_435 (by decide) (by omega) ?_
  refine z_arg (pc := 436) (ki := 3) hX hbl hbA hN rfl rfl dL_law_436 dL_law_437 dL_law_439 dL_law_440 dL_law_441 (by decide) (by omega) ?_
  refine z_arg (pc := 442) (ki := 4) hX hbl hbA hN rfl rfl dL_law_442 dL_law_443 dL_law_445 dL_law_446 dL_law_447 (by decide) (by omega) ?_
  refine z_aload_n (pc := 448) 3 dL_law_448 rfl rfl ⟨some oa, rfl⟩ ?_
  refine z_callSW (pc := 449) (st_at hl9 (xs (i + 1)) (xs (i + 2)) (xs (i + 3)) (xs (i + 4)) hI) kw_646 kw_647 kw_0 kw_648 (show zcM yL_at 6 from ⟨by decide +kernel, by decide +kernel, by decide +kernel⟩) ⟨Nat.le_of_ble_eq_true rfl, Nat.le_of_ble_eq_true rfl, (by refine Nat.le_trans (Nat.add_le_add_left ?_ nc) q1; exact Nat.le_of_ble_eq_true rfl), (by refine Nat.le_trans (Nat.add_le_add_left ?_ ns) q2; exact Nat.le_of_ble_eq_true rfl)⟩ rfl (Nat.le_of_ble_eq_true rfl) dL_law_449 (fun r G2 hv => ?_)
  obtain ⟨r, rfl, ⟨fs2, hx2⟩, hm⟩ := hv
  refine z_istore (pc := 452) 5 dL_law_452 (by decide) rfl ?_
  refine z_aload_n (pc := 454) 2 dL_law_454 rfl rfl ⟨some x, rfl⟩ ?_
  refine z_arg (pc := 455) (ki := 1) hX hbl hbA hN rfl rfl dL_law_455 dL_law_456 dL_law_458 dL_law_459 dL_law_460 (by decide) (by omega) ?_
  refine z_arg (pc := 461) (ki := 2) hX hbl hbA hN rfl rfl dL_law_461 dL_law_462 dL_law_464 dL_law_465 dL_law_466 (by decide) (by omega) ?_
  refine z_arg (pc := 467) (ki := 3) hX hbl hbA hN rfl rfl dL_law_467 dL_law_468 dL_law_470 dL_law_471 dL_law_472 (by decide) (by omega) ?_
  refine z_arg (pc := 473) (ki := 4) hX hbl hbA hN rfl rfl dL_law_473 dL_law_474 dL_law_476 dL_law_477 dL_law_478 (by decide) (by omega) ?_
  refine z_callVi (pc := 479) _ hm rfl hx2 rfl rfl kw_871 zc_X8_at ⟨Nat.le_of_ble_eq_true rfl, Nat.le_of_ble_eq_true rfl, (by refine Nat.le_trans (Nat.add_le_add (Nat.add_le_add_left ?_ nc) ?_) hnc.1 <;> exact Nat.le_of_ble_eq_true rfl), (by refine Nat.le_trans (Nat.add_le_add (Nat.add_le_add_left ?_ ns) ?_) hnc.2 <;> exact Nat.le_of_ble_eq_true rfl)⟩ rfl (Nat.le_of_ble_eq_true rfl) dL_law_479 (fun r2 G3 hv2 => ?_)
  obtain ⟨⟨fs3, hx3⟩, hI3, hth, hz⟩ := hv2
  refine z_istore (pc := 482) 6 dL_law_482 (by decide) rfl ?_
  refine z_aload_n (pc := 484) 2 dL_law_484 rfl rfl ⟨some x, rfl⟩ ?_
  refine z_callVi (pc := 485) _ hth rfl hx3 rfl rfl kw_829 zc_X8_thrown ⟨Nat.le_of_ble_eq_true rfl, Nat.le_of_ble_eq_true rfl, (by refine Nat.le_trans (Nat.add_le_add (Nat.add_le_add_left ?_ nc) ?_) hnc.1 <;> exact Nat.le_of_ble_eq_true rfl), (by refine Nat.le_trans (Nat.add_le_add (Nat.add_le_add_left ?_ ns) ?_) hnc.2 <;> exact Nat.le_of_ble_eq_true rfl)⟩ rfl (Nat.le_of_ble_eq_true rfl) dL_law_485 (fun r3 G4 hv3 => ?_)
  obtain ⟨rfl, rfl⟩ := hv3
  refine z_iload (pc := 488) 5 dL_law_488 rfl ?_
  refine z_icmp_eq (pc := 490) 495 dL_law_490 rfl (fun _ => ?_) (fun h => absurd rfl h)
  refine z_iload (pc := 495) 5 dL_law_495 rfl ?_
  have KK : Z p l e room_1 s m args below meth c (yLw nm) cL_law 7 ret κ Q (nc + ((rmK 9 1 6 300)).cells + rX8_at.cells) (ns + ((rmK 9 1 6 300)).slots + rX8_at.slots) G4 [some (.ref b), some (.ref hx), some (.ref x), some (.ref oa), some (.int (nI i)), some (.int r3), some (.int r2)] 512 [] := z_goto (pc := 512) 1132 dL_law_512 rfl (z_fgt (L' := lwL b hx x oa i) (fun j v h => by rcases j with _ | _ | _ | _ | _ | _ | _ | j <;> first | exact h | cases h) (k _ _ _ (by refine Nat.add_le_add (Nat.add_le_add_left ?_ nc) ?_ <;> exact Nat.le_of_ble_eq_true rfl) (by refine Nat.add_le_add (Nat.add_le_add_left ?_ ns) ?_ <;> exact Nat.le_of_ble_eq_true rfl) hI3))
  refine z_if_ne (pc := 497) 512 dL_law_497 rfl (fun _ => KK) (fun h0 => ?_)
  obtain ⟨f, hf, hf0⟩ := hz h0
  refine z_aload_n (pc := 500) 3 dL_law_500 rfl rfl ⟨some oa, rfl⟩ ?_
  refine z_iconst (pc := 501) 0 (by decide) dL_law_501 ?_
  refine z_lald (pc := 502) 0 hf rfl (by decide) (by decide) dL_law_502 ?_
  refine z_iload (pc := 503) 6 dL_law_503 rfl ?_
  refine z_i2l (pc := 505) dL_law_505 ?_
  refine z_lcmp (pc := 506) dL_law_506 ?_
  exact z_if_eq (pc := 507) 512 dL_law_507 rfl (fun _ => KK) (fun h => absurd (by rw [hf0]; exact lg_cmp_rf _) h)
set_option maxRecDepth 100000 in
set_option maxHeartbeats 400000 in
theorem lw_distance {p : Program} {l : Launch} {e : Env} {s : State} {m : MethodId} {args : Array Value} {below : List Frame} {meth : Method} {c : Code} {nm : String} {κ : zK} {Q : State → Prop} {nc ns : Nat} {G : zH} {b N i hx x oa : Nat} {xs : Nat → Int32} (hX : va_X b N xs s s.heap) (hbl : b < s.heap.size) (hbA : ¬ zA κ b) (hN : N < 2 ^ 31) (hi : i + 6 ≤ N) (hI : IV κ G hx x oa) (hnc : nc + 401 + 1 ≤ 601024 ∧ ns + 11629 + 400 ≤ 7293033) (k : ∀ (nc2 ns2 : Nat) (G2 : zH), nc2 ≤ nc + 401 + 1 → ns2 ≤ ns + 11629 + 400 → IV κ G2 hx x oa → Z p l e room_1 s m args below meth c (yLw nm) cL_law 7 ret κ Q nc2 ns2 G2 (lwL b hx x oa i) 1132 []) : Z p l e room_1 s m args below meth c (yLw nm) cL_law 7 ret κ Q nc ns G (lwL b hx x oa i) 515 [] := by
  have q1 : nc + 401 ≤ 601024 := by omega
  have q2 : ns + 11629 ≤ 7293033 := by omega
  obtain ⟨fs, hb⟩ := hI.hx
  refine z_al1 (pc := 515) dL_law_515 ?_
  refine z_arg (pc := 516) (ki := 1) hX hbl hbA hN rfl rfl dL_law_516 dL_law_517 dL_law_519 dL_law_520 dL_law_521 (by decide) (by omega) ?_
  refine z_arg (pc := 522) (ki := 2) hX hbl hbA hN rfl rfl dL_law_522 dL_law_523 dL_law_525 dL_law_526 dL_law_527 (by decide) (by omega) ?_
  refine z_arg (pc := 528) (ki := 3) hX hbl hbA hN rfl rfl dL_law_528 dL_law_529 dL_law_531 dL_law_532 dL_law_533 (by decide) (by omega) ?_
  refine z_callVi (pc := 534) _ (st_distance (xs (i + 1)) (xs (i + 2)) (xs (i + 3)) hI) rfl hb rfl rfl kw_429 zc_X7_distance ⟨Nat.le_of_ble_eq_true rfl, Nat.le_of_ble_eq_true rfl, (by refine Nat.le_trans (Nat.add_le_add_left ?_ nc) q1; exact Nat.le_of_ble_eq_true rfl), (by refine Nat.le_trans (Nat.add_le_add_left ?_ ns) q2; exact Nat.le_of_ble_eq_true rfl)⟩ rfl (Nat.le_of_ble_eq_true rfl) dL_law_534 (fun r G2 hv => ?_)
  obtain ⟨⟨fs2, hx2⟩, hm⟩ := hv
  refine z_aload_n (pc := 537) 2 dL_law_537 rfl rfl ⟨some x, rfl⟩ ?_
  refine z_arg (pc := 538) (ki := 1) hX hbl hbA hN rfl rfl dL_law_538 dL_law_539 dL_law_541 dL_law_542 dL_law_543 (by decide) (by omega) ?_
  refine z_arg (pc := 544) (ki := 2) hX hbl hbA hN rfl rfl dL_law_544 dL_law_545 dL_law_547 dL_law_548 dL_law_549 (by decide) (by omega) ?_
  refine z_arg (pc := 550) (ki := 3) hX hbl hbA hN rfl rfl dL_law_550 dL_law_551 dL_law_553 dL_law_554 dL_law_555 (by decide) (by omega) ?_
  refine z_callVi (pc := 556) _ hm rfl hx2 rfl rfl kw_883 zc_X8_distance ⟨Nat.le_of_ble_eq_true rfl, Nat.le_of_ble_eq_true rfl, (by refine Nat.le_trans (Nat.add_le_add (Nat.add_le_add_left ?_ nc) ?_) hnc.1 <;> exact Nat.le_of_ble_eq_true rfl), (by refine Nat.le_trans (Nat.add_le_add (Nat.add_le_add_left ?_ ns) ?_) hnc.2 <;> exact Nat.le_of_ble_eq_true rfl)⟩ rfl (Nat.le_of_ble_eq_true rfl) dL_law_556 (fun r2 G3 hv2 => ?_)
  obtain ⟨rfl, hI3⟩ := hv2
  exact z_icmp_eq (pc := 559) 1132 dL_law_559 rfl (fun _ => k _ _ _ (by refine Nat.add_le_add (Nat.add_le_add_left ?_ nc) ?_ <;> exact Nat.le_of_ble_eq_true rfl) (by refine Nat.add_le_add (Nat.add_le_add_left ?_ ns) ?_ <;> exact Nat.le_of_ble_eq_true rfl) hI3) (fun h => absurd rfl h)
set_option maxRecDepth 100000 in
set_option maxHeartbeats 400000 in
theorem lw_key {p : Program} {l : Launch} {e : Env} {s : State} {m : MethodId} {args : Array Value} {below : List Frame} {meth : Method} {c : Code} {nm : String} {κ : zK} {Q : State → Prop} {nc ns : Nat} {G : zH} {b N i hx x oa : Nat} {xs : Nat → Int32} (hX : va_X b N xs s s.heap) (hbl : b < s.heap.size) (hbA : ¬ zA κ b) (hN : N < 2 ^ 31) (hi : i + 6 ≤ N) (hI : IV κ G hx x oa) (hnc : nc + 401 + 1 ≤ 601024 ∧ ns + 11629 + 400 ≤ 7293033) (k : ∀ (nc2 ns2 : Nat) (G2 : zH), nc2 ≤ nc + 401 + 1 → ns2 ≤ ns + 11629 + 400 → IV κ G2 hx x oa → Z p l e room_1 s m args below meth c (yLw nm) cL_law 7 ret κ Q nc2 ns2 G2 (lwL b hx x oa i) 1132 []) : Z p l e room_1 s m args below meth c (yLw nm) cL_law 7 ret κ Q nc ns G (lwL b hx x oa i) 564 [] := by
  have q1 : nc + 401 ≤ 601024 := by omega
  have q2 : ns + 11629 ≤ 7293033 := by omega
  obtain ⟨fs, hb⟩ := hI.hx
  refine z_al1 (pc := 564) dL_law_564 ?_
  refine z_arg (pc := 565) (ki := 1) hX hbl hbA hN rfl rfl dL_law_565 dL_law_566 dL_law_568 dL_law_569 dL_law_570 (by decide) (by omega) ?_
  refine z_arg (pc := 571) (ki := 2) hX hbl hbA hN rfl rfl dL_law_571 dL_law_572 dL_law_574 dL_law_575 dL_law_576 (by decide) (by omega) ?_
  refine z_arg (pc := 577) (ki := 3) hX hbl hbA hN rfl rfl dL_law_577 dL_law_578 dL_law_580 dL_law_581 dL_law_582 (by decide) (by omega) ?_
  refine z_callVi (pc := 583) _ (st_key (xs (i + 1)) (xs (i + 2)) (xs (i + 3)) hI) rfl hb rfl rfl kw_487 zc_X7_key ⟨Nat.le_of_ble_eq_true rfl, Nat.le_of_ble_eq_true rfl, (by refine Nat.le_trans (Nat.add_le_add_left ?_ nc) q1; exact Nat.le_of_ble_eq_true rfl), (by refine Nat.le_trans (Nat.add_le_add_left ?_ ns) q2; exact Nat.le_of_ble_eq_true rfl)⟩ rfl (Nat.le_of_ble_eq_true rfl) dL_law_583 (fun r G2 hv => ?_)
  obtain ⟨⟨fs2, hx2⟩, hm⟩ := hv
  refine z_aload_n (pc := 586) 2 dL_law_586 rfl rfl ⟨some x, rfl⟩ ?_
  refine z_arg (pc := 587) (ki := 1) hX hbl hbA hN rfl rfl dL_law_587 dL_law_588 dL_law_590 dL_law_591 dL_law_592 (by decide) (by omega) ?_
  refine z_arg (pc := 593) (ki := 2) hX hbl hbA hN rfl rfl dL_law_593 dL_law_594 dL_law_596 dL_law_597 dL_law_598 (by decide) (by omega) ?_
  refine z_arg (pc := 599) (ki := 3) hX hbl hbA hN rfl rfl dL_law_599 dL_law_600 dL_law_602 dL_law_603 dL_law_604 (by decide) (by omega) ?_
  refine z_callVi (pc := 605) _ hm rfl hx2 rfl rfl kw_916 zc_X8_key ⟨Nat.le_of_ble_eq_true rfl, Nat.le_of_ble_eq_true rfl, (by refine Nat.le_trans (Nat.add_le_add (Nat.add_le_add_left ?_ nc) ?_) hnc.1 <;> exact Nat.le_of_ble_eq_true rfl), (by refine Nat.le_trans (Nat.add_le_add (Nat.add_le_add_left ?_ ns) ?_) hnc.2 <;> exact Nat.le_of_ble_eq_true rfl)⟩ rfl (Nat.le_of_ble_eq_true rfl) dL_law_605 (fun r2 G3 hv2 => ?_)
  obtain ⟨rfl, hI3⟩ := hv2
  exact z_icmp_eq (pc := 608) 1132 dL_law_608 rfl (fun _ => k _ _ _ (by refine Nat.add_le_add (Nat.add_le_add_left ?_ nc) ?_ <;> exact Nat.le_of_ble_eq_true rfl) (by refine Nat.add_le_add (Nat.add_le_add_left ?_ ns) ?_ <;> exact Nat.le_of_ble_eq_true rfl) hI3) (fun h => absurd rfl h)
set_option maxRecDepth 100000 in
set_option maxHeartbeats 400000 in
theorem lw_column {p : Program} {l : Launch} {e : Env} {s : State} {m : MethodId} {args : Array Value} {below : List Frame} {meth : Method} {c : Code} {nm : String} {κ : zK} {Q : State → Prop} {nc ns : Nat} {G : zH} {b N i hx x oa : Nat} {xs : Nat → Int32} (hX : va_X b N xs s s.heap) (hbl : b < s.heap.size) (hbA : ¬ zA κ b) (hN : N < 2 ^ 31) (hi : i + 6 ≤ N) (hI : IV κ G hx x oa) (hnc : nc + 401 + 1 ≤ 601024 ∧ ns + 11629 + 400 ≤ 7293033) (k : ∀ (nc2 ns2 : Nat) (G2 : zH), nc2 ≤ nc + 401 + 1 → ns2 ≤ ns + 11629 + 400 → IV κ G2 hx x oa → Z p l e room_1 s m args below meth c (yLw nm) cL_law 7 ret κ Q nc2 ns2 G2 (lwL b hx x oa i) 1132 []) : Z p l e room_1 s m args below meth c (yLw nm) cL_law 7 ret κ Q nc ns G (lwL b hx x oa i) 613 [] := by
  have q1 : nc + 401 ≤ 601024 := by omega
  have q2 : ns + 11629 ≤ 7293033 := by omega
  obtain ⟨fs, hb⟩ := hI.hx
  refine z_al1 (pc := 613) dL_law_613 ?_
  refine z_arg (pc := 614) (ki := 1) hX hbl hbA hN rfl rfl dL_law_614 dL_law_615 dL_law_617 dL_law_618 dL_law_619 (by decide) (by omega) ?_
  refine z_arg (pc := 620) (ki := 2) hX hbl hbA hN rfl rfl dL_law_620 dL_law_621 dL_law_623 dL_law_624 dL_law_625 (by decide) (by omega) ?_
  refine z_arg (pc := 626) (ki := 3) hX hbl hbA hN rfl rfl dL_law_626 dL_law_627 dL_law_629 dL_law_630 dL_law_631 (by decide) (by omega) ?_
  refine z_arg (pc := 632) (ki := 4) hX hbl hbA hN rfl rfl dL_law_632 dL_law_633 dL_law_635 dL_law_636 dL_law_637 (by decide) (by omega) ?_
  refine z_arg (pc := 638) (ki := 5) hX hbl hbA hN rfl rfl dL_law_638 dL_law_639 dL_law_641 dL_law_642 dL_law_643 (by decide) (by omega) ?_
  refine z_callVi (pc := 644) _ (st_column (xs (i + 1)) (xs (i + 2)) (xs (i + 3)) (xs (i + 4)) (xs (i + 5)) hI) rfl hb rfl rfl kw_495 zc_X7_column ⟨Nat.le_of_ble_eq_true rfl, Nat.le_of_ble_eq_true rfl, (by refine Nat.le_trans (Nat.add_le_add_left ?_ nc) q1; exact Nat.le_of_ble_eq_true rfl), (by refine Nat.le_trans (Nat.add_le_add_left ?_ ns) q2; exact Nat.le_of_ble_eq_true rfl)⟩ rfl (Nat.le_of_ble_eq_true rfl) dL_law_644 (fun r G2 hv => ?_)
  obtain ⟨⟨fs2, hx2⟩, hm⟩ := hv
  refine z_aload_n (pc := 647) 2 dL_law_647 rfl rfl ⟨some x, rfl⟩ ?_
  refine z_arg (pc := 648) (ki := 1) hX hbl hbA hN rfl rfl dL_law_648 dL_law_649 dL_law_651 dL_law_652 dL_law_653 (by decide) (by omega) ?_
  refine z_arg (pc := 654) (ki := 2) hX hbl hbA hN rfl rfl dL_law_654 dL_law_655 dL_law_657 dL_law_658 dL_law_659 (by decide) (by omega) ?_
  refine z_arg (pc := 660) (ki := 3) hX hbl hbA hN rfl rfl dL_law_660 dL_law_661 dL_law_663 dL_law_664 dL_law_665 (by decide) (by omega) ?_
  refine z_arg (pc := 666) (ki := 4) hX hbl hbA hN rfl rfl dL_law_666 dL_law_667 dL_law_669 dL_law_670 dL_law_671 (by decide) (by omega) ?_
  refine z_arg (pc := 672) (ki := 5) hX hbl hbA hN rfl rfl dL_law_672 dL_law_673 dL_law_675 dL_law_676 dL_law_677 (by decide) (by omega) ?_
  refine z_callVi (pc := 678) _ hm rfl hx2 rfl rfl kw_920 zc_X8_column ⟨Nat.le_of_ble_eq_true rfl, Nat.le_of_ble_eq_true rfl, (by refine Nat.le_trans (Nat.add_le_add (Nat.add_le_add_left ?_ nc) ?_) hnc.1 <;> exact Nat.le_of_ble_eq_true rfl), (by refine Nat.le_trans (Nat.add_le_add (Nat.add_le_add_left ?_ ns) ?_) hnc.2 <;> exact Nat.le_of_ble_eq_true rfl)⟩ rfl (Nat.le_of_ble_eq_true rfl) dL_law_678 (fun r2 G3 hv2 => ?_)
  obtain ⟨rfl, hI3⟩ := hv2
  exact z_icmp_eq (pc := 681) 1132 dL_law_681 rfl (fun _ => k _ _ _ (by refine Nat.add_le_add (Nat.add_le_add_left ?_ nc) ?_ <;> exact Nat.le_of_ble_eq_true rfl) (by refine Nat.add_le_add (Nat.add_le_add_left ?_ ns) ?_ <;> exact Nat.le_of_ble_eq_true rfl) hI3) (fun h => absurd rfl h)
set_option maxRecDepth 100000 in
set_option maxHeartbeats 400000 in
theorem lw_family {p : Program} {l : Launch} {e : Env} {s : State} {m : MethodId} {args : Array Value} {below : List Frame} {meth : Method} {c : Code} {nm : String} {κ : zK} {Q : State → Prop} {nc ns : Nat} {G : zH} {b N i hx x oa : Nat} {xs : Nat → Int32} (hX : va_X b N xs s s.heap) (hbl : b < s.heap.size) (hbA : ¬ zA κ b) (hN : N < 2 ^ 31) (hi : i + 6 ≤ N) (hI : IV κ G hx x oa) (hnc : nc + 401 + 1 ≤ 601024 ∧ ns + 11629 + 400 ≤ 7293033) (k : ∀ (nc2 ns2 : Nat) (G2 : zH), nc2 ≤ nc + 401 + 1 → ns2 ≤ ns + 11629 + 400 → IV κ G2 hx x oa → Z p l e room_1 s m args below meth c (yLw nm) cL_law 7 ret κ Q nc2 ns2 G2 (lwL b hx x oa i) 1132 []) : Z p l e room_1 s m args below meth c (yLw nm) cL_law 7 ret κ Q nc ns G (lwL b hx x oa i) 686 [] := by
  have q1 : nc + 401 ≤ 601024 := by omega
  have q2 : ns + 11629 ≤ 7293033 := by omega
  obtain ⟨fs, hb⟩ := hI.hx
  refine z_al1 (pc := 686) dL_law_686 ?_
  refine z_arg (pc := 687) (ki := 1) hX hbl hbA hN rfl rfl dL_law_687 dL_law_688 dL_law_690 dL_law_691 dL_law_692 (by decide) (by omega) ?_
  refine z_arg (pc := 693) (ki := 2) hX hbl hbA hN rfl rfl dL_law_693 dL_law_694 dL_law_696 dL_law_697 dL_law_698 (by decide) (by omega) ?_
  refine z_arg (pc := 699) (ki := 3) hX hbl hbA hN rfl rfl dL_law_699 dL_law_700 dL_law_702 dL_law_703 dL_law_704 (by decide) (by omega) ?_
  refine z_callVi (pc := 705) _ (st_family (xs (i + 1)) (xs (i + 2)) (xs (i + 3)) hI) rfl hb rfl rfl kw_543 zc_X7_family ⟨Nat.le_of_ble_eq_true rfl, Nat.le_of_ble_eq_true rfl, (by refine Nat.le_trans (Nat.add_le_add_left ?_ nc) q1; exact Nat.le_of_ble_eq_true rfl), (by refine Nat.le_trans (Nat.add_le_add_left ?_ ns) q2; exact Nat.le_of_ble_eq_true rfl)⟩ rfl (Nat.le_of_ble_eq_true rfl) dL_law_705 (fun r G2 hv => ?_)
  obtain ⟨⟨fs2, hx2⟩, hm⟩ := hv
  refine z_aload_n (pc := 708) 2 dL_law_708 rfl rfl ⟨some x, rfl⟩ ?_
  refine z_arg (pc := 709) (ki := 1) hX hbl hbA hN rfl rfl dL_law_709 dL_law_710 dL_law_712 dL_law_713 dL_law_714 (by decide) (by omega) ?_
  refine z_arg (pc := 715) (ki := 2) hX hbl hbA hN rfl rfl dL_law_715 dL_law_716 dL_law_718 dL_law_719 dL_law_720 (by decide) (by omega) ?_
  refine z_arg (pc := 721) (ki := 3) hX hbl hbA hN rfl rfl dL_law_721 dL_law_722 dL_law_724 dL_law_725 dL_law_726 (by decide) (by omega) ?_
  refine z_callVi (pc := 727) _ hm rfl hx2 rfl rfl kw_928 zc_X8_family ⟨Nat.le_of_ble_eq_true rfl, Nat.le_of_ble_eq_true rfl, (by refine Nat.le_trans (Nat.add_le_add (Nat.add_le_add_left ?_ nc) ?_) hnc.1 <;> exact Nat.le_of_ble_eq_true rfl), (by refine Nat.le_trans (Nat.add_le_add (Nat.add_le_add_left ?_ ns) ?_) hnc.2 <;> exact Nat.le_of_ble_eq_true rfl)⟩ rfl (Nat.le_of_ble_eq_true rfl) dL_law_727 (fun r2 G3 hv2 => ?_)
  obtain ⟨rfl, hI3⟩ := hv2
  exact z_icmp_eq (pc := 730) 1132 dL_law_730 rfl (fun _ => k _ _ _ (by refine Nat.add_le_add (Nat.add_le_add_left ?_ nc) ?_ <;> exact Nat.le_of_ble_eq_true rfl) (by refine Nat.add_le_add (Nat.add_le_add_left ?_ ns) ?_ <;> exact Nat.le_of_ble_eq_true rfl) hI3) (fun h => absurd rfl h)
set_option maxRecDepth 100000 in
set_option maxHeartbeats 400000 in
theorem lw_kin {p : Program} {l : Launch} {e : Env} {s : State} {m : MethodId} {args : Array Value} {below : List Frame} {meth : Method} {c : Code} {nm : String} {κ : zK} {Q : State → Prop} {nc ns : Nat} {G : zH} {b N i hx x oa : Nat} {xs : Nat → Int32} (hX : va_X b N xs s s.heap) (hbl : b < s.heap.size) (hbA : ¬ zA κ b) (hN : N < 2 ^ 31) (hi : i + 6 ≤ N) (hI : IV κ G hx x oa) (hnc : nc + 401 + 1 ≤ 601024 ∧ ns + 11629 + 400 ≤ 7293033) (k : ∀ (nc2 ns2 : Nat) (G2 : zH), nc2 ≤ nc + 401 + 1 → ns2 ≤ ns + 11629 + 400 → IV κ G2 hx x oa → Z p l e room_1 s m args below meth c (yLw nm) cL_law 7 ret κ Q nc2 ns2 G2 (lwL b hx x oa i) 1132 []) : Z p l e room_1 s m args below meth c (yLw nm) cL_law 7 ret κ Q nc ns G (lwL b hx x oa i) 735 [] := by
  have q1 : nc + 401 ≤ 601024 := by omega
  have q2 : ns + 11629 ≤ 7293033 := by omega
  obtain ⟨fs, hb⟩ := hI.hx
  refine z_al1 (pc := 735) dL_law_735 ?_
  refine z_arg (pc := 736) (ki := 1) hX hbl hbA hN rfl rfl dL_law_736 dL_law_737 dL_law_739 dL_law_740 dL_law_741 (by decide) (by omega) ?_
  refine z_arg (pc := 742) (ki := 2) hX hbl hbA hN rfl rfl dL_law_742 dL_law_743 dL_law_745 dL_law_746 dL_law_747 (by decide) (by omega) ?_
  refine z_arg (pc := 748) (ki := 3) hX hbl hbA hN rfl rfl dL_law_748 dL_law_749 dL_law_751 dL_law_752 dL_law_753 (by decide) (by omega) ?_
  refine z_callVi (pc := 754) _ (st_kin (xs (i + 1)) (xs (i + 2)) (xs (i + 3)) hI) rfl hb rfl rfl kw_568 zc_X7_kin ⟨Nat.le_of_ble_eq_true rfl, Nat.le_of_ble_eq_true rfl, (by refine Nat.le_trans (Nat.add_le_add_left ?_ nc) q1; exact Nat.le_of_ble_eq_true rfl), (by refine Nat.le_trans (Nat.add_le_add_left ?_ ns) q2; exact Nat.le_of_ble_eq_true rfl)⟩ rfl (Nat.le_of_ble_eq_true rfl) dL_law_754 (fun r G2 hv => ?_)
  obtain ⟨⟨fs2, hx2⟩, hm⟩ := hv
  refine z_aload_n (pc := 757) 2 dL_law_757 rfl rfl ⟨some x, rfl⟩ ?_
  refine z_arg (pc := 758) (ki := 1) hX hbl hbA hN rfl rfl dL_law_758 dL_law_759 dL_law_761 dL_law_762 dL_law_763 (by decide) (by omega) ?_
  refine z_arg (pc := 764) (ki := 2) hX hbl hbA hN rfl rfl dL_law_764 dL_law_765 dL_law_767 dL_law_768 dL_law_769 (by decide) (by omega) ?_
  refine z_arg (pc := 770) (ki := 3) hX hbl hbA hN rfl rfl dL_law_770 dL_law_771 dL_law_773 dL_law_774 dL_law_775 (by decide) (by omega) ?_
  refine z_callVi (pc := 776) _ hm rfl hx2 rfl rfl kw_940 zc_X8_kin ⟨Nat.le_of_ble_eq_true rfl, Nat.le_of_ble_eq_true rfl, (by refine Nat.le_trans (Nat.add_le_add (Nat.add_le_add_left ?_ nc) ?_) hnc.1 <;> exact Nat.le_of_ble_eq_true rfl), (by refine Nat.le_trans (Nat.add_le_add (Nat.add_le_add_left ?_ ns) ?_) hnc.2 <;> exact Nat.le_of_ble_eq_true rfl)⟩ rfl (Nat.le_of_ble_eq_true rfl) dL_law_776 (fun r2 G3 hv2 => ?_)
  obtain ⟨rfl, hI3⟩ := hv2
  exact z_icmp_eq (pc := 779) 1132 dL_law_779 rfl (fun _ => k _ _ _ (by refine Nat.add_le_add (Nat.add_le_add_left ?_ nc) ?_ <;> exact Nat.le_of_ble_eq_true rfl) (by refine Nat.add_le_add (Nat.add_le_add_left ?_ ns) ?_ <;> exact Nat.le_of_ble_eq_true rfl) hI3) (fun h => absurd rfl h)
set_option maxRecDepth 100000 in
set_option maxHeartbeats 400000 in
theorem lw_sung {p : Program} {l : Launch} {e : Env} {s : State} {m : MethodId} {args : Array Value} {below : List Frame} {meth : Method} {c : Code} {nm : String} {κ : zK} {Q : State → Prop} {nc ns : Nat} {G : zH} {b N i hx x oa : Nat} {xs : Nat → Int32} (hX : va_X b N xs s s.heap) (hbl : b < s.heap.size) (hbA : ¬ zA κ b) (hN : N < 2 ^ 31) (hi : i + 6 ≤ N) (hI : IV κ G hx x oa) (hnc : nc + 401 + 1 ≤ 601024 ∧ ns + 11629 + 400 ≤ 7293033) (k : ∀ (nc2 ns2 : Nat) (G2 : zH), nc2 ≤ nc + 401 + 1 → ns2 ≤ ns + 11629 + 400 → IV κ G2 hx x oa → Z p l e room_1 s m args below meth c (yLw nm) cL_law 7 ret κ Q nc2 ns2 G2 (lwL b hx x oa i) 1132 []) : Z p l e room_1 s m args below meth c (yLw nm) cL_law 7 ret κ Q nc ns G (lwL b hx x oa i) 784 [] := by
  have q1 : nc + 401 ≤ 601024 := by omega
  have q2 : ns + 11629 ≤ 7293033 := by omega
  obtain ⟨fs, hb⟩ := hI.hx
  refine z_al1 (pc := 784) dL_law_784 ?_
  refine z_arg (pc := 785) (ki := 1) hX hbl hbA hN rfl rfl dL_law_785 dL_law_786 dL_law_788 dL_law_789 dL_law_790 (by decide) (by omega) ?_
  refine z_arg (pc := 791) (ki := 2) hX hbl hbA hN rfl rfl dL_law_791 dL_law_792 dL_law_794 dL_law_795 dL_law_796 (by decide) (by omega) ?_
  refine z_arg (pc := 797) (ki := 3) hX hbl hbA hN rfl rfl dL_law_797 dL_law_798 dL_law_800 dL_law_801 dL_law_802 (by decide) (by omega) ?_
  refine z_callVi (pc := 803) _ (st_sung (xs (i + 1)) (xs (i + 2)) (xs (i + 3)) hI) rfl hb rfl rfl kw_572 zc_X7_sung ⟨Nat.le_of_ble_eq_true rfl, Nat.le_of_ble_eq_true rfl, (by refine Nat.le_trans (Nat.add_le_add_left ?_ nc) q1; exact Nat.le_of_ble_eq_true rfl), (by refine Nat.le_trans (Nat.add_le_add_left ?_ ns) q2; exact Nat.le_of_ble_eq_true rfl)⟩ rfl (Nat.le_of_ble_eq_true rfl) dL_law_803 (fun r G2 hv => ?_)
  obtain ⟨⟨fs2, hx2⟩, hm⟩ := hv
  refine z_aload_n (pc := 806) 2 dL_law_806 rfl rfl ⟨some x, rfl⟩ ?_
  refine z_arg (pc := 807) (ki := 1) hX hbl hbA hN rfl rfl dL_law_807 dL_law_808 dL_law_810 dL_law_811 dL_law_812 (by decide) (by omega) ?_
  refine z_arg (pc := 813) (ki := 2) hX hbl hbA hN rfl rfl dL_law_813 dL_law_814 dL_law_816 dL_law_817 dL_law_818 (by decide) (by omega) ?_
  refine z_arg (pc := 819) (ki := 3) hX hbl hbA hN rfl rfl dL_law_819 dL_law_820 dL_law_822 dL_law_823 dL_law_824 (by decide) (by omega) ?_
  refine z_callVi (pc := 825) _ hm rfl hx2 rfl rfl kw_944 zc_X8_sung ⟨Nat.le_of_ble_eq_true rfl, Nat.le_of_ble_eq_true rfl, (by refine Nat.le_trans (Nat.add_le_add (Nat.add_le_add_left ?_ nc) ?_) hnc.1 <;> exact Nat.le_of_ble_eq_true rfl), (by refine Nat.le_trans (Nat.add_le_add (Nat.add_le_add_left ?_ ns) ?_) hnc.2 <;> exact Nat.le_of_ble_eq_true rfl)⟩ rfl (Nat.le_of_ble_eq_true rfl) dL_law_825 (fun r2 G3 hv2 => ?_)
  obtain ⟨rfl, hI3⟩ := hv2
  exact z_icmp_eq (pc := 828) 1132 dL_law_828 rfl (fun _ => k _ _ _ (by refine Nat.add_le_add (Nat.add_le_add_left ?_ nc) ?_ <;> exact Nat.le_of_ble_eq_true rfl) (by refine Nat.add_le_add (Nat.add_le_add_left ?_ ns) ?_ <;> exact Nat.le_of_ble_eq_true rfl) hI3) (fun h => absurd rfl h)
set_option maxRecDepth 100000 in
set_option maxHeartbeats 400000 in
theorem lw_source {p : Program} {l : Launch} {e : Env} {s : State} {m : MethodId} {args : Array Value} {below : List Frame} {meth : Method} {c : Code} {nm : String} {κ : zK} {Q : State → Prop} {nc ns : Nat} {G : zH} {b N i hx x oa : Nat} {xs : Nat → Int32} (hX : va_X b N xs s s.heap) (hbl : b < s.heap.size) (hbA : ¬ zA κ b) (hN : N < 2 ^ 31) (hi : i + 6 ≤ N) (hI : IV κ G hx x oa) (hnc : nc + 401 + 1 ≤ 601024 ∧ ns + 11629 + 400 ≤ 7293033) (k : ∀ (nc2 ns2 : Nat) (G2 : zH), nc2 ≤ nc + 401 + 1 → ns2 ≤ ns + 11629 + 400 → IV κ G2 hx x oa → Z p l e room_1 s m args below meth c (yLw nm) cL_law 7 ret κ Q nc2 ns2 G2 (lwL b hx x oa i) 1132 []) : Z p l e room_1 s m args below meth c (yLw nm) cL_law 7 ret κ Q nc ns G (lwL b hx x oa i) 833 [] := by
  have q1 : nc + 401 ≤ 601024 := by omega
  have q2 : ns + 11629 ≤ 7293033 := by omega
  obtain ⟨fs, hb⟩ := hI.hx
  refine z_al1 (pc := 833) dL_law_833 ?_
  refine z_arg (pc := 834) (ki := 1) hX hbl hbA hN rfl rfl dL_law_834 dL_law_835 dL_law_837 dL_law_838 dL_law_839 (by decide) (by omega) ?_
  refine z_arg (pc := 840) (ki := 2) hX hbl hbA hN rfl rfl dL_law_840 dL_law_841 dL_law_843 dL_law_844 dL_law_845 (by decide) (by omega) ?_
  refine z_callVi (pc := 846) _ (st_source (xs (i + 1)) (xs (i + 2)) hI) rfl hb rfl rfl kw_576 zc_X7_source ⟨Nat.le_of_ble_eq_true rfl, Nat.le_of_ble_eq_true rfl, (by refine Nat.le_trans (Nat.add_le_add_left ?_ nc) q1; exact Nat.le_of_ble_eq_true rfl), (by refine Nat.le_trans (Nat.add_le_add_left ?_ ns) q2; exact Nat.le_of_ble_eq_true rfl)⟩ rfl (Nat.le_of_ble_eq_true rfl) dL_law_846 (fun r G2 hv => ?_)
  obtain ⟨⟨fs2, hx2⟩, hm⟩ := hv
  refine z_aload_n (pc := 849) 2 dL_law_849 rfl rfl ⟨some x, rfl⟩ ?_
  refine z_arg (pc := 850) (ki := 1) hX hbl hbA hN rfl rfl dL_law_850 dL_law_851 dL_law_853 dL_law_854 dL_law_855 (by decide) (by omega) ?_
  refine z_arg (pc := 856) (ki := 2) hX hbl hbA hN rfl rfl dL_law_856 dL_law_857 dL_law_859 dL_law_860 dL_law_861 (by decide) (by omega) ?_
  refine z_callVi (pc := 862) _ hm rfl hx2 rfl rfl kw_948 zc_X8_source ⟨Nat.le_of_ble_eq_true rfl, Nat.le_of_ble_eq_true rfl, (by refine Nat.le_trans (Nat.add_le_add (Nat.add_le_add_left ?_ nc) ?_) hnc.1 <;> exact Nat.le_of_ble_eq_true rfl), (by refine Nat.le_trans (Nat.add_le_add (Nat.add_le_add_left ?_ ns) ?_) hnc.2 <;> exact Nat.le_of_ble_eq_true rfl)⟩ rfl (Nat.le_of_ble_eq_true rfl) dL_law_862 (fun r2 G3 hv2 => ?_)
  obtain ⟨rfl, hI3⟩ := hv2
  exact z_icmp_eq (pc := 865) 1132 dL_law_865 rfl (fun _ => k _ _ _ (by refine Nat.add_le_add (Nat.add_le_add_left ?_ nc) ?_ <;> exact Nat.le_of_ble_eq_true rfl) (by refine Nat.add_le_add (Nat.add_le_add_left ?_ ns) ?_ <;> exact Nat.le_of_ble_eq_true rfl) hI3) (fun h => absurd rfl h)
set_option maxRecDepth 100000 in
set_option maxHeartbeats 400000 in
theorem lw_changes {p : Program} {l : Launch} {e : Env} {s : State} {m : MethodId} {args : Array Value} {below : List Frame} {meth : Method} {c : Code} {nm : String} {κ : zK} {Q : State → Prop} {nc ns : Nat} {G : zH} {b N i hx x oa : Nat} {xs : Nat → Int32} (hX : va_X b N xs s s.heap) (hbl : b < s.heap.size) (hbA : ¬ zA κ b) (hN : N < 2 ^ 31) (hi : i + 6 ≤ N) (hI : IV κ G hx x oa) (hnc : nc + 401 + 1 ≤ 601024 ∧ ns + 11629 + 400 ≤ 7293033) (k : ∀ (nc2 ns2 : Nat) (G2 : zH), nc2 ≤ nc + 401 + 1 → ns2 ≤ ns + 11629 + 400 → IV κ G2 hx x oa → Z p l e room_1 s m args below meth c (yLw nm) cL_law 7 ret κ Q nc2 ns2 G2 (lwL b hx x oa i) 1132 []) : Z p l e room_1 s m args below meth c (yLw nm) cL_law 7 ret κ Q nc ns G (lwL b hx x oa i) 870 [] := by
  have q1 : nc + 401 ≤ 601024 := by omega
  have q2 : ns + 11629 ≤ 7293033 := by omega
  obtain ⟨fs, hb⟩ := hI.hx
  refine z_al1 (pc := 870) dL_law_870 ?_
  refine z_arg (pc := 871) (ki := 1) hX hbl hbA hN rfl rfl dL_law_871 dL_law_872 dL_law_874 dL_law_875 dL_law_876 (by decide) (by omega) ?_
  refine z_arg (pc := 877) (ki := 2) hX hbl hbA hN rfl rfl dL_law_877 dL_law_878 dL_law_880 dL_law_881 dL_law_882 (by decide) (by omega) ?_
  refine z_callVi (pc := 883) _ (st_changes (xs (i + 1)) (xs (i + 2)) hI) rfl hb rfl rfl kw_592 zc_X7_changes ⟨Nat.le_of_ble_eq_true rfl, Nat.le_of_ble_eq_true rfl, (by refine Nat.le_trans (Nat.add_le_add_left ?_ nc) q1; exact Nat.le_of_ble_eq_true rfl), (by refine Nat.le_trans (Nat.add_le_add_left ?_ ns) q2; exact Nat.le_of_ble_eq_true rfl)⟩ rfl (Nat.le_of_ble_eq_true rfl) dL_law_883 (fun r G2 hv => ?_)
  obtain ⟨⟨fs2, hx2⟩, hm⟩ := hv
  refine z_aload_n (pc := 886) 2 dL_law_886 rfl rfl ⟨some x, rfl⟩ ?_
  refine z_arg (pc := 887) (ki := 1) hX hbl hbA hN rfl rfl dL_law_887 dL_law_888 dL_law_890 dL_law_891 dL_law_892 (by decide) (by omega) ?_
  refine z_arg (pc := 893) (ki := 2) hX hbl hbA hN rfl rfl dL_law_893 dL_law_894 dL_law_896 dL_law_897 dL_law_898 (by decide) (by omega) ?_
  refine z_callVi (pc := 899) _ hm rfl hx2 rfl rfl kw_964 zc_X8_changes ⟨Nat.le_of_ble_eq_true rfl, Nat.le_of_ble_eq_true rfl, (by refine Nat.le_trans (Nat.add_le_add (Nat.add_le_add_left ?_ nc) ?_) hnc.1 <;> exact Nat.le_of_ble_eq_true rfl), (by refine Nat.le_trans (Nat.add_le_add (Nat.add_le_add_left ?_ ns) ?_) hnc.2 <;> exact Nat.le_of_ble_eq_true rfl)⟩ rfl (Nat.le_of_ble_eq_true rfl) dL_law_899 (fun r2 G3 hv2 => ?_)
  obtain ⟨rfl, hI3⟩ := hv2
  exact z_icmp_eq (pc := 902) 1132 dL_law_902 rfl (fun _ => k _ _ _ (by refine Nat.add_le_add (Nat.add_le_add_left ?_ nc) ?_ <;> exact Nat.le_of_ble_eq_true rfl) (by refine Nat.add_le_add (Nat.add_le_add_left ?_ ns) ?_ <;> exact Nat.le_of_ble_eq_true rfl) hI3) (fun h => absurd rfl h)
set_option maxRecDepth 100000 in
set_option maxHeartbeats 400000 in
theorem lw_all {p : Program} {l : Launch} {e : Env} {s : State} {m : MethodId} {args : Array Value} {below : List Frame} {meth : Method} {c : Code} {nm : String} {κ : zK} {Q : State → Prop} {nc ns : Nat} {G : zH} {b N i hx x oa : Nat} {xs : Nat → Int32} (hX : va_X b N xs s s.heap) (hbl : b < s.heap.size) (hbA : ¬ zA κ b) (hN : N < 2 ^ 31) (hi : i + 6 ≤ N) (hI : IV κ G hx x oa) (hnc : nc + 401 + 1 ≤ 601024 ∧ ns + 11629 + 400 ≤ 7293033) (k : ∀ (nc2 ns2 : Nat) (G2 : zH), nc2 ≤ nc + 401 + 1 → ns2 ≤ ns + 11629 + 400 → IV κ G2 hx x oa → Z p l e room_1 s m args below meth c (yLw nm) cL_law 7 ret κ Q nc2 ns2 G2 (lwL b hx x oa i) 1132 []) : Z p l e room_1 s m args below meth c (yLw nm) cL_law 7 ret κ Q nc ns G (lwL b hx x oa i) 907 [] := by
  have q1 : nc + 401 ≤ 601024 := by omega
  have q2 : ns + 11629 ≤ 7293033 := by omega
  obtain ⟨fs, hb⟩ := hI.hx
  refine z_al1 (pc := 907) dL_law_907 ?_
  refine z_arg (pc := 908) (ki := 1) hX hbl hbA hN rfl rfl dL_law_908 dL_law_909 dL_law_911 dL_law_912 dL_law_913 (by decide) (by omega) ?_
  refine z_callVi (pc := 914) _ (st_all (xs (i + 1)) hI) rfl hb rfl rfl kw_600 zc_X7_all ⟨Nat.le_of_ble_eq_true rfl, Nat.le_of_ble_eq_true rfl, (by refine Nat.le_trans (Nat.add_le_add_left ?_ nc) q1; exact Nat.le_of_ble_eq_true rfl), (by refine Nat.le_trans (Nat.add_le_add_left ?_ ns) q2; exact Nat.le_of_ble_eq_true rfl)⟩ rfl (Nat.le_of_ble_eq_true rfl) dL_law_914 (fun r G2 hv => ?_)
  obtain ⟨⟨fs2, hx2⟩, hm⟩ := hv
  refine z_aload_n (pc := 917) 2 dL_law_917 rfl rfl ⟨some x, rfl⟩ ?_
  refine z_arg (pc := 918) (ki := 1) hX hbl hbA hN rfl rfl dL_law_918 dL_law_919 dL_law_921 dL_law_922 dL_law_923 (by decide) (by omega) ?_
  refine z_callVi (pc := 924) _ hm rfl hx2 rfl rfl kw_972 zc_X8_all ⟨Nat.le_of_ble_eq_true rfl, Nat.le_of_ble_eq_true rfl, (by refine Nat.le_trans (Nat.add_le_add (Nat.add_le_add_left ?_ nc) ?_) hnc.1 <;> exact Nat.le_of_ble_eq_true rfl), (by refine Nat.le_trans (Nat.add_le_add (Nat.add_le_add_left ?_ ns) ?_) hnc.2 <;> exact Nat.le_of_ble_eq_true rfl)⟩ rfl (Nat.le_of_ble_eq_true rfl) dL_law_924 (fun r2 G3 hv2 => ?_)
  obtain ⟨rfl, hI3⟩ := hv2
  exact z_icmp_eq (pc := 927) 1132 dL_law_927 rfl (fun _ => k _ _ _ (by refine Nat.add_le_add (Nat.add_le_add_left ?_ nc) ?_ <;> exact Nat.le_of_ble_eq_true rfl) (by refine Nat.add_le_add (Nat.add_le_add_left ?_ ns) ?_ <;> exact Nat.le_of_ble_eq_true rfl) hI3) (fun h => absurd rfl h)
set_option maxRecDepth 100000 in
set_option maxHeartbeats 400000 in
theorem lw_doubt {p : Program} {l : Launch} {e : Env} {s : State} {m : MethodId} {args : Array Value} {below : List Frame} {meth : Method} {c : Code} {nm : String} {κ : zK} {Q : State → Prop} {nc ns : Nat} {G : zH} {b N i hx x oa : Nat} {xs : Nat → Int32} (hX : va_X b N xs s s.heap) (hbl : b < s.heap.size) (hbA : ¬ zA κ b) (hN : N < 2 ^ 31) (hi : i + 6 ≤ N) (hI : IV κ G hx x oa) (hnc : nc + 401 + 1 ≤ 601024 ∧ ns + 11629 + 400 ≤ 7293033) (k : ∀ (nc2 ns2 : Nat) (G2 : zH), nc2 ≤ nc + 401 + 1 → ns2 ≤ ns + 11629 + 400 → IV κ G2 hx x oa → Z p l e room_1 s m args below meth c (yLw nm) cL_law 7 ret κ Q nc2 ns2 G2 (lwL b hx x oa i) 1132 []) : Z p l e room_1 s m args below meth c (yLw nm) cL_law 7 ret κ Q nc ns G (lwL b hx x oa i) 932 [] := by
  have q1 : nc + 401 ≤ 601024 := by omega
  have q2 : ns + 11629 ≤ 7293033 := by omega
  obtain ⟨fs, hb⟩ := hI.hx
  refine z_al1 (pc := 932) dL_law_932 ?_
  refine z_arg (pc := 933) (ki := 1) hX hbl hbA hN rfl rfl dL_law_933 dL_law_934 dL_law_936 dL_law_937 dL_law_938 (by decide) (by omega) ?_
  refine z_arg (pc := 939) (ki := 2) hX hbl hbA hN rfl rfl dL_law_939 dL_law_940 dL_law_942 dL_law_943 dL_law_944 (by decide) (by omega) ?_
  refine z_arg (pc := 945) (ki := 3) hX hbl hbA hN rfl rfl dL_law_945 dL_law_946 dL_law_948 dL_law_949 dL_law_950 (by decide) (by omega) ?_
  refine z_callVi (pc := 951) _ (st_doubt (xs (i + 1)) (xs (i + 2)) (xs (i + 3)) hI) rfl hb rfl rfl kw_604 zc_X7_doubt ⟨Nat.le_of_ble_eq_true rfl, Nat.le_of_ble_eq_true rfl, (by refine Nat.le_trans (Nat.add_le_add_left ?_ nc) q1; exact Nat.le_of_ble_eq_true rfl), (by refine Nat.le_trans (Nat.add_le_add_left ?_ ns) q2; exact Nat.le_of_ble_eq_true rfl)⟩ rfl (Nat.le_of_ble_eq_true rfl) dL_law_951 (fun r G2 hv => ?_)
  obtain ⟨⟨fs2, hx2⟩, hm⟩ := hv
  refine z_aload_n (pc := 954) 2 dL_law_954 rfl rfl ⟨some x, rfl⟩ ?_
  refine z_arg (pc := 955) (ki := 1) hX hbl hbA hN rfl rfl dL_law_955 dL_law_956 dL_law_958 dL_law_959 dL_law_960 (by decide) (by omega) ?_
  refine z_arg (pc := 961) (ki := 2) hX hbl hbA hN rfl rfl dL_law_961 dL_law_962 dL_law_964 dL_law_965 dL_law_966 (by decide) (by omega) ?_
  refine z_arg (pc := 967) (ki := 3) hX hbl hbA hN rfl rfl dL_law_967 dL_law_968 dL_law_970 dL_law_971 dL_law_972 (by decide) (by omega) ?_
  refine z_callVi (pc := 973) _ hm rfl hx2 rfl rfl kw_976 zc_X8_doubt ⟨Nat.le_of_ble_eq_true rfl, Nat.le_of_ble_eq_true rfl, (by refine Nat.le_trans (Nat.add_le_add (Nat.add_le_add_left ?_ nc) ?_) hnc.1 <;> exact Nat.le_of_ble_eq_true rfl), (by refine Nat.le_trans (Nat.add_le_add (Nat.add_le_add_left ?_ ns) ?_) hnc.2 <;> exact Nat.le_of_ble_eq_true rfl)⟩ rfl (Nat.le_of_ble_eq_true rfl) dL_law_973 (fun r2 G3 hv2 => ?_)
  obtain ⟨rfl, hI3⟩ := hv2
  exact z_icmp_eq (pc := 976) 1132 dL_law_976 rfl (fun _ => k _ _ _ (by refine Nat.add_le_add (Nat.add_le_add_left ?_ nc) ?_ <;> exact Nat.le_of_ble_eq_true rfl) (by refine Nat.add_le_add (Nat.add_le_add_left ?_ ns) ?_ <;> exact Nat.le_of_ble_eq_true rfl) hI3) (fun h => absurd rfl h)
set_option maxRecDepth 100000 in
set_option maxHeartbeats 400000 in
theorem lw_habit {p : Program} {l : Launch} {e : Env} {s : State} {m : MethodId} {args : Array Value} {below : List Frame} {meth : Method} {c : Code} {nm : String} {κ : zK} {Q : State → Prop} {nc ns : Nat} {G : zH} {b N i hx x oa : Nat} {xs : Nat → Int32} (hX : va_X b N xs s s.heap) (hbl : b < s.heap.size) (hbA : ¬ zA κ b) (hN : N < 2 ^ 31) (hi : i + 6 ≤ N) (hI : IV κ G hx x oa) (hnc : nc + 401 + 1 ≤ 601024 ∧ ns + 11629 + 400 ≤ 7293033) (k : ∀ (nc2 ns2 : Nat) (G2 : zH), nc2 ≤ nc + 401 + 1 → ns2 ≤ ns + 11629 + 400 → IV κ G2 hx x oa → Z p l e room_1 s m args below meth c (yLw nm) cL_law 7 ret κ Q nc2 ns2 G2 (lwL b hx x oa i) 1132 []) : Z p l e room_1 s m args below meth c (yLw nm) cL_law 7 ret κ Q nc ns G (lwL b hx x oa i) 981 [] := by
  have q1 : nc + 401 ≤ 601024 := by omega
  have q2 : ns + 11629 ≤ 7293033 := by omega
  obtain ⟨fs, hb⟩ := hI.hx
  refine z_al1 (pc := 981) dL_law_981 ?_
  refine z_arg (pc := 982) (ki := 1) hX hbl hbA hN rfl rfl dL_law_982 dL_law_983 dL_law_985 dL_law_986 dL_law_987 (by decide) (by omega) ?_
  refine z_arg (pc := 988) (ki := 2) hX hbl hbA hN rfl rfl dL_law_988 dL_law_989 dL_law_991 dL_law_992 dL_law_993 (by decide) (by omega) ?_
  refine z_arg (pc := 994) (ki := 3) hX hbl hbA hN rfl rfl dL_law_994 dL_law_995 dL_law_997 dL_law_998 dL_law_999 (by decide) (by omega) ?_
  refine z_arg (pc := 1000) (ki := 4) hX hbl hbA hN rfl rfl dL_law_1000 dL_law_1001 dL_law_1003 dL_law_1004 dL_law_1005 (by decide) (by omega) ?_
  refine z_callVi (pc := 1006) _ (st_habit (xs (i + 1)) (xs (i + 2)) (xs (i + 3)) (xs (i + 4)) hI) rfl hb rfl rfl kw_612 zc_X7_habit ⟨Nat.le_of_ble_eq_true rfl, Nat.le_of_ble_eq_true rfl, (by refine Nat.le_trans (Nat.add_le_add_left ?_ nc) q1; exact Nat.le_of_ble_eq_true rfl), (by refine Nat.le_trans (Nat.add_le_add_left ?_ ns) q2; exact Nat.le_of_ble_eq_true rfl)⟩ rfl (Nat.le_of_ble_eq_true rfl) dL_law_1006 (fun r G2 hv => ?_)
  obtain ⟨⟨fs2, hx2⟩, hm⟩ := hv
  refine z_aload_n (pc := 1009) 2 dL_law_1009 rfl rfl ⟨some x, rfl⟩ ?_
  refine z_arg (pc := 1010) (ki := 1) hX hbl hbA hN rfl rfl dL_law_1010 dL_law_1011 dL_law_1013 dL_law_1014 dL_law_1015 (by decide) (by omega) ?_
  refine z_arg (pc := 1016) (ki := 2) hX hbl hbA hN rfl rfl dL_law_1016 dL_law_1017 dL_law_1019 dL_law_1020 dL_law_1021 (by decide) (by omega) ?_
  refine z_arg (pc := 1022) (ki := 3) hX hbl hbA hN rfl rfl dL_law_1022 dL_law_1023 dL_law_1025 dL_law_1026 dL_law_1027 (by decide) (by omega) ?_
  refine z_arg (pc := 1028) (ki := 4) hX hbl hbA hN rfl rfl dL_law_1028 dL_law_1029 dL_law_1031 dL_law_1032 dL_law_1033 (by decide) (by omega) ?_
  refine z_callVi (pc := 1034) _ hm rfl hx2 rfl rfl kw_980 zc_X8_habit ⟨Nat.le_of_ble_eq_true rfl, Nat.le_of_ble_eq_true rfl, (by refine Nat.le_trans (Nat.add_le_add (Nat.add_le_add_left ?_ nc) ?_) hnc.1 <;> exact Nat.le_of_ble_eq_true rfl), (by refine Nat.le_trans (Nat.add_le_add (Nat.add_le_add_left ?_ ns) ?_) hnc.2 <;> exact Nat.le_of_ble_eq_true rfl)⟩ rfl (Nat.le_of_ble_eq_true rfl) dL_law_1034 (fun r2 G3 hv2 => ?_)
  obtain ⟨rfl, hI3⟩ := hv2
  exact z_icmp_eq (pc := 1037) 1132 dL_law_1037 rfl (fun _ => k _ _ _ (by refine Nat.add_le_add (Nat.add_le_add_left ?_ nc) ?_ <;> exact Nat.le_of_ble_eq_true rfl) (by refine Nat.add_le_add (Nat.add_le_add_left ?_ ns) ?_ <;> exact Nat.le_of_ble_eq_true rfl) hI3) (fun h => absurd rfl h)
set_option maxRecDepth 100000 in
set_option maxHeartbeats 400000 in
theorem lw_span {p : Program} {l : Launch} {e : Env} {s : State} {m : MethodId} {args : Array Value} {below : List Frame} {meth : Method} {c : Code} {nm : String} {κ : zK} {Q : State → Prop} {nc ns : Nat} {G : zH} {b N i hx x oa : Nat} {xs : Nat → Int32} (hX : va_X b N xs s s.heap) (hbl : b < s.heap.size) (hbA : ¬ zA κ b) (hN : N < 2 ^ 31) (hi : i + 6 ≤ N) (hI : IV κ G hx x oa) (hnc : nc + 401 + 1 ≤ 601024 ∧ ns + 11629 + 400 ≤ 7293033) (k : ∀ (nc2 ns2 : Nat) (G2 : zH), nc2 ≤ nc + 401 + 1 → ns2 ≤ ns + 11629 + 400 → IV κ G2 hx x oa → Z p l e room_1 s m args below meth c (yLw nm) cL_law 7 ret κ Q nc2 ns2 G2 (lwL b hx x oa i) 1132 []) : Z p l e room_1 s m args below meth c (yLw nm) cL_law 7 ret κ Q nc ns G (lwL b hx x oa i) 1042 [] := by
  have q1 : nc + 401 ≤ 601024 := by omega
  have q2 : ns + 11629 ≤ 7293033 := by omega
  obtain ⟨fs, hb⟩ := hI.hx
  by_cases hg : xs (i + 3) = 0
  · refine z_al1 (pc := 1042) dL_law_1042 ?_
    refine z_arg (pc := 1043) (ki := 1) hX hbl hbA hN rfl rfl dL_law_1043 dL_law_1044 dL_law_1046 dL_law_1047 dL_law_1048 (by decide) (by omega) ?_
    refine z_arg (pc := 1049) (ki := 2) hX hbl hbA hN rfl rfl dL_law_1049 dL_law_1050 dL_law_1052 dL_law_1053 dL_law_1054 (by decide) (by omega) ?_
    refine z_arg (pc := 1055) (ki := 3) hX hbl hbA hN rfl rfl dL_law_1055 dL_law_1056 dL_law_1058 dL_law_1059 dL_law_1060 (by decide) (by omega) ?_
    refine z_if_eq (pc := 1061) 1068 dL_law_1061 rfl (fun _ => ?_) (fun h => absurd hg h)
    refine z_iconst (pc := 1068) 0 (by decide) dL_law_1068 ?_
    refine z_callVi (pc := 1069) _ (st_span (xs (i + 1)) (xs (i + 2)) 0 hI) rfl hb rfl rfl kw_638 zc_X7_span ⟨Nat.le_of_ble_eq_true rfl, Nat.le_of_ble_eq_true rfl, (by refine Nat.le_trans (Nat.add_le_add_left ?_ nc) q1; exact Nat.le_of_ble_eq_true rfl), (by refine Nat.le_trans (Nat.add_le_add_left ?_ ns) q2; exact Nat.le_of_ble_eq_true rfl)⟩ rfl (Nat.le_of_ble_eq_true rfl) dL_law_1069 (fun r G2 hv => ?_)
    obtain ⟨⟨fs2, hx2⟩, hm⟩ := hv
    refine z_aload_n (pc := 1072) 2 dL_law_1072 rfl rfl ⟨some x, rfl⟩ ?_
    refine z_arg (pc := 1073) (ki := 1) hX hbl hbA hN rfl rfl dL_law_1073 dL_law_1074 dL_law_1076 dL_law_1077 dL_law_1078 (by decide) (by omega) ?_
    refine z_arg (pc := 1079) (ki := 2) hX hbl hbA hN rfl rfl dL_law_1079 dL_law_1080 dL_law_1082 dL_law_1083 dL_law_1084 (by decide) (by omega) ?_
    refine z_arg (pc := 1085) (ki := 3) hX hbl hbA hN rfl rfl dL_law_1085 dL_law_1086 dL_law_1088 dL_law_1089 dL_law_1090 (by decide) (by omega) ?_
    refine z_if_eq (pc := 1091) 1098 dL_law_1091 rfl (fun _ => ?_) (fun h => absurd hg h)
    refine z_iconst (pc := 1098) 0 (by decide) dL_law_1098 ?_
    refine z_callVi (pc := 1099) _ hm rfl hx2 rfl rfl kw_985 zc_X8_span ⟨Nat.le_of_ble_eq_true rfl, Nat.le_of_ble_eq_true rfl, (by refine Nat.le_trans (Nat.add_le_add (Nat.add_le_add_left ?_ nc) ?_) hnc.1 <;> exact Nat.le_of_ble_eq_true rfl), (by refine Nat.le_trans (Nat.add_le_add (Nat.add_le_add_left ?_ ns) ?_) hnc.2 <;> exact Nat.le_of_ble_eq_true rfl)⟩ rfl (Nat.le_of_ble_eq_true rfl) dL_law_1099 (fun r2 G3 hv2 => ?_)
    obtain ⟨rfl, hI3⟩ := hv2
    exact z_icmp_eq (pc := 1102) 1132 dL_law_1102 rfl (fun _ => k _ _ _ (by refine Nat.add_le_add (Nat.add_le_add_left ?_ nc) ?_ <;> exact Nat.le_of_ble_eq_true rfl) (by refine Nat.add_le_add (Nat.add_le_add_left ?_ ns) ?_ <;> exact Nat.le_of_ble_eq_true rfl) hI3) (fun h => absurd rfl h)
  · refine z_al1 (pc := 1042) dL_law_1042 ?_
    refine z_arg (pc := 1043) (ki := 1) hX hbl hbA hN rfl rfl dL_law_1043 dL_law_1044 dL_law_1046 dL_law_1047 dL_law_1048 (by decide) (by omega) ?_
    refine z_arg (pc := 1049) (ki := 2) hX hbl hbA hN rfl rfl dL_law_1049 dL_law_1050 dL_law_1052 dL_law_1053 dL_law_1054 (by decide) (by omega) ?_
    refine z_arg (pc := 1055) (ki := 3) hX hbl hbA hN rfl rfl dL_law_1055 dL_law_1056 dL_law_1058 dL_law_1059 dL_law_1060 (by decide) (by omega) ?_
    refine z_if_eq (pc := 1061) 1068 dL_law_1061 rfl (fun h => absurd h hg) (fun _ => ?_)
    refine z_iconst (pc := 1064) 1 (by decide) dL_law_1064 ?_
    refine z_goto (pc := 1065) 1069 dL_law_1065 rfl ?_
    refine z_callVi (pc := 1069) _ (st_span (xs (i + 1)) (xs (i + 2)) 1 hI) rfl hb rfl rfl kw_638 zc_X7_span ⟨Nat.le_of_ble_eq_true rfl, Nat.le_of_ble_eq_true rfl, (by refine Nat.le_trans (Nat.add_le_add_left ?_ nc) q1; exact Nat.le_of_ble_eq_true rfl), (by refine Nat.le_trans (Nat.add_le_add_left ?_ ns) q2; exact Nat.le_of_ble_eq_true rfl)⟩ rfl (Nat.le_of_ble_eq_true rfl) dL_law_1069 (fun r G2 hv => ?_)
    obtain ⟨⟨fs2, hx2⟩, hm⟩ := hv
    refine z_aload_n (pc := 1072) 2 dL_law_1072 rfl rfl ⟨some x, rfl⟩ ?_
    refine z_arg (pc := 1073) (ki := 1) hX hbl hbA hN rfl rfl dL_law_1073 dL_law_1074 dL_law_1076 dL_law_1077 dL_law_1078 (by decide) (by omega) ?_
    refine z_arg (pc := 1079) (ki := 2) hX hbl hbA hN rfl rfl dL_law_1079 dL_law_1080 dL_law_1082 dL_law_1083 dL_law_1084 (by decide) (by omega) ?_
    refine z_arg (pc := 1085) (ki := 3) hX hbl hbA hN rfl rfl dL_law_1085 dL_law_1086 dL_law_1088 dL_law_1089 dL_law_1090 (by decide) (by omega) ?_
    refine z_if_eq (pc := 1091) 1098 dL_law_1091 rfl (fun h => absurd h hg) (fun _ => ?_)
    refine z_iconst (pc := 1094) 1 (by decide) dL_law_1094 ?_
    refine z_goto (pc := 1095) 1099 dL_law_1095 rfl ?_
    refine z_callVi (pc := 1099) _ hm rfl hx2 rfl rfl kw_985 zc_X8_span ⟨Nat.le_of_ble_eq_true rfl, Nat.le_of_ble_eq_true rfl, (by refine Nat.le_trans (Nat.add_le_add (Nat.add_le_add_left ?_ nc) ?_) hnc.1 <;> exact Nat.le_of_ble_eq_true rfl), (by refine Nat.le_trans (Nat.add_le_add (Nat.add_le_add_left ?_ ns) ?_) hnc.2 <;> exact Nat.le_of_ble_eq_true rfl)⟩ rfl (Nat.le_of_ble_eq_true rfl) dL_law_1099 (fun r2 G3 hv2 => ?_)
    obtain ⟨rfl, hI3⟩ := hv2
    exact z_icmp_eq (pc := 1102) 1132 dL_law_1102 rfl (fun _ => k _ _ _ (by refine Nat.add_le_add (Nat.add_le_add_left ?_ nc) ?_ <;> exact Nat.le_of_ble_eq_true rfl) (by refine Nat.add_le_add (Nat.add_le_add_left ?_ ns) ?_ <;> exact Nat.le_of_ble_eq_true rfl) hI3) (fun h => absurd rfl h)
set_option maxRecDepth 100000 in
set_option maxHeartbeats 400000 in
theorem lw_count {p : Program} {l : Launch} {e : Env} {s : State} {m : MethodId} {args : Array Value} {below : List Frame} {meth : Method} {c : Code} {nm : String} {κ : zK} {Q : State → Prop} {nc ns : Nat} {G : zH} {b N i hx x oa : Nat} {xs : Nat → Int32} (hX : va_X b N xs s s.heap) (hbl : b < s.heap.size) (hbA : ¬ zA κ b) (hN : N < 2 ^ 31) (hi : i + 6 ≤ N) (hI : IV κ G hx x oa) (hnc : nc + 401 + 1 ≤ 601024 ∧ ns + 11629 + 400 ≤ 7293033) (k : ∀ (nc2 ns2 : Nat) (G2 : zH), nc2 ≤ nc + 401 + 1 → ns2 ≤ ns + 11629 + 400 → IV κ G2 hx x oa → Z p l e room_1 s m args below meth c (yLw nm) cL_law 7 ret κ Q nc2 ns2 G2 (lwL b hx x oa i) 1132 []) : Z p l e room_1 s m args below meth c (yLw nm) cL_law 7 ret κ Q nc ns G (lwL b hx x oa i) 1107 [] := by
  have q1 : nc + 401 ≤ 601024 := by omega
  have q2 : ns + 11629 ≤ 7293033 := by omega
  obtain ⟨fs, hb⟩ := hI.hx
  refine z_al1 (pc := 1107) dL_law_1107 ?_
  refine z_arg (pc := 1108) (ki := 1) hX hbl hbA hN rfl rfl dL_law_1108 dL_law_1109 dL_law_1111 dL_law_1112 dL_law_1113 (by decide) (by omega) ?_
  refine z_callVi (pc := 1114) _ (st_count (xs (i + 1)) hI) rfl hb rfl rfl kw_642 zc_X7_count ⟨Nat.le_of_ble_eq_true rfl, Nat.le_of_ble_eq_true rfl, (by refine Nat.le_trans (Nat.add_le_add_left ?_ nc) q1; exact Nat.le_of_ble_eq_true rfl), (by refine Nat.le_trans (Nat.add_le_add_left ?_ ns) q2; exact Nat.le_of_ble_eq_true rfl)⟩ rfl (Nat.le_of_ble_eq_true rfl) dL_law_1114 (fun r G2 hv => ?_)
  obtain ⟨⟨fs2, hx2⟩, hm⟩ := hv
  refine z_aload_n (pc := 1117) 2 dL_law_1117 rfl rfl ⟨some x, rfl⟩ ?_
  refine z_arg (pc := 1118) (ki := 1) hX hbl hbA hN rfl rfl dL_law_1118 dL_law_1119 dL_law_1121 dL_law_1122 dL_law_1123 (by decide) (by omega) ?_
  refine z_callVi (pc := 1124) _ hm rfl hx2 rfl rfl kw_989 zc_X8_count ⟨Nat.le_of_ble_eq_true rfl, Nat.le_of_ble_eq_true rfl, (by refine Nat.le_trans (Nat.add_le_add (Nat.add_le_add_left ?_ nc) ?_) hnc.1 <;> exact Nat.le_of_ble_eq_true rfl), (by refine Nat.le_trans (Nat.add_le_add (Nat.add_le_add_left ?_ ns) ?_) hnc.2 <;> exact Nat.le_of_ble_eq_true rfl)⟩ rfl (Nat.le_of_ble_eq_true rfl) dL_law_1124 (fun r2 G3 hv2 => ?_)
  obtain ⟨rfl, hI3⟩ := hv2
  exact z_icmp_eq (pc := 1127) 1132 dL_law_1127 rfl (fun _ => k _ _ _ (by refine Nat.add_le_add (Nat.add_le_add_left ?_ nc) ?_ <;> exact Nat.le_of_ble_eq_true rfl) (by refine Nat.add_le_add (Nat.add_le_add_left ?_ ns) ?_ <;> exact Nat.le_of_ble_eq_true rfl) hI3) (fun h => absurd rfl h)
