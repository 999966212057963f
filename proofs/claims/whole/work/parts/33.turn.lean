/-! turning to a day -/
abbrev isTn (r : zR) : Prop := r.1 = 2 ∧ (r.2.1 = 10 ∨ (15 ≤ r.2.1 ∧ r.2.1 ≤ 18))
def fup {α : Type} (f : Nat → α) (k : Nat) (v : α) : Nat → α := fun i => if i = k then v else f i
theorem fup_s {α : Type} {f : Nat → α} {k : Nat} {v : α} : fup f k v k = v := if_pos rfl
theorem fup_n {α : Type} {f : Nat → α} {k i : Nat} {v : α} (h : i ≠ k) : fup f k v i = f i := if_neg h
section RCL
variable {κ : zK} {G G2 : zH} {B : Nat → Nat → Nat} {n c d w : Nat} {ln kl ep : Nat → Nat} {fo nt : Int32} {ar : Nat → Nat → Int32} {rb : Nat → Int32} {kp kb : Nat → Nat → Int32} {iK sm ky : Nat → Int32}
theorem ShC.fup {i k e len : Nat} {tp tb : Nat → Int32} (h : ShC κ G B ar c ln kl ep kp kb i) (hik : i ≠ k) : ShC κ G B ar c ln (fup kl k len) (fup ep k e) (fup kp k tp) (fup kb k tb) i := by
  unfold ShC at *
  rw [fup_n hik, fup_n hik, fup_n hik, fup_n hik]
  exact h
theorem RC.op (hR : RC κ G B n c d w ln fo nt ar rb kl ep kp kb iK sm ky) {k e len : Nat} {tp tb : Nat → Int32} (hF : zFP (isOp k) G G2) (hk : k < n) (h1 : zSH G2 (B 15 k) k (ar 1 k) (ar 2 k) (ar 3 k) (B 16 (2 * k)) (B 16 (2 * k + 1)) (B 13 (3 + k)) (nI (cntS ar k e)) (ar 5 k)) (h2 : zTU κ G2 (B 16 (2 * k)) (2 * k) len tp tb) : RC κ G2 B n c d w ln fo nt ar rb (fup kl k len) (fup ep k e) (fup kp k tp) (fup kb k tb) iK sm ky := by
  obtain ⟨hO, hP, ⟨cols, key, f0, f1, f2, S, hA⟩, hLK, hl0, hl1, ⟨k2, es2, hl2⟩, hS, hCo, hPr⟩ := hR
  have no : ∀ a j : Nat, a < 15 ∨ 18 < a → ¬ isOp k (2, a, j) := fun a j ha q => by
    rcases q with (q | q | q) | q <;> (injection q with q1 q2; injection q2 with q3 q4; omega)
  have no2 : ∀ a j : Nat, (a = 15 ∧ j ≠ k) ∨ (16 ≤ a ∧ a ≤ 18 ∧ j ≠ 2 * k) → ¬ isOp k (2, a, j) := fun a j ha q => by
    rcases q with (q | q | q) | q <;> (injection q with q1 q2; injection q2 with q3 q4; omega)
  refine ⟨hF.1 _ _ _ (no 0 0 (by omega)) hO, hP.keep hF (no _ _ (by omega)) (no _ _ (by omega)), ⟨cols, key, f0, f1, f2, S, hA.keep hF (fun a j h => no _ _ (by omega))⟩, hLK.keep hF (fun a h => no _ _ (by omega)), hl0.keep hF (no _ _ (by omega)) (no _ _ (by omega)), hl1.keep hF (no _ _ (by omega)) (no _ _ (by omega)), ⟨k2, es2, hl2.keep hF (no _ _ (by omega)) (no _ _ (by omega))⟩, fun i hi => ?_, fun j hj => hF.1 _ _ _ (no _ _ (by omega)) (hCo j hj), fun j hj => hF.1 _ _ _ (no _ _ (by omega)) (hPr j hj)⟩
  by_cases hik : i = k
  · subst hik
    obtain ⟨-, -, ⟨tp2, tb2, h3, h4⟩, h5⟩ := hS i hi
    unfold ShC
    rw [fup_s, fup_s, fup_s, fup_s]
    exact ⟨h1, h2, ⟨tp2, tb2, h3.keep hF (fun r q => by rcases q with rfl | rfl | rfl <;> exact no2 _ _ (by omega)), h4⟩, h5.keep hF (no _ _ (by omega)) (no _ _ (by omega))⟩
  · refine ((hS i hi).keep hF (fun a j h => ?_)).fup hik
    by_cases ha : a < 15
    · exact no _ _ (by omega)
    · exact no2 _ _ (by omega)
theorem RC.eps (hR : RC κ G B n c d w ln fo nt ar rb kl ep kp kb iK sm ky) {k e : Nat} (h : cntS ar k (ep k) = cntS ar k e) : RC κ G B n c d w ln fo nt ar rb kl (fup ep k e) kp kb iK sm ky := by
  obtain ⟨hO, hP, hA, hLK, hl0, hl1, hl2, hS, hCo, hPr⟩ := hR
  refine ⟨hO, hP, hA, hLK, hl0, hl1, hl2, fun i hi => ?_, hCo, hPr⟩
  by_cases hik : i = k
  · subst hik
    have := hS i hi
    unfold ShC at *
    rw [fup_s, ← h]
    exact this
  · have := hS i hi
    unfold ShC at *
    rw [fup_n hik]
    exact this
theorem RC.lk (hR : RC κ G B n c d w ln fo nt ar rb kl ep kp kb iK sm ky) {iK2 sm2 ky2 : Nat → Int32} (hF : zFP isLk G G2) (hL : zLK κ G2 (B 9 0) (B 3 0) (B 10 0) (B 11 0) (B 12 0) iK2 sm2 ky2) (hA2 : ∃ cols key f0 f1 f2 S, zAL κ G2 (B 3 0) (B 1 0) cols key f0 f1 f2 S) : RC κ G2 B n c d w ln fo nt ar rb kl ep kp kb iK2 sm2 ky2 := by
  obtain ⟨hO, hP, -, -, hl0, hl1, ⟨k2, es2, hl2⟩, hS, hCo, hPr⟩ := hR
  have no : ∀ a j : Nat, a < 3 ∨ 12 < a → ¬ isLk (2, a, j) := fun a j ha q => by
    have h1 := q.2.1; have h2 := q.2.2; simp only at h1 h2; omega
  exact ⟨hF.1 _ _ _ (no 0 0 (by omega)) hO, hP.keep hF (no _ _ (by omega)) (no _ _ (by omega)), hA2, hL, hl0.keep hF (no _ _ (by omega)) (no _ _ (by omega)), hl1.keep hF (no _ _ (by omega)) (no _ _ (by omega)), ⟨k2, es2, hl2.keep hF (no _ _ (by omega)) (no _ _ (by omega))⟩, fun i hi => (hS i hi).keep hF (fun a j h => no _ _ (by omega)), fun j hj => hF.1 _ _ _ (no _ _ (by omega)) (hCo j hj), fun j hj => hF.1 _ _ _ (no _ _ (by omega)) (hPr j hj)⟩
/-- what opening a sheet asks of the told things -/
theorem op_hyps (hT : TD n c d w ln fo nt ar rb) (q : Int32) {k : Nat} (hk : k < n) :
    cntS ar k (Eq' ar q c) ≤ cntS ar k c ∧ (∀ j, j < cntS ar k (Eq' ar q c) → ar 12 (gx ar k c j) ≤ q) ∧ (cntS ar k (Eq' ar q c) < cntS ar k c → ¬ ar 12 (gx ar k c (cntS ar k (Eq' ar q c))) ≤ q) ∧ ∀ j, j < cntS ar k c → 0 ≤ ar 9 (gx ar k c j) ∧ ar 9 (gx ar k c j) < nI (ln k) := by
  obtain ⟨t1, t2, t3, t4, t5, t6, t7, t8, -⟩ := hT
  have hE := Eq_iff (q := q) t6
  have hm := cntS_mono (ar := ar) (i := k) hE.1
  refine ⟨hm, fun j hj => ?_, fun hlt h => ?_, fun j hj => ?_⟩
  · obtain ⟨g1, g2, g3⟩ := gx_of (show j < cntS ar k c by omega)
    refine (hE.2 _ g1).mpr (Nat.not_le.mp fun h => ?_)
    have := cntS_mono (ar := ar) (i := k) h
    omega
  · obtain ⟨g1, g2, g3⟩ := gx_of hlt
    have := cntS_lt g2 ((hE.2 _ g1).mp h)
    omega
  · obtain ⟨g1, g2, g3⟩ := gx_of hj
    obtain ⟨⟨s, hs, e1, g, hg, e2⟩, -⟩ := t8 _ g1
    have h5 := t5 s hs
    have : s = k := (nI_eq (by omega) (by omega)).mp (e1.symm.trans g2)
    subst this
    rw [e2]
    exact ⟨Int32.not_lt.mp (nI_pos (by omega)), (nI_ltI (by omega) (by omega)).mpr hg⟩
theorem CH.forget (hC : CH ar n kl kp kb iK sm ky) {iK2 : Nat → Int32} {k len : Nat} {tp tb : Nat → Int32} (h : ∀ a b, a < 20 → b < 20 → ¬ iK2 (20 * a + b) = 0 → a ≠ k ∧ b ≠ k ∧ iK2 (20 * a + b) = iK (20 * a + b)) : CH ar n (fup kl k len) (fup kp k tp) (fup kb k tb) iK2 sm ky := fun a b ha hb h0 => by
  obtain ⟨h1, h2, h3⟩ := h a b ha hb h0
  rw [h3] at h0
  have := hC a b ha hb h0
  unfold KD at *
  rw [fup_n h1, fup_n h1, fup_n h1, fup_n h2, fup_n h2, fup_n h2]
  exact this
end RCL
abbrev rX7_turnTo : Room := rmK 5 0 0 110
set_option maxRecDepth 100000 in
set_option maxHeartbeats 400000 in
theorem c_hTurn (l : Launch) {κ : zK} {G : zH} {B : Nat → Nat → Nat} {n c d w : Nat} {ln kl ep : Nat → Nat} {fo nt : Int32} {ar : Nat → Nat → Int32} {rb : Nat → Int32} {kp kb : Nat → Nat → Int32} {iK sm ky : Nat → Int32} (q : Int32) (hR : RC κ G B n c d w ln fo nt ar rb kl ep kp kb iK sm ky) (hT : TD n c d w ln fo nt ar rb) (hK : KN ar n c ln kl ep kp kb) (hC : CH ar n kl kp kb iK sm ky) : Ct l yX7_turnTo cX7_turnTo 4 none rX7_turnTo κ [.ref (B 0 0), .int q] G (pV (fun G2 => ∃ kl2 ep2 kp2 kb2 iK2, RC κ G2 B n c d w ln fo nt ar rb kl2 ep2 kp2 kb2 iK2 sm ky ∧ KN ar n c ln kl2 ep2 kp2 kb2 ∧ CH ar n kl2 kp2 kb2 iK2 sm ky ∧ (∀ i, i < n → kl2 i = ln i ∧ ep2 i = Eq' ar q c) ∧ zFP isTn G G2)) := by
  refine Ct.of (by decide +kernel) (fun v hv => by
    simp only [List.mem_cons, List.mem_nil_iff, or_false, List.not_mem_nil] at hv
    rcases hv with rfl | rfl <;> rfl) (Nat.le_of_ble_eq_true rfl) ?_
  intro p e s m args below meth cC
  refine z_L (L' := [some (.ref (B 0 0)), some (.int q), none, none]) rfl ?_
  generalize hQx : MQ below (zQc κ _) args s _ _ (zA κ) = Qx
  have hn20 := hT.1
  have lp : ∀ (fu k : Nat) (G2 : zH) (kl2 ep2 : Nat → Nat) (kp2 kb2 : Nat → Nat → Int32) (iK2 : Nat → Int32) (q3 : Option Value), k + fu = n → RC κ G2 B n c d w ln fo nt ar rb kl2 ep2 kp2 kb2 iK2 sm ky → KN ar n c ln kl2 ep2 kp2 kb2 → CH ar n kl2 kp2 kb2 iK2 sm ky → (∀ i, i < k → kl2 i = ln i ∧ ep2 i = Eq' ar q c) → zFP isTn G G2 → Z p l e rX7_turnTo s m args below meth cC yX7_turnTo cX7_turnTo 4 none κ Qx 0 0 G2 [some (.ref (B 0 0)), some (.int q), some (.int (nI k)), q3] 2 [] := by
    intro fu
    induction fu with
    | zero =>
      intro k G2 kl2 ep2 kp2 kb2 iK2 q3 hkk hR hK hC hq hF
      obtain ⟨hO, hP, ⟨cols, key, f0, f1, f2, S, hA⟩, hLK, hl0, hl1, ⟨k2, es2, hl2⟩, hS, hCo, hPr⟩ := id hR
      obtain ⟨mc0, ea0, hm0, -⟩ := id hl0
      refine z_il2 (pc := 2) dX7_turnTo_2 ?_
      refine z_al0 (pc := 3) dX7_turnTo_3 ?_
      refine z_get (pc := 4) 3 hO rfl iw_X7 (by decide) kw_121 rfl dX7_turnTo_4 ?_
      refine z_callVr (pc := 7) (c_jSize l 0 (B 13 0) 29 n hl0) hm0 rfl rfl kw_153 zc_Jx4a65c_size_8abf5 (by decide) (by decide) rfl (Nat.le_of_ble_eq_true rfl) dX7_turnTo_7 ?_
      refine z_icmp_ge (pc := 10) 47 dX7_turnTo_10 rfl (fun c10 => ?_) (fun c10 => absurd (by rw [nI_leI (by omega) (by omega)]; omega) c10)
      rw [← hQx]
      refine z_vret (pc := 47) rfl (by decide) dX7_turnTo_47 (⟨rfl, kl2, ep2, kp2, kb2, iK2, hR, hK, hC, fun i hi => hq i (by omega), hF⟩)
    | succ fu ih =>
      intro k G2 kl2 ep2 kp2 kb2 iK2 q3 hkk hR hK hC hq hF
      obtain ⟨hO, hP, ⟨cols, key, f0, f1, f2, S, hA⟩, hLK, hl0, hl1, ⟨k2, es2, hl2⟩, hS, hCo, hPr⟩ := id hR
      obtain ⟨mc0, ea0, hm0, -⟩ := id hl0
      have hkn : k < n := by omega
      have hy := op_hyps hT q hkn
      obtain ⟨tp, tb, hd, htd⟩ := (hS k hkn).2.2.1
      refine z_il2 (pc := 2) dX7_turnTo_2 ?_
      refine z_al0 (pc := 3) dX7_turnTo_3 ?_
      refine z_get (pc := 4) 3 hO rfl iw_X7 (by decide) kw_121 rfl dX7_turnTo_4 ?_
      refine z_callVr (pc := 7) (c_jSize l 0 (B 13 0) 29 n hl0) hm0 rfl rfl kw_153 zc_Jx4a65c_size_8abf5 (by decide) (by decide) rfl (Nat.le_of_ble_eq_true rfl) dX7_turnTo_7 ?_
      refine z_icmp_ge (pc := 10) 47 dX7_turnTo_10 rfl (fun c10 => absurd c10 (by rw [nI_leI (by omega) (by omega)]; omega)) (fun c10 => ?_)
      refine z_al0 (pc := 13) dX7_turnTo_13 ?_
      refine z_get (pc := 14) 3 hO rfl iw_X7 (by decide) kw_121 rfl dX7_turnTo_14 ?_
      refine z_il2 (pc := 17) dX7_turnTo_17 ?_
      skip
      refine z_callVrq (pc := 18) (c_jGet l 0 (B 13 0) 29 n k hl0 hkn (by omega)) hm0 rfl rfl kw_295 zc_Jx4a65c_get_915e3 (by decide) (by decide) rfl (Nat.le_of_ble_eq_true rfl) dX7_turnTo_18 ?_
      refine z_castS (pc := 21) (hS k hkn).1 rfl kw_166 dX7_turnTo_21 ?_
      refine z_as3 (pc := 24) dX7_turnTo_24 (by decide) ?_
      refine z_al3 (pc := 25) dX7_turnTo_25 ?_
      refine z_il1 (pc := 26) dX7_turnTo_26 ?_
      refine z_callVi (pc := 27) _ (c_sOpen l k (cntS ar k c) (cntS ar k (Eq' ar q c)) (es := fun j => B 19 (gx ar k c j)) (rk := fun j => gx ar k c j) (si := fun j => ar 12 (gx ar k c j)) (pl := fun j => ar 9 (gx ar k c j)) (pi := fun j => ar 10 (gx ar k c j)) (be := fun j => rb (gx ar k c j)) (kl2 k) (ln k) (cntS ar k (ep2 k)) q (hS k (by omega)).1 (hS k (by omega)).2.2.2 (Nat.le_trans (cntS_le c) hT.2.1) (fun j hj => hCo _ (gx_of hj).1) hy.1 hy.2.1 hy.2.2.1 (hS k (by omega)).2.1 hd hy.2.2.2 ⟨rfl, Nat.le_trans (cntS_le _) (Nat.le_trans (hK k (by omega)).2.1 hT.2.1)⟩) rfl (hS k (by omega)).1 rfl rfl kw_441 zc_X5_openOn (by decide) rfl (Nat.le_of_ble_eq_true rfl) dX7_turnTo_27 (fun v G4 hv => ?_)
      rcases hv with ⟨rfl, rfl, hv1, hv2⟩ | ⟨rfl, hsh4, kp4, kb4, hk4, hv1, hv2, hF4⟩
      · refine z_if_eq (pc := 30) 41 dX7_turnTo_30 rfl (fun _ => ?_) (fun h => absurd (by decide) h)
        refine z_ii2 (pc := 41) (nI (k + 1)) dX7_turnTo_41 (nI_1 _) (by decide) ?_
        refine z_goto (pc := 44) 2 dX7_turnTo_44 rfl ?_
        refine z_L rfl ?_
        exact ih (k + 1) G4 kl2 (fup ep2 k (Eq' ar q c)) kp2 kb2 iK2 _ (by omega) (hR.eps hv1.symm) (fun i hi => by
          by_cases hik : i = k
          · subst hik; rw [fup_s]; exact ⟨(hK i hi).1, (Eq_iff hT.2.2.2.2.2.1).1, fun j hj => ⟨((hK i hi).2.2 j hj).1.trans (ks_cnt hv1.symm), ((hK i hi).2.2 j hj).2.trans (ks_cnt hv1.symm)⟩⟩
          · rw [fup_n hik]; exact hK i hi) hC (fun i hi => by
          by_cases hik : i = k
          · subst hik; exact ⟨hv2, fup_s⟩
          · rw [fup_n hik]; exact hq i (by omega)) hF
      · have hno : ∀ a j : Nat, a < 15 ∨ 18 < a → ¬ isOp k (2, a, j) := fun a j ha q => by
          rcases q with (q | q | q) | q <;> (injection q with q1 q2; injection q2 with q3 q4; omega)
        refine z_if_eq (pc := 30) 41 dX7_turnTo_30 rfl (fun h => absurd h (by decide)) (fun _ => ?_)
        refine z_al0 (pc := 33) dX7_turnTo_33 ?_
        refine z_get (pc := 34) 2 (hF4.1 _ _ _ (hno 0 0 (by omega)) hO) rfl iw_X7 (by decide) kw_120 rfl dX7_turnTo_34 ?_
        refine z_al3 (pc := 37) dX7_turnTo_37 ?_
        refine z_callVv (pc := 38) _ (c_kForget l k (hLK.keep hF4 (fun a h => hno a 0 (by omega))) hsh4 (by have := hT.1; omega)) rfl (hF4.1 _ _ _ (hno 9 0 (by omega)) hLK.1) rfl rfl kw_457 zc_X2_forget (by decide) rfl (Nat.le_of_ble_eq_true rfl) dX7_turnTo_38 (fun G5 hv => ?_)
        obtain ⟨iK5, hL5, hF5, hz5⟩ := hv
        refine z_ii2 (pc := 41) (nI (k + 1)) dX7_turnTo_41 (nI_1 _) (by decide) ?_
        refine z_goto (pc := 44) 2 dX7_turnTo_44 rfl ?_
        have hR5 := (hR.op hF4 hkn hsh4 hk4).lk (hF5.mono (fun r h => by rw [h]; exact ⟨rfl, by decide, by decide⟩)) hL5 ⟨cols, key, f0, f1, f2, S, (hA.keep hF4 (fun a j h => hno a j (by omega))).keep hF5 (fun a j h q => by cases q; omega)⟩
        refine z_L rfl ?_
        exact ih (k + 1) G5 _ _ _ _ _ _ (by omega) hR5 (fun i hi => by
          by_cases hik : i = k
          · subst hik
            rw [fup_s, fup_s, fup_s, fup_s]
            refine ⟨Nat.le_refl _, (Eq_iff hT.2.2.2.2.2.1).1, fun j hj => ⟨(hv1 j hj).trans (cf_ks (b := false) (v := fun g => ar 10 g) (htd j hj).1 (fun g hg => ⟨rfl, fun _ => rfl⟩) _ (Eq_iff hT.2.2.2.2.2.1).1), (hv2 j hj).trans (cf_ks (b := true) (v := fun g => nb (ar 10 g) (rb g)) (htd j hj).2 (fun g hg => ⟨rfl, fun _ => (hT.2.2.2.2.2.2.2.1 g hg).2.1⟩) _ (Eq_iff hT.2.2.2.2.2.1).1)⟩⟩
          · rw [fup_n hik, fup_n hik, fup_n hik, fup_n hik]; exact hK i hi) (hC.forget hz5) (fun i hi => by
          by_cases hik : i = k
          · subst hik; exact ⟨fup_s, fup_s⟩
          · rw [fup_n hik, fup_n hik]; exact hq i (by omega)) (hF.trans ((hF4.mono (fun r h => by rcases h with (h | h | h) | h <;> rw [h] <;> exact ⟨rfl, Or.inr ⟨Nat.le_of_ble_eq_true rfl, Nat.le_of_ble_eq_true rfl⟩⟩)).trans (hF5.mono (fun r h => by rw [h]; exact ⟨rfl, by decide⟩))))
  refine z_iconst (pc := 0) (0) (by decide) dX7_turnTo_0 ?_
  refine z_is2 (pc := 1) dX7_turnTo_1 (by decide) ?_
  refine z_L (L' := [some (.ref (B 0 0)), some (.int q), some (.int (nI 0)), none]) rfl ?_
  exact lp n 0 G kl ep kp kb iK none (by omega) hR hK hC (fun i hi => absurd hi (by omega)) zFP.rf
