/-! the class and the model side by side -/
/-- both states: the class's object hx, the model x, the cell oa that the law writes to -/
def IV (κ : zK) (G : zH) (hx x oa : Nat) : Prop := ∃ (B : Nat → Nat → Nat) (n c d w : Nat) (ln : Nat → Nat) (fo nt : Int32) (ar : Nat → Nat → Int32) (rb sc : Nat → Int32) (ad : Nat → Nat) (f : Nat → Int64), B 0 0 = hx ∧ HC κ G B n c d w ln fo nt ar rb ∧ RM κ G x ad sc ar ∧ (sc 16 = nI n ∧ sc 17 = nI c ∧ sc 18 = nI d ∧ sc 19 = nI w) ∧ G oa = some ((3, 0, 0), .inl (κ.2.1 4, 1, .inr (.inl f)))
theorem MJ_of {n c d w : Nat} {ln : Nat → Nat} {fo nt : Int32} {ar : Nat → Nat → Int32} {rb sc : Nat → Int32} (hT : TD n c d w ln fo nt ar rb) (hs : sc 16 = nI n ∧ sc 17 = nI c ∧ sc 18 = nI d ∧ sc 19 = nI w) : MJ n c d w ln sc ar := by
  obtain ⟨t1, t2, t3, t4, t5, t6, t7, t8, t9, t10, t11, t12, t13, t14, -⟩ := hT
  exact ⟨hs.1, t1, hs.2.1, t2, hs.2.2.1, t3, hs.2.2.2, t4, fun i hi => ⟨t14 i hi, t5 i hi⟩, fun k hk => by
    obtain ⟨a, b, h1, h2, h3, h4, -⟩ := t10 k hk
    exact ⟨a, b, h1, h2, h3, h4⟩⟩
theorem IV.hx {κ : zK} {G : zH} {hx x oa : Nat} (h : IV κ G hx x oa) : ∃ fs, G hx = some ((2, 0, 0), .inr (8, fs)) := by
  obtain ⟨B, n, c, d, w, ln, fo, nt, ar, rb, sc, ad, f, rfl, ⟨hT, kl, ep, kp, kb, iK, sm, ky, hR, hK, hC⟩, hM, hs, hO⟩ := h
  exact ⟨_, hR.1⟩
abbrev ST (l : Launch) (κ : zK) (hx x oa : Nat) (y2 : MethodName) (c2 : ByteArray) (n2 : Nat) (t2 : FieldType) (rm2 : Room) (As : List Value) : Option Value → zH → Prop := pI (fun r G2 => (∃ fs, G2 x = some ((1, 0, 0), .inr (9, fs))) ∧ Ct l y2 c2 n2 (some t2) rm2 κ (.ref x :: As) G2 (pI (fun r2 G3 => r2 = r ∧ IV κ G3 hx x oa)))
abbrev QV : Type := Nat → Nat → Nat → Nat → (Nat → Nat) → (Nat → Nat → Int32) → Int32 → Prop
theorem HQ.fr {κ : zK} {G G2 : zH} {B : Nat → Nat → Nat} {n c d w : Nat} {ln : Nat → Nat} {fo nt : Int32} {ar : Nat → Nat → Int32} {rb : Nat → Int32} (h : HQ κ G G2 B n c d w ln fo nt ar rb) : zFP is2 G G2 := by
  obtain ⟨_, _, _, _, _, _, _, _, _, _, h⟩ := h
  exact h
theorem st_q {l : Launch} {κ : zK} {G : zH} {hx x oa : Nat} {y1 y2 : MethodName} {c1 c2 : ByteArray} {n1 n2 : Nat} {t1 t2 : FieldType} {rm1 rm2 : Room} {As : List Value} (V W : QV) (hI : IV κ G hx x oa)
    (hc : ∀ {B : Nat → Nat → Nat} {n c d w : Nat} {ln kl ep : Nat → Nat} {fo nt : Int32} {ar : Nat → Nat → Int32} {rb : Nat → Int32} {kp kb : Nat → Nat → Int32} {iK sm ky : Nat → Int32}, RC κ G B n c d w ln fo nt ar rb kl ep kp kb iK sm ky → TD n c d w ln fo nt ar rb → KN ar n c ln kl ep kp kb → CH ar n kl kp kb iK sm ky → Ct l y1 c1 n1 (some t1) rm1 κ (.ref (B 0 0) :: As) G (pI (fun r G2 => V n c d w ln ar r ∧ HQ κ G G2 B n c d w ln fo nt ar rb)))
    (hm : ∀ {G2 : zH} {n c d w : Nat} {ln : Nat → Nat} {fo nt : Int32} {ar : Nat → Nat → Int32} {rb sc : Nat → Int32} {ad : Nat → Nat}, RM κ G2 x ad sc ar → MJ n c d w ln sc ar → TD n c d w ln fo nt ar rb → Ct l y2 c2 n2 (some t2) rm2 κ (.ref x :: As) G2 (pI (fun r2 G3 => ∃ sc2 ar2, RM κ G3 x ad sc2 ar2 ∧ zF 1 G2 G3 ∧ PS sc ar sc2 ar2 ∧ W n c d w ln ar r2)))
    (he : ∀ {n c d w : Nat} {ln : Nat → Nat} {fo nt : Int32} {ar : Nat → Nat → Int32} {rb : Nat → Int32} {r r2 : Int32}, TD n c d w ln fo nt ar rb → V n c d w ln ar r → W n c d w ln ar r2 → r2 = r) : Ct l y1 c1 n1 (some t1) rm1 κ (.ref hx :: As) G (ST l κ hx x oa y2 c2 n2 t2 rm2 As) := by
  obtain ⟨B, n, c, d, w, ln, fo, nt, ar, rb, sc, ad, f, rfl, ⟨hT, kl, ep, kp, kb, iK, sm, ky, hR, hK, hC⟩, hM, hs, hO⟩ := hI
  refine (hc hR hT hK hC).imp (fun v G2 hv => ?_)
  obtain ⟨r, rfl, hV, hQ⟩ := hv
  have hF2 := hQ.fr
  have hM2 := hM.keep (hF2.F (n := 2) (fun r h => h)) (by decide)
  have hO2 := hF2.1 _ _ _ (fun (h : 3 = 2) => by cases h) hO
  refine ⟨r, rfl, ⟨_, hM2.1⟩, (hm hM2 (MJ_of hT hs) hT).imp (fun v2 G3 hv2 => ?_)⟩
  obtain ⟨r2, rfl, sc2, ar2, hM3, hF3, hPS, hW⟩ := hv2
  have hF3' : zFP (fun r => r.1 = 1) G2 G3 := hF3
  exact ⟨r2, rfl, he hT hV hW, B, n, c, d, w, ln, fo, nt, ar2, rb, sc2, ad, f, rfl, ((hQ.hc hT).keep hF3' (fun k j (h : 2 = 1) => by cases h)).ps hPS.2, hM3, ⟨(hPS.1 16 (by omega) (by omega)).trans hs.1, (hPS.1 17 (by omega) (by omega)).trans hs.2.1, (hPS.1 18 (by omega) (by omega)).trans hs.2.2.1, (hPS.1 19 (by omega) (by omega)).trans hs.2.2.2⟩, hF3.1 _ _ _ (by decide) hO2⟩
/-- a value told by one expression -/
theorem qW {l : Launch} {κ : zK} {G2 : zH} {x : Nat} {ad : Nat → Nat} {sc : Nat → Int32} {ar : Nat → Nat → Int32} {y2 : MethodName} {c2 : ByteArray} {n2 : Nat} {ret2 : Option FieldType} {rm2 : Room} {As : List Value} {F : Int32} (h : Ct l y2 c2 n2 ret2 rm2 κ As G2 (qP F κ G2 x ad sc ar)) : Ct l y2 c2 n2 ret2 rm2 κ As G2 (pI (fun r2 G3 => ∃ sc2 ar2, RM κ G3 x ad sc2 ar2 ∧ zF 1 G2 G3 ∧ PS sc ar sc2 ar2 ∧ r2 = F)) := h.imp (fun v G3 hv => by
  obtain ⟨r, rfl, h1, sc2, ar2, h2, h3, h4⟩ := hv
  exact ⟨r, rfl, sc2, ar2, h2, h3, h4, h1⟩)
theorem zPW {l : Launch} {κ : zK} {G : zH} {y2 : MethodName} {c2 : ByteArray} {n2 : Nat} {ret2 : Option FieldType} {rm2 : Room} {As : List Value} {F : Int32} {P : zH → Prop} (h : Ct l y2 c2 n2 ret2 rm2 κ As G (zP F G)) (hP : P G) : Ct l y2 c2 n2 ret2 rm2 κ As G (pI (fun r G2 => r = F ∧ P G2)) := h.imp (fun v G3 hv => by
  obtain ⟨r, rfl, h1, rfl⟩ := hv
  exact ⟨r, rfl, h1, hP⟩)
theorem st_distance {l : Launch} {κ : zK} {G : zH} {hx x oa : Nat} (a0 b0 q : Int32) (hI : IV κ G hx x oa) : Ct l yX7_distance cX7_distance 6 (some .int) rX7_distance κ (.ref hx :: [.int a0, .int b0, .int q]) G (ST l κ hx x oa yX8_distance cX8_distance 4 .int rX8_distance [.int a0, .int b0, .int q]) :=
  st_q (fun n c d w ln ar r => r = (if ok2 n w a0 b0 q then sD ar c ln q (iN a0) (iN b0) else -1)) (fun n c d w ln ar r => r = (if ok2 n w a0 b0 q then sD ar c ln q (iN a0) (iN b0) else -1)) hI (fun hR hT hK hC => c_hDist l a0 b0 q hR hT hK hC) (fun hM hJ hT => qW (c_mDistance l _ _ _ _ _ a0 b0 q hM hJ)) (fun hT hV hW => hW.trans hV.symm)
theorem st_key {l : Launch} {κ : zK} {G : zH} {hx x oa : Nat} (a0 b0 q : Int32) (hI : IV κ G hx x oa) : Ct l yX7_key cX7_key 6 (some .int) rX7_key κ (.ref hx :: [.int a0, .int b0, .int q]) G (ST l κ hx x oa yX8_key cX8_key 5 .int rX8_key [.int a0, .int b0, .int q]) :=
  st_q (fun n c d w ln ar r => r = (if ok2 n w a0 b0 q then sK ar c ln q (iN a0) (iN b0) else 100)) (fun n c d w ln ar r => r = (if ok2 n w a0 b0 q then sK ar c ln q (iN a0) (iN b0) else 100)) hI (fun hR hT hK hC => c_hKey l a0 b0 q hR hT hK hC) (fun hM hJ hT => qW (c_mKey l _ _ _ _ _ a0 b0 q hM hJ (TLok_of hT))) (fun hT hV hW => hW.trans hV.symm)
theorem st_column {l : Launch} {κ : zK} {G : zH} {hx x oa : Nat} (a0 b0 q i0 what : Int32) (hI : IV κ G hx x oa) : Ct l yX7_column cX7_column 8 (some .int) rX7_column κ (.ref hx :: [.int a0, .int b0, .int q, .int i0, .int what]) G (ST l κ hx x oa yX8_column cX8_column 7 .int rX8_column [.int a0, .int b0, .int q, .int i0, .int what]) :=
  st_q (fun n c d w ln ar r => (ok2 n w a0 b0 q → ∃ s0, isCols ar c ln q (iN a0) (iN b0) s0 ∧ r = sCol ar c ln q (iN a0) (iN b0) s0 i0 what) ∧ (¬ ok2 n w a0 b0 q → r = -1)) (fun n c d w ln ar r => (¬ ok2 n w a0 b0 q ∧ r = -1) ∨ (ok2 n w a0 b0 q ∧ ∃ s0, isCols ar c ln q (iN a0) (iN b0) s0 ∧ r = sCol ar c ln q (iN a0) (iN b0) s0 i0 what)) hI (fun hR hT hK hC => (c_hCol l a0 b0 q i0 what hR hT hK hC).imp (fun v G2 hv => by
    obtain ⟨r, rfl, h1, h2, h3⟩ := hv
    exact ⟨r, rfl, ⟨h1, h2⟩, h3⟩)) (fun hM hJ hT => c_mColumn l _ _ _ _ _ a0 b0 q i0 what hM hJ (TLok_of hT)) (fun hT hV hW => by
    rcases hW with ⟨h1, h2⟩ | ⟨h1, s0, h2, h3⟩
    · rw [h2, hV.2 h1]
    · obtain ⟨s1, g2, g3⟩ := hV.1 h1
      rw [h3, g3, h2.one g2])
theorem st_source {l : Launch} {κ : zK} {G : zH} {hx x oa : Nat} (a0 q : Int32) (hI : IV κ G hx x oa) : Ct l yX7_source cX7_source 5 (some .int) rX7_source κ (.ref hx :: [.int a0, .int q]) G (ST l κ hx x oa yX8_source cX8_source 3 .int rX8_source [.int a0, .int q]) :=
  st_q (fun n c d w ln ar r => r = (if okA n w ar a0 q then srcR ar (srcM ar (sD ar c ln q (iN a0)) (iN a0) q n) else -1)) (fun n c d w ln ar r => r = (if okA n w ar a0 q then srcR ar (sSrc ar c ln n q (iN a0)) else -1)) hI (fun hR hT hK hC => c_hSource l a0 q _ hR hT hK hC (fun _ _ => rfl)) (fun hM hJ hT => qW (c_mSource l _ _ _ _ _ a0 q hM hJ)) (fun hT hV hW => hW.trans hV.symm)
theorem st_changes {l : Launch} {κ : zK} {G : zH} {hx x oa : Nat} (a0 q : Int32) (hI : IV κ G hx x oa) : Ct l yX7_changes cX7_changes 4 (some .int) rX7_changes κ (.ref hx :: [.int a0, .int q]) G (ST l κ hx x oa yX8_changes cX8_changes 3 .int rX8_changes [.int a0, .int q]) :=
  st_q (fun n c d w ln ar r => r = (if okA n w ar a0 q then chgR ar (srcM ar (sD ar c ln q (iN a0)) (iN a0) q n) else -1)) (fun n c d w ln ar r => r = (if okA n w ar a0 q then chgR ar (sSrc ar c ln n q (iN a0)) else -1)) hI (fun hR hT hK hC => c_hChanges l a0 q _ hR hT hK hC (fun _ _ => rfl)) (fun hM hJ hT => qW (c_mChanges l _ _ _ _ _ a0 q hM hJ)) (fun hT hV hW => hW.trans hV.symm)
theorem st_all {l : Launch} {κ : zK} {G : zH} {hx x oa : Nat} (q : Int32) (hI : IV κ G hx x oa) : Ct l yX7_all cX7_all 5 (some .int) rX7_all κ (.ref hx :: [.int q]) G (ST l κ hx x oa yX8_all cX8_all 4 .int rX8_all [.int q]) :=
  st_q (fun n c d w ln ar r => r = (if 0 ≤ q ∧ q ≤ nI w then cAll ar (sD ar c ln q) n q n else -1)) (fun n c d w ln ar r => r = (if 0 ≤ q ∧ q ≤ nI w then sAll ar c ln n q n else -1)) hI (fun hR hT hK hC => c_hAll l q _ hR hT hK hC (fun _ _ _ _ => rfl)) (fun hM hJ hT => qW (c_mAll l _ _ _ _ _ q hM hJ)) (fun hT hV hW => by rw [hW, hV, cAll_sAll])
theorem st_doubt {l : Launch} {κ : zK} {G : zH} {hx x oa : Nat} (a0 mg q : Int32) (hI : IV κ G hx x oa) : Ct l yX7_doubt cX7_doubt 6 (some .int) rX7_doubt κ (.ref hx :: [.int a0, .int mg, .int q]) G (ST l κ hx x oa yX8_doubt cX8_doubt 8 .int rX8_doubt [.int a0, .int mg, .int q]) :=
  st_q (fun n c d w ln ar r => r = (if okA n w ar a0 q ∧ 0 ≤ mg ∧ mg ≤ 10000 then dbR ar (sD ar c ln q (iN a0)) (iN a0) q mg n (csM ar (sD ar c ln q (iN a0)) (iN a0) q n).1 else -1)) (fun n c d w ln ar r => r = (if okA n w ar a0 q ∧ 0 ≤ mg ∧ mg ≤ 10000 then dbtR ar (sD ar c ln q (iN a0)) (iN a0) q mg n (sSrc ar c ln n q (iN a0)) else -1)) hI (fun hR hT hK hC => c_hDoubt l a0 mg q _ hR hT hK hC (fun _ _ => rfl)) (fun hM hJ hT => qW (c_mDoubt l _ _ _ _ _ a0 mg q hM hJ)) (fun hT hV hW => by rw [hW, hV]; unfold sSrc; rw [dbtR_cs])
theorem st_family {l : Launch} {κ : zK} {G : zH} {hx x oa : Nat} (a0 bar q : Int32) (hI : IV κ G hx x oa) : Ct l yX7_family cX7_family 6 (some .int) (rmK 9 401 11629 241) κ (.ref hx :: [.int a0, .int bar, .int q]) G (ST l κ hx x oa yX8_family cX8_family 4 .int rX8_family [.int a0, .int bar, .int q]) :=
  st_q (fun n c d w ln ar r => r = (if (okA n w ar a0 q ∧ 0 ≤ bar ∧ bar ≤ 10000) then famC (gth ar (sD ar c ln q) q bar n (iN a0) 20) (gth ar (sD ar c ln q) q bar n (iN a0) 20).1 else -1)) (fun n c d w ln ar r => (¬ okFam n w ar a0 bar q ∧ r = -1) ∨ (okFam n w ar a0 bar q ∧ ∃ lab, FL n ar c ln q bar lab ∧ r = nI (lab (iN a0)))) hI (fun hR hT hK hC => c_hFamily l a0 bar q _ hR hT hK hC (fun _ _ _ _ => rfl)) (fun hM hJ hT => c_mFamily l _ _ _ _ _ a0 bar q hM hJ) (fun hT hV hW => by
    rcases hW with ⟨h1, h2⟩ | ⟨h1, lab, h2, h3⟩
    · rw [h2, hV, if_neg (fun h => h1 ⟨h.1.1, h.2, h.1.2.1, h.1.2.2⟩)]
    · rw [h3, hV, if_pos ⟨⟨h1.1, h1.2.2.1, h1.2.2.2⟩, h1.2.1⟩]
      have hn := hT.1
      exact (fam_eq (D := sD _ _ _ _) h2 (fun a b ha hb => sD_swap hT ha hb _) (fun _ _ _ _ => rfl) hn (iN_lt h1.1 (by omega)) h1.2.2.2).symm)
theorem st_kin {l : Launch} {κ : zK} {G : zH} {hx x oa : Nat} (a0 bar q : Int32) (hI : IV κ G hx x oa) : Ct l yX7_kin cX7_kin 4 (some .int) (rmK 9 401 11629 241) κ (.ref hx :: [.int a0, .int bar, .int q]) G (ST l κ hx x oa yX8_kin cX8_kin 6 .int rX8_kin [.int a0, .int bar, .int q]) :=
  st_q (fun n c d w ln ar r => r = (if (okA n w ar a0 q ∧ 0 ≤ bar ∧ bar ≤ 10000) then nI (gth ar (sD ar c ln q) q bar n (iN a0) 20).1 else -1)) (fun n c d w ln ar r => (¬ okFam n w ar a0 bar q ∧ r = -1) ∨ (okFam n w ar a0 bar q ∧ ∃ lab, FL n ar c ln q bar lab ∧ r = kinM ar q lab (iN a0) n)) hI (fun hR hT hK hC => c_hKin l a0 bar q _ hR hT hK hC (fun _ _ _ _ => rfl)) (fun hM hJ hT => c_mKin l _ _ _ _ _ a0 bar q hM hJ) (fun hT hV hW => by
    rcases hW with ⟨h1, h2⟩ | ⟨h1, lab, h2, h3⟩
    · rw [h2, hV, if_neg (fun h => h1 ⟨h.1.1, h.2, h.1.2.1, h.1.2.2⟩)]
    · rw [h3, hV, if_pos ⟨⟨h1.1, h1.2.2.1, h1.2.2.2⟩, h1.2.1⟩]
      have hn := hT.1
      exact (kin_eq (D := sD _ _ _ _) h2 (fun a b ha hb => sD_swap hT ha hb _) (fun _ _ _ _ => rfl) hn (iN_lt h1.1 (by omega)) h1.2.2.2).symm)
theorem st_sung {l : Launch} {κ : zK} {G : zH} {hx x oa : Nat} (a0 bar q : Int32) (hI : IV κ G hx x oa) : Ct l yX7_sung cX7_sung 6 (some .int) (rmK 9 401 11629 241) κ (.ref hx :: [.int a0, .int bar, .int q]) G (ST l κ hx x oa yX8_sung cX8_sung 6 .int rX8_sung [.int a0, .int bar, .int q]) :=
  st_q (fun n c d w ln ar r => r = (if (okA n w ar a0 q ∧ 0 ≤ bar ∧ bar ≤ 10000) then sngC ar (gth ar (sD ar c ln q) q bar n (iN a0) 20) (gth ar (sD ar c ln q) q bar n (iN a0) 20).1 else -1)) (fun n c d w ln ar r => (¬ okFam n w ar a0 bar q ∧ r = -1) ∨ (okFam n w ar a0 bar q ∧ ∃ lab, FL n ar c ln q bar lab ∧ r = sungM ar q lab (iN a0) n)) hI (fun hR hT hK hC => c_hSung l a0 bar q _ hR hT hK hC (fun _ _ _ _ => rfl)) (fun hM hJ hT => c_mSung l _ _ _ _ _ a0 bar q hM hJ) (fun hT hV hW => by
    rcases hW with ⟨h1, h2⟩ | ⟨h1, lab, h2, h3⟩
    · rw [h2, hV, if_neg (fun h => h1 ⟨h.1.1, h.2, h.1.2.1, h.1.2.2⟩)]
    · rw [h3, hV, if_pos ⟨⟨h1.1, h1.2.2.1, h1.2.2.2⟩, h1.2.1⟩]
      have hn := hT.1
      exact (sung_eq (D := sD _ _ _ _) h2 (fun a b ha hb => sD_swap hT ha hb _) (fun _ _ _ _ => rfl) hn (iN_lt h1.1 (by omega)) h1.2.2.2).symm)
theorem st_habit {l : Launch} {κ : zK} {G : zH} {hx x oa : Nat} (b1 b2 q what : Int32) (hI : IV κ G hx x oa) : Ct l yX7_habit cX7_habit 10 (some .int) rX7_habit κ (.ref hx :: [.int b1, .int b2, .int q, .int what]) G (ST l κ hx x oa yX8_habit cX8_habit 13 .int rX8_habit [.int b1, .int b2, .int q, .int what]) :=
  st_q (fun n c d w ln ar r => (¬ okHab w b1 b2 q what ∧ r = -1000000) ∨ (okHab w b1 b2 q what ∧ ∃ S, habC ar c d ln b1 b2 q S ∧ r = if what = 0 then habS ar c ln b1 b2 q S d else habN ar c ln b1 b2 q S d)) (fun n c d w ln ar r => (¬ okHab w b1 b2 q what ∧ r = -1000000) ∨ (okHab w b1 b2 q what ∧ ∃ S, habC ar c d ln b1 b2 q S ∧ r = if what = 0 then habS ar c ln b1 b2 q S d else habN ar c ln b1 b2 q S d)) hI (fun hR hT hK hC => c_hHabit l b1 b2 q what hR hT hK hC) (fun hM hJ hT => c_mHabit l _ _ _ _ _ b1 b2 q what hM hJ (TLok_of hT)) (fun hT hV hW => by
    rcases hV with ⟨h1, h2⟩ | ⟨h1, S, h2, h3⟩ <;> rcases hW with ⟨g1, g2⟩ | ⟨g1, S2, g2, g3⟩
    · rw [g2, h2]
    · exact absurd g1 h1
    · exact absurd h1 g1
    · rw [g3, h3, habS_congr (S := S2) (S2 := S) _ (fun j hj hr => (g2 j hj hr).one (h2 j hj hr)), habN_congr (S := S2) (S2 := S) _ (fun j hj hr => (g2 j hj hr).one (h2 j hj hr))])
theorem st_span {l : Launch} {κ : zK} {G : zH} {hx x oa : Nat} (v0 q g0 : Int32) (hI : IV κ G hx x oa) : Ct l yX7_span cX7_span 8 (some .int) rX7_span κ (.ref hx :: [.int v0, .int q, .int g0]) G (ST l κ hx x oa yX8_span cX8_span 6 .int rX8_span [.int v0, .int q, .int g0]) :=
  st_q (fun n c d w ln ar r => r = (if (0 ≤ v0 ∧ v0 ≤ 9) ∧ 0 ≤ q ∧ q ≤ nI w then spanM ar v0 q g0 n else -1)) (fun n c d w ln ar r => r = (if (0 ≤ v0 ∧ v0 ≤ 9) ∧ 0 ≤ q ∧ q ≤ nI w then spanM ar v0 q g0 n else -1)) hI (fun hR hT hK hC => zPW (c_hSpan l v0 q g0 hR hT.1) (HQ.rf hR hT hK hC)) (fun hM hJ hT => qW (c_mSpan l _ _ _ _ _ v0 q g0 hM hJ)) (fun hT hV hW => hW.trans hV.symm)
theorem st_count {l : Launch} {κ : zK} {G : zH} {hx x oa : Nat} (what : Int32) (hI : IV κ G hx x oa) : Ct l yX7_count cX7_count 2 (some .int) rX7_count κ (.ref hx :: [.int what]) G (ST l κ hx x oa yX8_count cX8_count 4 .int rX8_count [.int what]) :=
  st_q (fun n c d w ln ar r => r = cntR n c d w ar what) (fun n c d w ln ar r => r = cntR n c d w ar what) hI (fun hR hT hK hC => zPW (c_hCount l what hR (by obtain ⟨t1, t2, t3, t4, t5, t6, t7, t8, t9, t10, t11, t12, t13, t14, p0, p1, p2, p3, p4, p5⟩ := id hT; exact t12) (by obtain ⟨t1, t2, t3, t4, t5, t6, t7, t8, t9, t10, t11, t12, t13, t14, p0, p1, p2, p3, p4, p5⟩ := id hT; exact t13)) (HQ.rf hR hT hK hC)) (fun hM hJ hT => qW (c_mCount l _ _ _ _ _ what hM hJ)) (fun hT hV hW => hW.trans hV.symm)
theorem st_days {l : Launch} {κ : zK} {G : zH} {hx x oa : Nat} (m0 : Int32) (hI : IV κ G hx x oa) : Ct l yX7_days cX7_days 2 (some .int) rX7_days κ (.ref hx :: [.int m0]) G (ST l κ hx x oa yX8_days cX8_days 2 .int rX8_days [.int m0]) := by
  obtain ⟨B, n, c, d, w, ln, fo, nt, ar, rb, sc, ad, f, rfl, ⟨hT, kl, ep, kp, kb, iK, sm, ky, hR, hK, hC⟩, hM, hs, hO⟩ := hI
  have hT9 := hT
  obtain ⟨t1, t2, t3, t4, t5, t6, t7, t8, t9, t10, t11, t12, t13, t14, -⟩ := hT9
  have hJ := MJ_of hT hs
  refine (c_hDays l m0 hR).imp (fun v G2 hv => ?_)
  obtain ⟨r, rfl, hv⟩ := hv
  rcases hv with ⟨hok, hr, hO3, hF⟩ | ⟨hno, hr, rfl⟩
  · have hF2 : zFP is2 G G2 := hF.mono (fun r h => by obtain ⟨r1, r2, r3⟩ := r; simp only [isTU, shNew, Prod.mk.injEq] at h; show r1 = 2; omega)
    have hH := hc_days hT hR hK hC hok hO3 hF
    have hM2 := hM.keep (hF2.F (n := 2) (fun r h => h)) (by decide)
    have hO2 := hF2.1 _ _ _ (fun (h : 3 = 2) => by cases h) hO
    refine ⟨r, rfl, ⟨_, hM2.1⟩, (c_mDays l n c d w ln m0 hM2 hJ).imp (fun v2 G3 hv2 => ?_)⟩
    obtain ⟨r2, rfl, sc2, ar2, hM3, hF3, hv3⟩ := hv2
    have hF3' : zFP (fun r => r.1 = 1) G2 G3 := hF3
    rcases hv3 with ⟨hok2, hr2, rfl, rfl⟩ | ⟨hno, -⟩
    · exact ⟨r2, rfl, hr2.trans hr.symm, _, _, _, _, _, _, _, _, _, _, _, ad, f, rfl, hH.1.keep hF3' (fun k j (h : 2 = 1) => by cases h), hM3, ⟨hs.1, hs.2.1, hs.2.2.1, hH.2.1⟩, hF3.1 _ _ _ (by decide) hO2⟩
    · exact absurd hok hno
  · refine ⟨r, rfl, ⟨_, hM.1⟩, (c_mDays l n c d w ln m0 hM hJ).imp (fun v2 G3 hv2 => ?_)⟩
    obtain ⟨r2, rfl, sc2, ar2, hM3, hF3, hv3⟩ := hv2
    have hF3' : zFP (fun r => r.1 = 1) G2 G3 := hF3
    rcases hv3 with ⟨hok2, -⟩ | ⟨-, hr2, rfl, rfl⟩
    · exact absurd hok2 hno
    · exact ⟨r2, rfl, hr2.trans hr.symm, B, n, c, d, w, ln, fo, nt, ar2, rb, _, ad, f, rfl, HC.keep ⟨hT, kl, ep, kp, kb, iK, sm, ky, hR, hK, hC⟩ hF3' (fun k j (h : 2 = 1) => by cases h), hM3, ⟨hs.1, hs.2.1, hs.2.2.1, hs.2.2.2⟩, hF3.1 _ _ _ (by decide) hO⟩
theorem st_forge {l : Launch} {κ : zK} {G : zH} {hx x oa : Nat} (s0 : Int32) (hI : IV κ G hx x oa) : Ct l yX7_forge cX7_forge 3 (some .boolean) rX7_forge κ (.ref hx :: [.int s0]) G (ST l κ hx x oa yX8_forge cX8_forge 2 .boolean rX8_forge [.int s0]) := by
  obtain ⟨B, n, c, d, w, ln, fo, nt, ar, rb, sc, ad, f, rfl, ⟨hT, kl, ep, kp, kb, iK, sm, ky, hR, hK, hC⟩, hM, hs, hO⟩ := hI
  have hT9 := hT
  obtain ⟨t1, t2, t3, t4, t5, t6, t7, t8, t9, t10, t11, t12, t13, t14, -⟩ := hT9
  have hJ := MJ_of hT hs
  refine (c_hForge l s0 hR hT.1 t11).imp (fun v G2 hv => ?_)
  obtain ⟨r, rfl, hv⟩ := hv
  rcases hv with ⟨hok, hr, hSH, hO3, hF⟩ | ⟨hno, hr, rfl⟩
  · have hF2 : zFP is2 G G2 := hF.mono (fun r h => by obtain ⟨r1, r2, r3⟩ := r; simp only [isTU, shNew, Prod.mk.injEq] at h; show r1 = 2; omega)
    have hH := hc_forge hT hR hK hC (iN_lt hok.1 (by omega)) hok.2 hSH hO3 hF
    have hM2 := hM.keep (hF2.F (n := 2) (fun r h => h)) (by decide)
    have hO2 := hF2.1 _ _ _ (fun (h : 3 = 2) => by cases h) hO
    refine ⟨r, rfl, ⟨_, hM2.1⟩, (c_mForge l n c d w ln s0 hM2 hJ).imp (fun v2 G3 hv2 => ?_)⟩
    obtain ⟨r2, rfl, sc2, ar2, hM3, hF3, hv3⟩ := hv2
    have hF3' : zFP (fun r => r.1 = 1) G2 G3 := hF3
    rcases hv3 with ⟨hok2, hr2, rfl, rfl⟩ | ⟨hno, -⟩
    · exact ⟨r2, rfl, hr2.trans hr.symm, _, _, _, _, _, _, _, _, _, _, _, ad, f, rfl, hH.keep hF3' (fun k j (h : 2 = 1) => by cases h), hM3, hs, hF3.1 _ _ _ (by decide) hO2⟩
    · exact absurd hok hno
  · refine ⟨r, rfl, ⟨_, hM.1⟩, (c_mForge l n c d w ln s0 hM hJ).imp (fun v2 G3 hv2 => ?_)⟩
    obtain ⟨r2, rfl, sc2, ar2, hM3, hF3, hv3⟩ := hv2
    have hF3' : zFP (fun r => r.1 = 1) G2 G3 := hF3
    rcases hv3 with ⟨hok2, -⟩ | ⟨-, hr2, rfl, rfl⟩
    · exact absurd hok2 hno
    · exact ⟨r2, rfl, hr2.trans hr.symm, B, n, c, d, w, ln, fo, nt, ar2, rb, _, ad, f, rfl, HC.keep ⟨hT, kl, ep, kp, kb, iK, sm, ky, hR, hK, hC⟩ hF3' (fun k j (h : 2 = 1) => by cases h), hM3, ⟨hs.1, hs.2.1, hs.2.2.1, hs.2.2.2⟩, hF3.1 _ _ _ (by decide) hO⟩
theorem st_note {l : Launch} {κ : zK} {G : zH} {hx x oa : Nat} (s0 p0 b0 : Int32) (hI : IV κ G hx x oa) : Ct l yX7_note cX7_note 5 (some .int) rX7_note κ (.ref hx :: [.int s0, .int p0, .int b0]) G (ST l κ hx x oa yX8_note cX8_note 4 .int rX8_note [.int s0, .int p0, .int b0]) := by
  obtain ⟨B, n, c, d, w, ln, fo, nt, ar, rb, sc, ad, f, rfl, ⟨hT, kl, ep, kp, kb, iK, sm, ky, hR, hK, hC⟩, hM, hs, hO⟩ := hI
  have hT9 := hT
  obtain ⟨t1, t2, t3, t4, t5, t6, t7, t8, t9, t10, t11, t12, t13, t14, -⟩ := hT9
  have hJ := MJ_of hT hs
  refine (c_hNote l s0 p0 b0 hR hT.1 t5).imp (fun v G2 hv => ?_)
  obtain ⟨r, rfl, hv⟩ := hv
  rcases hv with ⟨hok, hr, hO3, tp, tb, htp, hTU, hF⟩ | ⟨hno, hr, rfl⟩
  · have hF2 : zFP is2 G G2 := hF.mono (fun r h => by obtain ⟨r1, r2, r3⟩ := r; simp only [isTU, shNew, Prod.mk.injEq] at h; show r1 = 2; omega)
    have hH := hc_note hT hR hK hC (iN_lt hok.1 (by omega)) hok.2.2 hok.2.1 htp hTU hO3 hF
    have hM2 := hM.keep (hF2.F (n := 2) (fun r h => h)) (by decide)
    have hO2 := hF2.1 _ _ _ (fun (h : 3 = 2) => by cases h) hO
    refine ⟨r, rfl, ⟨_, hM2.1⟩, (c_mNote l n c d w ln s0 p0 b0 hM2 hJ).imp (fun v2 G3 hv2 => ?_)⟩
    obtain ⟨r2, rfl, sc2, ar2, hM3, hF3, hv3⟩ := hv2
    have hF3' : zFP (fun r => r.1 = 1) G2 G3 := hF3
    rcases hv3 with ⟨hok2, hr2, rfl, rfl⟩ | ⟨hno, -⟩
    · exact ⟨r2, rfl, hr2.trans hr.symm, _, _, _, _, _, _, _, _, _, _, _, ad, f, rfl, hH.keep hF3' (fun k j (h : 2 = 1) => by cases h), hM3, hs, hF3.1 _ _ _ (by decide) hO2⟩
    · exact absurd hok hno
  · refine ⟨r, rfl, ⟨_, hM.1⟩, (c_mNote l n c d w ln s0 p0 b0 hM hJ).imp (fun v2 G3 hv2 => ?_)⟩
    obtain ⟨r2, rfl, sc2, ar2, hM3, hF3, hv3⟩ := hv2
    have hF3' : zFP (fun r => r.1 = 1) G2 G3 := hF3
    rcases hv3 with ⟨hok2, -⟩ | ⟨-, hr2, rfl, rfl⟩
    · exact absurd hok2 hno
    · exact ⟨r2, rfl, hr2.trans hr.symm, B, n, c, d, w, ln, fo, nt, ar2, rb, _, ad, f, rfl, HC.keep ⟨hT, kl, ep, kp, kb, iK, sm, ky, hR, hK, hC⟩ hF3' (fun k j (h : 2 = 1) => by cases h), hM3, ⟨hs.1, hs.2.1, hs.2.2.1, hs.2.2.2⟩, hF3.1 _ _ _ (by decide) hO⟩
theorem st_correct {l : Launch} {κ : zK} {G : zH} {hx x oa : Nat} (s0 i0 p0 b0 : Int32) (hI : IV κ G hx x oa) : Ct l yX7_correct cX7_correct 6 (some .boolean) (rmK 8 2 303 212) κ (.ref hx :: [.int s0, .int i0, .int p0, .int b0]) G (ST l κ hx x oa yX8_correct cX8_correct 5 .boolean rX8_correct [.int s0, .int i0, .int p0, .int b0]) := by
  obtain ⟨B, n, c, d, w, ln, fo, nt, ar, rb, sc, ad, f, rfl, ⟨hT, kl, ep, kp, kb, iK, sm, ky, hR, hK, hC⟩, hM, hs, hO⟩ := hI
  have hT9 := hT
  obtain ⟨t1, t2, t3, t4, t5, t6, t7, t8, t9, t10, t11, t12, t13, t14, -⟩ := hT9
  have hJ := MJ_of hT hs
  refine (c_hCor l s0 i0 p0 b0 hR hT.1 t2 t5).imp (fun v G2 hv => ?_)
  obtain ⟨r, rfl, hv⟩ := hv
  rcases hv with ⟨hok, hr, hO3, q, hq0, hq, hL2, hF⟩ | ⟨hno, hr, rfl⟩
  · have hF2 : zFP is2 G G2 := hF.mono (fun r h => by obtain ⟨r1, r2, r3⟩ := r; simp only [isTU, shNew, Prod.mk.injEq] at h; show r1 = 2; omega)
    have hH := hc_cor hT hR hK hC hok hO3 hq hL2 hF
    have hM2 := hM.keep (hF2.F (n := 2) (fun r h => h)) (by decide)
    have hO2 := hF2.1 _ _ _ (fun (h : 3 = 2) => by cases h) hO
    refine ⟨r, rfl, ⟨_, hM2.1⟩, (c_mCorrect l n c d w ln s0 i0 p0 b0 hM2 hJ).imp (fun v2 G3 hv2 => ?_)⟩
    obtain ⟨r2, rfl, sc2, ar2, hM3, hF3, hv3⟩ := hv2
    have hF3' : zFP (fun r => r.1 = 1) G2 G3 := hF3
    rcases hv3 with ⟨hok2, hr2, rfl, rfl⟩ | ⟨hno, -⟩
    · exact ⟨r2, rfl, hr2.trans hr.symm, _, _, _, _, _, _, _, _, _, _, _, ad, f, bup_k (by omega), hH.keep hF3' (fun k j (h : 2 = 1) => by cases h), hM3, ⟨hs.1, rfl, hs.2.2.1, hs.2.2.2⟩, hF3.1 _ _ _ (by decide) hO2⟩
    · exact absurd hok hno
  · refine ⟨r, rfl, ⟨_, hM.1⟩, (c_mCorrect l n c d w ln s0 i0 p0 b0 hM hJ).imp (fun v2 G3 hv2 => ?_)⟩
    obtain ⟨r2, rfl, sc2, ar2, hM3, hF3, hv3⟩ := hv2
    have hF3' : zFP (fun r => r.1 = 1) G2 G3 := hF3
    rcases hv3 with ⟨hok2, -⟩ | ⟨-, hr2, rfl, rfl⟩
    · exact absurd hok2 hno
    · exact ⟨r2, rfl, hr2.trans hr.symm, B, n, c, d, w, ln, fo, nt, ar2, rb, _, ad, f, rfl, HC.keep ⟨hT, kl, ep, kp, kb, iK, sm, ky, hR, hK, hC⟩ hF3' (fun k j (h : 2 = 1) => by cases h), hM3, ⟨hs.1, hs.2.1, hs.2.2.1, hs.2.2.2⟩, hF3.1 _ _ _ (by decide) hO⟩
theorem st_doubles {l : Launch} {κ : zK} {G : zH} {hx x oa : Nat} (a0 b0 : Int32) (hI : IV κ G hx x oa) : Ct l yX7_doubles cX7_doubles 5 (some .boolean) (rmK 7 2 91 191) κ (.ref hx :: [.int a0, .int b0]) G (ST l κ hx x oa yX8_doubles cX8_doubles 4 .boolean rX8_doubles [.int a0, .int b0]) := by
  obtain ⟨B, n, c, d, w, ln, fo, nt, ar, rb, sc, ad, f, rfl, ⟨hT, kl, ep, kp, kb, iK, sm, ky, hR, hK, hC⟩, hM, hs, hO⟩ := hI
  have hT9 := hT
  obtain ⟨t1, t2, t3, t4, t5, t6, t7, t8, t9, t10, t11, t12, t13, t14, -⟩ := hT9
  have hJ := MJ_of hT hs
  refine (c_hDbl l a0 b0 hR hT.1 t3 (fun k hk => by obtain ⟨a, b, h1, h2, h3, h4, -⟩ := t10 k hk; exact ⟨a, b, h1, h2, h3, h4⟩)).imp (fun v G2 hv => ?_)
  obtain ⟨r, rfl, hv⟩ := hv
  rcases hv with ⟨hok, hr, q, hq0, hq, hL2, hF⟩ | ⟨hno, hr, rfl⟩
  · have hF2 : zFP is2 G G2 := hF.mono (fun r h => by obtain ⟨r1, r2, r3⟩ := r; simp only [isTU, shNew, Prod.mk.injEq] at h; show r1 = 2; omega)
    have hH := hc_dbl hT hR hK hC hok hq hL2 hF
    have hM2 := hM.keep (hF2.F (n := 2) (fun r h => h)) (by decide)
    have hO2 := hF2.1 _ _ _ (fun (h : 3 = 2) => by cases h) hO
    refine ⟨r, rfl, ⟨_, hM2.1⟩, (c_mDoubles l n c d w ln a0 b0 hM2 hJ).imp (fun v2 G3 hv2 => ?_)⟩
    obtain ⟨r2, rfl, sc2, ar2, hM3, hF3, hv3⟩ := hv2
    have hF3' : zFP (fun r => r.1 = 1) G2 G3 := hF3
    rcases hv3 with ⟨hok2, hr2, rfl, rfl⟩ | ⟨hno, -⟩
    · exact ⟨r2, rfl, hr2.trans hr.symm, _, _, _, _, _, _, _, _, _, _, _, ad, f, bup_k (by omega), hH.keep hF3' (fun k j (h : 2 = 1) => by cases h), hM3, ⟨hs.1, hs.2.1, rfl, hs.2.2.2⟩, hF3.1 _ _ _ (by decide) hO2⟩
    · exact absurd hok hno
  · refine ⟨r, rfl, ⟨_, hM.1⟩, (c_mDoubles l n c d w ln a0 b0 hM hJ).imp (fun v2 G3 hv2 => ?_)⟩
    obtain ⟨r2, rfl, sc2, ar2, hM3, hF3, hv3⟩ := hv2
    have hF3' : zFP (fun r => r.1 = 1) G2 G3 := hF3
    rcases hv3 with ⟨hok2, -⟩ | ⟨-, hr2, rfl, rfl⟩
    · exact absurd hok2 hno
    · exact ⟨r2, rfl, hr2.trans hr.symm, B, n, c, d, w, ln, fo, nt, ar2, rb, _, ad, f, rfl, HC.keep ⟨hT, kl, ep, kp, kb, iK, sm, ky, hR, hK, hC⟩ hF3' (fun k j (h : 2 = 1) => by cases h), hM3, ⟨hs.1, hs.2.1, hs.2.2.1, hs.2.2.2⟩, hF3.1 _ _ _ (by decide) hO⟩
theorem st_sheet {l : Launch} {κ : zK} {G : zH} {hx x oa : Nat} (h0 y0 v0 : Int32) (hI : IV κ G hx x oa) : Ct l yX7_sheet cX7_sheet 5 (some .int) (rmK 7 9 143 191) κ (.ref hx :: [.int h0, .int y0, .int v0]) G (ST l κ hx x oa yX8_sheet cX8_sheet 4 .int rX8_sheet [.int h0, .int y0, .int v0]) := by
  obtain ⟨B, n, c, d, w, ln, fo, nt, ar, rb, sc, ad, f, rfl, ⟨hT, kl, ep, kp, kb, iK, sm, ky, hR, hK, hC⟩, hM, hs, hO⟩ := hI
  have hT9 := hT
  obtain ⟨t1, t2, t3, t4, t5, t6, t7, t8, t9, t10, t11, t12, t13, t14, -⟩ := hT9
  have hJ := MJ_of hT hs
  refine (c_hSheet l (fun _ => 0) h0 y0 v0 hR hT.1).imp (fun v G2 hv => ?_)
  obtain ⟨r, rfl, hv⟩ := hv
  rcases hv with ⟨hok, hr, q, kt, tt, am, hq0, hq, hT2, hU2, hA2, hL2, hF⟩ | ⟨hno, hr, rfl⟩
  · have hF2 : zFP is2 G G2 := hF.mono (fun r h => by obtain ⟨r1, r2, r3⟩ := r; simp only [isTU, shNew, Prod.mk.injEq] at h; show r1 = 2; omega)
    have hH := hc_sheet hT hR hK hC hok hq hT2 hU2 hA2 hL2 hF
    have hM2 := hM.keep (hF2.F (n := 2) (fun r h => h)) (by decide)
    have hO2 := hF2.1 _ _ _ (fun (h : 3 = 2) => by cases h) hO
    refine ⟨r, rfl, ⟨_, hM2.1⟩, (c_mSheet l n c d w ln h0 y0 v0 hM2 hJ).imp (fun v2 G3 hv2 => ?_)⟩
    obtain ⟨r2, rfl, sc2, ar2, hM3, hF3, hv3⟩ := hv2
    have hF3' : zFP (fun r => r.1 = 1) G2 G3 := hF3
    rcases hv3 with ⟨hok2, hr2, rfl, rfl⟩ | ⟨hno, -⟩
    · exact ⟨r2, rfl, hr2.trans hr.symm, _, _, _, _, _, _, _, _, _, _, _, ad, f, by rw [shB_f (k := 0) (by omega)], hH.keep hF3' (fun k j (h : 2 = 1) => by cases h), hM3, ⟨rfl, hs.2.1, hs.2.2.1, hs.2.2.2⟩, hF3.1 _ _ _ (by decide) hO2⟩
    · exact absurd hok hno
  · refine ⟨r, rfl, ⟨_, hM.1⟩, (c_mSheet l n c d w ln h0 y0 v0 hM hJ).imp (fun v2 G3 hv2 => ?_)⟩
    obtain ⟨r2, rfl, sc2, ar2, hM3, hF3, hv3⟩ := hv2
    have hF3' : zFP (fun r => r.1 = 1) G2 G3 := hF3
    rcases hv3 with ⟨hok2, -⟩ | ⟨-, hr2, rfl, rfl⟩
    · exact absurd hok2 hno
    · exact ⟨r2, rfl, hr2.trans hr.symm, B, n, c, d, w, ln, fo, nt, ar2, rb, _, ad, f, rfl, HC.keep ⟨hT, kl, ep, kp, kb, iK, sm, ky, hR, hK, hC⟩ hF3' (fun k j (h : 2 = 1) => by cases h), hM3, ⟨hs.1, hs.2.1, hs.2.2.1, hs.2.2.2⟩, hF3.1 _ _ _ (by decide) hO⟩
theorem pri_iff {k v : Int32} : ((0 ≤ k ∧ k ≤ 4) ∧ 0 ≤ v ∧ v ≤ zTops (iN k)) ↔ okPri k v := by
  refine and_congr_right (fun hk => and_congr_right (fun _ => ?_))
  obtain ⟨j, rfl, hj⟩ := ix_in (n := 5) hk.1 (by have := hk.2; rw [i_le, show (4 : Int32).toInt = 4 from by decide] at this; rw [i_lt, nI_toInt (by omega)]; omega) (by omega)
  rw [iN_nI (by omega)]
  rcases j with _ | _ | _ | _ | _ | j
  · exact Iff.rfl
  · exact Iff.rfl
  · exact Iff.rfl
  · exact Iff.rfl
  · exact Iff.rfl
  · omega
theorem st_price {l : Launch} {κ : zK} {G : zH} {hx x oa : Nat} (k0 v0 : Int32) (hI : IV κ G hx x oa) : Ct l yX7_price cX7_price 3 (some .boolean) rX7_price κ (.ref hx :: [.int k0, .int v0]) G (ST l κ hx x oa yX8_price cX8_price 3 .boolean rX8_price [.int k0, .int v0]) := by
  obtain ⟨B, n, c, d, w, ln, fo, nt, ar, rb, sc, ad, f, rfl, ⟨hT, kl, ep, kp, kb, iK, sm, ky, hR, hK, hC⟩, hM, hs, hO⟩ := hI
  have hT9 := hT
  obtain ⟨t1, t2, t3, t4, t5, t6, t7, t8, t9, t10, t11, t12, t13, t14, -⟩ := hT9
  have hJ := MJ_of hT hs
  refine (c_hPrice l k0 v0 hR).imp (fun v G2 hv => ?_)
  obtain ⟨r, rfl, hv⟩ := hv
  rcases hv with ⟨hok, hr, hP2, iK2, hL2, hz, hF⟩ | ⟨hno, hr, rfl⟩
  · have hF2 : zFP is2 G G2 := hF.mono (fun r h => by obtain ⟨r1, r2, r3⟩ := r; simp only [isTU, shNew, Prod.mk.injEq] at h; show r1 = 2; omega)
    have hH := hc_price hT hR hK hC hok hP2 hL2 hz hF
    have hM2 := hM.keep (hF2.F (n := 2) (fun r h => h)) (by decide)
    have hO2 := hF2.1 _ _ _ (fun (h : 3 = 2) => by cases h) hO
    refine ⟨r, rfl, ⟨_, hM2.1⟩, (c_mPrice l n c d w ln k0 v0 hM2 hJ).imp (fun v2 G3 hv2 => ?_)⟩
    obtain ⟨r2, rfl, sc2, ar2, hM3, hF3, hv3⟩ := hv2
    have hF3' : zFP (fun r => r.1 = 1) G2 G3 := hF3
    rcases hv3 with ⟨hok2, hr2, rfl, rfl⟩ | ⟨hno, -⟩
    · exact ⟨r2, rfl, hr2.trans hr.symm, _, _, _, _, _, _, _, _, _, _, _, ad, f, rfl, hH.keep hF3' (fun k j (h : 2 = 1) => by cases h), hM3, hs, hF3.1 _ _ _ (by decide) hO2⟩
    · exact absurd (pri_iff.mp hok) hno
  · refine ⟨r, rfl, ⟨_, hM.1⟩, (c_mPrice l n c d w ln k0 v0 hM hJ).imp (fun v2 G3 hv2 => ?_)⟩
    obtain ⟨r2, rfl, sc2, ar2, hM3, hF3, hv3⟩ := hv2
    have hF3' : zFP (fun r => r.1 = 1) G2 G3 := hF3
    rcases hv3 with ⟨hok2, -⟩ | ⟨-, hr2, rfl, rfl⟩
    · exact absurd (pri_iff.mpr hok2) hno
    · exact ⟨r2, rfl, hr2.trans hr.symm, B, n, c, d, w, ln, fo, nt, ar2, rb, _, ad, f, rfl, HC.keep ⟨hT, kl, ep, kp, kb, iK, sm, ky, hR, hK, hC⟩ hF3' (fun k j (h : 2 = 1) => by cases h), hM3, ⟨hs.1, hs.2.1, hs.2.2.1, hs.2.2.2⟩, hF3.1 _ _ _ (by decide) hO⟩
