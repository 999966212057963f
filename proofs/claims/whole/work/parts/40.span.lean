/-! span, count, pairs -/
abbrev rX7_count : Room := rmK 1 0 0 20
set_option maxRecDepth 100000 in
set_option maxHeartbeats 400000 in
theorem c_hCount (l : Launch) {κ : zK} {G : zH} {B : Nat → Nat → Nat} {n c d w : Nat} {ln kl ep : Nat → Nat} {fo nt : Int32} {ar : Nat → Nat → Int32} {rb : Nat → Int32} {kp kb : Nat → Nat → Int32} {iK sm ky : Nat → Int32} (what : Int32) (hR : RC κ G B n c d w ln fo nt ar rb kl ep kp kb iK sm ky) (hfo : fo = cntF ar n) (hnt : nt = lenS ar n) : Ct l yX7_count cX7_count 2 (some FieldType.int) rX7_count κ [.ref (B 0 0), .int what] G (zP (cntR n c d w ar what) G) := by
  refine Ct.of (by decide +kernel) (fun v hv => by
    simp only [List.mem_cons, List.mem_nil_iff, or_false, List.not_mem_nil] at hv
    rcases hv with rfl | rfl <;> rfl) (Nat.le_of_ble_eq_true rfl) ?_
  intro p e s m args below meth cC
  refine z_L (L' := [some (.ref (B 0 0)), some (.int what)]) rfl ?_
  generalize hQx : MQ below (zQc κ _) args s _ _ (zA κ) = Qx
  obtain ⟨hO, hP, ⟨cols, key, f0, f1, f2, S, hA⟩, hLK, hl0, hl1, ⟨k2, es2, hl2⟩, hS, hCo, hPr⟩ := id hR
  obtain ⟨mc0, ea0, hm0, -⟩ := id hl0
  obtain ⟨mc1, ea1, hm1, -⟩ := id hl1
  refine z_il1 (pc := 0) dX7_count_0 ?_
  rcases w6 what with h | h | h | h | h | h | ⟨h, h0, h1, h2, h3, h4, h5⟩
  · subst h
    refine z_tableIn (pc := 1) 40 dX7_count_1 (by decide) (by decide) rfl rfl ?_
    refine z_al0 (pc := 40) dX7_count_40 ?_
    refine z_get (pc := 41) 6 hO rfl iw_X7 (by decide) kw_124 rfl dX7_count_41 ?_
    rw [← hQx]
    refine z_iret (pc := 44) rfl (by decide) dX7_count_44 (⟨_, rfl, (by unfold cntR; rw [if_pos rfl]), rfl⟩)
  · subst h
    refine z_tableIn (pc := 1) 45 dX7_count_1 (by decide) (by decide) rfl rfl ?_
    refine z_al0 (pc := 45) dX7_count_45 ?_
    refine z_get (pc := 46) 3 hO rfl iw_X7 (by decide) kw_121 rfl dX7_count_46 ?_
    refine z_callVr (pc := 49) (c_jSize l 0 (B 13 0) 29 n hl0) hm0 rfl rfl kw_153 zc_Jx4a65c_size_8abf5 (by decide) (by decide) rfl (Nat.le_of_ble_eq_true rfl) dX7_count_49 ?_
    rw [← hQx]
    refine z_iret (pc := 52) rfl (by decide) dX7_count_52 (⟨_, rfl, (by unfold cntR; rw [if_neg (by decide), if_pos rfl]), rfl⟩)
  · subst h
    refine z_tableIn (pc := 1) 53 dX7_count_1 (by decide) (by decide) rfl rfl ?_
    refine z_al0 (pc := 53) dX7_count_53 ?_
    refine z_get (pc := 54) 7 hO rfl iw_X7 (by decide) kw_125 rfl dX7_count_54 ?_
    rw [← hQx]
    refine z_iret (pc := 57) rfl (by decide) dX7_count_57 (⟨_, rfl, (by unfold cntR; rw [if_neg (by decide), if_neg (by decide), if_pos rfl]; exact hfo), rfl⟩)
  · subst h
    refine z_tableIn (pc := 1) 58 dX7_count_1 (by decide) (by decide) rfl rfl ?_
    refine z_al0 (pc := 58) dX7_count_58 ?_
    refine z_get (pc := 59) 8 hO rfl iw_X7 (by decide) kw_126 rfl dX7_count_59 ?_
    rw [← hQx]
    refine z_iret (pc := 62) rfl (by decide) dX7_count_62 (⟨_, rfl, (by unfold cntR; rw [if_neg (by decide), if_neg (by decide), if_neg (by decide), if_pos rfl]; exact hnt), rfl⟩)
  · subst h
    refine z_tableIn (pc := 1) 63 dX7_count_1 (by decide) (by decide) rfl rfl ?_
    refine z_al0 (pc := 63) dX7_count_63 ?_
    refine z_get (pc := 64) 9 hO rfl iw_X7 (by decide) kw_127 rfl dX7_count_64 ?_
    rw [← hQx]
    refine z_iret (pc := 67) rfl (by decide) dX7_count_67 (⟨_, rfl, (by unfold cntR; rw [if_neg (by decide), if_neg (by decide), if_neg (by decide), if_neg (by decide), if_pos rfl]), rfl⟩)
  · subst h
    refine z_tableIn (pc := 1) 68 dX7_count_1 (by decide) (by decide) rfl rfl ?_
    refine z_al0 (pc := 68) dX7_count_68 ?_
    refine z_get (pc := 69) 4 hO rfl iw_X7 (by decide) kw_122 rfl dX7_count_69 ?_
    refine z_callVr (pc := 72) (c_jSize l 1 (B 13 1) 89 d hl1) hm1 rfl rfl kw_153 zc_Jx4a65c_size_8abf5 (by decide) (by decide) rfl (Nat.le_of_ble_eq_true rfl) dX7_count_72 ?_
    rw [← hQx]
    refine z_iret (pc := 75) rfl (by decide) dX7_count_75 (⟨_, rfl, (by unfold cntR; rw [if_neg (by decide), if_neg (by decide), if_neg (by decide), if_neg (by decide), if_neg (by decide), if_pos rfl]), rfl⟩)
  · refine z_tableOut (pc := 1) 76 dX7_count_1 h rfl ?_
    refine z_iconst (pc := 76) (-1) (by decide) dX7_count_76 ?_
    rw [← hQx]
    refine z_iret (pc := 77) rfl (by decide) dX7_count_77 (⟨_, rfl, (by unfold cntR; rw [if_neg h0, if_neg h1, if_neg h2, if_neg h3, if_neg h4, if_neg h5]), rfl⟩)
abbrev rX7_span : Room := rmK 3 0 0 64
set_option maxRecDepth 100000 in
set_option maxHeartbeats 400000 in
theorem c_hSpan (l : Launch) {κ : zK} {G : zH} {B : Nat → Nat → Nat} {n c d w : Nat} {ln kl ep : Nat → Nat} {fo nt : Int32} {ar : Nat → Nat → Int32} {rb : Nat → Int32} {kp kb : Nat → Nat → Int32} {iK sm ky : Nat → Int32} (v q g : Int32) (hR : RC κ G B n c d w ln fo nt ar rb kl ep kp kb iK sm ky) (hn : n ≤ 20) : Ct l yX7_span cX7_span 8 (some FieldType.int) rX7_span κ [.ref (B 0 0), .int v, .int q, .int g] G (zP (if (0 ≤ v ∧ v ≤ 9) ∧ 0 ≤ q ∧ q ≤ nI w then spanM ar v q g n else -1) G) := by
  refine Ct.of (by decide +kernel) (fun v hv => by
    simp only [List.mem_cons, List.mem_nil_iff, or_false, List.not_mem_nil] at hv
    rcases hv with rfl | rfl | rfl | rfl <;> rfl) (Nat.le_of_ble_eq_true rfl) ?_
  intro p e s m args below meth cC
  refine z_L (L' := [some (.ref (B 0 0)), some (.int v), some (.int q), some (.int g), none, none, none, none]) rfl ?_
  generalize hQx : MQ below (zQc κ _) args s _ _ (zA κ) = Qx
  have hn20 := hn
  obtain ⟨hO, hP, ⟨cols, key, f0, f1, f2, S, hA⟩, hLK, hl0, hl1, ⟨k2, es2, hl2⟩, hS, hCo, hPr⟩ := id hR
  obtain ⟨mc0, ea0, hm0, -⟩ := id hl0
  by_cases hok : (0 ≤ v ∧ v ≤ 9) ∧ 0 ≤ q ∧ q ≤ nI w
  · skip
    have lp : ∀ (fu k : Nat) (q6 q7 : Option Value), k + fu = n → Z p l e rX7_span s m args below meth cC yX7_span cX7_span 8 (some FieldType.int) κ Qx 0 0 G [some (.ref (B 0 0)), some (.int v), some (.int q), some (.int g), some (.int (spanM ar v q g k)), some (.int (nI k)), q6, q7] 23 [] := by
      intro fu
      induction fu with
      | zero =>
        intro k q6 q7 hkk
        refine z_il5 (pc := 23) dX7_span_23 ?_
        refine z_al0 (pc := 25) dX7_span_25 ?_
        refine z_get (pc := 26) 3 hO rfl iw_X7 (by decide) kw_121 rfl dX7_span_26 ?_
        refine z_callVr (pc := 29) (c_jSize l 0 (B 13 0) 29 n hl0) hm0 rfl rfl kw_153 zc_Jx4a65c_size_8abf5 (by decide) (by decide) rfl (Nat.le_of_ble_eq_true rfl) dX7_span_29 ?_
        refine z_icmp_ge (pc := 32) 135 dX7_span_32 rfl (fun c32 => ?_) (fun c32 => absurd (by rw [nI_leI (by omega) (by omega)]; omega) c32)
        refine z_il4 (pc := 135) dX7_span_135 ?_
        rw [← hQx]
        refine z_iret (pc := 137) rfl (by decide) dX7_span_137 (⟨_, rfl, (by rw [show n = k by omega]; exact (if_pos hok).symm), rfl⟩)
      | succ fu ih =>
        intro k q6 q7 hkk
        have hkn : k < n := by omega
        refine z_il5 (pc := 23) dX7_span_23 ?_
        refine z_al0 (pc := 25) dX7_span_25 ?_
        refine z_get (pc := 26) 3 hO rfl iw_X7 (by decide) kw_121 rfl dX7_span_26 ?_
        refine z_callVr (pc := 29) (c_jSize l 0 (B 13 0) 29 n hl0) hm0 rfl rfl kw_153 zc_Jx4a65c_size_8abf5 (by decide) (by decide) rfl (Nat.le_of_ble_eq_true rfl) dX7_span_29 ?_
        refine z_icmp_ge (pc := 32) 135 dX7_span_32 rfl (fun c32 => absurd c32 (by rw [nI_leI (by omega) (by omega)]; omega)) (fun c32 => ?_)
        refine z_al0 (pc := 35) dX7_span_35 ?_
        refine z_get (pc := 36) 3 hO rfl iw_X7 (by decide) kw_121 rfl dX7_span_36 ?_
        refine z_il5 (pc := 39) dX7_span_39 ?_
        skip
        refine z_callVrq (pc := 41) (c_jGet l 0 (B 13 0) 29 n k hl0 hkn (by omega)) hm0 rfl rfl kw_295 zc_Jx4a65c_get_915e3 (by decide) (by decide) rfl (Nat.le_of_ble_eq_true rfl) dX7_span_41 ?_
        refine z_castS (pc := 44) (hS k hkn).1 rfl kw_166 dX7_span_44 ?_
        refine z_as6 (pc := 47) dX7_span_47 (by decide) ?_
        refine z_al6 (pc := 49) dX7_span_49 ?_
        refine z_get (pc := 51) 3 (hS k hkn).1 rfl iw_X5 (by decide) kw_202 rfl dX7_span_51 ?_
        refine z_il1 (pc := 54) dX7_span_54 ?_
        refine z_icmp_ne (pc := 55) 129 dX7_span_55 rfl (fun c55 => ?_) (fun c55 => ?_)
        · refine z_ii5 (pc := 129) (nI (k + 1)) dX7_span_129 (nI_1 _) (by decide) ?_
          refine z_goto (pc := 132) 23 dX7_span_132 rfl ?_
          refine z_L (L' := [some (.ref (B 0 0)), some (.int v), some (.int q), some (.int g), some (.int (spanM ar v q g (k + 1))), some (.int (nI (k + 1))), _, _]) (by rw [show spanM ar v q g (k + 1) = _ from if_neg (fun h => c55 h.1)]) ?_
          exact ih (k + 1) _ _ (by omega)
        · refine z_al6 (pc := 58) dX7_span_58 ?_
          refine z_il2 (pc := 60) dX7_span_60 ?_
          refine z_callVr (pc := 61) (c_sForged l k q (hS k hkn).1) (hS k hkn).1 rfl rfl kw_377 zc_X5_isForgedBy (by decide) (by decide) rfl (Nat.le_of_ble_eq_true rfl) dX7_span_61 ?_
          refine z_ifz_ne (pc := 64) 129 dX7_span_64 rfl (fun c64 => ?_) (fun c64 => ?_)
          · refine z_ii5 (pc := 129) (nI (k + 1)) dX7_span_129 (nI_1 _) (by decide) ?_
            refine z_goto (pc := 132) 23 dX7_span_132 rfl ?_
            refine z_L (L' := [some (.ref (B 0 0)), some (.int v), some (.int q), some (.int g), some (.int (spanM ar v q g (k + 1))), some (.int (nI (k + 1))), _, _]) (by rw [show spanM ar v q g (k + 1) = _ from if_neg (fun h => h.2.1 c64)]) ?_
            exact ih (k + 1) _ _ (by omega)
          · refine z_il3 (pc := 67) dX7_span_67 ?_
            refine z_if_eq (pc := 68) 89 dX7_span_68 rfl (fun c68 => ?_) (fun c68 => ?_)
            · refine z_al6 (pc := 89) dX7_span_89 ?_
              refine z_get (pc := 91) 2 (hS k hkn).1 rfl iw_X5 (by decide) kw_200 rfl dX7_span_91 ?_
              refine z_il4 (pc := 94) dX7_span_94 ?_
              refine z_icmp_ge (pc := 96) 103 dX7_span_96 rfl (fun c96 => ?_) (fun c96 => ?_)
              · refine z_iconst (pc := 103) (0) (by decide) dX7_span_103 ?_
                refine z_is7 (pc := 104) dX7_span_104 (by decide) ?_
                refine z_il4 (pc := 106) dX7_span_106 ?_
                refine z_iconst (pc := 108) (-1) (by decide) dX7_span_108 ?_
                refine z_icmp_eq (pc := 109) 117 dX7_span_109 rfl (fun c109 => ?_) (fun c109 => ?_)
                · refine z_al6 (pc := 117) dX7_span_117 ?_
                  refine z_get (pc := 119) 2 (hS k hkn).1 rfl iw_X5 (by decide) kw_200 rfl dX7_span_119 ?_
                  refine z_goto (pc := 122) 127 dX7_span_122 rfl ?_
                  refine z_is4 (pc := 127) dX7_span_127 (by decide) ?_
                  refine z_ii5 (pc := 129) (nI (k + 1)) dX7_span_129 (nI_1 _) (by decide) ?_
                  refine z_goto (pc := 132) 23 dX7_span_132 rfl ?_
                  refine z_L (L' := [some (.ref (B 0 0)), some (.int v), some (.int q), some (.int g), some (.int (spanM ar v q g (k + 1))), some (.int (nI (k + 1))), _, _]) (by rw [show spanM ar v q g (k + 1) = _ from if_pos ⟨c55, c64, Or.inl c109⟩]) ?_
                  exact ih (k + 1) _ _ (by omega)
                · refine z_il7 (pc := 112) dX7_span_112 ?_
                  refine z_if_eq (pc := 114) 125 dX7_span_114 rfl (fun _ => ?_) (fun h => absurd (by decide) h)
                  refine z_il4 (pc := 125) dX7_span_125 ?_
                  refine z_is4 (pc := 127) dX7_span_127 (by decide) ?_
                  refine z_ii5 (pc := 129) (nI (k + 1)) dX7_span_129 (nI_1 _) (by decide) ?_
                  refine z_goto (pc := 132) 23 dX7_span_132 rfl ?_
                  refine z_L (L' := [some (.ref (B 0 0)), some (.int v), some (.int q), some (.int g), some (.int (spanM ar v q g (k + 1))), some (.int (nI (k + 1))), _, _]) (by rw [show spanM ar v q g (k + 1) = _ from if_neg (fun h => h.2.2.elim c109 (fun z => by rw [if_pos c68] at z; exact absurd z (Int32.not_lt.mpr c96)))]) ?_
                  exact ih (k + 1) _ _ (by omega)
              · refine z_iconst (pc := 99) (1) (by decide) dX7_span_99 ?_
                refine z_goto (pc := 100) 104 dX7_span_100 rfl ?_
                refine z_is7 (pc := 104) dX7_span_104 (by decide) ?_
                refine z_il4 (pc := 106) dX7_span_106 ?_
                refine z_iconst (pc := 108) (-1) (by decide) dX7_span_108 ?_
                refine z_icmp_eq (pc := 109) 117 dX7_span_109 rfl (fun c109 => ?_) (fun c109 => ?_)
                · refine z_al6 (pc := 117) dX7_span_117 ?_
                  refine z_get (pc := 119) 2 (hS k hkn).1 rfl iw_X5 (by decide) kw_200 rfl dX7_span_119 ?_
                  refine z_goto (pc := 122) 127 dX7_span_122 rfl ?_
                  refine z_is4 (pc := 127) dX7_span_127 (by decide) ?_
                  refine z_ii5 (pc := 129) (nI (k + 1)) dX7_span_129 (nI_1 _) (by decide) ?_
                  refine z_goto (pc := 132) 23 dX7_span_132 rfl ?_
                  refine z_L (L' := [some (.ref (B 0 0)), some (.int v), some (.int q), some (.int g), some (.int (spanM ar v q g (k + 1))), some (.int (nI (k + 1))), _, _]) (by rw [show spanM ar v q g (k + 1) = _ from if_pos ⟨c55, c64, Or.inl c109⟩]) ?_
                  exact ih (k + 1) _ _ (by omega)
                · refine z_il7 (pc := 112) dX7_span_112 ?_
                  refine z_if_eq (pc := 114) 125 dX7_span_114 rfl (fun h => absurd h (by decide)) (fun _ => ?_)
                  refine z_al6 (pc := 117) dX7_span_117 ?_
                  refine z_get (pc := 119) 2 (hS k hkn).1 rfl iw_X5 (by decide) kw_200 rfl dX7_span_119 ?_
                  refine z_goto (pc := 122) 127 dX7_span_122 rfl ?_
                  refine z_is4 (pc := 127) dX7_span_127 (by decide) ?_
                  refine z_ii5 (pc := 129) (nI (k + 1)) dX7_span_129 (nI_1 _) (by decide) ?_
                  refine z_goto (pc := 132) 23 dX7_span_132 rfl ?_
                  refine z_L (L' := [some (.ref (B 0 0)), some (.int v), some (.int q), some (.int g), some (.int (spanM ar v q g (k + 1))), some (.int (nI (k + 1))), _, _]) (by rw [show spanM ar v q g (k + 1) = _ from if_pos ⟨c55, c64, Or.inr (by rw [if_pos c68]; exact (Int32.not_le.mp c96))⟩]) ?_
                  exact ih (k + 1) _ _ (by omega)
            · refine z_al6 (pc := 71) dX7_span_71 ?_
              refine z_get (pc := 73) 2 (hS k hkn).1 rfl iw_X5 (by decide) kw_200 rfl dX7_span_73 ?_
              refine z_il4 (pc := 76) dX7_span_76 ?_
              refine z_icmp_le (pc := 78) 85 dX7_span_78 rfl (fun c78 => ?_) (fun c78 => ?_)
              · refine z_iconst (pc := 85) (0) (by decide) dX7_span_85 ?_
                refine z_goto (pc := 86) 104 dX7_span_86 rfl ?_
                refine z_is7 (pc := 104) dX7_span_104 (by decide) ?_
                refine z_il4 (pc := 106) dX7_span_106 ?_
                refine z_iconst (pc := 108) (-1) (by decide) dX7_span_108 ?_
                refine z_icmp_eq (pc := 109) 117 dX7_span_109 rfl (fun c109 => ?_) (fun c109 => ?_)
                · refine z_al6 (pc := 117) dX7_span_117 ?_
                  refine z_get (pc := 119) 2 (hS k hkn).1 rfl iw_X5 (by decide) kw_200 rfl dX7_span_119 ?_
                  refine z_goto (pc := 122) 127 dX7_span_122 rfl ?_
                  refine z_is4 (pc := 127) dX7_span_127 (by decide) ?_
                  refine z_ii5 (pc := 129) (nI (k + 1)) dX7_span_129 (nI_1 _) (by decide) ?_
                  refine z_goto (pc := 132) 23 dX7_span_132 rfl ?_
                  refine z_L (L' := [some (.ref (B 0 0)), some (.int v), some (.int q), some (.int g), some (.int (spanM ar v q g (k + 1))), some (.int (nI (k + 1))), _, _]) (by rw [show spanM ar v q g (k + 1) = _ from if_pos ⟨c55, c64, Or.inl c109⟩]) ?_
                  exact ih (k + 1) _ _ (by omega)
                · refine z_il7 (pc := 112) dX7_span_112 ?_
                  refine z_if_eq (pc := 114) 125 dX7_span_114 rfl (fun _ => ?_) (fun h => absurd (by decide) h)
                  refine z_il4 (pc := 125) dX7_span_125 ?_
                  refine z_is4 (pc := 127) dX7_span_127 (by decide) ?_
                  refine z_ii5 (pc := 129) (nI (k + 1)) dX7_span_129 (nI_1 _) (by decide) ?_
                  refine z_goto (pc := 132) 23 dX7_span_132 rfl ?_
                  refine z_L (L' := [some (.ref (B 0 0)), some (.int v), some (.int q), some (.int g), some (.int (spanM ar v q g (k + 1))), some (.int (nI (k + 1))), _, _]) (by rw [show spanM ar v q g (k + 1) = _ from if_neg (fun h => h.2.2.elim c109 (fun z => by rw [if_neg c68] at z; exact absurd z (Int32.not_lt.mpr c78)))]) ?_
                  exact ih (k + 1) _ _ (by omega)
              · refine z_iconst (pc := 81) (1) (by decide) dX7_span_81 ?_
                refine z_goto (pc := 82) 104 dX7_span_82 rfl ?_
                refine z_is7 (pc := 104) dX7_span_104 (by decide) ?_
                refine z_il4 (pc := 106) dX7_span_106 ?_
                refine z_iconst (pc := 108) (-1) (by decide) dX7_span_108 ?_
                refine z_icmp_eq (pc := 109) 117 dX7_span_109 rfl (fun c109 => ?_) (fun c109 => ?_)
                · refine z_al6 (pc := 117) dX7_span_117 ?_
                  refine z_get (pc := 119) 2 (hS k hkn).1 rfl iw_X5 (by decide) kw_200 rfl dX7_span_119 ?_
                  refine z_goto (pc := 122) 127 dX7_span_122 rfl ?_
                  refine z_is4 (pc := 127) dX7_span_127 (by decide) ?_
                  refine z_ii5 (pc := 129) (nI (k + 1)) dX7_span_129 (nI_1 _) (by decide) ?_
                  refine z_goto (pc := 132) 23 dX7_span_132 rfl ?_
                  refine z_L (L' := [some (.ref (B 0 0)), some (.int v), some (.int q), some (.int g), some (.int (spanM ar v q g (k + 1))), some (.int (nI (k + 1))), _, _]) (by rw [show spanM ar v q g (k + 1) = _ from if_pos ⟨c55, c64, Or.inl c109⟩]) ?_
                  exact ih (k + 1) _ _ (by omega)
                · refine z_il7 (pc := 112) dX7_span_112 ?_
                  refine z_if_eq (pc := 114) 125 dX7_span_114 rfl (fun h => absurd h (by decide)) (fun _ => ?_)
                  refine z_al6 (pc := 117) dX7_span_117 ?_
                  refine z_get (pc := 119) 2 (hS k hkn).1 rfl iw_X5 (by decide) kw_200 rfl dX7_span_119 ?_
                  refine z_goto (pc := 122) 127 dX7_span_122 rfl ?_
                  refine z_is4 (pc := 127) dX7_span_127 (by decide) ?_
                  refine z_ii5 (pc := 129) (nI (k + 1)) dX7_span_129 (nI_1 _) (by decide) ?_
                  refine z_goto (pc := 132) 23 dX7_span_132 rfl ?_
                  refine z_L (L' := [some (.ref (B 0 0)), some (.int v), some (.int q), some (.int g), some (.int (spanM ar v q g (k + 1))), some (.int (nI (k + 1))), _, _]) (by rw [show spanM ar v q g (k + 1) = _ from if_pos ⟨c55, c64, Or.inr (by rw [if_neg c68]; exact (Int32.not_le.mp c78))⟩]) ?_
                  exact ih (k + 1) _ _ (by omega)
    refine z_il1 (pc := 0) dX7_span_0 ?_
    refine z_callSr (pc := 1) (c_isWords l v) kw_163 zc_X7_isWords (by decide) (by decide) rfl (Nat.le_of_ble_eq_true rfl) dX7_span_1 ?_
    refine z_ifz_eq (pc := 4) 15 dX7_span_4 rfl (fun c4 => absurd (hok.1) c4) (fun c4 => ?_)
    refine z_al0 (pc := 7) dX7_span_7 ?_
    refine z_il2 (pc := 8) dX7_span_8 ?_
    refine z_callVr (pc := 9) (c_isDay l q hR) hO rfl rfl kw_433 zc_X7_isDay (by decide) (by decide) rfl (Nat.le_of_ble_eq_true rfl) dX7_span_9 ?_
    refine z_ifz_ne (pc := 12) 17 dX7_span_12 rfl (fun c12 => ?_) (fun c12 => absurd (hok.2) c12)
    refine z_iconst (pc := 17) (-1) (by decide) dX7_span_17 ?_
    refine z_is4 (pc := 18) dX7_span_18 (by decide) ?_
    refine z_iconst (pc := 20) (0) (by decide) dX7_span_20 ?_
    refine z_is5 (pc := 21) dX7_span_21 (by decide) ?_
    refine z_L (L' := [some (.ref (B 0 0)), some (.int v), some (.int q), some (.int g), some (.int (spanM ar v q g 0)), some (.int (nI 0)), none, none]) rfl ?_
    exact lp n 0 none none (by omega)
  · by_cases hv : 0 ≤ v ∧ v ≤ 9
    · refine z_il1 (pc := 0) dX7_span_0 ?_
      refine z_callSr (pc := 1) (c_isWords l v) kw_163 zc_X7_isWords (by decide) (by decide) rfl (Nat.le_of_ble_eq_true rfl) dX7_span_1 ?_
      refine z_ifz_eq (pc := 4) 15 dX7_span_4 rfl (fun c4 => absurd (hv) c4) (fun c4 => ?_)
      refine z_al0 (pc := 7) dX7_span_7 ?_
      refine z_il2 (pc := 8) dX7_span_8 ?_
      refine z_callVr (pc := 9) (c_isDay l q hR) hO rfl rfl kw_433 zc_X7_isDay (by decide) (by decide) rfl (Nat.le_of_ble_eq_true rfl) dX7_span_9 ?_
      refine z_ifz_ne (pc := 12) 17 dX7_span_12 rfl (fun c12 => absurd c12 (fun h => hok ⟨hv, h⟩)) (fun c12 => ?_)
      refine z_iconst (pc := 15) (-1) (by decide) dX7_span_15 ?_
      rw [← hQx]
      refine z_iret (pc := 16) rfl (by decide) dX7_span_16 (⟨_, rfl, (if_neg hok).symm, rfl⟩)
    · refine z_il1 (pc := 0) dX7_span_0 ?_
      refine z_callSr (pc := 1) (c_isWords l v) kw_163 zc_X7_isWords (by decide) (by decide) rfl (Nat.le_of_ble_eq_true rfl) dX7_span_1 ?_
      refine z_ifz_eq (pc := 4) 15 dX7_span_4 rfl (fun c4 => ?_) (fun c4 => absurd c4 (hv))
      refine z_iconst (pc := 15) (-1) (by decide) dX7_span_15 ?_
      rw [← hQx]
      refine z_iret (pc := 16) rfl (by decide) dX7_span_16 (⟨_, rfl, (if_neg hok).symm, rfl⟩)
abbrev rX7_isPair : Room := rmK 3 0 0 64
theorem exP_dec {d : Nat} {P : Nat → Prop} [DecidablePred P] : True := trivial
set_option maxRecDepth 100000 in
set_option maxHeartbeats 400000 in
theorem c_hIsPair (l : Launch) {κ : zK} {G : zH} {B : Nat → Nat → Nat} {n c d w : Nat} {ln kl ep : Nat → Nat} {fo nt : Int32} {ar : Nat → Nat → Int32} {rb : Nat → Int32} {kp kb : Nat → Nat → Int32} {iK sm ky : Nat → Int32} (a b : Nat) (hR : RC κ G B n c d w ln fo nt ar rb kl ep kp kb iK sm ky) (hd : d ≤ 60) : Ct l yX7_isPair cX7_isPair 4 (some FieldType.boolean) rX7_isPair κ [.ref (B 0 0), .ref a, .ref b] G (zP (zb (∃ g, g < d ∧ ((B 15 (iN (ar 13 g)) = a ∧ B 15 (iN (ar 14 g)) = b) ∨ (B 15 (iN (ar 13 g)) = b ∧ B 15 (iN (ar 14 g)) = a)))) G) := by
  refine Ct.of (by decide +kernel) (fun v hv => by
    simp only [List.mem_cons, List.mem_nil_iff, or_false, List.not_mem_nil] at hv
    rcases hv with rfl | rfl | rfl <;> rfl) (Nat.le_of_ble_eq_true rfl) ?_
  intro p e s m args below meth cC
  refine z_L (L' := [some (.ref (B 0 0)), some (.ref a), some (.ref b), none]) rfl ?_
  generalize hQx : MQ below (zQc κ _) args s _ _ (zA κ) = Qx
  have hd60 := hd
  obtain ⟨hO, hP, ⟨cols, key, f0, f1, f2, S, hA⟩, hLK, hl0, hl1, ⟨k2, es2, hl2⟩, hS, hCo, hPr⟩ := id hR
  obtain ⟨mc1, ea1, hm1, -⟩ := id hl1
  have lp : ∀ (fu k : Nat), k + fu = d → (∀ g, g < k → ¬ ((B 15 (iN (ar 13 g)) = a ∧ B 15 (iN (ar 14 g)) = b) ∨ (B 15 (iN (ar 13 g)) = b ∧ B 15 (iN (ar 14 g)) = a))) → Z p l e rX7_isPair s m args below meth cC yX7_isPair cX7_isPair 4 (some FieldType.boolean) κ Qx 0 0 G [some (.ref (B 0 0)), some (.ref a), some (.ref b), some (.int (nI k))] 2 [] := by
    intro fu
    induction fu with
    | zero =>
      intro k hkk hno
      refine z_il3 (pc := 2) dX7_isPair_2 ?_
      refine z_al0 (pc := 3) dX7_isPair_3 ?_
      refine z_get (pc := 4) 4 hO rfl iw_X7 (by decide) kw_122 rfl dX7_isPair_4 ?_
      refine z_callVr (pc := 7) (c_jSize l 1 (B 13 1) 89 d hl1) hm1 rfl rfl kw_153 zc_Jx4a65c_size_8abf5 (by decide) (by decide) rfl (Nat.le_of_ble_eq_true rfl) dX7_isPair_7 ?_
      refine z_icmp_ge (pc := 10) 40 dX7_isPair_10 rfl (fun c10 => ?_) (fun c10 => absurd (by rw [nI_leI (by omega) (by omega)]; omega) c10)
      refine z_iconst (pc := 40) (0) (by decide) dX7_isPair_40 ?_
      rw [← hQx]
      refine z_zret (pc := 41) rfl rfl (by decide) dX7_isPair_41 (⟨_, rfl, (zb_f (fun h => by obtain ⟨g, hg, hj⟩ := h; exact hno g (by omega) hj)).symm, rfl⟩)
    | succ fu ih =>
      intro k hkk hno
      have hkn : k < d := by omega
      refine z_il3 (pc := 2) dX7_isPair_2 ?_
      refine z_al0 (pc := 3) dX7_isPair_3 ?_
      refine z_get (pc := 4) 4 hO rfl iw_X7 (by decide) kw_122 rfl dX7_isPair_4 ?_
      refine z_callVr (pc := 7) (c_jSize l 1 (B 13 1) 89 d hl1) hm1 rfl rfl kw_153 zc_Jx4a65c_size_8abf5 (by decide) (by decide) rfl (Nat.le_of_ble_eq_true rfl) dX7_isPair_7 ?_
      refine z_icmp_ge (pc := 10) 40 dX7_isPair_10 rfl (fun c10 => absurd c10 (by rw [nI_leI (by omega) (by omega)]; omega)) (fun c10 => ?_)
      refine z_al0 (pc := 13) dX7_isPair_13 ?_
      refine z_get (pc := 14) 4 hO rfl iw_X7 (by decide) kw_122 rfl dX7_isPair_14 ?_
      refine z_il3 (pc := 17) dX7_isPair_17 ?_
      skip
      refine z_callVrq (pc := 18) (c_jGet l 1 (B 13 1) 89 d k hl1 hkn (by omega)) hm1 rfl rfl kw_295 zc_Jx4a65c_get_915e3 (by decide) (by decide) rfl (Nat.le_of_ble_eq_true rfl) dX7_isPair_18 ?_
      refine z_castS (pc := 21) (hPr k hkn) rfl kw_393 dX7_isPair_21 ?_
      refine z_al1 (pc := 24) dX7_isPair_24 ?_
      refine z_al2 (pc := 25) dX7_isPair_25 ?_
      refine z_callVr (pc := 26) (c_prJoins l k a b (hPr k hkn)) (hPr k hkn) rfl rfl kw_394 zc_X3_joins (by decide) (by decide) rfl (Nat.le_of_ble_eq_true rfl) dX7_isPair_26 ?_
      refine z_ifz_eq (pc := 29) 34 dX7_isPair_29 rfl (fun c29 => ?_) (fun c29 => ?_)
      · refine z_ii3 (pc := 34) (nI (k + 1)) dX7_isPair_34 (nI_1 _) (by decide) ?_
        refine z_goto (pc := 37) 2 dX7_isPair_37 rfl ?_
        refine z_L rfl ?_
        exact ih (k + 1) (by omega) (fun g hg => by
          by_cases e : g = k
          · subst e; exact c29
          · exact hno g (by omega))
      · refine z_iconst (pc := 32) (1) (by decide) dX7_isPair_32 ?_
        rw [← hQx]
        refine z_zret (pc := 33) rfl rfl (by decide) dX7_isPair_33 (⟨_, rfl, (zb_t ⟨k, hkn, c29⟩).symm, rfl⟩)
  refine z_iconst (pc := 0) (0) (by decide) dX7_isPair_0 ?_
  refine z_is3 (pc := 1) dX7_isPair_1 (by decide) ?_
  refine z_L (L' := [some (.ref (B 0 0)), some (.ref a), some (.ref b), some (.int (nI 0))]) rfl ?_
  exact lp d 0 (by omega) (fun g hg => absurd hg (by omega))
