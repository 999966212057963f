/-! what the reference leans on -/
theorem oT_kn {n c d w : Nat} {ln : Nat → Nat} {fo nt : Int32} {ar : Nat → Nat → Int32} {rb : Nat → Int32} (hT : TD n c d w ln fo nt ar rb) {a : Nat} (ha : a < n) (q : Int32) : oT (ln a) (fun i => kn ar a i q false c) (fun i => kn ar a i q true c) := fun g hg => by
  show oNt (kn ar a g q false c) (kn ar a g q true c)
  rw [kn_ks hT.2.2.2.2.2.1, kn_ks hT.2.2.2.2.2.1]
  exact ks_R hT ha hg _ (Eq_iff hT.2.2.2.2.2.1).1
theorem TLok_of {n c d w : Nat} {ln : Nat → Nat} {fo nt : Int32} {ar : Nat → Nat → Int32} {rb : Nat → Int32} (hT : TD n c d w ln fo nt ar rb) : TLok ar c n ln := fun a b q k0 ha hb => by
  have na := hT.2.2.2.2.1 a ha
  have nb := hT.2.2.2.2.1 b hb
  have lh := learn_hyps hT.pr (oT_kn hT ha q) (oT_kn hT hb q) na nb
  unfold sTL dK
  exact (lh.2.2.1 0 k0).symm.trans (lh.2.2.1 0 0)
theorem sD_swap {n c d w : Nat} {ln : Nat → Nat} {fo nt : Int32} {ar : Nat → Nat → Int32} {rb : Nat → Int32} (hT : TD n c d w ln fo nt ar rb) {a b : Nat} (ha : a < n) (hb : b < n) (q : Int32) : sD ar c ln q a b = sD ar c ln q b a := by
  have na := hT.2.2.2.2.1 a ha
  have nb := hT.2.2.2.2.1 b hb
  have ta := oT_kn hT ha q
  have tb := oT_kn hT hb q
  unfold sD sTL dK
  refine tl_swap (dp_R hT.pr ta tb (keyAt_R 0 (by omega)) na nb (Nat.le_refl _) (Nat.le_refl _)).2 (dp_R hT.pr tb ta (keyAt_R 0 (by omega)) nb na (Nat.le_refl _) (Nat.le_refl _)).2 (fun N hN => ?_) (fun N hN => ?_)
  · show dp _ _ _ _ _ (keyAt (kSw N)) _ _ = dp _ _ _ _ _ (keyAt N) _ _
    rw [(kSw_ok N hN).2]
    exact dp_swap ta tb (keyAt_R N hN)
  · show dp _ _ _ _ _ (keyAt (kSw N)) _ _ = dp _ _ _ _ _ (keyAt N) _ _
    rw [(kSw_ok N hN).2]
    exact dp_swap tb ta (keyAt_R N hN)
theorem cAll_sAll {ar : Nat → Nat → Int32} {c : Nat} {ln : Nat → Nat} {n : Nat} {q : Int32} : ∀ k, sAll ar c ln n q k = cAll ar (sD ar c ln q) n q k
  | 0 => rfl
  | k + 1 => by
    unfold sAll cAll
    rw [cAll_sAll k]
    congr 1
    split
    · rfl
    · exact (srcR_cs ar (sD ar c ln q k) k q n).2
