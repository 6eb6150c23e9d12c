/-! THE LAW: its loop, its start -/
theorem lw_and63 (w : Int32) : ∃ t : Nat, t < 64 ∧ w &&& 63 = nI t := by
  refine ⟨(w &&& 63).toBitVec.toNat, ?_, ?_⟩
  · rw [Int32.toBitVec_and, BitVec.toNat_and]
    exact Nat.lt_succ_of_le Nat.and_le_right
  · apply Int32.toBitVec_inj.mp
    show (w &&& 63).toBitVec = BitVec.ofNat 32 _
    exact BitVec.eq_of_toNat_eq (by rw [BitVec.toNat_ofNat]; exact (Nat.mod_eq_of_lt (w &&& 63).toBitVec.isLt).symm)
theorem lw_ti : ∀ t : Fin 64, (nI t.val).toInt = (t.val : Int) := by decide
theorem lw_gt {L i : Nat} (hL : L ≤ 2048) (hi : i ≤ 2048) : Int32.ofNat L - 4 < nI i ↔ L < i + 4 := by
  show nI L - nI 4 < nI i ↔ _
  rcases Nat.lt_or_ge L 4 with z | z
  · refine ⟨fun _ => by omega, fun _ => ?_⟩
    have h0 : nI L - nI 4 < 0 := by
      rcases (by omega : L = 0 ∨ L = 1 ∨ L = 2 ∨ L = 3) with e | e | e | e <;> rw [e] <;> decide
    exact Int32.lt_of_lt_of_le h0 (nI_pos' (by omega))
  · rw [nI_sub z, nI_ltI (by omega) (by omega)]
    omega
theorem lw_J.up {n : Nat} {h : mm_H} (hJ : lw_J n h) : lw_J (n + 1) h := by
  obtain ⟨s, m, f, e, he, P, p, r, hi, hy, O⟩ := hJ
  exact ⟨s, m, f, e, by omega, P, p, r, hi.up, hy, O⟩
theorem lw_room {n : Nat} {h : mm_H} (hJ : lw_J n h) (hn : n ≤ 512) : h.2.2.1 ≤ 601024 ∧ h.2.2.2 ≤ 7293034 := by
  obtain ⟨s, m, f, e, he, ⟨⟨vs, ns, -, hT, ⟨gs, g1, g2⟩, hs⟩, -⟩, -⟩ := hJ
  have h4 : ∀ i, i < 7 → ns i ≤ 400000 := fun i hi => (hT i hi).2.2.1
  have h5 : ∀ i, i < 7 → gs i ≤ 18 := fun i hi => by
    rcases Nat.lt_or_ge (gs i) 19 with z | z
    · omega
    · have := Nat.pow_le_pow_right (show 2 > 0 by decide) z
      have := g1 i hi
      have := h4 i hi
      omega
  have a0 := h4 0 (by decide); have a1 := h4 1 (by decide); have a2 := h4 2 (by decide); have a3 := h4 3 (by decide); have a4 := h4 4 (by decide); have a5 := h4 5 (by decide); have a6 := h4 6 (by decide)
  have b0 := h5 0 (by decide); have b1 := h5 1 (by decide); have b2 := h5 2 (by decide); have b3 := h5 3 (by decide); have b4 := h5 4 (by decide); have b5 := h5 5 (by decide); have b6 := h5 6 (by decide)
  unfold s7 at g2 hs
  omega
def lw_QE : mm_R → mm_H → Prop := fun r h' => r = .inl (some (.int 1)) ∧ h'.2.2.1 ≤ 601024 ∧ h'.2.2.2 ≤ 7293034
section LOOP
variable {l : Launch} {G : mm_G} {b : Nat}
theorem lw_end {n i : Nat} {h : mm_H} {ls : List Value} (hJ : lw_J n h) (hn : n ≤ 512) : mm_Ex l G mm_law lw_QE 2184 ls [] h := by
  refine ex_iconst (v := 1) dL_law_2184 (by decide) ?_
  refine ex_ireturn dL_law_2185 ⟨_, rfl, rfl⟩ ?_
  exact ⟨rfl, lw_room hJ hn⟩
theorem lw_loop (hb : b = G.2.2.2.1) (hl : l.stackTraces = false) (hL : G.2.2.2.2.1 ≤ 2048) : ∀ (T n : Nat) (h : mm_H) (x5 x6 : Value), T + n = 512 → lw_J n h → mm_Ex l G mm_law lw_QE 23 [.retAddr b, .ref 0, .ref 29, .ref 65, .int (nI (4 * n)), x5, x6] [] h := by
  intro T
  induction T with
  | zero =>
    intro n h x5 x6 hT hJ
    refine ex_iload dL_law_23 rfl ?_
    refine ex_aload_x dL_law_25 rfl ?_
    refine ex_xlen dL_law_26 (by decide) hb ?_
    refine ex_iconst (v := 4) dL_law_27 (by decide) ?_
    refine ex_isub dL_law_28 ?_
    refine ex_icmp_gt (tgt := 2184) dL_law_29 (by decide) (fun _ => ?_) (fun z => absurd ((lw_gt hL (by omega)).mpr (by omega)) z)
    exact lw_end (i := 0) hJ (by omega)
  | succ T ih =>
    intro n h x5 x6 hT hJ
    refine ex_iload dL_law_23 rfl ?_
    refine ex_aload_x dL_law_25 rfl ?_
    refine ex_xlen dL_law_26 (by decide) hb ?_
    refine ex_iconst (v := 4) dL_law_27 (by decide) ?_
    refine ex_isub dL_law_28 ?_
    refine ex_icmp_gt (tgt := 2184) dL_law_29 (by decide) (fun _ => ?_) (fun z => ?_)
    · exact lw_end (i := 0) hJ (by omega)
    have hi : 4 * n + 4 ≤ G.2.2.2.2.1 := by
      rcases Nat.lt_or_ge G.2.2.2.2.1 (4 * n + 4) with y | y
      · exact absurd ((lw_gt hL (by omega)).mpr y) z
      · exact y
    have v0 : vp_in (nI (4 * n)) G.2.2.2.2.1 := vp_in_nI (by omega) (by omega)
    have v1 : vp_in (nI (4 * n) + 1) G.2.2.2.2.1 := by rw [nI_1]; exact vp_in_nI (by omega) (by omega)
    have v2 : vp_in (nI (4 * n) + 2) G.2.2.2.2.1 := by rw [show nI (4 * n) + 2 = nI (4 * n + 2) from nI_add _ 2]; exact vp_in_nI (by omega) (by omega)
    have v3 : vp_in (nI (4 * n) + 3) G.2.2.2.2.1 := by rw [show nI (4 * n) + 3 = nI (4 * n + 3) from nI_add _ 3]; exact vp_in_nI (by omega) (by omega)
    have hn : n ≤ 511 := by omega
    have K : ∀ (x5 x6 : Value) (h' : mm_H), lw_J (n + 1) h' → mm_Ex l G mm_law lw_QE 2178 [.retAddr b, .ref 0, .ref 29, .ref 65, .int (nI (4 * n)), x5, x6] [] h' := fun x5 x6 h' hJ' => by
      refine ex_iinc (d := 4) dL_law_2178 rfl (by decide) ?_
      refine ex_goto (tgt := 23) dL_law_2181 (by decide) ?_
      rw [show nI (4 * n) + 4 = nI (4 * (n + 1)) from nI_add _ 4]
      exact ih (n + 1) h' x5 x6 (by omega) hJ'
    refine ex_aload_x dL_law_32 rfl ?_
    refine ex_iload dL_law_33 rfl ?_
    refine ex_xload dL_law_35 (by decide) hb v0 ?_
    refine ex_bipush (v := 63) dL_law_36 (by decide) ?_
    refine ex_iand dL_law_38 ?_
    obtain ⟨t, ht, et⟩ := lw_and63 (G.2.2.2.2.2 (nI (4 * n)).toNatClampNeg)
    rw [et]
    clear et z
    rcases (by omega : t = 0 ∨ t = 1 ∨ t = 2 ∨ t = 3 ∨ t = 4 ∨ t = 5 ∨ t = 6 ∨ t = 7 ∨ t = 8 ∨ t = 9 ∨ t = 10 ∨ t = 11 ∨ t = 12 ∨ t = 13 ∨ t = 14 ∨ t = 15 ∨ t = 16 ∨ t = 17 ∨ t = 18 ∨ t = 19 ∨ t = 20 ∨ t = 21 ∨ t = 22 ∨ t = 23 ∨ t = 24 ∨ t = 25 ∨ t = 26 ∨ t = 27 ∨ t = 28 ∨ t = 29 ∨ t = 30 ∨ t = 31 ∨ t = 32 ∨ t = 33 ∨ t = 34 ∨ t = 35 ∨ t = 36 ∨ 37 ≤ t) with e | e | e | e | e | e | e | e | e | e | e | e | e | e | e | e | e | e | e | e | e | e | e | e | e | e | e | e | e | e | e | e | e | e | e | e | e | e
    · subst e
      refine ex_tableIn (tgt := 200) dL_law_39 (by decide) (by decide) rfl (by decide) ?_
      exact lw_k0 hb hl v1 v2 v3 hn hJ K x5 x6
    · subst e
      refine ex_tableIn (tgt := 280) dL_law_39 (by decide) (by decide) rfl (by decide) ?_
      exact lw_k1 hb hl v1 v2 v3 hn hJ K x5 x6
    · subst e
      refine ex_tableIn (tgt := 371) dL_law_39 (by decide) (by decide) rfl (by decide) ?_
      exact lw_k2 hb hl v1 v2 v3 hn hJ K x5 x6
    · subst e
      refine ex_tableIn (tgt := 439) dL_law_39 (by decide) (by decide) rfl (by decide) ?_
      exact lw_k3 hb hl v1 v2 v3 hn hJ K x5 x6
    · subst e
      refine ex_tableIn (tgt := 495) dL_law_39 (by decide) (by decide) rfl (by decide) ?_
      exact lw_k4 hb hl v1 v2 v3 hn hJ K x5 x6
    · subst e
      refine ex_tableIn (tgt := 551) dL_law_39 (by decide) (by decide) rfl (by decide) ?_
      exact lw_k5 hb hl v1 v2 v3 hn hJ K x5 x6
    · subst e
      refine ex_tableIn (tgt := 631) dL_law_39 (by decide) (by decide) rfl (by decide) ?_
      exact lw_k6 hb hl v1 v2 v3 hn hJ K x5 x6
    · subst e
      refine ex_tableIn (tgt := 711) dL_law_39 (by decide) (by decide) rfl (by decide) ?_
      exact lw_k7 hb hl v1 v2 v3 hn hJ K x5 x6
    · subst e
      refine ex_tableIn (tgt := 755) dL_law_39 (by decide) (by decide) rfl (by decide) ?_
      exact lw_k8 hb hl v1 v2 v3 hn hJ K x5 x6
    · subst e
      refine ex_tableIn (tgt := 811) dL_law_39 (by decide) (by decide) rfl (by decide) ?_
      exact lw_k9 hb hl v1 v2 v3 hn hJ K x5 x6
    · subst e
      refine ex_tableIn (tgt := 859) dL_law_39 (by decide) (by decide) rfl (by decide) ?_
      exact lw_k10 hb hl v1 v2 v3 hn hJ K x5 x6
    · subst e
      refine ex_tableIn (tgt := 927) dL_law_39 (by decide) (by decide) rfl (by decide) ?_
      exact lw_k11 hb hl v1 v2 v3 hn hJ K x5 x6
    · subst e
      refine ex_tableIn (tgt := 990) dL_law_39 (by decide) (by decide) rfl (by decide) ?_
      exact lw_k12 hb hl v1 v2 v3 hn hJ K x5 x6
    · subst e
      refine ex_tableIn (tgt := 1102) dL_law_39 (by decide) (by decide) rfl (by decide) ?_
      exact lw_k13 hb hl v1 v2 v3 hn hJ K x5 x6
    · subst e
      refine ex_tableIn (tgt := 1170) dL_law_39 (by decide) (by decide) rfl (by decide) ?_
      exact lw_k14 hb hl v1 v2 v3 hn hJ K x5 x6
    · subst e
      refine ex_tableIn (tgt := 1250) dL_law_39 (by decide) (by decide) rfl (by decide) ?_
      exact lw_k15 hb hl v1 v2 v3 hn hJ K x5 x6
    · subst e
      refine ex_tableIn (tgt := 1341) dL_law_39 (by decide) (by decide) rfl (by decide) ?_
      exact lw_k16 hb hl v1 v2 v3 hn hJ K x5 x6
    · subst e
      refine ex_tableIn (tgt := 1421) dL_law_39 (by decide) (by decide) rfl (by decide) ?_
      exact lw_k17 hb hl v1 v2 v3 hn hJ K x5 x6
    · subst e
      refine ex_tableIn (tgt := 1434) dL_law_39 (by decide) (by decide) rfl (by decide) ?_
      exact lw_k18 hb hl v1 v2 v3 hn hJ K x5 x6
    · subst e
      refine ex_tableIn (tgt := 1490) dL_law_39 (by decide) (by decide) rfl (by decide) ?_
      exact lw_k19 hb hl v1 v2 v3 hn hJ K x5 x6
    · subst e
      refine ex_tableIn (tgt := 1553) dL_law_39 (by decide) (by decide) rfl (by decide) ?_
      exact lw_k20 hb hl v1 v2 v3 hn hJ K x5 x6
    · subst e
      refine ex_tableIn (tgt := 1566) dL_law_39 (by decide) (by decide) rfl (by decide) ?_
      exact lw_k21 hb hl v1 v2 v3 hn hJ K x5 x6
    · subst e
      refine ex_tableIn (tgt := 1579) dL_law_39 (by decide) (by decide) rfl (by decide) ?_
      exact lw_k22 hb hl v1 v2 v3 hn hJ K x5 x6
    · subst e
      refine ex_tableIn (tgt := 1592) dL_law_39 (by decide) (by decide) rfl (by decide) ?_
      exact lw_k23 hb hl v1 v2 v3 hn hJ K x5 x6
    · subst e
      refine ex_tableIn (tgt := 1660) dL_law_39 (by decide) (by decide) rfl (by decide) ?_
      exact lw_k24 hb hl v1 v2 v3 hn hJ K x5 x6
    · subst e
      refine ex_tableIn (tgt := 1728) dL_law_39 (by decide) (by decide) rfl (by decide) ?_
      exact lw_k25 hb hl v1 v2 v3 hn hJ K x5 x6
    · subst e
      refine ex_tableIn (tgt := 1796) dL_law_39 (by decide) (by decide) rfl (by decide) ?_
      exact lw_k26 hb hl v1 v2 v3 hn hJ K x5 x6
    · subst e
      refine ex_tableIn (tgt := 1852) dL_law_39 (by decide) (by decide) rfl (by decide) ?_
      exact lw_k27 hb hl v1 v2 v3 hn hJ K x5 x6
    · subst e
      refine ex_tableIn (tgt := 1920) dL_law_39 (by decide) (by decide) rfl (by decide) ?_
      exact lw_k28 hb hl v1 v2 v3 hn hJ K x5 x6
    · subst e
      refine ex_tableIn (tgt := 1976) dL_law_39 (by decide) (by decide) rfl (by decide) ?_
      exact lw_k29 hb hl v1 v2 v3 hn hJ K x5 x6
    · subst e
      refine ex_tableIn (tgt := 2032) dL_law_39 (by decide) (by decide) rfl (by decide) ?_
      exact lw_k30 hb hl v1 v2 v3 hn hJ K x5 x6
    · subst e
      refine ex_tableIn (tgt := 2045) dL_law_39 (by decide) (by decide) rfl (by decide) ?_
      exact lw_k31 hb hl v1 v2 v3 hn hJ K x5 x6
    · subst e
      refine ex_tableIn (tgt := 2058) dL_law_39 (by decide) (by decide) rfl (by decide) ?_
      exact lw_k32 hb hl v1 v2 v3 hn hJ K x5 x6
    · subst e
      refine ex_tableIn (tgt := 2071) dL_law_39 (by decide) (by decide) rfl (by decide) ?_
      exact lw_k33 hb hl v1 v2 v3 hn hJ K x5 x6
    · subst e
      refine ex_tableIn (tgt := 2084) dL_law_39 (by decide) (by decide) rfl (by decide) ?_
      exact lw_k34 hb hl v1 v2 v3 hn hJ K x5 x6
    · subst e
      refine ex_tableIn (tgt := 2152) dL_law_39 (by decide) (by decide) rfl (by decide) ?_
      exact lw_k35 hb hl v1 v2 v3 hn hJ K x5 x6
    · subst e
      refine ex_tableIn (tgt := 2165) dL_law_39 (by decide) (by decide) rfl (by decide) ?_
      exact lw_k36 hb hl v1 v2 v3 hn hJ K x5 x6
    · have e1 := lw_ti ⟨t, ht⟩
      refine ex_tableOut (tgt := 2178) dL_law_39 (Or.inr (by rw [e1]; show (36 : Int) < (t : Int); omega)) (by decide) ?_
      exact K x5 x6 h hJ.up
end LOOP
