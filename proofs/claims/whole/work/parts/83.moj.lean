/-! THE MODEL: making, links, questions -/
theorem tf_snoc {t : Int32} {W : List tt_R} {x : tt_R} : tf t (W ++ [x]) = if x.1 = t then tf t W ++ [x] else tf t W := by
  unfold tf
  rw [List.filter_append, List.filter_cons]
  by_cases e : x.1 = t
  · rw [if_pos e, if_pos (decide_eq_true e)]; rfl
  · rw [if_neg e, if_neg (fun z => e (of_decide_eq_true z))]; simp
theorem r_tk_keep2 {m m' : mo_S} {u : Nat} {L : List tt_R} (h : r_tk m u L) (h13 : m'.2.2 13 u = m.2.2 13 u) (h14 : ∀ i, i < 30 → m'.2.2 14 (30 * u + i) = m.2.2 14 (30 * u + i)) (h15 : ∀ i, i < 30 → m'.2.2 15 (30 * u + i) = m.2.2 15 (30 * u + i)) (h16 : ∀ i, i < 30 → m'.2.2 16 (30 * u + i) = m.2.2 16 (30 * u + i)) : r_tk m' u L := by
  obtain ⟨a, b, c⟩ := h
  refine ⟨h13.trans a, b, fun i r hr => ?_⟩
  have hi := (List.getElem?_eq_some_iff.mp hr).1
  rw [h14 i (by omega), h15 i (by omega), h16 i (by omega)]
  exact c i r hr
theorem ls_upD {f f' : Nat → Int32} {L : List tt_R} {c : tt_R → Int32} {x : tt_R} (h : ∀ (i : Nat) (r : tt_R), L[i]? = some r → f i = c r) (hf : f' = upd f L.length (c x)) : ∀ (i : Nat) (r : tt_R), (L ++ [x])[i]? = some r → f' i = c r := by rw [hf]; exact ls_up0 h
section MOJ
variable {l : Launch} {G : mm_G} {h0 h : mm_H} {m : mo_S} {s : cl_S} {n : Nat}
theorem iv_tf {t : Nat} (hi : iv n s) : (tf (nI t) (s.1 0)).length ≤ 30 := by
  obtain ⟨k, kp, lo, wa, mk, c, hx⟩ := hi
  have h1 := hx.2.2.1.1
  have h2 := hx.2.1.2.1
  have := List.length_filter_le (fun r : tt_R => decide (r.1 = nI t)) (s.1 0)
  unfold tf
  omega
theorem c_X9_make (p : mo_P h0 h m) (r : r_all s m) (hi : iv n s) (t x w : Int32) : mm_Ct l G mX9_make [.ref 29, .int t, .int x, .int w] h (mo_Z h0 cx_a cx_s (cm_make s t x w)) := by
  obtain ⟨k, kp, lo, wa, mk, c, hx⟩ := hi
  have hp := hx.2.1
  have hs := hx.2.2.1
  have hw := hx.2.2.2.2.2.2.1
  refine mm_ct (by decide +kernel) (by decide +kernel) rfl (by simp [Value.category]) (Nat.le_of_ble_eq_true rfl) rfl ?_
  refine mm_via (p := ii t 0 3 ∧ ii x 1 90000 ∧ ii w 0 2) (pc' := 33) (ls' := [.ref 29, .int t, .int x, .int w, .null, .null]) (st := []) (fun b hb => ?_) (fun k => ?_)
  · refine mm_viaJ (if ii t 0 3 ∧ ii x 1 90000 ∧ ii w 0 2 then (if s.2.2.2.1.2.1 < 30 then 0 else 2) else 1) (pc' := 59) (ls' := [.ref 29, .int t, .int x, .int w, .int b, .null]) (st := [.ref 29]) ?_ (fun k => ?_)
    · skip
      refine ex_put dX9_make_59 p_X9_120 (mP_o p) (Nat.le_of_ble_eq_true rfl) (fun z => nomatch z) (mm_fi _) ?_
      refine mk_0 p (fun h59 p59 => ?_)
      skip
      unfold cm_make
      by_cases h1 : ii t 0 3 ∧ ii x 1 90000 ∧ ii w 0 2
      rotate_left
      · rw [if_neg h1] at p59
        rw [if_neg h1]
        refine ex_aload_n dX9_make_62 rfl ?_
        refine ex_getfield (v := .int (1)) dX9_make_63 g_X9_120 (mP_o p59) (congrArg (fun z => some (Value.int z)) (rfl)) ?_
        refine ex_if_le (tgt := 71) dX9_make_66 (by decide) (fun z => absurd z (by decide)) (fun _ => ?_)
        refine ex_iconst (v := 0) dX9_make_69 (by decide) ?_
        refine ex_ireturn dX9_make_70 ⟨_, rfl, rfl⟩ ?_
        exact ⟨_, rfl, _, p59, r, ⟨Or.inl ⟨rfl, rfl⟩, _, rfl⟩⟩
      rw [if_pos h1] at p59
      rw [if_pos h1]
      by_cases h2 : s.2.2.2.1.2.1 < 30
      rotate_left
      · rw [if_neg h2] at p59
        rw [if_neg h2]
        refine ex_aload_n dX9_make_62 rfl ?_
        refine ex_getfield (v := .int (2)) dX9_make_63 g_X9_120 (mP_o p59) (congrArg (fun z => some (Value.int z)) (rfl)) ?_
        refine ex_if_le (tgt := 71) dX9_make_66 (by decide) (fun z => absurd z (by decide)) (fun _ => ?_)
        refine ex_iconst (v := 0) dX9_make_69 (by decide) ?_
        refine ex_ireturn dX9_make_70 ⟨_, rfl, rfl⟩ ?_
        exact ⟨_, rfl, _, p59, r, ⟨Or.inr ⟨rfl, rfl⟩, _, rfl⟩⟩
      rw [if_pos h2] at p59
      rw [if_pos h2, hp.1]
      rw [hp.1] at h2
      have hk30 : kp < 30 := (nI_ltI (b := 30) (by have := hp.2.1; omega) (by decide)).mp h2
      obtain ⟨u, hu, rfl⟩ : ∃ u : Nat, u < 3 ∧ w = nI u := by
        obtain ⟨j, hj, rfl⟩ := nI_of (x := w) (Int32.not_lt.mpr h1.2.2.1)
        exact ⟨j, by have := (nI_leI hj (by decide : 2 < 2 ^ 31)).mp h1.2.2.2; omega, rfl⟩
      obtain ⟨y, hy, rfl⟩ : ∃ y : Nat, y ≤ 90000 ∧ x = nI y := by
        obtain ⟨j, hj, rfl⟩ := nI_of (x := x) (fun z => Int32.not_lt.mpr h1.2.1.1 (Int32.lt_of_lt_of_le z (by decide)))
        exact ⟨j, (nI_leI hj (by decide : 90000 < 2 ^ 31)).mp h1.2.1.2, rfl⟩
      obtain ⟨t1, t2, t3⟩ := r.2.2.2.1 u hu
      have hLk : (tf (nI u) (s.1 0)).length ≤ kp := Nat.le_trans (List.length_filter_le _ _) hs.1
      generalize hL : tf (nI u) (s.1 0) = L at t1 t2 t3 hLk
      have hg : m.1 10 = nI kp := r.2.2.1.1.trans hp.1
      refine ex_aload_n dX9_make_62 rfl ?_
      refine ex_getfield (v := .int (0)) dX9_make_63 g_X9_120 (mP_o p59) (congrArg (fun z => some (Value.int z)) (rfl)) ?_
      refine ex_if_le (tgt := 71) dX9_make_66 (by decide) (fun _ => ?_) (fun z => absurd (by decide) z)
      refine ex_aload_n dX9_make_71 rfl ?_
      refine ex_getfield dX9_make_72 g_X9_26 (mP_o p59) rfl ?_
      refine ex_aload_n dX9_make_75 rfl ?_
      refine ex_getfield (v := .int (nI kp)) dX9_make_76 g_X9_187 (mP_o p59) (congrArg (fun z => some (Value.int z)) (hg)) ?_
      refine ex_iload_n dX9_make_79 rfl ?_
      refine ex_iastore dX9_make_80 (mA_11 p59) (by first | assumption | exact vp_in_nI (by omega) (by decide)) ?_
      refine mq_11 p59 (fun h80 p80 => ?_)
      refine ex_bipush (v := 30) dX9_make_81 (by decide) ?_
      refine ex_iload_n dX9_make_83 rfl ?_
      refine ex_imul dX9_make_84 ?_
      refine ex_aload_n dX9_make_85 rfl ?_
      refine ex_getfield dX9_make_86 g_X9_29 (mP_o p80) rfl ?_
      refine ex_iload_n dX9_make_89 rfl ?_
      refine ex_ialoadv (v := nI L.length) dX9_make_90 (mA_13 p80) (by first | assumption | exact vp_in_nI (by omega) (by decide)) (mo_av t1 rfl (by omega)) ?_
      refine ex_iadd dX9_make_91 ?_
      rw [tk_ix]
      refine ex_istore dX9_make_92 (Nat.le_of_ble_eq_true rfl) ?_
      refine ex_aload_n dX9_make_94 rfl ?_
      refine ex_getfield dX9_make_95 g_X9_32 (mP_o p80) rfl ?_
      refine ex_iload dX9_make_98 rfl ?_
      refine ex_aload_n dX9_make_100 rfl ?_
      refine ex_getfield (v := .int (nI kp)) dX9_make_101 g_X9_187 (mP_o p80) (congrArg (fun z => some (Value.int z)) (hg)) ?_
      refine ex_iastore dX9_make_104 (mA_14 p80) (by first | assumption | exact vp_in_nI (by omega) (by decide)) ?_
      refine mq_14 p80 (fun h104 p104 => ?_)
      refine ex_aload_n dX9_make_105 rfl ?_
      refine ex_getfield dX9_make_106 g_X9_35 (mP_o p104) rfl ?_
      refine ex_iload dX9_make_109 rfl ?_
      refine ex_iconst (v := 0) dX9_make_111 (by decide) ?_
      refine ex_iastore dX9_make_112 (mA_15 p104) (by first | assumption | exact vp_in_nI (by omega) (by decide)) ?_
      refine mq_15 p104 (fun h112 p112 => ?_)
      refine ex_aload_n dX9_make_113 rfl ?_
      refine ex_getfield dX9_make_114 g_X9_38 (mP_o p112) rfl ?_
      refine ex_iload dX9_make_117 rfl ?_
      refine ex_iload_n dX9_make_119 rfl ?_
      refine ex_iconst (v := 1) dX9_make_120 (by decide) ?_
      refine ex_isub dX9_make_121 ?_
      refine ex_iastore dX9_make_122 (mA_16 p112) (by first | assumption | exact vp_in_nI (by omega) (by decide)) ?_
      refine mq_16 p112 (fun h122 p122 => ?_)
      refine ex_aload_n dX9_make_123 rfl ?_
      refine ex_getfield dX9_make_124 g_X9_29 (mP_o p122) rfl ?_
      refine ex_iload_n dX9_make_127 rfl ?_
      refine ex_dup2 dX9_make_128 rfl rfl ?_
      refine ex_ialoadv (v := nI L.length) dX9_make_129 (mA_13 p122) (by first | assumption | exact vp_in_nI (by omega) (by decide)) (mo_av t1 rfl (by omega)) ?_
      refine ex_iconst (v := 1) dX9_make_130 (by decide) ?_
      refine ex_iadd dX9_make_131 ?_
      rw [nI_1]
      refine ex_iastore dX9_make_132 (mA_13 p122) (by first | assumption | exact vp_in_nI (by omega) (by decide)) ?_
      refine mq_13 p122 (fun h132 p132 => ?_)
      refine ex_aload_n dX9_make_133 rfl ?_
      refine ex_dup dX9_make_134 rfl ?_
      refine ex_getfield dX9_make_135 g_X9_190 (mP_o p132) rfl ?_
      refine ex_iload_n dX9_make_138 rfl ?_
      refine ex_i2l dX9_make_139 ?_
      refine ex_ladd dX9_make_140 ?_
      refine ex_put dX9_make_141 p_X9_190 (mP_o p132) (Nat.le_of_ble_eq_true rfl) (fun z => nomatch z) (mm_fl _) ?_
      refine mk_12 p132 (fun h141 p141 => ?_)
      refine ex_aload_n dX9_make_144 rfl ?_
      refine ex_dup dX9_make_145 rfl ?_
      refine ex_getfield (v := .int (nI kp)) dX9_make_146 g_X9_187 (mP_o p141) (congrArg (fun z => some (Value.int z)) (hg)) ?_
      refine ex_iconst (v := 1) dX9_make_149 (by decide) ?_
      refine ex_iadd dX9_make_150 ?_
      rw [nI_1]
      refine ex_put dX9_make_151 p_X9_187 (mP_o p141) (Nat.le_of_ble_eq_true rfl) (fun z => nomatch z) (mm_fi _) ?_
      refine mk_10 p141 (fun h151 p151 => ?_)
      refine ex_aload_n dX9_make_154 rfl ?_
      refine ex_getfield (v := .int (nI (kp + 1))) dX9_make_155 g_X9_187 (mP_o p151) (congrArg (fun z => some (Value.int z)) (rfl)) ?_
      refine ex_iconst (v := 1) dX9_make_158 (by decide) ?_
      refine ex_isub dX9_make_159 ?_
      rw [nI_m1]
      rw [nI_clamp (show kp < 2 ^ 31 by omega), nI_clamp (show 30 * u + L.length < 2 ^ 31 by omega), nI_clamp (show u < 2 ^ 31 by omega)] at p151
      have hW : (nI y).toInt64 + (nI mk).toInt64 = (nI y + nI mk).toInt64 := lN_w (by have := hw.2.2.2; omega)
      refine ex_ireturn dX9_make_160 ⟨_, rfl, rfl⟩ ?_
      refine ⟨_, rfl, _, p151, ⟨r.1, r.2.1, ⟨?_, ?_, ?_⟩, ?_, r.2.2.2.2.1, r.2.2.2.2.2.1, r.2.2.2.2.2.2.1, r.2.2.2.2.2.2.2.1, r.2.2.2.2.2.2.2.2.1, r.2.2.2.2.2.2.2.2.2⟩, rfl, rfl⟩
      · rfl
      · show upd (m.2.2 11) kp t = upd s.2.2.2.1.1 (nI kp).toNatClampNeg t
        rw [r.2.2.1.2.1, nI_clamp (by omega)]
      · show m.2.1.1 + (nI y).toInt64 = (s.2.2.2.1.2.2 + nI y).toInt64
        rw [r.2.2.1.2.2, hw.2.1, Int64.add_comm, hW, Int32.add_comm]
      · intro v hv
        show r_tk _ v (tf (nI v) (s.1 0 ++ [(nI u, nI kp, 0, nI y)]))
        rw [tf_snoc]
        by_cases e : u = v
        · subst e
          rw [if_pos rfl, hL]
          refine ⟨?_, by rw [List.length_append, List.length_cons, List.length_nil]; omega, fun i q hq => ⟨?_, ?_, ?_⟩⟩
          · rw [List.length_append]; show upd _ u (nI L.length + 1) u = _; rw [pk_us, nI_1]; rfl
          · exact ls_up (c := fun r => r.2.1) (x := (nI u, nI kp, 0, nI y)) (fun i r hr => (t3 i r hr).1) rfl i q hq
          · exact ls_up (c := fun r => r.2.2.1) (x := (nI u, nI kp, 0, nI y)) (fun i r hr => (t3 i r hr).2.1) rfl i q hq
          · have := ls_up (c := fun r => r.2.2.1 + r.2.2.2 - 1) (x := (nI u, nI kp, 0, nI y)) (fun i r hr => (t3 i r hr).2.2) rfl i q hq
            rw [show ((0 : Int32) + nI y - 1) = nI y - 1 by grind] at this
            exact this
        · rw [if_neg (fun z => e ((nI_eq (by omega) (by omega)).mp z))]
          exact r_tk_keep2 (r.2.2.2.1 v hv) (pk_un (fun z => e z.symm)) (fun i hi => pk_un (by omega)) (fun i hi => pk_un (by omega)) (fun i hi => pk_un (by omega))
    · skip
      refine ex_istore dX9_make_33 (Nat.le_of_ble_eq_true rfl) ?_
      refine ex_aload_n dX9_make_35 rfl ?_
      refine ex_iload dX9_make_36 rfl ?_
      refine ex_if_ne (tgt := 45) dX9_make_38 (by decide) (fun c_38 => ?_) (fun c_38 => ?_)
      · refine ex_aload_n dX9_make_45 rfl ?_
        refine ex_getfield (v := .int (nI kp)) dX9_make_46 g_X9_187 (mP_o p) (congrArg (fun z => some (Value.int z)) (r.2.2.1.1.trans hp.1)) ?_
        refine ex_bipush (v := 30) dX9_make_49 (by decide) ?_
        refine ex_icmp_ne (tgt := 58) dX9_make_51 (by decide) (fun c_51 => ?_) (fun c_51 => ?_)
        · refine ex_iconst (v := 0) dX9_make_58 (by decide) ?_
          exact k _ (by rw [if_pos (bb_n.mp (hb ▸ c_38)), hp.1, if_pos (show nI kp < 30 from nI_lt (b := 30) (by have := hp.2.1; rcases Nat.lt_or_ge kp 30 with z | z; exact z; exact absurd (by rw [show kp = 30 by omega]; rfl) c_51) (by decide))])
        · refine ex_iconst (v := 2) dX9_make_54 (by decide) ?_
          refine ex_goto (tgt := 59) dX9_make_55 (by decide) ?_
          exact k _ (by rw [if_pos (bb_n.mp (hb ▸ c_38)), hp.1, if_neg (by rw [c_51]; decide)])
      · refine ex_iconst (v := 1) dX9_make_41 (by decide) ?_
        refine ex_goto (tgt := 59) dX9_make_42 (by decide) ?_
        exact k _ (by rw [if_neg (bb_0.mp (hb ▸ c_38))])
  · skip
    refine ex_iload_n dX9_make_0 rfl ?_
    refine ex_iconst (v := 0) dX9_make_1 (by decide) ?_
    refine ex_iconst (v := 3) dX9_make_2 (by decide) ?_
    refine cS_f dX9_make_3 (mm_ks i_X9_isIn l_X9_123) ⟨(Nat.le_of_ble_eq_true rfl), (Nat.le_of_ble_eq_true rfl)⟩ (c_X9_isIn _ _ _) rfl rfl (Nat.le_of_ble_eq_true rfl) rfl ?_
    refine ex_if_eq (tgt := 32) dX9_make_6 (by decide) (fun c_6 => ?_) (fun c_6 => ?_)
    · refine ex_iconst (v := 0) dX9_make_32 (by decide) ?_
      first | exact k _ (bb_f (fun z => bb_0.mp c_6 z.1)).symm | exact k _ (bb_f (fun z => bb_0.mp c_16 z.2.1)).symm | exact k _ (bb_f (fun z => bb_0.mp c_25 z.2.2)).symm | exact k _ (bb_t ⟨bb_n.mp c_6, bb_n.mp c_16, bb_n.mp c_25⟩).symm
    · refine ex_iload_n dX9_make_9 rfl ?_
      refine ex_iconst (v := 1) dX9_make_10 (by decide) ?_
      refine ex_ldc dX9_make_11 k_X9_186 ?_
      refine cS_f dX9_make_13 (mm_ks i_X9_isIn l_X9_123) ⟨(Nat.le_of_ble_eq_true rfl), (Nat.le_of_ble_eq_true rfl)⟩ (c_X9_isIn _ _ _) rfl rfl (Nat.le_of_ble_eq_true rfl) rfl ?_
      refine ex_if_eq (tgt := 32) dX9_make_16 (by decide) (fun c_16 => ?_) (fun c_16 => ?_)
      · refine ex_iconst (v := 0) dX9_make_32 (by decide) ?_
        first | exact k _ (bb_f (fun z => bb_0.mp c_6 z.1)).symm | exact k _ (bb_f (fun z => bb_0.mp c_16 z.2.1)).symm | exact k _ (bb_f (fun z => bb_0.mp c_25 z.2.2)).symm | exact k _ (bb_t ⟨bb_n.mp c_6, bb_n.mp c_16, bb_n.mp c_25⟩).symm
      · refine ex_iload_n dX9_make_19 rfl ?_
        refine ex_iconst (v := 0) dX9_make_20 (by decide) ?_
        refine ex_iconst (v := 2) dX9_make_21 (by decide) ?_
        refine cS_f dX9_make_22 (mm_ks i_X9_isIn l_X9_123) ⟨(Nat.le_of_ble_eq_true rfl), (Nat.le_of_ble_eq_true rfl)⟩ (c_X9_isIn _ _ _) rfl rfl (Nat.le_of_ble_eq_true rfl) rfl ?_
        refine ex_if_eq (tgt := 32) dX9_make_25 (by decide) (fun c_25 => ?_) (fun c_25 => ?_)
        · refine ex_iconst (v := 0) dX9_make_32 (by decide) ?_
          first | exact k _ (bb_f (fun z => bb_0.mp c_6 z.1)).symm | exact k _ (bb_f (fun z => bb_0.mp c_16 z.2.1)).symm | exact k _ (bb_f (fun z => bb_0.mp c_25 z.2.2)).symm | exact k _ (bb_t ⟨bb_n.mp c_6, bb_n.mp c_16, bb_n.mp c_25⟩).symm
        · refine ex_iconst (v := 1) dX9_make_28 (by decide) ?_
          refine ex_goto (tgt := 33) dX9_make_29 (by decide) ?_
          first | exact k _ (bb_f (fun z => bb_0.mp c_6 z.1)).symm | exact k _ (bb_f (fun z => bb_0.mp c_16 z.2.1)).symm | exact k _ (bb_f (fun z => bb_0.mp c_25 z.2.2)).symm | exact k _ (bb_t ⟨bb_n.mp c_6, bb_n.mp c_16, bb_n.mp c_25⟩).symm
theorem c_X9_begins (p : mo_P h0 h m) {cm : Nat → Int32} (hc : m.2.2 32 = cm) {i : Nat} (hi : i ≤ 100) (iv : Int32) (hiv : iv = nI i) : mm_Ct l G mX9_begins [.ref 29, .int iv] h (mm_ri (.int (ro_bs cm i)) h) := by
  subst hiv
  have key : mm_Ex l G mX9_begins (mm_ri (.int (ro_bs cm i)) h) 4 [.ref 29, .int (nI i), .int (ro_bs cm 0), .int (nI 0)] [] h := by
    refine lp_nat i (fun j => mm_Ex l G mX9_begins (mm_ri (.int (ro_bs cm i)) h) 4 [.ref 29, .int (nI i), .int (ro_bs cm j), .int (nI j)] [] h) ?_ ?_
    · skip
      refine ex_iload_n dX9_begins_4 rfl ?_
      refine ex_iload_n dX9_begins_5 rfl ?_
      refine ex_icmp_ge (tgt := 24) dX9_begins_6 (by decide) (fun _ => ?_) (fun z => absurd (Int32.le_refl _) z)
      refine ex_iload_n dX9_begins_24 rfl ?_
      refine ex_ireturn dX9_begins_25 ⟨_, rfl, rfl⟩ ?_
      exact ⟨rfl, rfl⟩
    · intro j hj ih
      refine ex_iload_n dX9_begins_4 rfl ?_
      refine ex_iload_n dX9_begins_5 rfl ?_
      refine ex_icmp_ge (tgt := 24) dX9_begins_6 (by decide) (fun z => absurd z (nI_ge hj (by omega))) (fun _ => ?_)
      refine ex_iload_n dX9_begins_9 rfl ?_
      refine ex_aload_n dX9_begins_10 rfl ?_
      refine ex_getfield dX9_begins_11 g_X9_74 (mP_o p) rfl ?_
      refine ex_iload_n dX9_begins_14 rfl ?_
      refine ex_ialoadv (v := cm j) dX9_begins_15 (mA_32 p) (by first | assumption | exact vp_in_nI (by omega) (by decide)) (by rw [hc]; exact mo_av rfl rfl (by omega)) ?_
      refine ex_iadd dX9_begins_16 ?_
      refine ex_istore_n dX9_begins_17 (Nat.le_of_ble_eq_true rfl) ?_
      refine ex_iinc (d := 1) dX9_begins_18 rfl (by decide) ?_
      refine ex_goto (tgt := 4) dX9_begins_21 (by decide) ?_
      rw [nI_1]; exact ih
  refine mm_ct (by decide +kernel) (by decide +kernel) rfl (by simp [Value.category]) (Nat.le_of_ble_eq_true rfl) rfl ?_
  refine ex_iconst (v := 0) dX9_begins_0 (by decide) ?_
  refine ex_istore_n dX9_begins_1 (Nat.le_of_ble_eq_true rfl) ?_
  refine ex_iconst (v := 0) dX9_begins_2 (by decide) ?_
  refine ex_istore_n dX9_begins_3 (Nat.le_of_ble_eq_true rfl) ?_
  exact key
theorem r_cl {m : mo_S} {s : cl_S} {kc i : Nat} (r : r_all s m) (hc : cl_ce s = nI kc) (hk : kc ≤ 100) (hi : i < 100) : (cl_ce s ≤ nI i ↔ kc ≤ i) := by
  rw [hc]; exact nI_leI (by omega) (by omega)
theorem c_X9_cell (p : mo_P h0 h m) (r : r_all s m) {kc : Nat} (hc : cl_ce s = nI kc) (hk : kc ≤ 100) (i w : Int32) : mm_Ct l G mX9_cell [.ref 29, .int i, .int w] h (mo_Z h0 cx_a cx_s (cm_cell s i w)) := by
  refine mm_ct (by decide +kernel) (by decide +kernel) rfl (by simp [Value.category]) (Nat.le_of_ble_eq_true rfl) rfl ?_
  refine mm_viaJ (if ii i 0 99 ∧ ii w 0 3 then 0 else 1) (pc' := 22) (ls' := [.ref 29, .int i, .int w]) (st := [.ref 29]) ?_ (fun k => ?_)
  · skip
    refine ex_put dX9_cell_22 p_X9_120 (mP_o p) (Nat.le_of_ble_eq_true rfl) (fun z => nomatch z) (mm_fi _) ?_
    refine mk_0 p (fun h22 p22 => ?_)
    skip
    unfold cm_cell
    by_cases h1 : ii i 0 99 ∧ ii w 0 3
    rotate_left
    · rw [if_neg h1] at p22
      rw [if_neg h1]
      refine ex_aload_n dX9_cell_25 rfl ?_
      refine ex_getfield (v := .int (1)) dX9_cell_26 g_X9_120 (mP_o p22) (congrArg (fun z => some (Value.int z)) (rfl)) ?_
      refine ex_if_le (tgt := 34) dX9_cell_29 (by decide) (fun z => absurd z (by decide)) (fun _ => ?_)
      refine ex_iconst (v := 0) dX9_cell_32 (by decide) ?_
      refine ex_ireturn dX9_cell_33 ⟨_, rfl, rfl⟩ ?_
      exact ⟨_, rfl, _, p22, r, ⟨Or.inl ⟨rfl, rfl⟩, _, rfl⟩⟩
    rw [if_pos h1] at p22
    rw [if_pos h1]
    obtain ⟨j, hj, rfl⟩ := ii_nI h1.1
    have ej : (nI j).toNatClampNeg = j := nI_clamp (by omega)
    have hmi : ro_mi s.2.2.2.2.1.1 (nI j) = s.2.2.2.2.1.1 j := ro_mi_nI hj
    rw [ej, hmi]
    refine ex_aload_n dX9_cell_25 rfl ?_
    refine ex_getfield (v := .int (0)) dX9_cell_26 g_X9_120 (mP_o p22) (congrArg (fun z => some (Value.int z)) (rfl)) ?_
    refine ex_if_le (tgt := 34) dX9_cell_29 (by decide) (fun _ => ?_) (fun z => absurd (by decide) z)
    skip
    have a3 := sw_hi (n := 3) h1.2 (by decide)
    by_cases c0 : w = 0
    · skip
      refine ex_iload_n dX9_cell_34 rfl ?_
      refine ex_iconst (v := 2) dX9_cell_35 (by decide) ?_
      refine ex_icmp_ge (tgt := 57) dX9_cell_36 (by decide) (fun z => absurd z (by rw [c0]; decide)) (fun _ => ?_)
      refine ex_iload_n dX9_cell_39 rfl ?_
      refine ex_if_ne (tgt := 51) dX9_cell_40 (by decide) (fun z => absurd c0 z) (fun _ => ?_)
      refine ex_aload_n dX9_cell_43 rfl ?_
      refine ex_iload_n dX9_cell_44 rfl ?_
      refine cV_f dX9_cell_45 (mm_kv i_X9_depthOf l_X9_127) ⟨(Nat.le_of_ble_eq_true rfl), (Nat.le_of_ble_eq_true rfl)⟩ (c_X9_depthOf p22 r.1 hj) rfl rfl (mP_o p22) (Nat.le_of_ble_eq_true rfl) rfl ?_
      refine ex_goto (tgt := 56) dX9_cell_48 (by decide) ?_
      refine ex_ireturn dX9_cell_56 ⟨_, rfl, rfl⟩ ?_
      exact ⟨_, rfl, _, p22, r, rfl, by rw [if_pos c0]⟩
    by_cases c1 : w = 1
    · skip
      refine ex_iload_n dX9_cell_34 rfl ?_
      refine ex_iconst (v := 2) dX9_cell_35 (by decide) ?_
      refine ex_icmp_ge (tgt := 57) dX9_cell_36 (by decide) (fun z => absurd z (by rw [c1]; decide)) (fun _ => ?_)
      refine ex_iload_n dX9_cell_39 rfl ?_
      refine ex_if_ne (tgt := 51) dX9_cell_40 (by decide) (fun _ => ?_) (fun z => absurd z c0)
      refine ex_aload_n dX9_cell_51 rfl ?_
      refine ex_iload_n dX9_cell_52 rfl ?_
      refine cV_f dX9_cell_53 (mm_kv i_X9_ground l_X9_210) ⟨(Nat.le_of_ble_eq_true rfl), (Nat.le_of_ble_eq_true rfl)⟩ (c_X9_ground p22 r.1 hj) rfl rfl (mP_o p22) (Nat.le_of_ble_eq_true rfl) rfl ?_
      refine ex_ireturn dX9_cell_56 ⟨_, rfl, rfl⟩ ?_
      exact ⟨_, rfl, _, p22, r, rfl, by rw [if_neg c0, if_pos c1]⟩
    have b0 := sw_ne (n := 0) 0 (by decide) c0
    have b1 := sw_ne (n := 1) 1 (by decide) c1
    rw [if_neg c0, if_neg c1]
    by_cases c2 : w = 2
    · skip
      refine ex_iload_n dX9_cell_34 rfl ?_
      refine ex_iconst (v := 2) dX9_cell_35 (by decide) ?_
      refine ex_icmp_ge (tgt := 57) dX9_cell_36 (by decide) (fun _ => ?_) (fun z => absurd (Int32.le_iff_toInt_le.mpr (by rw [show (2 : Int32).toInt = 2 by decide]; omega)) z)
      refine ex_iload_n dX9_cell_57 rfl ?_
      refine ex_aload_n dX9_cell_58 rfl ?_
      refine ex_getfield (v := .int (cl_ce s)) dX9_cell_59 g_X9_135 (mP_o p22) (congrArg (fun z => some (Value.int z)) (r.2.2.2.2.2.1.1)) ?_
      refine ex_icmp_lt (tgt := 69) dX9_cell_62 (by decide) (fun c_62 => ?_) (fun c_62 => ?_)
      · refine ex_iload_n dX9_cell_69 rfl ?_
        refine ex_iconst (v := 2) dX9_cell_70 (by decide) ?_
        refine ex_icmp_ne (tgt := 82) dX9_cell_71 (by decide) (fun z => absurd c2 z) (fun _ => ?_)
        refine ex_aload_n dX9_cell_74 rfl ?_
        refine ex_iload_n dX9_cell_75 rfl ?_
        refine cV_f dX9_cell_76 (mm_kv i_X9_begins l_X9_266) ⟨(Nat.le_of_ble_eq_true rfl), (Nat.le_of_ble_eq_true rfl)⟩ (c_X9_begins p22 r.2.2.2.2.2.1.2 (show j ≤ 100 by omega) _ rfl) rfl rfl (mP_o p22) (Nat.le_of_ble_eq_true rfl) rfl ?_
        refine ex_goto (tgt := 88) dX9_cell_79 (by decide) ?_
        refine ex_ireturn dX9_cell_88 ⟨_, rfl, rfl⟩ ?_
        exact ⟨_, rfl, _, p22, r, rfl, by rw [if_pos c2, if_neg (Int32.not_le.mpr c_62)]⟩
      · refine ex_iconst (v := (-1)) dX9_cell_65 (by decide) ?_
        refine ex_goto (tgt := 88) dX9_cell_66 (by decide) ?_
        refine ex_ireturn dX9_cell_88 ⟨_, rfl, rfl⟩ ?_
        exact ⟨_, rfl, _, p22, r, rfl, by rw [if_pos c2, if_pos (Int32.not_lt.mp c_62)]⟩
    · skip
      refine ex_iload_n dX9_cell_34 rfl ?_
      refine ex_iconst (v := 2) dX9_cell_35 (by decide) ?_
      refine ex_icmp_ge (tgt := 57) dX9_cell_36 (by decide) (fun _ => ?_) (fun z => absurd (Int32.le_iff_toInt_le.mpr (by rw [show (2 : Int32).toInt = 2 by decide]; omega)) z)
      refine ex_iload_n dX9_cell_57 rfl ?_
      refine ex_aload_n dX9_cell_58 rfl ?_
      refine ex_getfield (v := .int (cl_ce s)) dX9_cell_59 g_X9_135 (mP_o p22) (congrArg (fun z => some (Value.int z)) (r.2.2.2.2.2.1.1)) ?_
      refine ex_icmp_lt (tgt := 69) dX9_cell_62 (by decide) (fun c_62 => ?_) (fun c_62 => ?_)
      · refine ex_iload_n dX9_cell_69 rfl ?_
        refine ex_iconst (v := 2) dX9_cell_70 (by decide) ?_
        refine ex_icmp_ne (tgt := 82) dX9_cell_71 (by decide) (fun _ => ?_) (fun z => absurd z c2)
        refine ex_aload_n dX9_cell_82 rfl ?_
        refine ex_getfield dX9_cell_83 g_X9_74 (mP_o p22) rfl ?_
        refine ex_iload_n dX9_cell_86 rfl ?_
        refine ex_ialoadv (v := s.2.2.2.2.1.1 j) dX9_cell_87 (mA_32 p22) (by first | assumption | exact vp_in_nI (by omega) (by decide)) (mo_av (congrFun r.2.2.2.2.2.1.2 j) rfl (by omega)) ?_
        refine ex_ireturn dX9_cell_88 ⟨_, rfl, rfl⟩ ?_
        exact ⟨_, rfl, _, p22, r, rfl, by rw [if_neg c2, if_neg (Int32.not_le.mpr c_62)]⟩
      · refine ex_iconst (v := (-1)) dX9_cell_65 (by decide) ?_
        refine ex_goto (tgt := 88) dX9_cell_66 (by decide) ?_
        refine ex_ireturn dX9_cell_88 ⟨_, rfl, rfl⟩ ?_
        exact ⟨_, rfl, _, p22, r, rfl, by rw [if_neg c2, if_pos (Int32.not_lt.mp c_62)]⟩
  · skip
    refine ex_aload_n dX9_cell_0 rfl ?_
    refine ex_iload_n dX9_cell_1 rfl ?_
    refine cS_f dX9_cell_2 (mm_ks i_X9_isCell l_X9_131) ⟨(Nat.le_of_ble_eq_true rfl), (Nat.le_of_ble_eq_true rfl)⟩ (c_X9_isCell _) rfl rfl (Nat.le_of_ble_eq_true rfl) rfl ?_
    refine ex_if_eq (tgt := 21) dX9_cell_5 (by decide) (fun c_5 => ?_) (fun c_5 => ?_)
    · refine ex_iconst (v := 1) dX9_cell_21 (by decide) ?_
      first | exact k _ (if_neg (fun z => bb_0.mp c_5 z.1)).symm | exact k _ (if_neg (fun z => bb_0.mp c_14 z.2)).symm | exact k _ (if_pos ⟨bb_n.mp c_5, bb_n.mp c_14⟩).symm
    · refine ex_iload_n dX9_cell_8 rfl ?_
      refine ex_iconst (v := 0) dX9_cell_9 (by decide) ?_
      refine ex_iconst (v := 3) dX9_cell_10 (by decide) ?_
      refine cS_f dX9_cell_11 (mm_ks i_X9_isIn l_X9_123) ⟨(Nat.le_of_ble_eq_true rfl), (Nat.le_of_ble_eq_true rfl)⟩ (c_X9_isIn _ _ _) rfl rfl (Nat.le_of_ble_eq_true rfl) rfl ?_
      refine ex_if_eq (tgt := 21) dX9_cell_14 (by decide) (fun c_14 => ?_) (fun c_14 => ?_)
      · refine ex_iconst (v := 1) dX9_cell_21 (by decide) ?_
        first | exact k _ (if_neg (fun z => bb_0.mp c_5 z.1)).symm | exact k _ (if_neg (fun z => bb_0.mp c_14 z.2)).symm | exact k _ (if_pos ⟨bb_n.mp c_5, bb_n.mp c_14⟩).symm
      · refine ex_iconst (v := 0) dX9_cell_17 (by decide) ?_
        refine ex_goto (tgt := 22) dX9_cell_18 (by decide) ?_
        first | exact k _ (if_neg (fun z => bb_0.mp c_5 z.1)).symm | exact k _ (if_neg (fun z => bb_0.mp c_14 z.2)).symm | exact k _ (if_pos ⟨bb_n.mp c_5, bb_n.mp c_14⟩).symm
theorem c_X9_tension (p : mo_P h0 h m) (r : r_all s m) (t i : Int32) : mm_Ct l G mX9_tension [.ref 29, .int t, .int i] h (mo_Z h0 cx_a cx_s (cm_tension s t i)) := by
  refine mm_ct (by decide +kernel) (by decide +kernel) rfl (by simp [Value.category]) (Nat.le_of_ble_eq_true rfl) rfl ?_
  refine mm_viaJ (if ii t 0 3 ∧ ii i 0 99 then 0 else 1) (pc' := 22) (ls' := [.ref 29, .int t, .int i]) (st := [.ref 29]) ?_ (fun k => ?_)
  · skip
    refine ex_put dX9_tension_22 p_X9_120 (mP_o p) (Nat.le_of_ble_eq_true rfl) (fun z => nomatch z) (mm_fi _) ?_
    refine mk_0 p (fun h22 p22 => ?_)
    skip
    unfold cm_tension
    by_cases h1 : ii t 0 3 ∧ ii i 0 99
    rotate_left
    · rw [if_neg h1] at p22
      rw [if_neg h1]
      refine ex_aload_n dX9_tension_25 rfl ?_
      refine ex_getfield (v := .int (1)) dX9_tension_26 g_X9_120 (mP_o p22) (congrArg (fun z => some (Value.int z)) (rfl)) ?_
      refine ex_if_le (tgt := 36) dX9_tension_29 (by decide) (fun z => absurd z (by decide)) (fun _ => ?_)
      refine ex_iconst (v := 0) dX9_tension_32 (by decide) ?_
      refine ex_goto (tgt := 45) dX9_tension_33 (by decide) ?_
      refine ex_ireturn dX9_tension_45 ⟨_, rfl, rfl⟩ ?_
      exact ⟨_, rfl, _, p22, r, ⟨Or.inl ⟨rfl, rfl⟩, _, rfl⟩⟩
    rw [if_pos h1] at p22
    rw [if_pos h1]
    obtain ⟨j, hj, rfl⟩ := ii_nI h1.2
    refine ex_aload_n dX9_tension_25 rfl ?_
    refine ex_getfield (v := .int (0)) dX9_tension_26 g_X9_120 (mP_o p22) (congrArg (fun z => some (Value.int z)) (rfl)) ?_
    refine ex_if_le (tgt := 36) dX9_tension_29 (by decide) (fun _ => ?_) (fun z => absurd (by decide) z)
    refine ex_iload_n dX9_tension_36 rfl ?_
    refine ex_aload_n dX9_tension_37 rfl ?_
    refine ex_iload_n dX9_tension_38 rfl ?_
    refine cV_f dX9_tension_39 (mm_kv i_X9_depthOf l_X9_127) ⟨(Nat.le_of_ble_eq_true rfl), (Nat.le_of_ble_eq_true rfl)⟩ (c_X9_depthOf p22 r.1 hj) rfl rfl (mP_o p22) (Nat.le_of_ble_eq_true rfl) rfl ?_
    refine cS_f dX9_tension_42 (mm_ks i_X9_pull l_X9_196) ⟨(Nat.le_of_ble_eq_true rfl), (Nat.le_of_ble_eq_true rfl)⟩ (c_X9_pull _ _) rfl rfl (Nat.le_of_ble_eq_true rfl) rfl ?_
    refine ex_ireturn dX9_tension_45 ⟨_, rfl, rfl⟩ ?_
    exact ⟨_, rfl, _, p22, r, rfl, rfl⟩
  · skip
    refine ex_aload_n dX9_tension_0 rfl ?_
    refine ex_iload_n dX9_tension_1 rfl ?_
    refine ex_iconst (v := 0) dX9_tension_2 (by decide) ?_
    refine ex_iconst (v := 3) dX9_tension_3 (by decide) ?_
    refine cS_f dX9_tension_4 (mm_ks i_X9_isIn l_X9_123) ⟨(Nat.le_of_ble_eq_true rfl), (Nat.le_of_ble_eq_true rfl)⟩ (c_X9_isIn _ _ _) rfl rfl (Nat.le_of_ble_eq_true rfl) rfl ?_
    refine ex_if_eq (tgt := 21) dX9_tension_7 (by decide) (fun c_7 => ?_) (fun c_7 => ?_)
    · refine ex_iconst (v := 1) dX9_tension_21 (by decide) ?_
      first | exact k _ (if_neg (fun z => bb_0.mp c_7 z.1)).symm | exact k _ (if_neg (fun z => bb_0.mp c_14 z.2)).symm | exact k _ (if_pos ⟨bb_n.mp c_7, bb_n.mp c_14⟩).symm
    · refine ex_iload_n dX9_tension_10 rfl ?_
      refine cS_f dX9_tension_11 (mm_ks i_X9_isCell l_X9_131) ⟨(Nat.le_of_ble_eq_true rfl), (Nat.le_of_ble_eq_true rfl)⟩ (c_X9_isCell _) rfl rfl (Nat.le_of_ble_eq_true rfl) rfl ?_
      refine ex_if_eq (tgt := 21) dX9_tension_14 (by decide) (fun c_14 => ?_) (fun c_14 => ?_)
      · refine ex_iconst (v := 1) dX9_tension_21 (by decide) ?_
        first | exact k _ (if_neg (fun z => bb_0.mp c_7 z.1)).symm | exact k _ (if_neg (fun z => bb_0.mp c_14 z.2)).symm | exact k _ (if_pos ⟨bb_n.mp c_7, bb_n.mp c_14⟩).symm
      · refine ex_iconst (v := 0) dX9_tension_17 (by decide) ?_
        refine ex_goto (tgt := 22) dX9_tension_18 (by decide) ?_
        first | exact k _ (if_neg (fun z => bb_0.mp c_7 z.1)).symm | exact k _ (if_neg (fun z => bb_0.mp c_14 z.2)).symm | exact k _ (if_pos ⟨bb_n.mp c_7, bb_n.mp c_14⟩).symm
end MOJ
