/-! THE MODEL: things, tanks, faults, links told -/
theorem ho_top_tf {t : Int32} {c : Nat} : ∀ (R : List tt_R), ho_top t c R = match tf t R with | [] => -1 | r :: _ => tt_c r c
  | [] => rfl
  | r :: R => by
    unfold tf
    rw [ho_top, List.filter_cons]
    by_cases e : r.1 = t
    · rw [if_pos e, if_pos (decide_eq_true e)]
    · rw [if_neg e, if_neg (fun z => e (of_decide_eq_true z))]; exact ho_top_tf R
theorem ho_top_nil {t : Int32} {c : Nat} {W : List tt_R} (h : tf t W = []) : ho_top t c W.reverse = -1 := by rw [ho_top_tf, tf_rev, h]; rfl
theorem ho_top_snoc {t : Int32} {c : Nat} {W L : List tt_R} {r : tt_R} (h : tf t W = L ++ [r]) : ho_top t c W.reverse = tt_c r c := by rw [ho_top_tf, tf_rev, h, List.reverse_append]; rfl
theorem tf_in {t : Int32} {W : List tt_R} {r : tt_R} (h : r ∈ tf t W) : r ∈ W := (List.mem_filter.mp h).1
section MOL
variable {l : Launch} {G : mm_G} {h0 h : mm_H} {m : mo_S} {s : cl_S} {n : Nat} {T L : List tt_R}
theorem c_X9_tank (p : mo_P h0 h m) (r : r_all s m) (hi : iv n s) (t w : Int32) : mm_Ct l G mX9_tank [.ref 29, .int t, .int w] h (mo_Z h0 cx_a cx_s (cm_tank s t w)) := by
  obtain ⟨k, kp, lo, wa, mk, c, hx⟩ := hi
  refine mm_ct (by decide +kernel) (by decide +kernel) rfl (by simp [Value.category]) (Nat.le_of_ble_eq_true rfl) rfl ?_
  refine mm_viaJ (if ii t 0 2 ∧ ii w 0 4 then 0 else 1) (pc' := 24) (ls' := [.ref 29, .int t, .int w, .null]) (st := [.ref 29]) ?_ (fun k => ?_)
  · skip
    refine ex_put dX9_tank_24 p_X9_120 (mP_o p) (Nat.le_of_ble_eq_true rfl) (fun z => nomatch z) (mm_fi _) ?_
    refine mk_0 p (fun h24 p24 => ?_)
    skip
    unfold cm_tank
    by_cases h1 : ii t 0 2 ∧ ii w 0 4
    rotate_left
    · rw [if_neg h1] at p24
      rw [if_neg h1]
      refine ex_aload_n dX9_tank_27 rfl ?_
      refine ex_getfield (v := .int (1)) dX9_tank_28 g_X9_120 (mP_o p24) (congrArg (fun z => some (Value.int z)) (rfl)) ?_
      refine ex_if_le (tgt := 36) dX9_tank_31 (by decide) (fun z => absurd z (by decide)) (fun _ => ?_)
      refine ex_iconst (v := 0) dX9_tank_34 (by decide) ?_
      refine ex_ireturn dX9_tank_35 ⟨_, rfl, rfl⟩ ?_
      exact ⟨_, rfl, _, p24, r, ⟨Or.inl ⟨rfl, rfl⟩, _, rfl⟩⟩
    rw [if_pos h1] at p24
    rw [if_pos h1]
    obtain ⟨u, hu, rfl⟩ : ∃ u : Nat, u < 3 ∧ t = nI u := by
      obtain ⟨j, hj, rfl⟩ := nI_of (x := t) (Int32.not_lt.mpr h1.1.1)
      exact ⟨j, by have := (nI_leI hj (by decide : 2 < 2 ^ 31)).mp h1.1.2; omega, rfl⟩
    obtain ⟨t1, t2, t3⟩ := r.2.2.2.1 u hu
    have hp1 := ho_p_tf (t := nI u) (s.1 0) 0
    rw [show ∀ x : Int32, 0 + x = x from fun x => by grind] at hp1
    rw [hp1]
    refine ex_aload_n dX9_tank_27 rfl ?_
    refine ex_getfield (v := .int (0)) dX9_tank_28 g_X9_120 (mP_o p24) (congrArg (fun z => some (Value.int z)) (rfl)) ?_
    refine ex_if_le (tgt := 36) dX9_tank_31 (by decide) (fun _ => ?_) (fun z => absurd (by decide) z)
    refine ex_bipush (v := 30) dX9_tank_36 (by decide) ?_
    refine ex_iload_n dX9_tank_38 rfl ?_
    refine ex_imul dX9_tank_39 ?_
    refine ex_aload_n dX9_tank_40 rfl ?_
    refine ex_getfield dX9_tank_41 g_X9_29 (mP_o p24) rfl ?_
    refine ex_iload_n dX9_tank_44 rfl ?_
    refine ex_ialoadv (v := nI (tf (nI u) (s.1 0)).length) dX9_tank_45 (mA_13 p24) (by first | assumption | exact vp_in_nI (by omega) (by decide)) (mo_av t1 rfl (by omega)) ?_
    refine ex_iadd dX9_tank_46 ?_
    rw [tk_ix]
    refine ex_iconst (v := 1) dX9_tank_47 (by decide) ?_
    refine ex_isub dX9_tank_48 ?_
    refine ex_istore_n dX9_tank_49 (Nat.le_of_ble_eq_true rfl) ?_
    skip
    have a3 := sw_hi (n := 4) h1.2 (by decide)
    by_cases c0 : w = 0
    · skip
      refine ex_iload_n dX9_tank_50 rfl ?_
      refine ex_iconst (v := 2) dX9_tank_51 (by decide) ?_
      refine ex_icmp_ge (tgt := 74) dX9_tank_52 (by decide) (fun z => absurd z (by rw [c0]; decide)) (fun _ => ?_)
      refine ex_iload_n dX9_tank_55 rfl ?_
      refine ex_if_ne (tgt := 67) dX9_tank_56 (by decide) (fun z => absurd c0 z) (fun _ => ?_)
      refine ex_aload_n dX9_tank_59 rfl ?_
      refine ex_iload_n dX9_tank_60 rfl ?_
      refine cV_f dX9_tank_61 (mm_kv i_X9_inTank l_X9_307) ⟨(Nat.le_of_ble_eq_true rfl), (Nat.le_of_ble_eq_true rfl)⟩ (c_X9_inTank p24 r.2.2.2.1 hu _ rfl) rfl rfl (mP_o p24) (Nat.le_of_ble_eq_true rfl) rfl ?_
      refine ex_goto (tgt := 73) dX9_tank_64 (by decide) ?_
      refine ex_ireturn dX9_tank_73 ⟨_, rfl, rfl⟩ ?_
      exact ⟨_, rfl, _, p24, r, rfl, by rw [if_pos c0]⟩
    by_cases c1 : w = 1
    · skip
      refine ex_iload_n dX9_tank_50 rfl ?_
      refine ex_iconst (v := 2) dX9_tank_51 (by decide) ?_
      refine ex_icmp_ge (tgt := 74) dX9_tank_52 (by decide) (fun z => absurd z (by rw [c1]; decide)) (fun _ => ?_)
      refine ex_iload_n dX9_tank_55 rfl ?_
      refine ex_if_ne (tgt := 67) dX9_tank_56 (by decide) (fun _ => ?_) (fun z => absurd z c0)
      refine ex_aload_n dX9_tank_67 rfl ?_
      refine ex_getfield dX9_tank_68 g_X9_29 (mP_o p24) rfl ?_
      refine ex_iload_n dX9_tank_71 rfl ?_
      refine ex_ialoadv (v := nI (tf (nI u) (s.1 0)).length) dX9_tank_72 (mA_13 p24) (by first | assumption | exact vp_in_nI (by omega) (by decide)) (mo_av t1 rfl (by omega)) ?_
      refine ex_ireturn dX9_tank_73 ⟨_, rfl, rfl⟩ ?_
      exact ⟨_, rfl, _, p24, r, rfl, by rw [if_neg c0, if_pos c1]⟩
    have b0 := sw_ne (n := 0) 0 (by decide) c0
    have b1 := sw_ne (n := 1) 1 (by decide) c1
    rw [if_neg c0, if_neg c1]
    rcases List.eq_nil_or_concat (tf (nI u) (s.1 0)) with e | ⟨L, q, e⟩
    · have e1 : cl_ty s (-1) = -1 := by unfold cl_ty ho_ty; exact if_neg (fun z => absurd z.1 (by decide))
      have e2 : (if w = 2 then cl_ty s (ho_top (nI u) 1 (s.1 0).reverse) else if w = 3 then ho_top (nI u) 1 (s.1 0).reverse else ho_top (nI u) 2 (s.1 0).reverse) = -1 := by
        rw [ho_top_nil e, ho_top_nil e, e1]
        split
        · rfl
        · split <;> rfl
      rw [e2]
      rw [e]
      rw [e] at t1
      refine ex_iload_n dX9_tank_50 rfl ?_
      refine ex_iconst (v := 2) dX9_tank_51 (by decide) ?_
      refine ex_icmp_ge (tgt := 74) dX9_tank_52 (by decide) (fun _ => ?_) (fun z => absurd (Int32.le_iff_toInt_le.mpr (by rw [show (2 : Int32).toInt = 2 by decide]; omega)) z)
      refine ex_aload_n dX9_tank_74 rfl ?_
      refine ex_getfield dX9_tank_75 g_X9_29 (mP_o p24) rfl ?_
      refine ex_iload_n dX9_tank_78 rfl ?_
      refine ex_ialoadv (v := 0) dX9_tank_79 (mA_13 p24) (by first | assumption | exact vp_in_nI (by omega) (by decide)) (mo_av t1 rfl (by omega)) ?_
      refine ex_if_ne (tgt := 87) dX9_tank_80 (by decide) (fun z => absurd rfl z) (fun _ => ?_)
      refine ex_iconst (v := (-1)) dX9_tank_83 (by decide) ?_
      refine ex_goto (tgt := 126) dX9_tank_84 (by decide) ?_
      refine ex_ireturn dX9_tank_126 ⟨_, rfl, rfl⟩ ?_
      exact ⟨_, rfl, _, p24, r, rfl, rfl⟩
    rw [List.concat_eq_append] at e
    have hqm : q ∈ tf (nI u) (s.1 0) := by rw [e]; simp
    obtain ⟨t', p', f', n', eq, g1, g2, g3, g4⟩ := hx.2.2.1.2 q (tf_in hqm)
    rw [ho_top_snoc e, ho_top_snoc e]
    have hl : (tf (nI u) (s.1 0)).length = L.length + 1 := by rw [e]; simp
    rw [hl] at t1 t2 ⊢
    obtain ⟨q1, q2, q3⟩ := t3 L.length q (by rw [e]; exact ls_snoc_get)
    have hkp := hx.2.1
    have hix : nI (30 * u + (L.length + 1)) - 1 = nI (30 * u + L.length) := nI_m1 _
    by_cases c2 : w = 2
    · skip
      refine ex_iload_n dX9_tank_50 rfl ?_
      refine ex_iconst (v := 2) dX9_tank_51 (by decide) ?_
      refine ex_icmp_ge (tgt := 74) dX9_tank_52 (by decide) (fun _ => ?_) (fun z => absurd (Int32.le_iff_toInt_le.mpr (by rw [show (2 : Int32).toInt = 2 by decide]; omega)) z)
      refine ex_aload_n dX9_tank_74 rfl ?_
      refine ex_getfield dX9_tank_75 g_X9_29 (mP_o p24) rfl ?_
      refine ex_iload_n dX9_tank_78 rfl ?_
      refine ex_ialoadv (v := nI (L.length + 1)) dX9_tank_79 (mA_13 p24) (by first | assumption | exact vp_in_nI (by omega) (by decide)) (mo_av t1 rfl (by omega)) ?_
      refine ex_if_ne (tgt := 87) dX9_tank_80 (by decide) (fun _ => ?_) (fun z => absurd z (nI_ne0 (by omega) (by omega)))
      refine ex_iload_n dX9_tank_87 rfl ?_
      refine ex_iconst (v := 2) dX9_tank_88 (by decide) ?_
      refine ex_icmp_ne (tgt := 106) dX9_tank_89 (by decide) (fun z => absurd c2 z) (fun _ => ?_)
      refine ex_aload_n dX9_tank_92 rfl ?_
      refine ex_getfield dX9_tank_93 g_X9_26 (mP_o p24) rfl ?_
      refine ex_aload_n dX9_tank_96 rfl ?_
      refine ex_getfield dX9_tank_97 g_X9_32 (mP_o p24) rfl ?_
      refine ex_iload_n dX9_tank_100 rfl ?_
      refine ex_ialoadv (v := q.2.1) dX9_tank_101 (mA_14 p24) (by rw [hix]; exact vp_in_nI (by omega) (by decide)) (mo_av q1 hix (by omega)) ?_
      refine ex_ialoadv (v := s.2.2.2.1.1 p') dX9_tank_102 (mA_11 p24) (by rw [eq]; exact vp_in_nI (show p' < 30 by have := hkp.2.1; omega) (by decide)) (by rw [show (mo_sf m 0 0).2.2 11 = s.2.2.2.1.1 from r.2.2.1.2.1]; exact mo_av rfl (by rw [eq]) (by have := hkp.2.1; omega)) ?_
      refine ex_goto (tgt := 126) dX9_tank_103 (by decide) ?_
      refine ex_ireturn dX9_tank_126 ⟨_, rfl, rfl⟩ ?_
      exact ⟨_, rfl, _, p24, r, rfl, by rw [if_pos c2]; unfold cl_ty; rw [hkp.1, show tt_c q 1 = nI p' by rw [eq]; rfl, ho_ty_at hkp.2.1 g2]⟩
    rw [if_neg c2]
    by_cases c3 : w = 3
    · skip
      refine ex_iload_n dX9_tank_50 rfl ?_
      refine ex_iconst (v := 2) dX9_tank_51 (by decide) ?_
      refine ex_icmp_ge (tgt := 74) dX9_tank_52 (by decide) (fun _ => ?_) (fun z => absurd (Int32.le_iff_toInt_le.mpr (by rw [show (2 : Int32).toInt = 2 by decide]; omega)) z)
      refine ex_aload_n dX9_tank_74 rfl ?_
      refine ex_getfield dX9_tank_75 g_X9_29 (mP_o p24) rfl ?_
      refine ex_iload_n dX9_tank_78 rfl ?_
      refine ex_ialoadv (v := nI (L.length + 1)) dX9_tank_79 (mA_13 p24) (by first | assumption | exact vp_in_nI (by omega) (by decide)) (mo_av t1 rfl (by omega)) ?_
      refine ex_if_ne (tgt := 87) dX9_tank_80 (by decide) (fun _ => ?_) (fun z => absurd z (nI_ne0 (by omega) (by omega)))
      refine ex_iload_n dX9_tank_87 rfl ?_
      refine ex_iconst (v := 2) dX9_tank_88 (by decide) ?_
      refine ex_icmp_ne (tgt := 106) dX9_tank_89 (by decide) (fun _ => ?_) (fun z => absurd z c2)
      refine ex_iload_n dX9_tank_106 rfl ?_
      refine ex_iconst (v := 3) dX9_tank_107 (by decide) ?_
      refine ex_icmp_ne (tgt := 120) dX9_tank_108 (by decide) (fun z => absurd c3 z) (fun _ => ?_)
      refine ex_aload_n dX9_tank_111 rfl ?_
      refine ex_getfield dX9_tank_112 g_X9_32 (mP_o p24) rfl ?_
      refine ex_iload_n dX9_tank_115 rfl ?_
      refine ex_ialoadv (v := q.2.1) dX9_tank_116 (mA_14 p24) (by rw [hix]; exact vp_in_nI (by omega) (by decide)) (mo_av q1 hix (by omega)) ?_
      refine ex_goto (tgt := 126) dX9_tank_117 (by decide) ?_
      refine ex_ireturn dX9_tank_126 ⟨_, rfl, rfl⟩ ?_
      exact ⟨_, rfl, _, p24, r, rfl, by rw [if_pos c3]; rfl⟩
    · skip
      refine ex_iload_n dX9_tank_50 rfl ?_
      refine ex_iconst (v := 2) dX9_tank_51 (by decide) ?_
      refine ex_icmp_ge (tgt := 74) dX9_tank_52 (by decide) (fun _ => ?_) (fun z => absurd (Int32.le_iff_toInt_le.mpr (by rw [show (2 : Int32).toInt = 2 by decide]; omega)) z)
      refine ex_aload_n dX9_tank_74 rfl ?_
      refine ex_getfield dX9_tank_75 g_X9_29 (mP_o p24) rfl ?_
      refine ex_iload_n dX9_tank_78 rfl ?_
      refine ex_ialoadv (v := nI (L.length + 1)) dX9_tank_79 (mA_13 p24) (by first | assumption | exact vp_in_nI (by omega) (by decide)) (mo_av t1 rfl (by omega)) ?_
      refine ex_if_ne (tgt := 87) dX9_tank_80 (by decide) (fun _ => ?_) (fun z => absurd z (nI_ne0 (by omega) (by omega)))
      refine ex_iload_n dX9_tank_87 rfl ?_
      refine ex_iconst (v := 2) dX9_tank_88 (by decide) ?_
      refine ex_icmp_ne (tgt := 106) dX9_tank_89 (by decide) (fun _ => ?_) (fun z => absurd z c2)
      refine ex_iload_n dX9_tank_106 rfl ?_
      refine ex_iconst (v := 3) dX9_tank_107 (by decide) ?_
      refine ex_icmp_ne (tgt := 120) dX9_tank_108 (by decide) (fun _ => ?_) (fun z => absurd z c3)
      refine ex_aload_n dX9_tank_120 rfl ?_
      refine ex_getfield dX9_tank_121 g_X9_35 (mP_o p24) rfl ?_
      refine ex_iload_n dX9_tank_124 rfl ?_
      refine ex_ialoadv (v := q.2.2.1) dX9_tank_125 (mA_15 p24) (by rw [hix]; exact vp_in_nI (by omega) (by decide)) (mo_av q2 hix (by omega)) ?_
      refine ex_ireturn dX9_tank_126 ⟨_, rfl, rfl⟩ ?_
      exact ⟨_, rfl, _, p24, r, rfl, by rw [if_neg c3]; rfl⟩
  · skip
    refine ex_aload_n dX9_tank_0 rfl ?_
    refine ex_iload_n dX9_tank_1 rfl ?_
    refine ex_iconst (v := 0) dX9_tank_2 (by decide) ?_
    refine ex_iconst (v := 2) dX9_tank_3 (by decide) ?_
    refine cS_f dX9_tank_4 (mm_ks i_X9_isIn l_X9_123) ⟨(Nat.le_of_ble_eq_true rfl), (Nat.le_of_ble_eq_true rfl)⟩ (c_X9_isIn _ _ _) rfl rfl (Nat.le_of_ble_eq_true rfl) rfl ?_
    refine ex_if_eq (tgt := 23) dX9_tank_7 (by decide) (fun c_7 => ?_) (fun c_7 => ?_)
    · refine ex_iconst (v := 1) dX9_tank_23 (by decide) ?_
      first | exact k _ (if_neg (fun z => bb_0.mp c_7 z.1)).symm | exact k _ (if_neg (fun z => bb_0.mp c_16 z.2)).symm | exact k _ (if_pos ⟨bb_n.mp c_7, bb_n.mp c_16⟩).symm
    · refine ex_iload_n dX9_tank_10 rfl ?_
      refine ex_iconst (v := 0) dX9_tank_11 (by decide) ?_
      refine ex_iconst (v := 4) dX9_tank_12 (by decide) ?_
      refine cS_f dX9_tank_13 (mm_ks i_X9_isIn l_X9_123) ⟨(Nat.le_of_ble_eq_true rfl), (Nat.le_of_ble_eq_true rfl)⟩ (c_X9_isIn _ _ _) rfl rfl (Nat.le_of_ble_eq_true rfl) rfl ?_
      refine ex_if_eq (tgt := 23) dX9_tank_16 (by decide) (fun c_16 => ?_) (fun c_16 => ?_)
      · refine ex_iconst (v := 1) dX9_tank_23 (by decide) ?_
        first | exact k _ (if_neg (fun z => bb_0.mp c_7 z.1)).symm | exact k _ (if_neg (fun z => bb_0.mp c_16 z.2)).symm | exact k _ (if_pos ⟨bb_n.mp c_7, bb_n.mp c_16⟩).symm
      · refine ex_iconst (v := 0) dX9_tank_19 (by decide) ?_
        refine ex_goto (tgt := 24) dX9_tank_20 (by decide) ?_
        first | exact k _ (if_neg (fun z => bb_0.mp c_7 z.1)).symm | exact k _ (if_neg (fun z => bb_0.mp c_16 z.2)).symm | exact k _ (if_pos ⟨bb_n.mp c_7, bb_n.mp c_16⟩).symm
theorem c_X9_line (p : mo_P h0 h m) (r : r_all s m) (hi : iv n s) (hn : n ≤ 513) (w : Int32) : mm_Ct l G mX9_line [.ref 29, .int w] h (mo_Z h0 cx_a cx_s (cm_line s w)) := by
  obtain ⟨k, kp, lo, wa, mk, c, hx⟩ := hi
  have hW := hx.W hn
  have hm : cl_me s = nI (ln_N (s.1 2)) := hx.2.2.2.2.2.2.2.1
  have hwa : cl_wa s = nI wa := hx.2.2.2.2.2.2.1.1
  have hwb : wa < 2 ^ 31 := by
    have h1 := hx.2.2.2.2.2.2.1.2.2.1
    have h2 := hx.2.2.2.2.2.2.1.2.2.2
    have h3 := hx.2.1.2.1
    omega
  refine mm_ct (by decide +kernel) (by decide +kernel) rfl (by simp [Value.category]) (Nat.le_of_ble_eq_true rfl) rfl ?_
  refine mm_viaJ (if ii w 0 7 then 0 else 1) (pc' := 16) (ls' := [.ref 29, .int w]) (st := [.ref 29]) ?_ (fun k => ?_)
  · skip
    refine ex_put dX9_line_16 p_X9_120 (mP_o p) (Nat.le_of_ble_eq_true rfl) (fun z => nomatch z) (mm_fi _) ?_
    refine mk_0 p (fun h16 p16 => ?_)
    skip
    unfold cm_line
    by_cases h1 : ii w 0 7
    rotate_left
    · rw [if_neg h1] at p16
      rw [if_neg h1]
      refine ex_aload_n dX9_line_19 rfl ?_
      refine ex_getfield (v := .int (1)) dX9_line_20 g_X9_120 (mP_o p16) (congrArg (fun z => some (Value.int z)) (rfl)) ?_
      refine ex_if_le (tgt := 28) dX9_line_23 (by decide) (fun z => absurd z (by decide)) (fun _ => ?_)
      refine ex_iconst (v := 0) dX9_line_26 (by decide) ?_
      refine ex_ireturn dX9_line_27 ⟨_, rfl, rfl⟩ ?_
      exact ⟨_, rfl, _, p16, r, ⟨Or.inl ⟨rfl, rfl⟩, _, rfl⟩⟩
    rw [if_pos h1] at p16
    rw [if_pos h1]
    refine ex_aload_n dX9_line_19 rfl ?_
    refine ex_getfield (v := .int (0)) dX9_line_20 g_X9_120 (mP_o p16) (congrArg (fun z => some (Value.int z)) (rfl)) ?_
    refine ex_if_le (tgt := 28) dX9_line_23 (by decide) (fun _ => ?_) (fun z => absurd (by decide) z)
    refine ex_iload_n dX9_line_28 rfl ?_
    skip
    by_cases e0 : w = 0
    · subst e0
      refine ex_tableIn (tgt := 72) dX9_line_29 (by decide) (by decide) rfl (by decide) ?_
      refine ex_aload_n dX9_line_72 rfl ?_
      refine cV_f dX9_line_73 (mm_kv i_X9_metres l_X9_160) ⟨(Nat.le_of_ble_eq_true rfl), (Nat.le_of_ble_eq_true rfl)⟩ (c_X9_metres p16 (T := s.1 2) r.2.2.2.2.1 hW) rfl rfl (mP_o p16) (Nat.le_of_ble_eq_true rfl) rfl ?_
      refine ex_ireturn dX9_line_76 ⟨_, rfl, rfl⟩ ?_
      exact ⟨_, rfl, _, p16, r, rfl, by rw [ln_m0 hW, ← hm]; rfl⟩
    rw [if_neg e0]
    by_cases e1 : w = 1
    · subst e1
      refine ex_tableIn (tgt := 77) dX9_line_29 (by decide) (by decide) rfl (by decide) ?_
      refine ex_aload_n dX9_line_77 rfl ?_
      refine ex_getfield (v := .int (cl_ce s)) dX9_line_78 g_X9_135 (mP_o p16) (congrArg (fun z => some (Value.int z)) (r.2.2.2.2.2.1.1)) ?_
      refine ex_ireturn dX9_line_81 ⟨_, rfl, rfl⟩ ?_
      exact ⟨_, rfl, _, p16, r, rfl, rfl⟩
    rw [if_neg e1]
    by_cases e2 : w = 2
    · subst e2
      refine ex_tableIn (tgt := 82) dX9_line_29 (by decide) (by decide) rfl (by decide) ?_
      refine ex_aload_n dX9_line_82 rfl ?_
      refine ex_getfield (v := .int (nI (s.1 2).length)) dX9_line_83 g_X9_171 (mP_o p16) (congrArg (fun z => some (Value.int z)) (r.2.2.2.2.1.1)) ?_
      refine ex_ireturn dX9_line_86 ⟨_, rfl, rfl⟩ ?_
      exact ⟨_, rfl, _, p16, r, rfl, rfl⟩
    rw [if_neg e2]
    by_cases e3 : w = 3
    · subst e3
      refine ex_tableIn (tgt := 87) dX9_line_29 (by decide) (by decide) rfl (by decide) ?_
      refine ex_aload_n dX9_line_87 rfl ?_
      refine ex_iconst (v := 1) dX9_line_88 (by decide) ?_
      refine cV_f dX9_line_89 (mm_kv i_X9_many l_X9_236) ⟨(Nat.le_of_ble_eq_true rfl), (Nat.le_of_ble_eq_true rfl)⟩ (c_X9_many p16 (T := s.1 2) r.2.2.2.2.1 hW _) rfl rfl (mP_o p16) (Nat.le_of_ble_eq_true rfl) rfl ?_
      refine ex_ireturn dX9_line_92 ⟨_, rfl, rfl⟩ ?_
      exact ⟨_, rfl, _, p16, r, rfl, rfl⟩
    rw [if_neg e3]
    by_cases e4 : w = 4
    · subst e4
      refine ex_tableIn (tgt := 93) dX9_line_29 (by decide) (by decide) rfl (by decide) ?_
      refine ex_aload_n dX9_line_93 rfl ?_
      refine ex_iconst (v := 2) dX9_line_94 (by decide) ?_
      refine cV_f dX9_line_95 (mm_kv i_X9_many l_X9_236) ⟨(Nat.le_of_ble_eq_true rfl), (Nat.le_of_ble_eq_true rfl)⟩ (c_X9_many p16 (T := s.1 2) r.2.2.2.2.1 hW _) rfl rfl (mP_o p16) (Nat.le_of_ble_eq_true rfl) rfl ?_
      refine ex_ireturn dX9_line_98 ⟨_, rfl, rfl⟩ ?_
      exact ⟨_, rfl, _, p16, r, rfl, rfl⟩
    rw [if_neg e4]
    by_cases e5 : w = 5
    · subst e5
      refine ex_tableIn (tgt := 99) dX9_line_29 (by decide) (by decide) rfl (by decide) ?_
      refine ex_aload_n dX9_line_99 rfl ?_
      refine ex_getfield dX9_line_100 g_X9_167 (mP_o p16) rfl ?_
      refine ex_l2i dX9_line_103 ?_
      refine ex_ireturn dX9_line_104 ⟨_, rfl, rfl⟩ ?_
      exact ⟨_, rfl, _, p16, r, rfl, congrArg Value.int (by rw [show (mo_sf m 0 0).2.1.2 = (cl_wa s).toInt64 from r.2.2.2.2.2.2.1.2.2.2.1, hwa, nI_l hwb, lN_i]; rfl)⟩
    rw [if_neg e5]
    by_cases e6 : w = 6
    · subst e6
      refine ex_tableIn (tgt := 105) dX9_line_29 (by decide) (by decide) rfl (by decide) ?_
      refine ex_aload_n dX9_line_105 rfl ?_
      refine ex_getfield (v := .int (cl_bu s)) dX9_line_106 g_X9_153 (mP_o p16) (congrArg (fun z => some (Value.int z)) (r.2.2.2.2.2.2.1.2.1)) ?_
      refine ex_if_eq (tgt := 116) dX9_line_109 (by decide) (fun c_109 => ?_) (fun c_109 => ?_)
      · refine ex_iconst (v := 0) dX9_line_116 (by decide) ?_
        refine ex_ireturn dX9_line_117 ⟨_, rfl, rfl⟩ ?_
        first | exact ⟨_, rfl, _, p16, r, rfl, by rw [if_pos rfl, if_pos c_109]⟩ | exact ⟨_, rfl, _, p16, r, rfl, by rw [if_pos rfl, if_neg c_109]⟩
      · refine ex_iconst (v := 1) dX9_line_112 (by decide) ?_
        refine ex_goto (tgt := 117) dX9_line_113 (by decide) ?_
        refine ex_ireturn dX9_line_117 ⟨_, rfl, rfl⟩ ?_
        first | exact ⟨_, rfl, _, p16, r, rfl, by rw [if_pos rfl, if_pos c_109]⟩ | exact ⟨_, rfl, _, p16, r, rfl, by rw [if_pos rfl, if_neg c_109]⟩
    rw [if_neg e6]
    have a0 := sw_ne (n := 0) 0 (by decide) e0
    have a1 := sw_ne (n := 1) 1 (by decide) e1
    have a2 := sw_ne (n := 2) 2 (by decide) e2
    have a3 := sw_ne (n := 3) 3 (by decide) e3
    have a4 := sw_ne (n := 4) 4 (by decide) e4
    have a5 := sw_ne (n := 5) 5 (by decide) e5
    have a6 := sw_ne (n := 6) 6 (by decide) e6
    have a7 := sw_hi (n := 7) h1 (by decide)
    refine ex_tableOut (tgt := 118) dX9_line_29 (by omega) (by decide) ?_
    refine ex_aload_n dX9_line_118 rfl ?_
    refine ex_getfield (v := .int (cl_lo s)) dX9_line_119 g_X9_164 (mP_o p16) (congrArg (fun z => some (Value.int z)) (r.2.2.2.2.2.2.1.2.2.1)) ?_
    refine ex_ireturn dX9_line_122 ⟨_, rfl, rfl⟩ ?_
    exact ⟨_, rfl, _, p16, r, rfl, rfl⟩
  · skip
    refine ex_aload_n dX9_line_0 rfl ?_
    refine ex_iload_n dX9_line_1 rfl ?_
    refine ex_iconst (v := 0) dX9_line_2 (by decide) ?_
    refine ex_bipush (v := 7) dX9_line_3 (by decide) ?_
    refine cS_f dX9_line_5 (mm_ks i_X9_isIn l_X9_123) ⟨(Nat.le_of_ble_eq_true rfl), (Nat.le_of_ble_eq_true rfl)⟩ (c_X9_isIn _ _ _) rfl rfl (Nat.le_of_ble_eq_true rfl) rfl ?_
    refine ex_if_eq (tgt := 15) dX9_line_8 (by decide) (fun c_8 => ?_) (fun c_8 => ?_)
    · refine ex_iconst (v := 1) dX9_line_15 (by decide) ?_
      first | exact k _ (if_neg (bb_0.mp c_8)).symm | exact k _ (if_pos (bb_n.mp c_8)).symm
    · refine ex_iconst (v := 0) dX9_line_11 (by decide) ?_
      refine ex_goto (tgt := 16) dX9_line_12 (by decide) ?_
      first | exact k _ (if_neg (bb_0.mp c_8)).symm | exact k _ (if_pos (bb_n.mp c_8)).symm
theorem c_X9_thing (p : mo_P h0 h m) (r : r_all s m) (hi : iv n s) (hn : n ≤ 513) (i w : Int32) : mm_Ct l G mX9_thing [.ref 29, .int i, .int w] h (mo_Z h0 cx_i cx_a (cm_thing s i w)) := by
  obtain ⟨k, kp, lo, wa, mk, c, hx⟩ := hi
  have hW := hx.W hn
  have hL := hW.1
  refine mm_ct (by decide +kernel) (by decide +kernel) rfl (by simp [Value.category]) (Nat.le_of_ble_eq_true rfl) rfl ?_
  refine mm_viaJ (if 0 ≤ i ∧ i < nI (s.1 2).length then (if ii w 0 3 then 0 else 2) else 1) (pc' := 33) (ls' := [.ref 29, .int i, .int w]) (st := [.ref 29]) ?_ (fun k => ?_)
  · skip
    refine ex_put dX9_thing_33 p_X9_120 (mP_o p) (Nat.le_of_ble_eq_true rfl) (fun z => nomatch z) (mm_fi _) ?_
    refine mk_0 p (fun h33 p33 => ?_)
    skip
    unfold cm_thing
    by_cases h1 : 0 ≤ i ∧ i < nI (s.1 2).length
    rotate_left
    · rw [if_neg h1] at p33
      rw [if_neg h1]
      refine ex_aload_n dX9_thing_36 rfl ?_
      refine ex_getfield (v := .int (1)) dX9_thing_37 g_X9_120 (mP_o p33) (congrArg (fun z => some (Value.int z)) (rfl)) ?_
      refine ex_if_le (tgt := 45) dX9_thing_40 (by decide) (fun z => absurd z (by decide)) (fun _ => ?_)
      refine ex_iconst (v := 0) dX9_thing_43 (by decide) ?_
      refine ex_ireturn dX9_thing_44 ⟨_, rfl, rfl⟩ ?_
      exact ⟨_, rfl, _, p33, r, ⟨Or.inl ⟨rfl, rfl⟩, _, rfl⟩⟩
    rw [if_pos h1] at p33
    rw [if_pos h1]
    by_cases h2 : ii w 0 3
    rotate_left
    · rw [if_neg h2] at p33
      rw [if_neg h2]
      refine ex_aload_n dX9_thing_36 rfl ?_
      refine ex_getfield (v := .int (2)) dX9_thing_37 g_X9_120 (mP_o p33) (congrArg (fun z => some (Value.int z)) (rfl)) ?_
      refine ex_if_le (tgt := 45) dX9_thing_40 (by decide) (fun z => absurd z (by decide)) (fun _ => ?_)
      refine ex_iconst (v := 0) dX9_thing_43 (by decide) ?_
      refine ex_ireturn dX9_thing_44 ⟨_, rfl, rfl⟩ ?_
      exact ⟨_, rfl, _, p33, r, ⟨Or.inr ⟨rfl, rfl⟩, _, rfl⟩⟩
    rw [if_pos h2] at p33
    rw [if_pos h2]
    obtain ⟨j, hj, rfl⟩ := nI_of (x := i) (Int32.not_lt.mpr h1.1)
    have hjl : j < (s.1 2).length := (nI_ltI hj (by omega)).mp h1.2
    have hq := List.getElem?_eq_getElem hjl
    generalize (s.1 2)[j] = q at hq
    obtain ⟨d1, d2, d3, d4⟩ := r.2.2.2.2.1.2 j q hq
    have g : ∀ c, tt_g (s.1 2) (nI j) c = tt_c q c := fun c => tt_g_nI hq hj
    rw [g, g, g, g]
    have hkq := hx.2.2.2.1.1 q (List.mem_of_getElem? hq)
    by_cases c0 : w = 0
    · skip
      refine ex_aload_n dX9_thing_36 rfl ?_
      refine ex_getfield (v := .int (0)) dX9_thing_37 g_X9_120 (mP_o p33) (congrArg (fun z => some (Value.int z)) (rfl)) ?_
      refine ex_if_le (tgt := 45) dX9_thing_40 (by decide) (fun _ => ?_) (fun z => absurd (by decide) z)
      refine ex_iload_n dX9_thing_45 rfl ?_
      refine ex_if_ne (tgt := 58) dX9_thing_46 (by decide) (fun z => absurd c0 z) (fun _ => ?_)
      refine ex_aload_n dX9_thing_49 rfl ?_
      refine ex_getfield dX9_thing_50 g_X9_50 (mP_o p33) rfl ?_
      refine ex_iload_n dX9_thing_53 rfl ?_
      refine ex_ialoadv (v := q.1) dX9_thing_54 (mA_22 p33) (by first | assumption | exact vp_in_nI (by omega) (by decide)) (mo_av d1 rfl (by omega)) ?_
      refine ex_goto (tgt := 92) dX9_thing_55 (by decide) ?_
      refine ex_ireturn dX9_thing_92 ⟨_, rfl, rfl⟩ ?_
      exact ⟨_, rfl, _, p33, r, rfl, by rw [if_pos c0]; rfl⟩
    rw [if_neg c0]
    by_cases c1 : w = 1
    · have e1 : q.2.1 = if ¬ tt_c q 0 = 0 then -1 else if w = 1 then tt_c q 1 else if w = 2 then tt_c q 2 else tt_c q 2 + tt_c q 3 - 1 := by
        rcases hkq with ⟨z, -⟩ | ⟨z, y⟩
        · rw [if_neg (show ¬ ¬ tt_c q 0 = 0 from fun y => y z), if_pos c1]; rfl
        · rw [if_pos (show ¬ tt_c q 0 = 0 from by show ¬ q.1 = 0; rcases z with z | z <;> rw [z] <;> decide), y]
      rw [← e1]
      refine ex_aload_n dX9_thing_36 rfl ?_
      refine ex_getfield (v := .int (0)) dX9_thing_37 g_X9_120 (mP_o p33) (congrArg (fun z => some (Value.int z)) (rfl)) ?_
      refine ex_if_le (tgt := 45) dX9_thing_40 (by decide) (fun _ => ?_) (fun z => absurd (by decide) z)
      refine ex_iload_n dX9_thing_45 rfl ?_
      refine ex_if_ne (tgt := 58) dX9_thing_46 (by decide) (fun _ => ?_) (fun z => absurd z c0)
      refine ex_iload_n dX9_thing_58 rfl ?_
      refine ex_iconst (v := 1) dX9_thing_59 (by decide) ?_
      refine ex_icmp_ne (tgt := 72) dX9_thing_60 (by decide) (fun z => absurd c1 z) (fun _ => ?_)
      refine ex_aload_n dX9_thing_63 rfl ?_
      refine ex_getfield dX9_thing_64 g_X9_53 (mP_o p33) rfl ?_
      refine ex_iload_n dX9_thing_67 rfl ?_
      refine ex_ialoadv (v := q.2.1) dX9_thing_68 (mA_23 p33) (by first | assumption | exact vp_in_nI (by omega) (by decide)) (mo_av d2 rfl (by omega)) ?_
      refine ex_goto (tgt := 92) dX9_thing_69 (by decide) ?_
      refine ex_ireturn dX9_thing_92 ⟨_, rfl, rfl⟩ ?_
      exact ⟨_, rfl, _, p33, r, rfl, rfl⟩
    by_cases c2 : w = 2
    · have e1 : q.2.2.1 = if ¬ tt_c q 0 = 0 then -1 else if w = 1 then tt_c q 1 else if w = 2 then tt_c q 2 else tt_c q 2 + tt_c q 3 - 1 := by
        rcases hkq with ⟨z, -⟩ | ⟨z, y⟩
        · rw [if_neg (show ¬ ¬ tt_c q 0 = 0 from fun y => y z), if_neg c1, if_pos c2]; rfl
        · rw [if_pos (show ¬ tt_c q 0 = 0 from by show ¬ q.1 = 0; rcases z with z | z <;> rw [z] <;> decide), y]
      rw [← e1]
      refine ex_aload_n dX9_thing_36 rfl ?_
      refine ex_getfield (v := .int (0)) dX9_thing_37 g_X9_120 (mP_o p33) (congrArg (fun z => some (Value.int z)) (rfl)) ?_
      refine ex_if_le (tgt := 45) dX9_thing_40 (by decide) (fun _ => ?_) (fun z => absurd (by decide) z)
      refine ex_iload_n dX9_thing_45 rfl ?_
      refine ex_if_ne (tgt := 58) dX9_thing_46 (by decide) (fun _ => ?_) (fun z => absurd z c0)
      refine ex_iload_n dX9_thing_58 rfl ?_
      refine ex_iconst (v := 1) dX9_thing_59 (by decide) ?_
      refine ex_icmp_ne (tgt := 72) dX9_thing_60 (by decide) (fun _ => ?_) (fun z => absurd z c1)
      refine ex_iload_n dX9_thing_72 rfl ?_
      refine ex_iconst (v := 2) dX9_thing_73 (by decide) ?_
      refine ex_icmp_ne (tgt := 86) dX9_thing_74 (by decide) (fun z => absurd c2 z) (fun _ => ?_)
      refine ex_aload_n dX9_thing_77 rfl ?_
      refine ex_getfield dX9_thing_78 g_X9_56 (mP_o p33) rfl ?_
      refine ex_iload_n dX9_thing_81 rfl ?_
      refine ex_ialoadv (v := q.2.2.1) dX9_thing_82 (mA_24 p33) (by first | assumption | exact vp_in_nI (by omega) (by decide)) (mo_av d3 rfl (by omega)) ?_
      refine ex_goto (tgt := 92) dX9_thing_83 (by decide) ?_
      refine ex_ireturn dX9_thing_92 ⟨_, rfl, rfl⟩ ?_
      exact ⟨_, rfl, _, p33, r, rfl, rfl⟩
    · have e1 : ln_to q = if ¬ tt_c q 0 = 0 then -1 else if w = 1 then tt_c q 1 else if w = 2 then tt_c q 2 else tt_c q 2 + tt_c q 3 - 1 := by
        rcases hkq with ⟨z, -⟩ | ⟨z, y⟩
        · rw [if_neg (show ¬ ¬ tt_c q 0 = 0 from fun y => y z), if_neg c1, if_neg c2, ln_to, if_pos z]; rfl
        · have z2 : ¬ q.1 = 0 := by rcases z with z | z <;> rw [z] <;> decide
          rw [if_pos (show ¬ tt_c q 0 = 0 from z2), ln_to, if_neg z2]
      rw [← e1]
      refine ex_aload_n dX9_thing_36 rfl ?_
      refine ex_getfield (v := .int (0)) dX9_thing_37 g_X9_120 (mP_o p33) (congrArg (fun z => some (Value.int z)) (rfl)) ?_
      refine ex_if_le (tgt := 45) dX9_thing_40 (by decide) (fun _ => ?_) (fun z => absurd (by decide) z)
      refine ex_iload_n dX9_thing_45 rfl ?_
      refine ex_if_ne (tgt := 58) dX9_thing_46 (by decide) (fun _ => ?_) (fun z => absurd z c0)
      refine ex_iload_n dX9_thing_58 rfl ?_
      refine ex_iconst (v := 1) dX9_thing_59 (by decide) ?_
      refine ex_icmp_ne (tgt := 72) dX9_thing_60 (by decide) (fun _ => ?_) (fun z => absurd z c1)
      refine ex_iload_n dX9_thing_72 rfl ?_
      refine ex_iconst (v := 2) dX9_thing_73 (by decide) ?_
      refine ex_icmp_ne (tgt := 86) dX9_thing_74 (by decide) (fun _ => ?_) (fun z => absurd z c2)
      refine ex_aload_n dX9_thing_86 rfl ?_
      refine ex_getfield dX9_thing_87 g_X9_59 (mP_o p33) rfl ?_
      refine ex_iload_n dX9_thing_90 rfl ?_
      refine ex_ialoadv (v := ln_to q) dX9_thing_91 (mA_25 p33) (by first | assumption | exact vp_in_nI (by omega) (by decide)) (mo_av d4 rfl (by omega)) ?_
      refine ex_ireturn dX9_thing_92 ⟨_, rfl, rfl⟩ ?_
      exact ⟨_, rfl, _, p33, r, rfl, rfl⟩
  · skip
    refine ex_aload_n dX9_thing_0 rfl ?_
    refine ex_iload_n dX9_thing_1 rfl ?_
    refine ex_iconst (v := 0) dX9_thing_2 (by decide) ?_
    refine ex_aload_n dX9_thing_3 rfl ?_
    refine ex_getfield (v := .int (nI (s.1 2).length)) dX9_thing_4 g_X9_171 (mP_o p) (congrArg (fun z => some (Value.int z)) (r.2.2.2.2.1.1)) ?_
    refine ex_iconst (v := 1) dX9_thing_7 (by decide) ?_
    refine ex_isub dX9_thing_8 ?_
    refine cS_f dX9_thing_9 (mm_ks i_X9_isIn l_X9_123) ⟨(Nat.le_of_ble_eq_true rfl), (Nat.le_of_ble_eq_true rfl)⟩ (c_X9_isIn _ _ _) rfl rfl (Nat.le_of_ble_eq_true rfl) rfl ?_
    refine ex_if_ne (tgt := 19) dX9_thing_12 (by decide) (fun c_12 => ?_) (fun c_12 => ?_)
    · refine ex_iload_n dX9_thing_19 rfl ?_
      refine ex_iconst (v := 0) dX9_thing_20 (by decide) ?_
      refine ex_iconst (v := 3) dX9_thing_21 (by decide) ?_
      refine cS_f dX9_thing_22 (mm_ks i_X9_isIn l_X9_123) ⟨(Nat.le_of_ble_eq_true rfl), (Nat.le_of_ble_eq_true rfl)⟩ (c_X9_isIn _ _ _) rfl rfl (Nat.le_of_ble_eq_true rfl) rfl ?_
      refine ex_if_ne (tgt := 32) dX9_thing_25 (by decide) (fun c_25 => ?_) (fun c_25 => ?_)
      · refine ex_iconst (v := 0) dX9_thing_32 (by decide) ?_
        exact k _ (by rw [if_pos ((ix_eq (by omega)).mp (bb_n.mp c_12)), if_pos (bb_n.mp c_25)])
      · refine ex_iconst (v := 2) dX9_thing_28 (by decide) ?_
        refine ex_goto (tgt := 33) dX9_thing_29 (by decide) ?_
        exact k _ (by rw [if_pos ((ix_eq (by omega)).mp (bb_n.mp c_12)), if_neg (bb_0.mp c_25)])
    · refine ex_iconst (v := 1) dX9_thing_15 (by decide) ?_
      refine ex_goto (tgt := 33) dX9_thing_16 (by decide) ?_
      exact k _ (by rw [if_neg (fun z => bb_0.mp c_12 ((ix_eq (by omega)).mpr z))])
theorem c_X9_ofFault (p : mo_P h0 h m) (r : r_all s m) (hi : iv n s) (i w : Int32) : mm_Ct l G mX9_ofFault [.ref 29, .int i, .int w] h (mo_Z h0 cx_i cx_a (cm_ofFault s i w)) := by
  obtain ⟨k, kp, lo, wa, mk, c, hx⟩ := hi
  have hL : (s.1 4).length ≤ 4 := hx.2.2.2.2.2.2.2.2.2.1.1
  refine mm_ct (by decide +kernel) (by decide +kernel) rfl (by simp [Value.category]) (Nat.le_of_ble_eq_true rfl) rfl ?_
  refine mm_viaJ (if 0 ≤ i ∧ i < nI (s.1 4).length then (if ii w 0 2 then 0 else 2) else 1) (pc' := 33) (ls' := [.ref 29, .int i, .int w]) (st := [.ref 29]) ?_ (fun k => ?_)
  · skip
    refine ex_put dX9_ofFault_33 p_X9_120 (mP_o p) (Nat.le_of_ble_eq_true rfl) (fun z => nomatch z) (mm_fi _) ?_
    refine mk_0 p (fun h33 p33 => ?_)
    skip
    unfold cm_ofFault
    by_cases h1 : 0 ≤ i ∧ i < nI (s.1 4).length
    rotate_left
    · rw [if_neg h1] at p33
      rw [if_neg h1]
      refine ex_aload_n dX9_ofFault_36 rfl ?_
      refine ex_getfield (v := .int (1)) dX9_ofFault_37 g_X9_120 (mP_o p33) (congrArg (fun z => some (Value.int z)) (rfl)) ?_
      refine ex_if_le (tgt := 45) dX9_ofFault_40 (by decide) (fun z => absurd z (by decide)) (fun _ => ?_)
      refine ex_iconst (v := 0) dX9_ofFault_43 (by decide) ?_
      refine ex_ireturn dX9_ofFault_44 ⟨_, rfl, rfl⟩ ?_
      exact ⟨_, rfl, _, p33, r, ⟨Or.inl ⟨rfl, rfl⟩, _, rfl⟩⟩
    rw [if_pos h1] at p33
    rw [if_pos h1]
    by_cases h2 : ii w 0 2
    rotate_left
    · rw [if_neg h2] at p33
      rw [if_neg h2]
      refine ex_aload_n dX9_ofFault_36 rfl ?_
      refine ex_getfield (v := .int (2)) dX9_ofFault_37 g_X9_120 (mP_o p33) (congrArg (fun z => some (Value.int z)) (rfl)) ?_
      refine ex_if_le (tgt := 45) dX9_ofFault_40 (by decide) (fun z => absurd z (by decide)) (fun _ => ?_)
      refine ex_iconst (v := 0) dX9_ofFault_43 (by decide) ?_
      refine ex_ireturn dX9_ofFault_44 ⟨_, rfl, rfl⟩ ?_
      exact ⟨_, rfl, _, p33, r, ⟨Or.inr ⟨rfl, rfl⟩, _, rfl⟩⟩
    rw [if_pos h2] at p33
    rw [if_pos h2]
    obtain ⟨j, hj, rfl⟩ := nI_of (x := i) (Int32.not_lt.mpr h1.1)
    have hjl : j < (s.1 4).length := (nI_ltI hj (by omega)).mp h1.2
    have hq := List.getElem?_eq_getElem hjl
    generalize (s.1 4)[j] = q at hq
    obtain ⟨d1, d2, d3, d4⟩ := r.2.2.2.2.2.2.2.1.2 j q hq
    have g : ∀ c, tt_g (s.1 4) (nI j) c = tt_c q c := fun c => tt_g_nI hq hj
    rw [g]
    by_cases c0 : w = 0
    · skip
      refine ex_aload_n dX9_ofFault_36 rfl ?_
      refine ex_getfield (v := .int (0)) dX9_ofFault_37 g_X9_120 (mP_o p33) (congrArg (fun z => some (Value.int z)) (rfl)) ?_
      refine ex_if_le (tgt := 45) dX9_ofFault_40 (by decide) (fun _ => ?_) (fun z => absurd (by decide) z)
      refine ex_iload_n dX9_ofFault_45 rfl ?_
      refine ex_if_ne (tgt := 58) dX9_ofFault_46 (by decide) (fun z => absurd c0 z) (fun _ => ?_)
      refine ex_aload_n dX9_ofFault_49 rfl ?_
      refine ex_getfield dX9_ofFault_50 g_X9_77 (mP_o p33) rfl ?_
      refine ex_iload_n dX9_ofFault_53 rfl ?_
      refine ex_ialoadv (v := q.1) dX9_ofFault_54 (mA_39 p33) (by first | assumption | exact vp_in_nI (by omega) (by decide)) (mo_av d1 rfl (by omega)) ?_
      refine ex_goto (tgt := 78) dX9_ofFault_55 (by decide) ?_
      refine ex_ireturn dX9_ofFault_78 ⟨_, rfl, rfl⟩ ?_
      exact ⟨_, rfl, _, p33, r, rfl, by rw [if_pos c0]; rfl⟩
    by_cases c1 : w = 1
    · skip
      refine ex_aload_n dX9_ofFault_36 rfl ?_
      refine ex_getfield (v := .int (0)) dX9_ofFault_37 g_X9_120 (mP_o p33) (congrArg (fun z => some (Value.int z)) (rfl)) ?_
      refine ex_if_le (tgt := 45) dX9_ofFault_40 (by decide) (fun _ => ?_) (fun z => absurd (by decide) z)
      refine ex_iload_n dX9_ofFault_45 rfl ?_
      refine ex_if_ne (tgt := 58) dX9_ofFault_46 (by decide) (fun _ => ?_) (fun z => absurd z c0)
      refine ex_iload_n dX9_ofFault_58 rfl ?_
      refine ex_iconst (v := 1) dX9_ofFault_59 (by decide) ?_
      refine ex_icmp_ne (tgt := 72) dX9_ofFault_60 (by decide) (fun z => absurd c1 z) (fun _ => ?_)
      refine ex_aload_n dX9_ofFault_63 rfl ?_
      refine ex_getfield dX9_ofFault_64 g_X9_83 (mP_o p33) rfl ?_
      refine ex_iload_n dX9_ofFault_67 rfl ?_
      refine ex_ialoadv (v := q.2.2.1) dX9_ofFault_68 (mA_41 p33) (by first | assumption | exact vp_in_nI (by omega) (by decide)) (mo_av d3 rfl (by omega)) ?_
      refine ex_goto (tgt := 78) dX9_ofFault_69 (by decide) ?_
      refine ex_ireturn dX9_ofFault_78 ⟨_, rfl, rfl⟩ ?_
      exact ⟨_, rfl, _, p33, r, rfl, by rw [if_neg c0, if_pos c1]; rfl⟩
    · skip
      refine ex_aload_n dX9_ofFault_36 rfl ?_
      refine ex_getfield (v := .int (0)) dX9_ofFault_37 g_X9_120 (mP_o p33) (congrArg (fun z => some (Value.int z)) (rfl)) ?_
      refine ex_if_le (tgt := 45) dX9_ofFault_40 (by decide) (fun _ => ?_) (fun z => absurd (by decide) z)
      refine ex_iload_n dX9_ofFault_45 rfl ?_
      refine ex_if_ne (tgt := 58) dX9_ofFault_46 (by decide) (fun _ => ?_) (fun z => absurd z c0)
      refine ex_iload_n dX9_ofFault_58 rfl ?_
      refine ex_iconst (v := 1) dX9_ofFault_59 (by decide) ?_
      refine ex_icmp_ne (tgt := 72) dX9_ofFault_60 (by decide) (fun _ => ?_) (fun z => absurd z c1)
      refine ex_aload_n dX9_ofFault_72 rfl ?_
      refine ex_getfield dX9_ofFault_73 g_X9_86 (mP_o p33) rfl ?_
      refine ex_iload_n dX9_ofFault_76 rfl ?_
      refine ex_ialoadv (v := q.2.2.2) dX9_ofFault_77 (mA_42 p33) (by first | assumption | exact vp_in_nI (by omega) (by decide)) (mo_av d4 rfl (by omega)) ?_
      refine ex_ireturn dX9_ofFault_78 ⟨_, rfl, rfl⟩ ?_
      exact ⟨_, rfl, _, p33, r, rfl, by rw [if_neg c0, if_neg c1]; rfl⟩
  · skip
    refine ex_aload_n dX9_ofFault_0 rfl ?_
    refine ex_iload_n dX9_ofFault_1 rfl ?_
    refine ex_iconst (v := 0) dX9_ofFault_2 (by decide) ?_
    refine ex_aload_n dX9_ofFault_3 rfl ?_
    refine ex_getfield (v := .int (nI (s.1 4).length)) dX9_ofFault_4 g_X9_177 (mP_o p) (congrArg (fun z => some (Value.int z)) (r.2.2.2.2.2.2.2.1.1)) ?_
    refine ex_iconst (v := 1) dX9_ofFault_7 (by decide) ?_
    refine ex_isub dX9_ofFault_8 ?_
    refine cS_f dX9_ofFault_9 (mm_ks i_X9_isIn l_X9_123) ⟨(Nat.le_of_ble_eq_true rfl), (Nat.le_of_ble_eq_true rfl)⟩ (c_X9_isIn _ _ _) rfl rfl (Nat.le_of_ble_eq_true rfl) rfl ?_
    refine ex_if_ne (tgt := 19) dX9_ofFault_12 (by decide) (fun c_12 => ?_) (fun c_12 => ?_)
    · refine ex_iload_n dX9_ofFault_19 rfl ?_
      refine ex_iconst (v := 0) dX9_ofFault_20 (by decide) ?_
      refine ex_iconst (v := 2) dX9_ofFault_21 (by decide) ?_
      refine cS_f dX9_ofFault_22 (mm_ks i_X9_isIn l_X9_123) ⟨(Nat.le_of_ble_eq_true rfl), (Nat.le_of_ble_eq_true rfl)⟩ (c_X9_isIn _ _ _) rfl rfl (Nat.le_of_ble_eq_true rfl) rfl ?_
      refine ex_if_ne (tgt := 32) dX9_ofFault_25 (by decide) (fun c_25 => ?_) (fun c_25 => ?_)
      · refine ex_iconst (v := 0) dX9_ofFault_32 (by decide) ?_
        exact k _ (by rw [if_pos ((ix_eq (by omega)).mp (bb_n.mp c_12)), if_pos (bb_n.mp c_25)])
      · refine ex_iconst (v := 2) dX9_ofFault_28 (by decide) ?_
        refine ex_goto (tgt := 33) dX9_ofFault_29 (by decide) ?_
        exact k _ (by rw [if_pos ((ix_eq (by omega)).mp (bb_n.mp c_12)), if_neg (bb_0.mp c_25)])
    · refine ex_iconst (v := 1) dX9_ofFault_15 (by decide) ?_
      refine ex_goto (tgt := 33) dX9_ofFault_16 (by decide) ?_
      exact k _ (by rw [if_neg (fun z => bb_0.mp c_12 ((ix_eq (by omega)).mpr z))])
end MOL
