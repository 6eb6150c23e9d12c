def cm_weather (s : cl_S) (x : Int32) : cl_R × cl_S := if ii x 0 65536 then (if s.2.2.1.1 = 0 then (.inl (some (ca_w (s.2.2.1.1, x, s.2.2.1.2.2))), s.1, s.2.1, (s.2.2.1.1, x, s.2.2.1.2.2), s.2.2.2) else (.inr cx_s, s)) else (.inr cx_a, s)
def cm_feed (s : cl_S) (a b : Int32) : cl_R × cl_S := if ii a 0 9999 ∧ ii b 0 9999 then (.inl none, s.1, s.2.1, s.2.2.1, s.2.2.2.1, s.2.2.2.2.1, s.2.2.2.2.2.1, s.2.2.2.2.2.2.1, s.2.2.2.2.2.2.2.1, s.2.2.2.2.2.2.2.2.1, s.2.2.2.2.2.2.2.2.2.1, a, b) else (.inr cx_a, s)
def cm_make (s : cl_S) (t m tank : Int32) : cl_R × cl_S := if ii t 0 3 ∧ ii m 1 90000 ∧ ii tank 0 2 then (if s.2.2.2.1.2.1 < 30 then (.inl (some s.2.2.2.1.2.1), va_up s.1 0 (s.1 0 ++ [(tank, s.2.2.2.1.2.1, 0, m)]), s.2.1, s.2.2.1, (upd s.2.2.2.1.1 s.2.2.2.1.2.1.toNatClampNeg t, s.2.2.2.1.2.1 + 1, s.2.2.2.1.2.2 + m), s.2.2.2.2) else (.inr cx_s, s)) else (.inr cx_a, s)
section PUB1
variable {l : Launch} {G : mm_G} {h : mm_H} {tb : Nat → List tt_R} {c0 n0 : Nat} {S : se_T} {c : ca_T} {ty cm st : Nat → Int32} {pc mk ce me : Int32} {ho ro : (Nat → Int32) × Int32 × Int32} {ow : Int32 × Int32 × Int32 × Int32 × Int32 × Int32}
theorem c_X8_wreck (hl : l.stackTraces = false) (hP : cl_P h tb (S, c, ho, ro, st, ow) c0 n0) (i x : Int32) (hx : x = 0 ∨ x = 1) : mm_Ct l G mX8_wreck [.ref 0, .int i, .int x] h (cl_A (cm_wreck (tb, S, c, ho, ro, st, ow) i x) c0 n0 h) := by
  refine mm_ct (by decide +kernel) (by decide +kernel) rfl (by simp [Value.category]) (Nat.le_of_ble_eq_true rfl) rfl ?_
  refine ex_iload_n dX8_wreck_0 rfl ?_
  refine cS_f dX8_wreck_1 (mm_ks i_X8_isCell l_X8_51) ⟨(Nat.le_of_ble_eq_true rfl), (Nat.le_of_ble_eq_true rfl)⟩ (c_X8_isCell _) rfl rfl (Nat.le_of_ble_eq_true rfl) rfl ?_
  refine cS_n dX8_wreck_4 (mm_ks i_X8_needArgument l_X8_59) ⟨(Nat.le_of_ble_eq_true rfl), (Nat.le_of_ble_eq_true rfl)⟩ (c_X8_needArgument hl _) rfl rfl (Nat.le_of_ble_eq_true rfl) rfl (fun b_4 => ?_) (fun b_4 => ?_)
  · rw [cm_wreck, if_neg (bb_0.mp b_4)]; exact cA_x hP
  replace b_4 := bb_n.mp b_4
  rw [cm_wreck, if_pos b_4]
  refine ex_aload_n dX8_wreck_7 rfl ?_
  refine ex_getfield dX8_wreck_8 g_X8_10 (cP_ow hP) rfl ?_
  refine ex_iload_n dX8_wreck_11 rfl ?_
  refine cV_f dX8_wreck_12 (mm_kv i_X6_hasWreck l_X8_78) ⟨(Nat.le_of_ble_eq_true rfl), (Nat.le_of_ble_eq_true rfl)⟩ (c_X6_hasWreck (cP_se hP) _) rfl rfl (cP_se hP).1 (Nat.le_of_ble_eq_true rfl) rfl ?_
  refine ex_istore_n dX8_wreck_15 (Nat.le_of_ble_eq_true rfl) ?_
  refine ex_aload_n dX8_wreck_16 rfl ?_
  refine ex_getfield dX8_wreck_17 g_X8_10 (cP_ow hP) rfl ?_
  refine ex_iload_n dX8_wreck_20 rfl ?_
  refine ex_iload_n dX8_wreck_21 rfl ?_
  refine cV_v dX8_wreck_22 (mm_kv i_X6_setWreck l_X8_81) ⟨(Nat.le_of_ble_eq_true rfl), (Nat.le_of_ble_eq_true rfl)⟩ (c_X6_setWreck (cP_se hP) _ _ hx b_4) rfl rfl (cP_se hP).1 (Nat.le_of_ble_eq_true rfl) rfl ?_
  refine ex_iload_n dX8_wreck_25 rfl ?_
  refine ex_ireturn dX8_wreck_26 ⟨_, rfl, bb_r⟩ ?_
  exact cA_i (cs_4 hP _).1 (cs_4 hP _).2
theorem c_X8_crossing (hl : l.stackTraces = false) (hP : cl_P h tb (S, c, ho, ro, st, ow) c0 n0) (i x : Int32) : mm_Ct l G mX8_crossing [.ref 0, .int i, .int x] h (cl_A (cm_crossing (tb, S, c, ho, ro, st, ow) i x) c0 n0 h) := by
  refine mm_ct (by decide +kernel) (by decide +kernel) rfl (by simp [Value.category]) (Nat.le_of_ble_eq_true rfl) rfl ?_
  refine mm_via (p := ii i 0 99 ∧ ii x 0 2) (pc' := 21) (ls' := [.ref 0, .int i, .int x, .null]) (st := []) (fun b hb => ?_) (fun k => ?_)
  · skip
    refine cS_n dX8_crossing_21 (mm_ks i_X8_needArgument l_X8_59) ⟨(Nat.le_of_ble_eq_true rfl), (Nat.le_of_ble_eq_true rfl)⟩ (c_X8_needArgument hl _) rfl rfl (Nat.le_of_ble_eq_true rfl) rfl (fun b_21 => ?_) (fun b_21 => ?_)
    · rw [cm_crossing, if_neg (bb_0.mp (hb ▸ b_21))]; exact cA_x hP
    replace hb : ii i 0 99 ∧ ii x 0 2 := bb_n.mp (hb ▸ b_21)
    rw [cm_crossing, if_pos hb]
    refine ex_aload_n dX8_crossing_24 rfl ?_
    refine ex_getfield dX8_crossing_25 g_X8_10 (cP_ow hP) rfl ?_
    refine ex_iload_n dX8_crossing_28 rfl ?_
    refine cV_f dX8_crossing_29 (mm_kv i_X6_crossingOf l_X8_85) ⟨(Nat.le_of_ble_eq_true rfl), (Nat.le_of_ble_eq_true rfl)⟩ (c_X6_crossingOf (cP_se hP) _) rfl rfl (cP_se hP).1 (Nat.le_of_ble_eq_true rfl) rfl ?_
    refine ex_istore_n dX8_crossing_32 (Nat.le_of_ble_eq_true rfl) ?_
    refine ex_aload_n dX8_crossing_33 rfl ?_
    refine ex_getfield dX8_crossing_34 g_X8_10 (cP_ow hP) rfl ?_
    refine ex_iload_n dX8_crossing_37 rfl ?_
    refine ex_iload_n dX8_crossing_38 rfl ?_
    refine cV_v dX8_crossing_39 (mm_kv i_X6_setCrossing l_X8_88) ⟨(Nat.le_of_ble_eq_true rfl), (Nat.le_of_ble_eq_true rfl)⟩ (c_X6_setCrossing (cP_se hP) _ _ hb.1) rfl rfl (cP_se hP).1 (Nat.le_of_ble_eq_true rfl) rfl ?_
    refine ex_iload_n dX8_crossing_42 rfl ?_
    refine ex_ireturn dX8_crossing_43 ⟨_, rfl, rfl⟩ ?_
    exact cA_i (cs_5 hP _).1 (cs_5 hP _).2
  · skip
    refine ex_iload_n dX8_crossing_0 rfl ?_
    refine cS_f dX8_crossing_1 (mm_ks i_X8_isCell l_X8_51) ⟨(Nat.le_of_ble_eq_true rfl), (Nat.le_of_ble_eq_true rfl)⟩ (c_X8_isCell _) rfl rfl (Nat.le_of_ble_eq_true rfl) rfl ?_
    refine ex_if_eq (tgt := 20) dX8_crossing_4 (by decide) (fun c_4 => ?_) (fun c_4 => ?_)
    · refine ex_iconst (v := 0) dX8_crossing_20 (by decide) ?_
      first | exact k _ (bb_f (fun z => bb_0.mp c_4 z.1)).symm | exact k _ (bb_f (fun z => bb_0.mp c_13 z.2)).symm | exact k _ (bb_t ⟨bb_n.mp c_4, bb_n.mp c_13⟩).symm
    · refine ex_iload_n dX8_crossing_7 rfl ?_
      refine ex_iconst (v := 0) dX8_crossing_8 (by decide) ?_
      refine ex_iconst (v := 2) dX8_crossing_9 (by decide) ?_
      refine cS_f dX8_crossing_10 (mm_ks i_X8_isIn l_X8_55) ⟨(Nat.le_of_ble_eq_true rfl), (Nat.le_of_ble_eq_true rfl)⟩ (c_X8_isIn _ _ _) rfl rfl (Nat.le_of_ble_eq_true rfl) rfl ?_
      refine ex_if_eq (tgt := 20) dX8_crossing_13 (by decide) (fun c_13 => ?_) (fun c_13 => ?_)
      · refine ex_iconst (v := 0) dX8_crossing_20 (by decide) ?_
        first | exact k _ (bb_f (fun z => bb_0.mp c_4 z.1)).symm | exact k _ (bb_f (fun z => bb_0.mp c_13 z.2)).symm | exact k _ (bb_t ⟨bb_n.mp c_4, bb_n.mp c_13⟩).symm
      · refine ex_iconst (v := 1) dX8_crossing_16 (by decide) ?_
        refine ex_goto (tgt := 21) dX8_crossing_17 (by decide) ?_
        first | exact k _ (bb_f (fun z => bb_0.mp c_4 z.1)).symm | exact k _ (bb_f (fun z => bb_0.mp c_13 z.2)).symm | exact k _ (bb_t ⟨bb_n.mp c_4, bb_n.mp c_13⟩).symm
theorem c_X8_weather (hl : l.stackTraces = false) (hP : cl_P h tb (S, c, ho, ro, st, ow) c0 n0) (x : Int32) : mm_Ct l G mX8_weather [.ref 0, .int x] h (cl_A (cm_weather (tb, S, c, ho, ro, st, ow) x) c0 n0 h) := by
  refine mm_ct (by decide +kernel) (by decide +kernel) rfl (by simp [Value.category]) (Nat.le_of_ble_eq_true rfl) rfl ?_
  refine ex_iload_n dX8_weather_0 rfl ?_
  refine ex_iconst (v := 0) dX8_weather_1 (by decide) ?_
  refine ex_ldc dX8_weather_2 k_X8_92 ?_
  refine cS_f dX8_weather_4 (mm_ks i_X8_isIn l_X8_55) ⟨(Nat.le_of_ble_eq_true rfl), (Nat.le_of_ble_eq_true rfl)⟩ (c_X8_isIn _ _ _) rfl rfl (Nat.le_of_ble_eq_true rfl) rfl ?_
  refine cS_n dX8_weather_7 (mm_ks i_X8_needArgument l_X8_59) ⟨(Nat.le_of_ble_eq_true rfl), (Nat.le_of_ble_eq_true rfl)⟩ (c_X8_needArgument hl _) rfl rfl (Nat.le_of_ble_eq_true rfl) rfl (fun b_7 => ?_) (fun b_7 => ?_)
  · rw [cm_weather, if_neg (bb_0.mp b_7)]; exact cA_x hP
  rw [cm_weather, if_pos (bb_n.mp b_7)]
  skip
  refine mm_via (p := c.1 = 0) (pc' := 25) (ls' := [.ref 0, .int x]) (st := []) (fun b hb => ?_) (fun k => ?_)
  · skip
    refine cS_n dX8_weather_25 (mm_ks i_X8_needState l_X8_67) ⟨(Nat.le_of_ble_eq_true rfl), (Nat.le_of_ble_eq_true rfl)⟩ (c_X8_needState hl _) rfl rfl (Nat.le_of_ble_eq_true rfl) rfl (fun b_25 => ?_) (fun b_25 => ?_)
    · rw [if_neg (bb_0.mp (hb ▸ b_25))]; exact cA_x hP
    rw [if_pos (bb_n.mp (hb ▸ b_25))]
    refine ex_aload_n dX8_weather_28 rfl ?_
    refine ex_getfield dX8_weather_29 g_X8_19 (cP_ow hP) rfl ?_
    refine ex_iload_n dX8_weather_32 rfl ?_
    refine ex_put dX8_weather_33 p_X8_96 (cP_ca hP) (Nat.le_of_ble_eq_true rfl) (fun z => nomatch z) (mm_fi _) ?_
    refine ex_aload_n dX8_weather_36 rfl ?_
    refine ex_getfield dX8_weather_37 g_X8_19 (cP_ow (cs_6 hP (c.1, x, c.2.2)).1) rfl ?_
    refine cV_f dX8_weather_40 (mm_kv i_X0_wavesToday l_X8_99) ⟨(Nat.le_of_ble_eq_true rfl), (Nat.le_of_ble_eq_true rfl)⟩ (c_X0_wavesToday (cP_ca (cs_6 hP (c.1, x, c.2.2)).1)) rfl rfl (cP_ca (cs_6 hP (c.1, x, c.2.2)).1) (Nat.le_of_ble_eq_true rfl) rfl ?_
    refine ex_ireturn dX8_weather_43 ⟨_, rfl, rfl⟩ ?_
    exact cA_i (cs_6 hP (c.1, x, c.2.2)).1 (cs_6 hP (c.1, x, c.2.2)).2
  · skip
    refine ex_aload_n dX8_weather_10 rfl ?_
    refine ex_getfield dX8_weather_11 g_X8_19 (cP_ow hP) rfl ?_
    refine ex_getfield dX8_weather_14 g_X8_93 (cP_ca hP) rfl ?_
    refine ex_if_ne (tgt := 24) dX8_weather_17 (by decide) (fun c_17 => ?_) (fun c_17 => ?_)
    · refine ex_iconst (v := 0) dX8_weather_24 (by decide) ?_
      first | exact k _ (bb_f c_17).symm | exact k _ (bb_t c_17).symm
    · refine ex_iconst (v := 1) dX8_weather_20 (by decide) ?_
      refine ex_goto (tgt := 25) dX8_weather_21 (by decide) ?_
      first | exact k _ (bb_f c_17).symm | exact k _ (bb_t c_17).symm
theorem c_X8_feed (hl : l.stackTraces = false) (hP : cl_P h tb (S, c, ho, ro, st, ow) c0 n0) (a b : Int32) : mm_Ct l G mX8_feed [.ref 0, .int a, .int b] h (cl_A (cm_feed (tb, S, c, ho, ro, st, ow) a b) c0 n0 h) := by
  refine mm_ct (by decide +kernel) (by decide +kernel) rfl (by simp [Value.category]) (Nat.le_of_ble_eq_true rfl) rfl ?_
  refine mm_via (p := ii a 0 9999 ∧ ii b 0 9999) (pc' := 27) (ls' := [.ref 0, .int a, .int b]) (st := []) (fun z hb => ?_) (fun k => ?_)
  · skip
    refine cS_n dX8_feed_27 (mm_ks i_X8_needArgument l_X8_59) ⟨(Nat.le_of_ble_eq_true rfl), (Nat.le_of_ble_eq_true rfl)⟩ (c_X8_needArgument hl _) rfl rfl (Nat.le_of_ble_eq_true rfl) rfl (fun b_27 => ?_) (fun b_27 => ?_)
    · rw [cm_feed, if_neg (bb_0.mp (hb ▸ b_27))]; exact cA_x hP
    rw [cm_feed, if_pos (bb_n.mp (hb ▸ b_27))]
    refine ex_aload_n dX8_feed_30 rfl ?_
    refine ex_iload_n dX8_feed_31 rfl ?_
    refine ex_put dX8_feed_32 p_X8_226 (cP_ow hP) (Nat.le_of_ble_eq_true rfl) (fun z => nomatch z) (mm_fi _) ?_
    refine ex_aload_n dX8_feed_35 rfl ?_
    refine ex_iload_n dX8_feed_36 rfl ?_
    refine ex_put dX8_feed_37 p_X8_229 mm_set_at (Nat.le_of_ble_eq_true rfl) (fun z => nomatch z) (mm_fi _) ?_
    refine ex_return dX8_feed_40 rfl ?_
    rw [mm_set_set]; exact cA_v (cs_0 hP (ow.1, ow.2.1, ow.2.2.1, ow.2.2.2.1, a, b)).1 (cs_0 hP (ow.1, ow.2.1, ow.2.2.1, ow.2.2.2.1, a, b)).2
  · skip
    refine ex_iload_n dX8_feed_0 rfl ?_
    refine ex_iconst (v := 0) dX8_feed_1 (by decide) ?_
    refine ex_sipush (v := 9999) dX8_feed_2 (by decide) ?_
    refine cS_f dX8_feed_5 (mm_ks i_X8_isIn l_X8_55) ⟨(Nat.le_of_ble_eq_true rfl), (Nat.le_of_ble_eq_true rfl)⟩ (c_X8_isIn _ _ _) rfl rfl (Nat.le_of_ble_eq_true rfl) rfl ?_
    refine ex_if_eq (tgt := 26) dX8_feed_8 (by decide) (fun c_8 => ?_) (fun c_8 => ?_)
    · refine ex_iconst (v := 0) dX8_feed_26 (by decide) ?_
      first | exact k _ (bb_f (fun z => bb_0.mp c_8 z.1)).symm | exact k _ (bb_f (fun z => bb_0.mp c_19 z.2)).symm | exact k _ (bb_t ⟨bb_n.mp c_8, bb_n.mp c_19⟩).symm
    · refine ex_iload_n dX8_feed_11 rfl ?_
      refine ex_iconst (v := 0) dX8_feed_12 (by decide) ?_
      refine ex_sipush (v := 9999) dX8_feed_13 (by decide) ?_
      refine cS_f dX8_feed_16 (mm_ks i_X8_isIn l_X8_55) ⟨(Nat.le_of_ble_eq_true rfl), (Nat.le_of_ble_eq_true rfl)⟩ (c_X8_isIn _ _ _) rfl rfl (Nat.le_of_ble_eq_true rfl) rfl ?_
      refine ex_if_eq (tgt := 26) dX8_feed_19 (by decide) (fun c_19 => ?_) (fun c_19 => ?_)
      · refine ex_iconst (v := 0) dX8_feed_26 (by decide) ?_
        first | exact k _ (bb_f (fun z => bb_0.mp c_8 z.1)).symm | exact k _ (bb_f (fun z => bb_0.mp c_19 z.2)).symm | exact k _ (bb_t ⟨bb_n.mp c_8, bb_n.mp c_19⟩).symm
      · refine ex_iconst (v := 1) dX8_feed_22 (by decide) ?_
        refine ex_goto (tgt := 27) dX8_feed_23 (by decide) ?_
        first | exact k _ (bb_f (fun z => bb_0.mp c_8 z.1)).symm | exact k _ (bb_f (fun z => bb_0.mp c_19 z.2)).symm | exact k _ (bb_t ⟨bb_n.mp c_8, bb_n.mp c_19⟩).symm
theorem c_X8_make (hl : l.stackTraces = false) {k : Nat} (hP : cl_P h tb (S, c, (ty, nI k, mk), ro, st, ow) c0 n0) (hk : k ≤ 30) (hL : (tb 0).length ≤ 20000) (t m tank : Int32) : mm_Ct l G mX8_make [.ref 0, .int t, .int m, .int tank] h (cl_A (cm_make (tb, S, c, (ty, nI k, mk), ro, st, ow) t m tank) c0 n0 h) := by
  refine mm_ct (by decide +kernel) (by decide +kernel) rfl (by simp [Value.category]) (Nat.le_of_ble_eq_true rfl) rfl ?_
  refine mm_via (p := ii t 0 3 ∧ ii m 1 90000 ∧ ii tank 0 2) (pc' := 29) (ls' := [.ref 0, .int t, .int m, .int tank]) (st := []) (fun z hb => ?_) (fun k => ?_)
  · skip
    refine cS_n dX8_make_29 (mm_ks i_X8_needArgument l_X8_59) ⟨(Nat.le_of_ble_eq_true rfl), (Nat.le_of_ble_eq_true rfl)⟩ (c_X8_needArgument hl _) rfl rfl (Nat.le_of_ble_eq_true rfl) rfl (fun b_29 => ?_) (fun b_29 => ?_)
    · rw [cm_make, if_neg (bb_0.mp (hb ▸ b_29))]; exact cA_x hP
    rw [cm_make, if_pos (bb_n.mp (hb ▸ b_29))]
    skip
    refine mm_via (p := nI k < 30) (pc' := 49) (ls' := [.ref 0, .int t, .int m, .int tank]) (st := []) (fun z hb => ?_) (fun k => ?_)
    · skip
      refine cS_n dX8_make_49 (mm_ks i_X8_needState l_X8_67) ⟨(Nat.le_of_ble_eq_true rfl), (Nat.le_of_ble_eq_true rfl)⟩ (c_X8_needState hl _) rfl rfl (Nat.le_of_ble_eq_true rfl) rfl (fun b_49 => ?_) (fun b_49 => ?_)
      · rw [if_neg (bb_0.mp (hb ▸ b_49))]; exact cA_x hP
      replace hb : nI k < 30 := bb_n.mp (hb ▸ b_49)
      rw [if_pos hb]
      replace hb : k < 30 := (nI_ltI (b := 30) (by omega) (by decide)).mp hb
      refine ex_aload_n dX8_make_52 rfl ?_
      refine ex_getfield dX8_make_53 g_X8_26 (cP_ow hP) rfl ?_
      refine ex_iload_n dX8_make_56 rfl ?_
      refine ex_iload_n dX8_make_57 rfl ?_
      refine ex_iload_n dX8_make_58 rfl ?_
      refine cV_x dX8_make_59 (mm_kv i_X3_stow l_X8_158) ⟨(Nat.le_of_ble_eq_true rfl), (Nat.le_of_ble_eq_true rfl)⟩ (c_X3_stow hP hb hL _ _ _) rfl rfl (cP_ho hP) (Nat.le_of_ble_eq_true rfl) rfl ?_
      rintro _ h2 ⟨rfl, q1, q2⟩
      refine ex_ireturn dX8_make_62 ⟨_, rfl, rfl⟩ ?_
      rw [show (nI k, mk).1.toNatClampNeg = k from nI_clamp (by omega), show (nI k, mk).1 + 1 = nI (k + 1) from nI_1 k]; exact cA_i q1 q2
    · skip
      refine ex_aload_n dX8_make_32 rfl ?_
      refine ex_getfield dX8_make_33 g_X8_26 (cP_ow hP) rfl ?_
      refine ex_getfield dX8_make_36 g_X8_155 (cP_ho hP) rfl ?_
      refine ex_bipush (v := 30) dX8_make_39 (by decide) ?_
      refine ex_icmp_ge (tgt := 48) dX8_make_41 (by decide) (fun c_41 => ?_) (fun c_41 => ?_)
      · refine ex_iconst (v := 0) dX8_make_48 (by decide) ?_
        first | exact k _ (bb_f (fun z => Int32.not_le.mpr z c_41)).symm | exact k _ (bb_t (Int32.not_le.mp c_41)).symm
      · refine ex_iconst (v := 1) dX8_make_44 (by decide) ?_
        refine ex_goto (tgt := 49) dX8_make_45 (by decide) ?_
        first | exact k _ (bb_f (fun z => Int32.not_le.mpr z c_41)).symm | exact k _ (bb_t (Int32.not_le.mp c_41)).symm
  · skip
    refine ex_iload_n dX8_make_0 rfl ?_
    refine cS_f dX8_make_1 (mm_ks i_X8_isType l_X8_148) ⟨(Nat.le_of_ble_eq_true rfl), (Nat.le_of_ble_eq_true rfl)⟩ (c_X8_isType _) rfl rfl (Nat.le_of_ble_eq_true rfl) rfl ?_
    refine ex_if_eq (tgt := 28) dX8_make_4 (by decide) (fun c_4 => ?_) (fun c_4 => ?_)
    · refine ex_iconst (v := 0) dX8_make_28 (by decide) ?_
      first | exact k _ (bb_f (fun z => bb_0.mp c_4 z.1)).symm | exact k _ (bb_f (fun z => bb_0.mp c_14 z.2.1)).symm | exact k _ (bb_f (fun z => bb_0.mp c_21 z.2.2)).symm | exact k _ (bb_t ⟨bb_n.mp c_4, bb_n.mp c_14, bb_n.mp c_21⟩).symm
    · refine ex_iload_n dX8_make_7 rfl ?_
      refine ex_iconst (v := 1) dX8_make_8 (by decide) ?_
      refine ex_ldc dX8_make_9 k_X8_151 ?_
      refine cS_f dX8_make_11 (mm_ks i_X8_isIn l_X8_55) ⟨(Nat.le_of_ble_eq_true rfl), (Nat.le_of_ble_eq_true rfl)⟩ (c_X8_isIn _ _ _) rfl rfl (Nat.le_of_ble_eq_true rfl) rfl ?_
      refine ex_if_eq (tgt := 28) dX8_make_14 (by decide) (fun c_14 => ?_) (fun c_14 => ?_)
      · refine ex_iconst (v := 0) dX8_make_28 (by decide) ?_
        first | exact k _ (bb_f (fun z => bb_0.mp c_4 z.1)).symm | exact k _ (bb_f (fun z => bb_0.mp c_14 z.2.1)).symm | exact k _ (bb_f (fun z => bb_0.mp c_21 z.2.2)).symm | exact k _ (bb_t ⟨bb_n.mp c_4, bb_n.mp c_14, bb_n.mp c_21⟩).symm
      · refine ex_iload_n dX8_make_17 rfl ?_
        refine cS_f dX8_make_18 (mm_ks i_X8_isTank l_X8_152) ⟨(Nat.le_of_ble_eq_true rfl), (Nat.le_of_ble_eq_true rfl)⟩ (c_X8_isTank _) rfl rfl (Nat.le_of_ble_eq_true rfl) rfl ?_
        refine ex_if_eq (tgt := 28) dX8_make_21 (by decide) (fun c_21 => ?_) (fun c_21 => ?_)
        · refine ex_iconst (v := 0) dX8_make_28 (by decide) ?_
          first | exact k _ (bb_f (fun z => bb_0.mp c_4 z.1)).symm | exact k _ (bb_f (fun z => bb_0.mp c_14 z.2.1)).symm | exact k _ (bb_f (fun z => bb_0.mp c_21 z.2.2)).symm | exact k _ (bb_t ⟨bb_n.mp c_4, bb_n.mp c_14, bb_n.mp c_21⟩).symm
        · refine ex_iconst (v := 1) dX8_make_24 (by decide) ?_
          refine ex_goto (tgt := 29) dX8_make_25 (by decide) ?_
          first | exact k _ (bb_f (fun z => bb_0.mp c_4 z.1)).symm | exact k _ (bb_f (fun z => bb_0.mp c_14 z.2.1)).symm | exact k _ (bb_f (fun z => bb_0.mp c_21 z.2.2)).symm | exact k _ (bb_t ⟨bb_n.mp c_4, bb_n.mp c_14, bb_n.mp c_21⟩).symm
end PUB1
