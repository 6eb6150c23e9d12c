def cm_weather (s : cl_S) (x : Int32) : cl_R × cl_S := if ii x 0 65536 then (if s.2.2.1.1 = 0 then (.inl (some (ca_w (s.2.2.1.1, x, s.2.2.1.2.2))), s.1, s.2.1, (s.2.2.1.1, x, s.2.2.1.2.2), s.2.2.2) else (.inr cx_s, s)) else (.inr cx_a, s)
def cm_make (s : cl_S) (t m tank : Int32) : cl_R × cl_S := if ii t 0 3 ∧ ii m 1 90000 ∧ ii tank 0 2 then (if s.2.2.2.1.2.1 < 30 then (.inl (some s.2.2.2.1.2.1), va_up s.1 0 (s.1 0 ++ [(tank, s.2.2.2.1.2.1, 0, m)]), s.2.1, s.2.2.1, (upd s.2.2.2.1.1 s.2.2.2.1.2.1.toNatClampNeg t, s.2.2.2.1.2.1 + 1, s.2.2.2.1.2.2 + m), s.2.2.2.2) else (.inr cx_s, s)) else (.inr cx_a, s)
section PUB1
variable {l : Launch} {G : mm_G} {h : mm_H} {tb : Nat → List tt_R} {c0 n0 : Nat} {S : se_T} {c : ca_T} {ty cm st : Nat → Int32} {pc mk ce me : Int32} {ho ro : (Nat → Int32) × Int32 × Int32} {ow : Int32 × Int32 × Int32 × Int32 × Int32 × Int32}
theorem c_X8_weather (hl : l.stackTraces = false) (hP : cl_P h tb (S, c, ho, ro, st, ow) c0 n0) (x : Int32) : mm_Ct l G mX8_weather [.ref 0, .int x] h (cl_A (cm_weather (tb, S, c, ho, ro, st, ow) x) c0 n0 h) := by
  refine mm_ct (by decide +kernel) (by decide +kernel) rfl (by simp [Value.category]) (Nat.le_of_ble_eq_true rfl) rfl ?_
  refine ex_iload_n dX8_weather_0 rfl ?_
  refine ex_iconst (v := 0) dX8_weather_1 (by decide) ?_
  refine ex_ldc dX8_weather_2 k_X8_92 ?_
  refine cS_f dX8_weather_4 (mm_ks i_X8_isIn l_X8_55) ⟨(Nat.le_of_ble_eq_true rfl), (Nat.le_of_ble_eq_true rfl)⟩ (c_X8_isIn _ _ _) rfl rfl (Nat.le_of_ble_eq_true rfl) rfl ?_
  refine cS_n dX8_weather_7 (mm_ks i_X8_needArgument l_X8_59) ⟨(Nat.le_of_ble_eq_true rfl), (Nat.le_of_ble_eq_true rfl)⟩ (c_X8_needArgument hl _) rfl rfl (Nat.le_of_ble_eq_true rfl) rfl (fun b_7 => ?_) (fun b_7 => ?_)
  · rw [cm_weather, if_neg (bb_0.mp b_7)]; exact cA_x hP
  rw [cm_weather, if_pos (bb_n.mp b_7)]
  skip
  refine mm_via (p := c.1 = 0) (pc' := 25) (ls' := [.ref 0, .int x]) (st := []) (fun b hb => ?_) (fun k => ?_)
  · skip
    refine cS_n dX8_weather_25 (mm_ks i_X8_needState l_X8_67) ⟨(Nat.le_of_ble_eq_true rfl), (Nat.le_of_ble_eq_true rfl)⟩ (c_X8_needState hl _) rfl rfl (Nat.le_of_ble_eq_true rfl) rfl (fun b_25 => ?_) (fun b_25 => ?_)
    · rw [if_neg (bb_0.mp (hb ▸ b_25))]; exact cA_x hP
    rw [if_pos (bb_n.mp (hb ▸ b_25))]
    refine ex_aload_n dX8_weather_28 rfl ?_
    refine ex_getfield dX8_weather_29 g_X8_19 (cP_ow hP) rfl ?_
    refine ex_iload_n dX8_weather_32 rfl ?_
    refine ex_put dX8_weather_33 p_X8_96 (cP_ca hP) (Nat.le_of_ble_eq_true rfl) (fun z => nomatch z) (mm_fi _) ?_
    refine ex_aload_n dX8_weather_36 rfl ?_
    refine ex_getfield dX8_weather_37 g_X8_19 (cP_ow (cs_6 hP (c.1, x, c.2.2)).1) rfl ?_
    refine cV_f dX8_weather_40 (mm_kv i_X0_wavesToday l_X8_99) ⟨(Nat.le_of_ble_eq_true rfl), (Nat.le_of_ble_eq_true rfl)⟩ (c_X0_wavesToday (cP_ca (cs_6 hP (c.1, x, c.2.2)).1)) rfl rfl (cP_ca (cs_6 hP (c.1, x, c.2.2)).1) (Nat.le_of_ble_eq_true rfl) rfl ?_
    refine ex_ireturn dX8_weather_43 ⟨_, rfl, rfl⟩ ?_
    exact cA_i (cs_6 hP (c.1, x, c.2.2)).1 (cs_6 hP (c.1, x, c.2.2)).2
  · skip
    refine ex_aload_n dX8_weather_10 rfl ?_
    refine ex_getfield dX8_weather_11 g_X8_19 (cP_ow hP) rfl ?_
    refine ex_getfield dX8_weather_14 g_X8_93 (cP_ca hP) rfl ?_
    refine ex_if_ne (tgt := 24) dX8_weather_17 (by decide) (fun c_17 => ?_) (fun c_17 => ?_)
    · refine ex_iconst (v := 0) dX8_weather_24 (by decide) ?_
      first | exact k _ (bb_f c_17).symm | exact k _ (bb_t c_17).symm
    · refine ex_iconst (v := 1) dX8_weather_20 (by decide) ?_
      refine ex_goto (tgt := 25) dX8_weather_21 (by decide) ?_
      first | exact k _ (bb_f c_17).symm | exact k _ (bb_t c_17).symm
theorem c_X8_make (hl : l.stackTraces = false) {k : Nat} (hP : cl_P h tb (S, c, (ty, nI k, mk), ro, st, ow) c0 n0) (hk : k ≤ 30) (hL : (tb 0).length ≤ 20000) (t m tank : Int32) : mm_Ct l G mX8_make [.ref 0, .int t, .int m, .int tank] h (cl_A (cm_make (tb, S, c, (ty, nI k, mk), ro, st, ow) t m tank) c0 n0 h) := by
  refine mm_ct (by decide +kernel) (by decide +kernel) rfl (by simp [Value.category]) (Nat.le_of_ble_eq_true rfl) rfl ?_
  refine mm_via (p := ii t 0 3 ∧ ii m 1 90000 ∧ ii tank 0 2) (pc' := 29) (ls' := [.ref 0, .int t, .int m, .int tank]) (st := []) (fun z hb => ?_) (fun k => ?_)
  · skip
    refine cS_n dX8_make_29 (mm_ks i_X8_needArgument l_X8_59) ⟨(Nat.le_of_ble_eq_true rfl), (Nat.le_of_ble_eq_true rfl)⟩ (c_X8_needArgument hl _) rfl rfl (Nat.le_of_ble_eq_true rfl) rfl (fun b_29 => ?_) (fun b_29 => ?_)
    · rw [cm_make, if_neg (bb_0.mp (hb ▸ b_29))]; exact cA_x hP
    rw [cm_make, if_pos (bb_n.mp (hb ▸ b_29))]
    skip
    refine mm_via (p := nI k < 30) (pc' := 49) (ls' := [.ref 0, .int t, .int m, .int tank]) (st := []) (fun z hb => ?_) (fun k => ?_)
    · skip
      refine cS_n dX8_make_49 (mm_ks i_X8_needState l_X8_67) ⟨(Nat.le_of_ble_eq_true rfl), (Nat.le_of_ble_eq_true rfl)⟩ (c_X8_needState hl _) rfl rfl (Nat.le_of_ble_eq_true rfl) rfl (fun b_49 => ?_) (fun b_49 => ?_)
      · rw [if_neg (bb_0.mp (hb ▸ b_49))]; exact cA_x hP
      replace hb : nI k < 30 := bb_n.mp (hb ▸ b_49)
      rw [if_pos hb]
      replace hb : k < 30 := (nI_ltI (b := 30) (by omega) (by decide)).mp hb
      refine ex_aload_n dX8_make_52 rfl ?_
      refine ex_getfield dX8_make_53 g_X8_26 (cP_ow hP) rfl ?_
      refine ex_iload_n dX8_make_56 rfl ?_
      refine ex_iload_n dX8_make_57 rfl ?_
      refine ex_iload_n dX8_make_58 rfl ?_
      refine cV_x dX8_make_59 (mm_kv i_X3_stow l_X8_158) ⟨(Nat.le_of_ble_eq_true rfl), (Nat.le_of_ble_eq_true rfl)⟩ (c_X3_stow hP hb hL _ _ _) rfl rfl (cP_ho hP) (Nat.le_of_ble_eq_true rfl) rfl ?_
      rintro _ h2 ⟨rfl, q1, q2⟩
      refine ex_ireturn dX8_make_62 ⟨_, rfl, rfl⟩ ?_
      rw [show (nI k, mk).1.toNatClampNeg = k from nI_clamp (by omega), show (nI k, mk).1 + 1 = nI (k + 1) from nI_1 k]; exact cA_i q1 q2
    · skip
      refine ex_aload_n dX8_make_32 rfl ?_
      refine ex_getfield dX8_make_33 g_X8_26 (cP_ow hP) rfl ?_
      refine ex_getfield dX8_make_36 g_X8_155 (cP_ho hP) rfl ?_
      refine ex_bipush (v := 30) dX8_make_39 (by decide) ?_
      refine ex_icmp_ge (tgt := 48) dX8_make_41 (by decide) (fun c_41 => ?_) (fun c_41 => ?_)
      · refine ex_iconst (v := 0) dX8_make_48 (by decide) ?_
        first | exact k _ (bb_f (fun z => Int32.not_le.mpr z c_41)).symm | exact k _ (bb_t (Int32.not_le.mp c_41)).symm
      · refine ex_iconst (v := 1) dX8_make_44 (by decide) ?_
        refine ex_goto (tgt := 49) dX8_make_45 (by decide) ?_
        first | exact k _ (bb_f (fun z => Int32.not_le.mpr z c_41)).symm | exact k _ (bb_t (Int32.not_le.mp c_41)).symm
  · skip
    refine ex_iload_n dX8_make_0 rfl ?_
    refine cS_f dX8_make_1 (mm_ks i_X8_isType l_X8_148) ⟨(Nat.le_of_ble_eq_true rfl), (Nat.le_of_ble_eq_true rfl)⟩ (c_X8_isType _) rfl rfl (Nat.le_of_ble_eq_true rfl) rfl ?_
    refine ex_if_eq (tgt := 28) dX8_make_4 (by decide) (fun c_4 => ?_) (fun c_4 => ?_)
    · refine ex_iconst (v := 0) dX8_make_28 (by decide) ?_
      first | exact k _ (bb_f (fun z => bb_0.mp c_4 z.1)).symm | exact k _ (bb_f (fun z => bb_0.mp c_14 z.2.1)).symm | exact k _ (bb_f (fun z => bb_0.mp c_21 z.2.2)).symm | exact k _ (bb_t ⟨bb_n.mp c_4, bb_n.mp c_14, bb_n.mp c_21⟩).symm
    · refine ex_iload_n dX8_make_7 rfl ?_
      refine ex_iconst (v := 1) dX8_make_8 (by decide) ?_
      refine ex_ldc dX8_make_9 k_X8_151 ?_
      refine cS_f dX8_make_11 (mm_ks i_X8_isIn l_X8_55) ⟨(Nat.le_of_ble_eq_true rfl), (Nat.le_of_ble_eq_true rfl)⟩ (c_X8_isIn _ _ _) rfl rfl (Nat.le_of_ble_eq_true rfl) rfl ?_
      refine ex_if_eq (tgt := 28) dX8_make_14 (by decide) (fun c_14 => ?_) (fun c_14 => ?_)
      · refine ex_iconst (v := 0) dX8_make_28 (by decide) ?_
        first | exact k _ (bb_f (fun z => bb_0.mp c_4 z.1)).symm | exact k _ (bb_f (fun z => bb_0.mp c_14 z.2.1)).symm | exact k _ (bb_f (fun z => bb_0.mp c_21 z.2.2)).symm | exact k _ (bb_t ⟨bb_n.mp c_4, bb_n.mp c_14, bb_n.mp c_21⟩).symm
      · refine ex_iload_n dX8_make_17 rfl ?_
        refine cS_f dX8_make_18 (mm_ks i_X8_isTank l_X8_152) ⟨(Nat.le_of_ble_eq_true rfl), (Nat.le_of_ble_eq_true rfl)⟩ (c_X8_isTank _) rfl rfl (Nat.le_of_ble_eq_true rfl) rfl ?_
        refine ex_if_eq (tgt := 28) dX8_make_21 (by decide) (fun c_21 => ?_) (fun c_21 => ?_)
        · refine ex_iconst (v := 0) dX8_make_28 (by decide) ?_
          first | exact k _ (bb_f (fun z => bb_0.mp c_4 z.1)).symm | exact k _ (bb_f (fun z => bb_0.mp c_14 z.2.1)).symm | exact k _ (bb_f (fun z => bb_0.mp c_21 z.2.2)).symm | exact k _ (bb_t ⟨bb_n.mp c_4, bb_n.mp c_14, bb_n.mp c_21⟩).symm
        · refine ex_iconst (v := 1) dX8_make_24 (by decide) ?_
          refine ex_goto (tgt := 29) dX8_make_25 (by decide) ?_
          first | exact k _ (bb_f (fun z => bb_0.mp c_4 z.1)).symm | exact k _ (bb_f (fun z => bb_0.mp c_14 z.2.1)).symm | exact k _ (bb_f (fun z => bb_0.mp c_21 z.2.2)).symm | exact k _ (bb_t ⟨bb_n.mp c_4, bb_n.mp c_14, bb_n.mp c_21⟩).symm
end PUB1
