/-! THE LAW: the contracts of class and model in one form -/
section K8
variable {l : Launch} {G : mm_G} {h h0 : mm_H} {m : mo_S} {s : cl_S} {n c0 n0 : Nat}
theorem iv.F (h : iv n s) (hn : n ≤ 512) : ∃ k kp, cl_ce s = nI k ∧ k ≤ 100 ∧ (0 < cl_me s → 1 ≤ k) ∧ (0 < cl_lo s → 1 ≤ k) ∧ s.2.2.2.1.2.1 = nI kp ∧ kp ≤ 30 ∧ (s.1 0).length ≤ 30 ∧ (s.1 2).length ≤ 8000 ∧ (s.1 3).length ≤ 8000 ∧ (s.1 4).length ≤ 4 ∧ (s.1 5).length ≤ 6 ∧ (s.1 6).length ≤ 10 := by
  obtain ⟨k, kp, lo, wa, mk, c, b1, b2, b3, b4, b5, b6, b7, b8, b9, b10, b11, b12⟩ := h
  have e2 := b2.2.1
  have e1 := b1.2.1
  have e3 := b3.1
  have e4 := b4.2
  have e9 := b9.2
  refine ⟨k, kp, b1.1, e1, fun z => ?_, fun z => ?_, b2.1, e2, by omega, by omega, by omega, b10.1, b12.1.2.1, b12.2.1⟩
  · rcases Nat.eq_zero_or_pos k with y | y
    · have e0 : cl_me s = nI (ln_N (s.1 2)) := b8
      rw [b1.2.2 y] at e0
      rw [e0] at z
      exact absurd z (by decide)
    · exact y
  · rcases Nat.eq_zero_or_pos k with y | y
    · rw [b6.2.1, b6.2.2.2 y] at z
      exact absurd z (by decide)
    · exact y
theorem k8_sound (hl : l.stackTraces = false) (hP : cl_P h s.1 s.2 c0 n0) (hi : iv n s) (hn : n ≤ 512) (a0 a1 a2 : Int32) : mm_Ct l G mX8_sound [.ref 0, .int a0, .int a1, .int a2] h (cl_A (cm_sound s a0 a1 a2) c0 n0 h) := c_X8_sound hl hP a0 a1 a2
theorem k8_weather (hl : l.stackTraces = false) (hP : cl_P h s.1 s.2 c0 n0) (hi : iv n s) (hn : n ≤ 512) (a0 : Int32) : mm_Ct l G mX8_weather [.ref 0, .int a0] h (cl_A (cm_weather s a0) c0 n0 h) := c_X8_weather hl hP a0
theorem k8_pass (hl : l.stackTraces = false) (hP : cl_P h s.1 s.2 c0 n0) (hi : iv n s) (hn : n ≤ 512) (a0 : Int32) : mm_Ct l G mX8_pass [.ref 0, .int a0] h (cl_A (cm_pass s a0) c0 n0 h) := by
  obtain ⟨k, kp, f1, f2, f3, f4, f5, f6, l0, l2, l3, l4, l5, l6⟩ := hi.F hn
  exact c_X8_pass (I := fun s => iv n s) (fun s hs => by
    obtain ⟨k, kp, f1, f2, f3, f4, f5, f6, l0, l2, l3, l4, l5, l6⟩ := iv.F hs hn
    exact ⟨⟨k, f1, f2, f3⟩, by omega, iv_day hs (by omega)⟩) hl hP hi a0
theorem k8_make (hl : l.stackTraces = false) (hP : cl_P h s.1 s.2 c0 n0) (hi : iv n s) (hn : n ≤ 512) (a0 a1 a2 : Int32) : mm_Ct l G mX8_make [.ref 0, .int a0, .int a1, .int a2] h (cl_A (cm_make s a0 a1 a2) c0 n0 h) := by
  obtain ⟨k, kp, f1, f2, f3, f4, f5, f6, l0, l2, l3, l4, l5, l6⟩ := hi.F hn
  obtain ⟨tb, S, c, ⟨ty, pc, mk⟩, ro, st, ow⟩ := s
  obtain rfl : pc = nI kp := f5
  exact c_X8_make hl hP f6 (by omega) a0 a1 a2
theorem k8_lay0 (hl : l.stackTraces = false) (hP : cl_P h s.1 s.2 c0 n0) (a0 a1 a2 : Int32) (hq : ¬ (ii a1 0 50 ∧ ii a2 0 2)) : mm_Ct l G mX8_lay [.ref 0, .int a0, .int a1, .int a2] h (cl_A (cm_lay s a0 a1 a2) c0 n0 h) := by
  refine mm_ct (by decide +kernel) (by decide +kernel) rfl (by simp [Value.category]) (Nat.le_of_ble_eq_true rfl) rfl ?_
  refine mm_via (p := ii a0 1 12 ∧ ii a1 0 50 ∧ ii a2 0 2) (pc' := 32) (ls' := [.ref 0, .int a0, .int a1, .int a2, .null]) (st := []) (fun b hb => ?_) (fun k => ?_)
  · skip
    refine cS_n dX8_lay_32 (mm_ks i_X8_needArgument l_X8_59) ⟨(Nat.le_of_ble_eq_true rfl), (Nat.le_of_ble_eq_true rfl)⟩ (c_X8_needArgument hl _) rfl rfl (Nat.le_of_ble_eq_true rfl) rfl (fun b_32 => ?_) (fun b_32 => ?_)
    · rw [cm_lay, if_neg (bb_0.mp (hb ▸ b_32))]; exact cA_x hP
    exact absurd (bb_n.mp (hb ▸ b_32)).2 hq
    skip
  · skip
    refine ex_iload_n dX8_lay_0 rfl ?_
    refine ex_iconst (v := 1) dX8_lay_1 (by decide) ?_
    refine ex_bipush (v := 12) dX8_lay_2 (by decide) ?_
    refine cS_f dX8_lay_4 (mm_ks i_X8_isIn l_X8_55) ⟨(Nat.le_of_ble_eq_true rfl), (Nat.le_of_ble_eq_true rfl)⟩ (c_X8_isIn _ _ _) rfl rfl (Nat.le_of_ble_eq_true rfl) rfl ?_
    refine ex_if_eq (tgt := 31) dX8_lay_7 (by decide) (fun c_7 => ?_) (fun c_7 => ?_)
    · refine ex_iconst (v := 0) dX8_lay_31 (by decide) ?_
      first | exact k _ (bb_f (fun z => bb_0.mp c_7 z.1)).symm | exact k _ (bb_f (fun z => bb_0.mp c_17 z.2.1)).symm | exact k _ (bb_f (fun z => bb_0.mp c_24 z.2.2)).symm | exact k _ (bb_t ⟨bb_n.mp c_7, bb_n.mp c_17, bb_n.mp c_24⟩).symm
    · refine ex_iload_n dX8_lay_10 rfl ?_
      refine ex_iconst (v := 0) dX8_lay_11 (by decide) ?_
      refine ex_bipush (v := 50) dX8_lay_12 (by decide) ?_
      refine cS_f dX8_lay_14 (mm_ks i_X8_isIn l_X8_55) ⟨(Nat.le_of_ble_eq_true rfl), (Nat.le_of_ble_eq_true rfl)⟩ (c_X8_isIn _ _ _) rfl rfl (Nat.le_of_ble_eq_true rfl) rfl ?_
      refine ex_if_eq (tgt := 31) dX8_lay_17 (by decide) (fun c_17 => ?_) (fun c_17 => ?_)
      · refine ex_iconst (v := 0) dX8_lay_31 (by decide) ?_
        first | exact k _ (bb_f (fun z => bb_0.mp c_7 z.1)).symm | exact k _ (bb_f (fun z => bb_0.mp c_17 z.2.1)).symm | exact k _ (bb_f (fun z => bb_0.mp c_24 z.2.2)).symm | exact k _ (bb_t ⟨bb_n.mp c_7, bb_n.mp c_17, bb_n.mp c_24⟩).symm
      · refine ex_iload_n dX8_lay_20 rfl ?_
        refine cS_f dX8_lay_21 (mm_ks i_X8_isTank l_X8_152) ⟨(Nat.le_of_ble_eq_true rfl), (Nat.le_of_ble_eq_true rfl)⟩ (c_X8_isTank _) rfl rfl (Nat.le_of_ble_eq_true rfl) rfl ?_
        refine ex_if_eq (tgt := 31) dX8_lay_24 (by decide) (fun c_24 => ?_) (fun c_24 => ?_)
        · refine ex_iconst (v := 0) dX8_lay_31 (by decide) ?_
          first | exact k _ (bb_f (fun z => bb_0.mp c_7 z.1)).symm | exact k _ (bb_f (fun z => bb_0.mp c_17 z.2.1)).symm | exact k _ (bb_f (fun z => bb_0.mp c_24 z.2.2)).symm | exact k _ (bb_t ⟨bb_n.mp c_7, bb_n.mp c_17, bb_n.mp c_24⟩).symm
        · refine ex_iconst (v := 1) dX8_lay_27 (by decide) ?_
          refine ex_goto (tgt := 32) dX8_lay_28 (by decide) ?_
          first | exact k _ (bb_f (fun z => bb_0.mp c_7 z.1)).symm | exact k _ (bb_f (fun z => bb_0.mp c_17 z.2.1)).symm | exact k _ (bb_f (fun z => bb_0.mp c_24 z.2.2)).symm | exact k _ (bb_t ⟨bb_n.mp c_7, bb_n.mp c_17, bb_n.mp c_24⟩).symm
theorem k8_lay (hl : l.stackTraces = false) (hP : cl_P h s.1 s.2 c0 n0) (hi : iv n s) (hn : n ≤ 512) (a0 a1 a2 : Int32) : mm_Ct l G mX8_lay [.ref 0, .int a0, .int a1, .int a2] h (cl_A (cm_lay s a0 a1 a2) c0 n0 h) := by
  by_cases hq : ii a1 0 50 ∧ ii a2 0 2
  · exact c_X8_lay (I := fun s => iv n s) a1 a2 (fun s hs => by
      obtain ⟨k, kp, f1, f2, f3, f4, f5, f6, l0, l2, l3, l4, l5, l6⟩ := iv.F hs hn
      exact ⟨⟨k, f1, f2⟩, by omega, by omega, by omega, fun _ => iv_l1 hs hq.1 hq.2⟩) hl hP hi a0
  · exact k8_lay0 hl hP a0 a1 a2 hq
theorem k8_repeater (hl : l.stackTraces = false) (hP : cl_P h s.1 s.2 c0 n0) (hi : iv n s) (hn : n ≤ 512) : mm_Ct l G mX8_repeater [.ref 0] h (cl_A (cm_repeater s) c0 n0 h) := by
  obtain ⟨k, kp, f1, f2, f3, f4, f5, f6, l0, l2, l3, l4, l5, l6⟩ := hi.F hn
  exact c_X8_repeater hl hP (by omega)
theorem k8_takeUp (hl : l.stackTraces = false) (hP : cl_P h s.1 s.2 c0 n0) (hi : iv n s) (hn : n ≤ 512) (a0 : Int32) : mm_Ct l G mX8_takeUp [.ref 0, .int a0] h (cl_A (cm_takeUp s a0) c0 n0 h) := by
  obtain ⟨k, kp, f1, f2, f3, f4, f5, f6, l0, l2, l3, l4, l5, l6⟩ := hi.F hn
  exact c_X8_takeUp hl hP f1 f2 f4 (by omega) (by omega) (by omega) a0
theorem k8_mend (hl : l.stackTraces = false) (hP : cl_P h s.1 s.2 c0 n0) (hi : iv n s) (hn : n ≤ 512) (a0 a1 : Int32) : mm_Ct l G mX8_mend [.ref 0, .int a0, .int a1] h (cl_A (cm_mend s a0 a1) c0 n0 h) := by
  obtain ⟨k, kp, f1, f2, f3, f4, f5, f6, l0, l2, l3, l4, l5, l6⟩ := hi.F hn
  exact c_X8_mend hl hP f1 f2 (by omega) (by omega) (by omega) a0 a1
theorem k8_cell (hl : l.stackTraces = false) (hP : cl_P h s.1 s.2 c0 n0) (hi : iv n s) (hn : n ≤ 512) (a0 a1 : Int32) : mm_Ct l G mX8_cell [.ref 0, .int a0, .int a1] h (cl_A (cm_cell s a0 a1) c0 n0 h) := by
  obtain ⟨k, kp, f1, f2, f3, f4, f5, f6, l0, l2, l3, l4, l5, l6⟩ := hi.F hn
  exact c_X8_cell hl hP f1 f2 a0 a1
theorem k8_tank (hl : l.stackTraces = false) (hP : cl_P h s.1 s.2 c0 n0) (hi : iv n s) (hn : n ≤ 512) (a0 a1 : Int32) : mm_Ct l G mX8_tank [.ref 0, .int a0, .int a1] h (cl_A (cm_tank s a0 a1) c0 n0 h) := c_X8_tank hl hP a0 a1
theorem k8_line (hl : l.stackTraces = false) (hP : cl_P h s.1 s.2 c0 n0) (hi : iv n s) (hn : n ≤ 512) (a0 : Int32) : mm_Ct l G mX8_line [.ref 0, .int a0] h (cl_A (cm_line s a0) c0 n0 h) := c_X8_line hl hP a0
theorem k8_thing (hl : l.stackTraces = false) (hP : cl_P h s.1 s.2 c0 n0) (hi : iv n s) (hn : n ≤ 512) (a0 a1 : Int32) : mm_Ct l G mX8_thing [.ref 0, .int a0, .int a1] h (cl_A (cm_thing s a0 a1) c0 n0 h) := c_X8_thing hl hP a0 a1
theorem k8_metre (hl : l.stackTraces = false) (hP : cl_P h s.1 s.2 c0 n0) (hi : iv n s) (hn : n ≤ 512) (a0 : Int32) : mm_Ct l G mX8_metre [.ref 0, .int a0] h (cl_A (cm_metre s a0) c0 n0 h) := c_X8_metre hl hP a0
theorem k8_metreAnew (hl : l.stackTraces = false) (hP : cl_P h s.1 s.2 c0 n0) (hi : iv n s) (hn : n ≤ 512) (a0 : Int32) : mm_Ct l G mX8_metreAnew [.ref 0, .int a0] h (cl_A (cm_metreAnew s a0) c0 n0 h) := c_X8_metreAnew hl hP a0
theorem kv_sound (hi : iv n s) (hn : n ≤ 512) (a0 a1 a2 : Int32) : iv (n + 1) (cm_sound s a0 a1 a2).2 := (iv_sound hi a0 a1 a2).up
theorem kv_weather (hi : iv n s) (hn : n ≤ 512) (a0 : Int32) : iv (n + 1) (cm_weather s a0).2 := (iv_weather hi a0).up
theorem kv_pass (hi : iv n s) (hn : n ≤ 512) (a0 : Int32) : iv (n + 1) (cm_pass s a0).2 := (iv_pass hi (by omega) a0).up
theorem kv_make (hi : iv n s) (hn : n ≤ 512) (a0 a1 a2 : Int32) : iv (n + 1) (cm_make s a0 a1 a2).2 := iv_make hi a0 a1 a2
theorem kv_lay (hi : iv n s) (hn : n ≤ 512) (a0 a1 a2 : Int32) : iv (n + 1) (cm_lay s a0 a1 a2).2 := (iv_lay hi a0 a1 a2).up
theorem kv_repeater (hi : iv n s) (hn : n ≤ 512) : iv (n + 1) (cm_repeater s).2 := iv_repeater hi
theorem kv_takeUp (hi : iv n s) (hn : n ≤ 512) (a0 : Int32) : iv (n + 1) (cm_takeUp s a0).2 := iv_takeUp hi a0
theorem kv_mend (hi : iv n s) (hn : n ≤ 512) (a0 a1 : Int32) : iv (n + 1) (cm_mend s a0 a1).2 := iv_mend hi a0 a1
end K8
