def cm_link (s : cl_S) (a b w : Int32) : cl_R × cl_S := if (ii a 0 3 ∧ ii b 0 3 ∧ ¬ a = b) ∧ ii w 1 20 then (if nI (s.1 5).length < 6 then (.inl (some (nI (s.1 5).length)), va_up s.1 5 (s.1 5 ++ [(a, b, w, 0)]), s.2) else (.inr cx_s, s)) else (.inr cx_a, s)
section PUB7
variable {l : Launch} {G : mm_G} {h : mm_H} {c0 n0 : Nat} {s : cl_S}
theorem c_X8_link (hl : l.stackTraces = false) (hP : cl_P h s.1 s.2 c0 n0) (hL : (s.1 5).length ≤ 20000) (a b w : Int32) : mm_Ct l G mX8_link [.ref 0, .int a, .int b, .int w] h (cl_A (cm_link s a b w) c0 n0 h) := by
  obtain ⟨v, hv⟩ := tS_row hP.1 5 (by decide)
  refine mm_ct (by decide +kernel) (by decide +kernel) rfl (by simp [Value.category]) (Nat.le_of_ble_eq_true rfl) rfl ?_
  refine mm_via (p := (ii a 0 3 ∧ ii b 0 3 ∧ ¬ a = b) ∧ ii w 1 20) (pc' := 23) (ls' := [.ref 0, .int a, .int b, .int w]) (st := []) (fun z hb => ?_) (fun k => ?_)
  · skip
    refine cS_n dX8_link_23 (mm_ks i_X8_needArgument l_X8_59) ⟨(Nat.le_of_ble_eq_true rfl), (Nat.le_of_ble_eq_true rfl)⟩ (c_X8_needArgument hl _) rfl rfl (Nat.le_of_ble_eq_true rfl) rfl (fun b_23 => ?_) (fun b_23 => ?_)
    · rw [cm_link, if_neg (bb_0.mp (hb ▸ b_23))]; exact cA_x hP
    rw [cm_link, if_pos (bb_n.mp (hb ▸ b_23))]
    skip
    refine mm_via (p := nI (s.1 5).length < 6) (pc' := 46) (ls' := [.ref 0, .int a, .int b, .int w]) (st := []) (fun z hb => ?_) (fun k => ?_)
    · skip
      refine cS_n dX8_link_46 (mm_ks i_X8_needState l_X8_67) ⟨(Nat.le_of_ble_eq_true rfl), (Nat.le_of_ble_eq_true rfl)⟩ (c_X8_needState hl _) rfl rfl (Nat.le_of_ble_eq_true rfl) rfl (fun b_46 => ?_) (fun b_46 => ?_)
      · rw [if_neg (bb_0.mp (hb ▸ b_46))]; exact cA_x hP
      rw [if_pos (bb_n.mp (hb ▸ b_46))]
      refine ex_aload_n dX8_link_49 rfl ?_
      refine ex_getfield dX8_link_50 g_X8_47 (cP_ow hP) rfl ?_
      refine ex_getfield dX8_link_53 g_X8_274 (cP_nw hP) rfl ?_
      refine ex_iload_n dX8_link_56 rfl ?_
      refine ex_iload_n dX8_link_57 rfl ?_
      refine ex_iload_n dX8_link_58 rfl ?_
      refine ex_iconst (v := 0) dX8_link_59 (by decide) ?_
      refine cV_y dX8_link_60 (mm_kv i_X7_add l_X8_277) ⟨(Nat.le_of_ble_eq_true rfl), (Nat.le_of_ble_eq_true rfl)⟩ (tS_add hP.1 5 (by decide) hL _ _ _ _) rfl rfl hv (Nat.le_of_ble_eq_true rfl) rfl ?_
      rintro h1 ⟨q1, t1⟩
      have p1 := cP_tab hP q1 t1
      obtain ⟨w1, hw⟩ := tS_row q1 5 (by decide)
      replace hw : h1.1 (tp 5) = some (.inr (7, [.ref w1, .int (nI (s.1 5 ++ [(a, b, w, (0 : Int32))]).length)])) := hw
      rw [List.length_append, List.length_cons, List.length_nil] at hw
      refine ex_aload_n dX8_link_63 rfl ?_
      refine ex_getfield dX8_link_64 g_X8_47 (cP_ow p1) rfl ?_
      refine ex_getfield dX8_link_67 g_X8_274 (cP_nw p1) rfl ?_
      refine ex_getfield dX8_link_70 g_X8_203 hw rfl ?_
      refine ex_iconst (v := 1) dX8_link_73 (by decide) ?_
      refine ex_isub dX8_link_74 ?_
      refine ex_ireturn dX8_link_75 ⟨_, rfl, rfl⟩ ?_
      rw [nI_m1]; exact cA_i p1 (cl_Ft t1)
    · skip
      refine ex_aload_n dX8_link_26 rfl ?_
      refine ex_getfield dX8_link_27 g_X8_47 (cP_ow hP) rfl ?_
      refine ex_getfield dX8_link_30 g_X8_274 (cP_nw hP) rfl ?_
      refine ex_getfield dX8_link_33 g_X8_203 hv rfl ?_
      refine ex_bipush (v := 6) dX8_link_36 (by decide) ?_
      refine ex_icmp_ge (tgt := 45) dX8_link_38 (by decide) (fun c_38 => ?_) (fun c_38 => ?_)
      · refine ex_iconst (v := 0) dX8_link_45 (by decide) ?_
        first | exact k _ (bb_f (fun z => Int32.not_le.mpr z c_38)).symm | exact k _ (bb_t (Int32.not_le.mp c_38)).symm
      · refine ex_iconst (v := 1) dX8_link_41 (by decide) ?_
        refine ex_goto (tgt := 46) dX8_link_42 (by decide) ?_
        first | exact k _ (bb_f (fun z => Int32.not_le.mpr z c_38)).symm | exact k _ (bb_t (Int32.not_le.mp c_38)).symm
  · skip
    refine ex_iload_n dX8_link_0 rfl ?_
    refine ex_iload_n dX8_link_1 rfl ?_
    refine cS_f dX8_link_2 (mm_ks i_X8_isPair l_X8_271) ⟨(Nat.le_of_ble_eq_true rfl), (Nat.le_of_ble_eq_true rfl)⟩ (c_X8_isPair _ _) rfl rfl (Nat.le_of_ble_eq_true rfl) rfl ?_
    refine ex_if_eq (tgt := 22) dX8_link_5 (by decide) (fun c_5 => ?_) (fun c_5 => ?_)
    · refine ex_iconst (v := 0) dX8_link_22 (by decide) ?_
      exact k _ (bb_f (fun z => bb_0.mp c_5 z.1)).symm
    · refine ex_iload_n dX8_link_8 rfl ?_
      refine ex_iconst (v := 1) dX8_link_9 (by decide) ?_
      refine ex_bipush (v := 20) dX8_link_10 (by decide) ?_
      refine cS_f dX8_link_12 (mm_ks i_X8_isIn l_X8_55) ⟨(Nat.le_of_ble_eq_true rfl), (Nat.le_of_ble_eq_true rfl)⟩ (c_X8_isIn _ _ _) rfl rfl (Nat.le_of_ble_eq_true rfl) rfl ?_
      refine ex_if_eq (tgt := 22) dX8_link_15 (by decide) (fun c_15 => ?_) (fun c_15 => ?_)
      · refine ex_iconst (v := 0) dX8_link_22 (by decide) ?_
        exact k _ (bb_f (fun z => bb_0.mp c_15 z.2)).symm
      · refine ex_iconst (v := 1) dX8_link_18 (by decide) ?_
        refine ex_goto (tgt := 23) dX8_link_19 (by decide) ?_
        exact k _ (bb_t ⟨bb_n.mp c_5, bb_n.mp c_15⟩).symm
end PUB7
