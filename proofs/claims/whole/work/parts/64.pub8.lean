def cm_fault (s : cl_S) (k p : Int32) : cl_R × cl_S := if ii k 0 1 ∧ ii p 0 (cl_me s - 1) then (if nI (s.1 4).length < 4 then (.inl (some (nI ((s.1 4).length + 1))), va_up s.1 4 (s.1 4 ++ [(k, p, 0, cl_me s)]), s.2) else (.inr cx_s, s)) else (.inr cx_a, s)
section PUB8
variable {l : Launch} {G : mm_G} {h : mm_H} {c0 n0 : Nat} {s : cl_S}
theorem c_X8_fault (hl : l.stackTraces = false) (hP : cl_P h s.1 s.2 c0 n0) (hL : (s.1 4).length ≤ 20000) (a p : Int32) : mm_Ct l G mX8_fault [.ref 0, .int a, .int p] h (cl_A (cm_fault s a p) c0 n0 h) := by
  refine mm_ct (by decide +kernel) (by decide +kernel) rfl (by simp [Value.category]) (Nat.le_of_ble_eq_true rfl) rfl ?_
  refine mm_via (p := ii a 0 1 ∧ ii p 0 (cl_me s - 1)) (pc' := 31) (ls' := [.ref 0, .int a, .int p]) (st := []) (fun z hb => ?_) (fun k => ?_)
  · skip
    refine cS_n dX8_fault_31 (mm_ks i_X8_needArgument l_X8_59) ⟨(Nat.le_of_ble_eq_true rfl), (Nat.le_of_ble_eq_true rfl)⟩ (c_X8_needArgument hl _) rfl rfl (Nat.le_of_ble_eq_true rfl) rfl (fun b_31 => ?_) (fun b_31 => ?_)
    · rw [cm_fault, if_neg (bb_0.mp (hb ▸ b_31))]; exact cA_x hP
    rw [cm_fault, if_pos (bb_n.mp (hb ▸ b_31))]
    skip
    refine mm_via (p := nI (s.1 4).length < 4) (pc' := 50) (ls' := [.ref 0, .int a, .int p]) (st := []) (fun z hb => ?_) (fun k => ?_)
    · skip
      refine cS_n dX8_fault_50 (mm_ks i_X8_needState l_X8_67) ⟨(Nat.le_of_ble_eq_true rfl), (Nat.le_of_ble_eq_true rfl)⟩ (c_X8_needState hl _) rfl rfl (Nat.le_of_ble_eq_true rfl) rfl (fun b_50 => ?_) (fun b_50 => ?_)
      · rw [if_neg (bb_0.mp (hb ▸ b_50))]; exact cA_x hP
      rw [if_pos (bb_n.mp (hb ▸ b_50))]
      refine ex_aload_n dX8_fault_53 rfl ?_
      refine ex_getfield dX8_fault_54 g_X8_40 (cP_ow hP) rfl ?_
      refine ex_iload_n dX8_fault_57 rfl ?_
      refine ex_iload_n dX8_fault_58 rfl ?_
      refine ex_aload_n dX8_fault_59 rfl ?_
      refine ex_getfield dX8_fault_60 g_X8_33 (cP_ow hP) rfl ?_
      refine ex_getfield dX8_fault_63 g_X8_123 (cP_ro hP) rfl ?_
      refine cV_y dX8_fault_66 (mm_kv i_X2_enter l_X8_235) ⟨(Nat.le_of_ble_eq_true rfl), (Nat.le_of_ble_eq_true rfl)⟩ (c_X2_enter hP.1 (cP_bk hP) hL _ _ _) rfl rfl (cP_bk hP) (Nat.le_of_ble_eq_true rfl) rfl ?_
      rintro h1 ⟨q1, t1⟩
      have p1 := cP_tab hP q1 t1
      refine ex_aload_n dX8_fault_69 rfl ?_
      refine ex_getfield dX8_fault_70 g_X8_40 (cP_ow p1) rfl ?_
      refine cV_f dX8_fault_73 (mm_kv i_X2_size l_X8_232) ⟨(Nat.le_of_ble_eq_true rfl), (Nat.le_of_ble_eq_true rfl)⟩ (c_X2_size p1.1 (cP_bk p1)) rfl rfl (cP_bk p1) (Nat.le_of_ble_eq_true rfl) rfl ?_
      refine ex_ireturn dX8_fault_76 ⟨_, rfl, rfl⟩ ?_
      rw [show (s.1 4).length + 1 = (s.1 4 ++ [(a, p, (0 : Int32), cl_me s)]).length from by rw [List.length_append]; rfl]; exact cA_i p1 (cl_Ft t1)
    · skip
      refine ex_aload_n dX8_fault_34 rfl ?_
      refine ex_getfield dX8_fault_35 g_X8_40 (cP_ow hP) rfl ?_
      refine cV_f dX8_fault_38 (mm_kv i_X2_size l_X8_232) ⟨(Nat.le_of_ble_eq_true rfl), (Nat.le_of_ble_eq_true rfl)⟩ (c_X2_size hP.1 (cP_bk hP)) rfl rfl (cP_bk hP) (Nat.le_of_ble_eq_true rfl) rfl ?_
      refine ex_iconst (v := 4) dX8_fault_41 (by decide) ?_
      refine ex_icmp_ge (tgt := 49) dX8_fault_42 (by decide) (fun c_42 => ?_) (fun c_42 => ?_)
      · refine ex_iconst (v := 0) dX8_fault_49 (by decide) ?_
        first | exact k _ (bb_f (fun z => Int32.not_le.mpr z c_42)).symm | exact k _ (bb_t (Int32.not_le.mp c_42)).symm
      · refine ex_iconst (v := 1) dX8_fault_45 (by decide) ?_
        refine ex_goto (tgt := 50) dX8_fault_46 (by decide) ?_
        first | exact k _ (bb_f (fun z => Int32.not_le.mpr z c_42)).symm | exact k _ (bb_t (Int32.not_le.mp c_42)).symm
  · skip
    refine ex_iload_n dX8_fault_0 rfl ?_
    refine ex_iconst (v := 0) dX8_fault_1 (by decide) ?_
    refine ex_iconst (v := 1) dX8_fault_2 (by decide) ?_
    refine cS_f dX8_fault_3 (mm_ks i_X8_isIn l_X8_55) ⟨(Nat.le_of_ble_eq_true rfl), (Nat.le_of_ble_eq_true rfl)⟩ (c_X8_isIn _ _ _) rfl rfl (Nat.le_of_ble_eq_true rfl) rfl ?_
    refine ex_if_eq (tgt := 30) dX8_fault_6 (by decide) (fun c_6 => ?_) (fun c_6 => ?_)
    · refine ex_iconst (v := 0) dX8_fault_30 (by decide) ?_
      exact k _ (bb_f (fun z => bb_0.mp c_6 z.1)).symm
    · refine ex_iload_n dX8_fault_9 rfl ?_
      refine ex_iconst (v := 0) dX8_fault_10 (by decide) ?_
      refine ex_aload_n dX8_fault_11 rfl ?_
      refine ex_getfield dX8_fault_12 g_X8_33 (cP_ow hP) rfl ?_
      refine ex_getfield dX8_fault_15 g_X8_123 (cP_ro hP) rfl ?_
      refine ex_iconst (v := 1) dX8_fault_18 (by decide) ?_
      refine ex_isub dX8_fault_19 ?_
      refine cS_f dX8_fault_20 (mm_ks i_X8_isIn l_X8_55) ⟨(Nat.le_of_ble_eq_true rfl), (Nat.le_of_ble_eq_true rfl)⟩ (c_X8_isIn _ _ _) rfl rfl (Nat.le_of_ble_eq_true rfl) rfl ?_
      refine ex_if_eq (tgt := 30) dX8_fault_23 (by decide) (fun c_23 => ?_) (fun c_23 => ?_)
      · refine ex_iconst (v := 0) dX8_fault_30 (by decide) ?_
        exact k _ (bb_f (fun z => bb_0.mp c_23 z.2)).symm
      · refine ex_iconst (v := 1) dX8_fault_26 (by decide) ?_
        refine ex_goto (tgt := 31) dX8_fault_27 (by decide) ?_
        exact k _ (bb_t ⟨bb_n.mp c_6, bb_n.mp c_23⟩).symm
end PUB8
