def cm_repeater (s : cl_S) : cl_R × cl_S := if 0 < cl_me s ∧ s.2.2.2.2.2.2.2.1 = 0 ∧ ¬ ro_lk (s.1 2) = 2 then (.inl (some (ro_n 2 (s.1 2 ++ [(2, -1, -1, 0)]) 0)), va_up s.1 2 (s.1 2 ++ [(2, -1, -1, 0)]), s.2) else (.inr cx_s, s)
section PUB6
variable {l : Launch} {G : mm_G} {h : mm_H} {c0 n0 : Nat} {s : cl_S}
theorem c_X8_repeater (hl : l.stackTraces = false) (hP : cl_P h s.1 s.2 c0 n0) (hL : (s.1 2).length ≤ 20000) : mm_Ct l G mX8_repeater [.ref 0] h (cl_A (cm_repeater s) c0 n0 h) := by
  refine mm_ct (by decide +kernel) (by decide +kernel) rfl (by simp [Value.category]) (Nat.le_of_ble_eq_true rfl) rfl ?_
  refine mm_via (p := 0 < cl_me s ∧ s.2.2.2.2.2.2.2.1 = 0 ∧ ¬ ro_lk (s.1 2) = 2) (pc' := 33) (ls' := [.ref 0]) (st := []) (fun b hb => ?_) (fun k => ?_)
  · skip
    refine cS_n dX8_repeater_33 (mm_ks i_X8_needState l_X8_67) ⟨(Nat.le_of_ble_eq_true rfl), (Nat.le_of_ble_eq_true rfl)⟩ (c_X8_needState hl _) rfl rfl (Nat.le_of_ble_eq_true rfl) rfl (fun b_33 => ?_) (fun b_33 => ?_)
    · rw [cm_repeater, if_neg (bb_0.mp (hb ▸ b_33))]; exact cA_x hP
    rw [cm_repeater, if_pos (bb_n.mp (hb ▸ b_33))]
    refine ex_aload_n dX8_repeater_36 rfl ?_
    refine ex_getfield dX8_repeater_37 g_X8_33 (cP_ow hP) rfl ?_
    refine ex_iconst (v := 2) dX8_repeater_40 (by decide) ?_
    refine cV_y dX8_repeater_41 (mm_kv i_X5_addBare l_X8_217) ⟨(Nat.le_of_ble_eq_true rfl), (Nat.le_of_ble_eq_true rfl)⟩ (c_X5_addBare hP.1 (cP_ro hP) hL _) rfl rfl (cP_ro hP) (Nat.le_of_ble_eq_true rfl) rfl ?_
    rintro h1 ⟨q1, t1⟩
    have p1 := cP_tab hP q1 t1
    refine ex_aload_n dX8_repeater_44 rfl ?_
    refine ex_getfield dX8_repeater_45 g_X8_33 (cP_ow p1) rfl ?_
    refine ex_iconst (v := 2) dX8_repeater_48 (by decide) ?_
    refine cV_f dX8_repeater_49 (mm_kv i_X5_count l_X8_220) ⟨(Nat.le_of_ble_eq_true rfl), (Nat.le_of_ble_eq_true rfl)⟩ (c_X5_count p1.1 (cP_ro p1) _) rfl rfl (cP_ro p1) (Nat.le_of_ble_eq_true rfl) rfl ?_
    refine ex_ireturn dX8_repeater_52 ⟨_, rfl, rfl⟩ ?_
    exact cA_i p1 (cl_Ft t1)
  · skip
    refine ex_aload_n dX8_repeater_0 rfl ?_
    refine ex_getfield dX8_repeater_1 g_X8_33 (cP_ow hP) rfl ?_
    refine ex_getfield dX8_repeater_4 g_X8_123 (cP_ro hP) rfl ?_
    refine ex_if_le (tgt := 32) dX8_repeater_7 (by decide) (fun c_7 => ?_) (fun c_7 => ?_)
    · refine ex_iconst (v := 0) dX8_repeater_32 (by decide) ?_
      exact k _ (bb_f (fun z => Int32.not_lt.mpr c_7 z.1)).symm
    · refine ex_aload_n dX8_repeater_10 rfl ?_
      refine ex_getfield dX8_repeater_11 g_X8_112 (cP_ow hP) rfl ?_
      refine ex_if_ne (tgt := 32) dX8_repeater_14 (by decide) (fun c_14 => ?_) (fun c_14 => ?_)
      · refine ex_iconst (v := 0) dX8_repeater_32 (by decide) ?_
        exact k _ (bb_f (fun z => c_14 z.2.1)).symm
      · refine ex_aload_n dX8_repeater_17 rfl ?_
        refine ex_getfield dX8_repeater_18 g_X8_33 (cP_ow hP) rfl ?_
        refine cV_f dX8_repeater_21 (mm_kv i_X5_lastKind l_X8_214) ⟨(Nat.le_of_ble_eq_true rfl), (Nat.le_of_ble_eq_true rfl)⟩ (c_X5_lastKind hP.1 (cP_ro hP)) rfl rfl (cP_ro hP) (Nat.le_of_ble_eq_true rfl) rfl ?_
        refine ex_iconst (v := 2) dX8_repeater_24 (by decide) ?_
        refine ex_icmp_eq (tgt := 32) dX8_repeater_25 (by decide) (fun c_25 => ?_) (fun c_25 => ?_)
        · refine ex_iconst (v := 0) dX8_repeater_32 (by decide) ?_
          exact k _ (bb_f (fun z => z.2.2 c_25)).symm
        · refine ex_iconst (v := 1) dX8_repeater_28 (by decide) ?_
          refine ex_goto (tgt := 33) dX8_repeater_29 (by decide) ?_
          exact k _ (bb_t ⟨Int32.not_le.mp c_7, c_14, c_25⟩).symm
end PUB6
