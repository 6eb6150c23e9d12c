/-! THE CLASS: private questions -/
def cl_ce (s : cl_S) : Int32 := s.2.2.2.2.1.2.1
def cl_me (s : cl_S) : Int32 := s.2.2.2.2.1.2.2
def cl_fa (s : cl_S) : Int32 := s.2.2.2.2.2.2.2.2.2.2.1
def cl_fb (s : cl_S) : Int32 := s.2.2.2.2.2.2.2.2.2.2.2
def cl_tyAt (s : cl_S) (p : Int32) : Int32 := ho_ty s.2.2.2.1.1 s.2.2.2.1.2.1 (ro_pa p (s.1 2))
section PRIV
variable {l : Launch} {G : mm_G} {h : mm_H} {s : cl_S} {c0 n0 : Nat}
theorem c_X8_liesAtB (hP : cl_P h s.1 s.2 c0 n0) : mm_Ct l G mX8_liesAtB [.ref 0] h (mm_ri (.int (bb (cl_ce s = 100))) h) := by
  refine mm_ct (by decide +kernel) (by decide +kernel) rfl (by simp [Value.category]) (Nat.le_of_ble_eq_true rfl) rfl ?_
  refine ex_aload_n dX8_liesAtB_0 rfl ?_
  refine ex_getfield dX8_liesAtB_1 g_X8_33 (cP_ow hP) rfl ?_
  refine ex_getfield dX8_liesAtB_4 g_X8_63 (cP_ro hP) rfl ?_
  refine ex_bipush (v := 100) dX8_liesAtB_7 (by decide) ?_
  refine ex_icmp_ne (tgt := 16) dX8_liesAtB_9 (by decide) (fun c_9 => ?_) (fun c_9 => ?_)
  · refine ex_iconst (v := 0) dX8_liesAtB_16 (by decide) ?_
    refine ex_ireturn dX8_liesAtB_17 ⟨_, rfl, rfl⟩ ?_
    first | exact bq_t c_9 | exact bq_f c_9
  · refine ex_iconst (v := 1) dX8_liesAtB_12 (by decide) ?_
    refine ex_goto (tgt := 17) dX8_liesAtB_13 (by decide) ?_
    refine ex_ireturn dX8_liesAtB_17 ⟨_, rfl, rfl⟩ ?_
    first | exact bq_t c_9 | exact bq_f c_9
theorem c_X8_typeAt (hP : cl_P h s.1 s.2 c0 n0) (p : Int32) : mm_Ct l G mX8_typeAt [.ref 0, .int p] h (mm_ri (.int (cl_tyAt s p)) h) := by
  refine mm_ct (by decide +kernel) (by decide +kernel) rfl (by simp [Value.category]) (Nat.le_of_ble_eq_true rfl) rfl ?_
  refine ex_aload_n dX8_typeAt_0 rfl ?_
  refine ex_getfield dX8_typeAt_1 g_X8_26 (cP_ow hP) rfl ?_
  refine ex_aload_n dX8_typeAt_4 rfl ?_
  refine ex_getfield dX8_typeAt_5 g_X8_33 (cP_ow hP) rfl ?_
  refine ex_iload_n dX8_typeAt_8 rfl ?_
  refine cV_f dX8_typeAt_9 (mm_kv i_X5_pieceAt l_X8_348) ⟨(Nat.le_of_ble_eq_true rfl), (Nat.le_of_ble_eq_true rfl)⟩ (c_X5_pieceAt hP.1 (cP_ro hP) _) rfl rfl (cP_ro hP) (Nat.le_of_ble_eq_true rfl) rfl ?_
  refine cV_f dX8_typeAt_12 (mm_kv i_X3_typeOf l_X8_321) ⟨(Nat.le_of_ble_eq_true rfl), (Nat.le_of_ble_eq_true rfl)⟩ (c_X3_typeOf (cP_ho hP) (cP_ty hP) _) rfl rfl (cP_ho hP) (Nat.le_of_ble_eq_true rfl) rfl ?_
  refine ex_ireturn dX8_typeAt_15 ⟨_, rfl, rfl⟩ ?_
  exact ⟨rfl, rfl⟩
theorem c_X8_mayGoOn (hP : cl_P h s.1 s.2 c0 n0) : mm_Ct l G mX8_mayGoOn [.ref 0] h (mm_ri (.int (bb ((ca_w s.2.2.1 ≤ 6 ∧ s.2.2.1.2.2 ≤ s.2.2.1.1) ∧ s.2.2.2.2.2.2.1 < 12 ∧ s.2.2.2.2.2.2.2.1 = 0 ∧ ¬ cl_ce s = 100))) h) := by
  refine mm_ct (by decide +kernel) (by decide +kernel) rfl (by simp [Value.category]) (Nat.le_of_ble_eq_true rfl) rfl ?_
  refine ex_aload_n dX8_mayGoOn_0 rfl ?_
  refine ex_getfield dX8_mayGoOn_1 g_X8_19 (cP_ow hP) rfl ?_
  refine cV_f dX8_mayGoOn_4 (mm_kv i_X0_isForWork l_X8_196) ⟨(Nat.le_of_ble_eq_true rfl), (Nat.le_of_ble_eq_true rfl)⟩ (c_X0_isForWork (cP_ca hP)) rfl rfl (cP_ca hP) (Nat.le_of_ble_eq_true rfl) rfl ?_
  refine ex_if_eq (tgt := 37) dX8_mayGoOn_7 (by decide) (fun c_7 => ?_) (fun c_7 => ?_)
  · refine ex_iconst (v := 0) dX8_mayGoOn_37 (by decide) ?_
    refine ex_ireturn dX8_mayGoOn_38 ⟨_, rfl, rfl⟩ ?_
    first | exact bq_f (fun z => bb_0.mp c_7 z.1) | exact bq_f (fun z => Int32.not_le.mpr z.2.1 c_16) | exact bq_f (fun z => c_23 z.2.2.1) | exact bq_f (fun z => z.2.2.2 (bb_n.mp c_30)) | exact bq_t ⟨bb_n.mp c_7, Int32.not_le.mp c_16, c_23, bb_0.mp c_30⟩
  · refine ex_aload_n dX8_mayGoOn_10 rfl ?_
    refine ex_getfield dX8_mayGoOn_11 g_X8_109 (cP_ow hP) rfl ?_
    refine ex_bipush (v := 12) dX8_mayGoOn_14 (by decide) ?_
    refine ex_icmp_ge (tgt := 37) dX8_mayGoOn_16 (by decide) (fun c_16 => ?_) (fun c_16 => ?_)
    · refine ex_iconst (v := 0) dX8_mayGoOn_37 (by decide) ?_
      refine ex_ireturn dX8_mayGoOn_38 ⟨_, rfl, rfl⟩ ?_
      first | exact bq_f (fun z => bb_0.mp c_7 z.1) | exact bq_f (fun z => Int32.not_le.mpr z.2.1 c_16) | exact bq_f (fun z => c_23 z.2.2.1) | exact bq_f (fun z => z.2.2.2 (bb_n.mp c_30)) | exact bq_t ⟨bb_n.mp c_7, Int32.not_le.mp c_16, c_23, bb_0.mp c_30⟩
    · refine ex_aload_n dX8_mayGoOn_19 rfl ?_
      refine ex_getfield dX8_mayGoOn_20 g_X8_112 (cP_ow hP) rfl ?_
      refine ex_if_ne (tgt := 37) dX8_mayGoOn_23 (by decide) (fun c_23 => ?_) (fun c_23 => ?_)
      · refine ex_iconst (v := 0) dX8_mayGoOn_37 (by decide) ?_
        refine ex_ireturn dX8_mayGoOn_38 ⟨_, rfl, rfl⟩ ?_
        first | exact bq_f (fun z => bb_0.mp c_7 z.1) | exact bq_f (fun z => Int32.not_le.mpr z.2.1 c_16) | exact bq_f (fun z => c_23 z.2.2.1) | exact bq_f (fun z => z.2.2.2 (bb_n.mp c_30)) | exact bq_t ⟨bb_n.mp c_7, Int32.not_le.mp c_16, c_23, bb_0.mp c_30⟩
      · refine ex_aload_n dX8_mayGoOn_26 rfl ?_
        refine cV_f dX8_mayGoOn_27 (mm_kv i_X8_liesAtB l_X8_116) ⟨(Nat.le_of_ble_eq_true rfl), (Nat.le_of_ble_eq_true rfl)⟩ (c_X8_liesAtB hP) rfl rfl (cP_ow hP) (Nat.le_of_ble_eq_true rfl) rfl ?_
        refine ex_if_ne (tgt := 37) dX8_mayGoOn_30 (by decide) (fun c_30 => ?_) (fun c_30 => ?_)
        · refine ex_iconst (v := 0) dX8_mayGoOn_37 (by decide) ?_
          refine ex_ireturn dX8_mayGoOn_38 ⟨_, rfl, rfl⟩ ?_
          first | exact bq_f (fun z => bb_0.mp c_7 z.1) | exact bq_f (fun z => Int32.not_le.mpr z.2.1 c_16) | exact bq_f (fun z => c_23 z.2.2.1) | exact bq_f (fun z => z.2.2.2 (bb_n.mp c_30)) | exact bq_t ⟨bb_n.mp c_7, Int32.not_le.mp c_16, c_23, bb_0.mp c_30⟩
        · refine ex_iconst (v := 1) dX8_mayGoOn_33 (by decide) ?_
          refine ex_goto (tgt := 38) dX8_mayGoOn_34 (by decide) ?_
          refine ex_ireturn dX8_mayGoOn_38 ⟨_, rfl, rfl⟩ ?_
          first | exact bq_f (fun z => bb_0.mp c_7 z.1) | exact bq_f (fun z => Int32.not_le.mpr z.2.1 c_16) | exact bq_f (fun z => c_23 z.2.2.1) | exact bq_f (fun z => z.2.2.2 (bb_n.mp c_30)) | exact bq_t ⟨bb_n.mp c_7, Int32.not_le.mp c_16, c_23, bb_0.mp c_30⟩
end PRIV
