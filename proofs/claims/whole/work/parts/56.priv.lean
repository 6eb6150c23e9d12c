/-! THE CLASS: private questions -/
def cl_ce (s : cl_S) : Int32 := s.2.2.2.2.1.2.1
def cl_me (s : cl_S) : Int32 := s.2.2.2.2.1.2.2
def cl_fa (s : cl_S) : Int32 := s.2.2.2.2.2.2.2.2.2.2.1
def cl_fb (s : cl_S) : Int32 := s.2.2.2.2.2.2.2.2.2.2.2
def cl_tyAt (s : cl_S) (p : Int32) : Int32 := ho_ty s.2.2.2.1.1 s.2.2.2.1.2.1 (ro_pa p (s.1 2))
def cl_mg (s : cl_S) : Int32 := ro_ls (s.2.2.1.1 / 365) (s.1 2) 3000 3000 - 1500
def cl_fed (s : cl_S) : Bool := decide (cl_ce s = 100) && (if fa_f (s.1 4) (-1) = -1 then decide (ro_da (cl_me s) (s.1 2) 0 0 ≤ cl_fa s + cl_fb s) else (decide (ro_da (fa_f (s.1 4) (-1)) (s.1 2) 0 0 ≤ cl_fa s) && decide (ro_db (fa_l (s.1 4) (-1)) (s.1 2).reverse 0 (cl_me s) ≤ cl_fb s)))
def cl_wk (s : cl_S) : Bool := decide (cl_ce s = 100) && (!(fa_b (s.1 4)) && (cl_fed s && decide (0 ≤ cl_mg s)))
def cl_dl (s : cl_S) : Int32 := ne_td (s.1 5) 0 0 ||| (if cl_wk s = true then 0 else 1)
section PRIV
variable {l : Launch} {G : mm_G} {h : mm_H} {s : cl_S} {c0 n0 : Nat}
theorem c_X8_liesAtB (hP : cl_P h s.1 s.2 c0 n0) : mm_Ct l G mX8_liesAtB [.ref 0] h (mm_ri (.int (bb (cl_ce s = 100))) h) := by
  refine mm_ct (by decide +kernel) (by decide +kernel) rfl (by simp [Value.category]) (Nat.le_of_ble_eq_true rfl) rfl ?_
  refine ex_aload_n dX8_liesAtB_0 rfl ?_
  refine ex_getfield dX8_liesAtB_1 g_X8_33 (cP_ow hP) rfl ?_
  refine ex_getfield dX8_liesAtB_4 g_X8_63 (cP_ro hP) rfl ?_
  refine ex_bipush (v := 100) dX8_liesAtB_7 (by decide) ?_
  refine ex_icmp_ne (tgt := 16) dX8_liesAtB_9 (by decide) (fun c_9 => ?_) (fun c_9 => ?_)
  · refine ex_iconst (v := 0) dX8_liesAtB_16 (by decide) ?_
    refine ex_ireturn dX8_liesAtB_17 ⟨_, rfl, rfl⟩ ?_
    first | exact bq_t c_9 | exact bq_f c_9
  · refine ex_iconst (v := 1) dX8_liesAtB_12 (by decide) ?_
    refine ex_goto (tgt := 17) dX8_liesAtB_13 (by decide) ?_
    refine ex_ireturn dX8_liesAtB_17 ⟨_, rfl, rfl⟩ ?_
    first | exact bq_t c_9 | exact bq_f c_9
theorem c_X8_typeAt (hP : cl_P h s.1 s.2 c0 n0) (p : Int32) : mm_Ct l G mX8_typeAt [.ref 0, .int p] h (mm_ri (.int (cl_tyAt s p)) h) := by
  refine mm_ct (by decide +kernel) (by decide +kernel) rfl (by simp [Value.category]) (Nat.le_of_ble_eq_true rfl) rfl ?_
  refine ex_aload_n dX8_typeAt_0 rfl ?_
  refine ex_getfield dX8_typeAt_1 g_X8_26 (cP_ow hP) rfl ?_
  refine ex_aload_n dX8_typeAt_4 rfl ?_
  refine ex_getfield dX8_typeAt_5 g_X8_33 (cP_ow hP) rfl ?_
  refine ex_iload_n dX8_typeAt_8 rfl ?_
  refine cV_f dX8_typeAt_9 (mm_kv i_X5_pieceAt l_X8_348) ⟨(Nat.le_of_ble_eq_true rfl), (Nat.le_of_ble_eq_true rfl)⟩ (c_X5_pieceAt hP.1 (cP_ro hP) _) rfl rfl (cP_ro hP) (Nat.le_of_ble_eq_true rfl) rfl ?_
  refine cV_f dX8_typeAt_12 (mm_kv i_X3_typeOf l_X8_321) ⟨(Nat.le_of_ble_eq_true rfl), (Nat.le_of_ble_eq_true rfl)⟩ (c_X3_typeOf (cP_ho hP) (cP_ty hP) _) rfl rfl (cP_ho hP) (Nat.le_of_ble_eq_true rfl) rfl ?_
  refine ex_ireturn dX8_typeAt_15 ⟨_, rfl, rfl⟩ ?_
  exact ⟨rfl, rfl⟩
theorem c_X8_marginToday (hP : cl_P h s.1 s.2 c0 n0) : mm_Ct l G mX8_marginToday [.ref 0] h (mm_ri (.int (cl_mg s)) h) := by
  refine mm_ct (by decide +kernel) (by decide +kernel) rfl (by simp [Value.category]) (Nat.le_of_ble_eq_true rfl) rfl ?_
  refine ex_aload_n dX8_marginToday_0 rfl ?_
  refine ex_getfield dX8_marginToday_1 g_X8_33 (cP_ow hP) rfl ?_
  refine ex_aload_n dX8_marginToday_4 rfl ?_
  refine ex_getfield dX8_marginToday_5 g_X8_19 (cP_ow hP) rfl ?_
  refine ex_getfield dX8_marginToday_8 g_X8_93 (cP_ca hP) rfl ?_
  refine ex_sipush (v := 365) dX8_marginToday_11 (by decide) ?_
  refine ex_idiv dX8_marginToday_14 (by decide) ?_
  refine cV_f dX8_marginToday_15 (mm_kv i_X5_leastSignal l_X8_351) ⟨(Nat.le_of_ble_eq_true rfl), (Nat.le_of_ble_eq_true rfl)⟩ (c_X5_leastSignal hP.1 (cP_ro hP) _) rfl rfl (cP_ro hP) (Nat.le_of_ble_eq_true rfl) rfl ?_
  refine ex_sipush (v := 1500) dX8_marginToday_18 (by decide) ?_
  refine ex_isub dX8_marginToday_21 ?_
  refine ex_ireturn dX8_marginToday_22 ⟨_, rfl, rfl⟩ ?_
  exact ⟨rfl, rfl⟩
theorem c_X8_lineIsFed (hP : cl_P h s.1 s.2 c0 n0) : mm_Ct l G mX8_lineIsFed [.ref 0] h (mm_ri (.int (bb (cl_fed s = true))) h) := by
  refine mm_ct (by decide +kernel) (by decide +kernel) rfl (by simp [Value.category]) (Nat.le_of_ble_eq_true rfl) rfl ?_
  refine ex_aload_n dX8_lineIsFed_0 rfl ?_
  refine cV_f dX8_lineIsFed_1 (mm_kv i_X8_liesAtB l_X8_116) ⟨(Nat.le_of_ble_eq_true rfl), (Nat.le_of_ble_eq_true rfl)⟩ (c_X8_liesAtB hP) rfl rfl (cP_ow hP) (Nat.le_of_ble_eq_true rfl) rfl ?_
  refine ex_if_ne (tgt := 9) dX8_lineIsFed_4 (by decide) (fun c_4 => ?_) (fun c_4 => ?_)
  · refine ex_aload_n dX8_lineIsFed_9 rfl ?_
    refine ex_getfield dX8_lineIsFed_10 g_X8_40 (cP_ow hP) rfl ?_
    refine cV_f dX8_lineIsFed_13 (mm_kv i_X2_firstShunt l_X8_354) ⟨(Nat.le_of_ble_eq_true rfl), (Nat.le_of_ble_eq_true rfl)⟩ (c_X2_firstShunt hP.1 (cP_bk hP)) rfl rfl (cP_bk hP) (Nat.le_of_ble_eq_true rfl) rfl ?_
    refine ex_istore_n dX8_lineIsFed_16 (Nat.le_of_ble_eq_true rfl) ?_
    refine ex_iload_n dX8_lineIsFed_17 rfl ?_
    refine ex_iconst (v := (-1)) dX8_lineIsFed_18 (by decide) ?_
    refine ex_icmp_ne (tgt := 54) dX8_lineIsFed_19 (by decide) (fun c_19 => ?_) (fun c_19 => ?_)
    · refine ex_aload_n dX8_lineIsFed_54 rfl ?_
      refine ex_getfield dX8_lineIsFed_55 g_X8_33 (cP_ow hP) rfl ?_
      refine ex_iload_n dX8_lineIsFed_58 rfl ?_
      refine cV_f dX8_lineIsFed_59 (mm_kv i_X5_dropsAhead l_X8_357) ⟨(Nat.le_of_ble_eq_true rfl), (Nat.le_of_ble_eq_true rfl)⟩ (c_X5_dropsAhead hP.1 (cP_ro hP) _) rfl rfl (cP_ro hP) (Nat.le_of_ble_eq_true rfl) rfl ?_
      refine ex_aload_n dX8_lineIsFed_62 rfl ?_
      refine ex_getfield dX8_lineIsFed_63 g_X8_226 (cP_ow hP) rfl ?_
      refine ex_icmp_gt (tgt := 94) dX8_lineIsFed_66 (by decide) (fun c_66 => ?_) (fun c_66 => ?_)
      · refine ex_iconst (v := 0) dX8_lineIsFed_94 (by decide) ?_
        refine ex_ireturn dX8_lineIsFed_95 ⟨_, rfl, rfl⟩ ?_
        first | exact bq_f (by rw [cl_fed, decide_eq_true (bb_n.mp c_4), Bool.true_and, if_neg c_19, Bool.and_eq_true]; exact fun z => Int32.not_lt.mpr (of_decide_eq_true z.1) c_66) | exact bq_f (by rw [cl_fed, decide_eq_true (bb_n.mp c_4), Bool.true_and, if_neg c_19, Bool.and_eq_true]; exact fun z => Int32.not_lt.mpr (of_decide_eq_true z.2) c_87) | exact bq_t (by rw [cl_fed, decide_eq_true (bb_n.mp c_4), Bool.true_and, if_neg c_19, Bool.and_eq_true]; exact ⟨decide_eq_true (Int32.not_lt.mp c_66), decide_eq_true (Int32.not_lt.mp c_87)⟩)
      · refine ex_aload_n dX8_lineIsFed_69 rfl ?_
        refine ex_getfield dX8_lineIsFed_70 g_X8_33 (cP_ow hP) rfl ?_
        refine ex_aload_n dX8_lineIsFed_73 rfl ?_
        refine ex_getfield dX8_lineIsFed_74 g_X8_40 (cP_ow hP) rfl ?_
        refine cV_f dX8_lineIsFed_77 (mm_kv i_X2_lastShunt l_X8_360) ⟨(Nat.le_of_ble_eq_true rfl), (Nat.le_of_ble_eq_true rfl)⟩ (c_X2_lastShunt hP.1 (cP_bk hP)) rfl rfl (cP_bk hP) (Nat.le_of_ble_eq_true rfl) rfl ?_
        refine cV_f dX8_lineIsFed_80 (mm_kv i_X5_dropsBehind l_X8_363) ⟨(Nat.le_of_ble_eq_true rfl), (Nat.le_of_ble_eq_true rfl)⟩ (c_X5_dropsBehind hP.1 (cP_ro hP) _) rfl rfl (cP_ro hP) (Nat.le_of_ble_eq_true rfl) rfl ?_
        refine ex_aload_n dX8_lineIsFed_83 rfl ?_
        refine ex_getfield dX8_lineIsFed_84 g_X8_229 (cP_ow hP) rfl ?_
        refine ex_icmp_gt (tgt := 94) dX8_lineIsFed_87 (by decide) (fun c_87 => ?_) (fun c_87 => ?_)
        · refine ex_iconst (v := 0) dX8_lineIsFed_94 (by decide) ?_
          refine ex_ireturn dX8_lineIsFed_95 ⟨_, rfl, rfl⟩ ?_
          first | exact bq_f (by rw [cl_fed, decide_eq_true (bb_n.mp c_4), Bool.true_and, if_neg c_19, Bool.and_eq_true]; exact fun z => Int32.not_lt.mpr (of_decide_eq_true z.1) c_66) | exact bq_f (by rw [cl_fed, decide_eq_true (bb_n.mp c_4), Bool.true_and, if_neg c_19, Bool.and_eq_true]; exact fun z => Int32.not_lt.mpr (of_decide_eq_true z.2) c_87) | exact bq_t (by rw [cl_fed, decide_eq_true (bb_n.mp c_4), Bool.true_and, if_neg c_19, Bool.and_eq_true]; exact ⟨decide_eq_true (Int32.not_lt.mp c_66), decide_eq_true (Int32.not_lt.mp c_87)⟩)
        · refine ex_iconst (v := 1) dX8_lineIsFed_90 (by decide) ?_
          refine ex_goto (tgt := 95) dX8_lineIsFed_91 (by decide) ?_
          refine ex_ireturn dX8_lineIsFed_95 ⟨_, rfl, rfl⟩ ?_
          first | exact bq_f (by rw [cl_fed, decide_eq_true (bb_n.mp c_4), Bool.true_and, if_neg c_19, Bool.and_eq_true]; exact fun z => Int32.not_lt.mpr (of_decide_eq_true z.1) c_66) | exact bq_f (by rw [cl_fed, decide_eq_true (bb_n.mp c_4), Bool.true_and, if_neg c_19, Bool.and_eq_true]; exact fun z => Int32.not_lt.mpr (of_decide_eq_true z.2) c_87) | exact bq_t (by rw [cl_fed, decide_eq_true (bb_n.mp c_4), Bool.true_and, if_neg c_19, Bool.and_eq_true]; exact ⟨decide_eq_true (Int32.not_lt.mp c_66), decide_eq_true (Int32.not_lt.mp c_87)⟩)
    · refine ex_aload_n dX8_lineIsFed_22 rfl ?_
      refine ex_getfield dX8_lineIsFed_23 g_X8_33 (cP_ow hP) rfl ?_
      refine ex_aload_n dX8_lineIsFed_26 rfl ?_
      refine ex_getfield dX8_lineIsFed_27 g_X8_33 (cP_ow hP) rfl ?_
      refine ex_getfield dX8_lineIsFed_30 g_X8_123 (cP_ro hP) rfl ?_
      refine cV_f dX8_lineIsFed_33 (mm_kv i_X5_dropsAhead l_X8_357) ⟨(Nat.le_of_ble_eq_true rfl), (Nat.le_of_ble_eq_true rfl)⟩ (c_X5_dropsAhead hP.1 (cP_ro hP) _) rfl rfl (cP_ro hP) (Nat.le_of_ble_eq_true rfl) rfl ?_
      refine ex_aload_n dX8_lineIsFed_36 rfl ?_
      refine ex_getfield dX8_lineIsFed_37 g_X8_226 (cP_ow hP) rfl ?_
      refine ex_aload_n dX8_lineIsFed_40 rfl ?_
      refine ex_getfield dX8_lineIsFed_41 g_X8_229 (cP_ow hP) rfl ?_
      refine ex_iadd dX8_lineIsFed_44 ?_
      refine ex_icmp_gt (tgt := 52) dX8_lineIsFed_45 (by decide) (fun c_45 => ?_) (fun c_45 => ?_)
      · refine ex_iconst (v := 0) dX8_lineIsFed_52 (by decide) ?_
        refine ex_ireturn dX8_lineIsFed_53 ⟨_, rfl, rfl⟩ ?_
        first | exact bq_t (by rw [cl_fed, decide_eq_true (bb_n.mp c_4), Bool.true_and, if_pos c_19]; exact decide_eq_true (Int32.not_lt.mp c_45)) | exact bq_f (by rw [cl_fed, decide_eq_true (bb_n.mp c_4), Bool.true_and, if_pos c_19]; exact fun z => Int32.not_lt.mpr (of_decide_eq_true z) c_45)
      · refine ex_iconst (v := 1) dX8_lineIsFed_48 (by decide) ?_
        refine ex_goto (tgt := 53) dX8_lineIsFed_49 (by decide) ?_
        refine ex_ireturn dX8_lineIsFed_53 ⟨_, rfl, rfl⟩ ?_
        first | exact bq_t (by rw [cl_fed, decide_eq_true (bb_n.mp c_4), Bool.true_and, if_pos c_19]; exact decide_eq_true (Int32.not_lt.mp c_45)) | exact bq_f (by rw [cl_fed, decide_eq_true (bb_n.mp c_4), Bool.true_and, if_pos c_19]; exact fun z => Int32.not_lt.mpr (of_decide_eq_true z) c_45)
  · refine ex_iconst (v := 0) dX8_lineIsFed_7 (by decide) ?_
    refine ex_ireturn dX8_lineIsFed_8 ⟨_, rfl, rfl⟩ ?_
    exact bq_f (by rw [cl_fed, decide_eq_false (bb_0.mp c_4), Bool.false_and]; decide)
theorem c_X8_lineWorks (hP : cl_P h s.1 s.2 c0 n0) : mm_Ct l G mX8_lineWorks [.ref 0] h (mm_ri (.int (bb (cl_wk s = true))) h) := by
  refine mm_ct (by decide +kernel) (by decide +kernel) rfl (by simp [Value.category]) (Nat.le_of_ble_eq_true rfl) rfl ?_
  refine ex_aload_n dX8_lineWorks_0 rfl ?_
  refine cV_f dX8_lineWorks_1 (mm_kv i_X8_liesAtB l_X8_116) ⟨(Nat.le_of_ble_eq_true rfl), (Nat.le_of_ble_eq_true rfl)⟩ (c_X8_liesAtB hP) rfl rfl (cP_ow hP) (Nat.le_of_ble_eq_true rfl) rfl ?_
  refine ex_if_eq (tgt := 35) dX8_lineWorks_4 (by decide) (fun c_4 => ?_) (fun c_4 => ?_)
  · refine ex_iconst (v := 0) dX8_lineWorks_35 (by decide) ?_
    refine ex_ireturn dX8_lineWorks_36 ⟨_, rfl, rfl⟩ ?_
    first | exact bq_f (by rw [cl_wk, Bool.and_eq_true, Bool.and_eq_true, Bool.and_eq_true, Bool.not_eq_true']; exact fun z => bb_0.mp c_4 (of_decide_eq_true z.1)) | exact bq_f (by rw [cl_wk, Bool.and_eq_true, Bool.and_eq_true, Bool.and_eq_true, Bool.not_eq_true']; exact fun z => Bool.false_ne_true (z.2.1.symm.trans (bb_n.mp c_14))) | exact bq_f (by rw [cl_wk, Bool.and_eq_true, Bool.and_eq_true, Bool.and_eq_true, Bool.not_eq_true']; exact fun z => bb_0.mp c_21 z.2.2.1) | exact bq_f (by rw [cl_wk, Bool.and_eq_true, Bool.and_eq_true, Bool.and_eq_true, Bool.not_eq_true']; exact fun z => Int32.not_lt.mpr (of_decide_eq_true z.2.2.2) c_28) | exact bq_t (by rw [cl_wk, Bool.and_eq_true, Bool.and_eq_true, Bool.and_eq_true, Bool.not_eq_true']; exact ⟨decide_eq_true (bb_n.mp c_4), (Bool.eq_false_or_eq_true (fa_b (s.1 4))).resolve_left (bb_0.mp c_14), bb_n.mp c_21, decide_eq_true (Int32.not_lt.mp c_28)⟩)
  · refine ex_aload_n dX8_lineWorks_7 rfl ?_
    refine ex_getfield dX8_lineWorks_8 g_X8_40 (cP_ow hP) rfl ?_
    refine cV_f dX8_lineWorks_11 (mm_kv i_X2_hasBreak l_X8_366) ⟨(Nat.le_of_ble_eq_true rfl), (Nat.le_of_ble_eq_true rfl)⟩ (c_X2_hasBreak hP.1 (cP_bk hP)) rfl rfl (cP_bk hP) (Nat.le_of_ble_eq_true rfl) rfl ?_
    refine ex_if_ne (tgt := 35) dX8_lineWorks_14 (by decide) (fun c_14 => ?_) (fun c_14 => ?_)
    · refine ex_iconst (v := 0) dX8_lineWorks_35 (by decide) ?_
      refine ex_ireturn dX8_lineWorks_36 ⟨_, rfl, rfl⟩ ?_
      first | exact bq_f (by rw [cl_wk, Bool.and_eq_true, Bool.and_eq_true, Bool.and_eq_true, Bool.not_eq_true']; exact fun z => bb_0.mp c_4 (of_decide_eq_true z.1)) | exact bq_f (by rw [cl_wk, Bool.and_eq_true, Bool.and_eq_true, Bool.and_eq_true, Bool.not_eq_true']; exact fun z => Bool.false_ne_true (z.2.1.symm.trans (bb_n.mp c_14))) | exact bq_f (by rw [cl_wk, Bool.and_eq_true, Bool.and_eq_true, Bool.and_eq_true, Bool.not_eq_true']; exact fun z => bb_0.mp c_21 z.2.2.1) | exact bq_f (by rw [cl_wk, Bool.and_eq_true, Bool.and_eq_true, Bool.and_eq_true, Bool.not_eq_true']; exact fun z => Int32.not_lt.mpr (of_decide_eq_true z.2.2.2) c_28) | exact bq_t (by rw [cl_wk, Bool.and_eq_true, Bool.and_eq_true, Bool.and_eq_true, Bool.not_eq_true']; exact ⟨decide_eq_true (bb_n.mp c_4), (Bool.eq_false_or_eq_true (fa_b (s.1 4))).resolve_left (bb_0.mp c_14), bb_n.mp c_21, decide_eq_true (Int32.not_lt.mp c_28)⟩)
    · refine ex_aload_n dX8_lineWorks_17 rfl ?_
      refine cV_f dX8_lineWorks_18 (mm_kv i_X8_lineIsFed l_X8_339) ⟨(Nat.le_of_ble_eq_true rfl), (Nat.le_of_ble_eq_true rfl)⟩ (c_X8_lineIsFed hP) rfl rfl (cP_ow hP) (Nat.le_of_ble_eq_true rfl) rfl ?_
      refine ex_if_eq (tgt := 35) dX8_lineWorks_21 (by decide) (fun c_21 => ?_) (fun c_21 => ?_)
      · refine ex_iconst (v := 0) dX8_lineWorks_35 (by decide) ?_
        refine ex_ireturn dX8_lineWorks_36 ⟨_, rfl, rfl⟩ ?_
        first | exact bq_f (by rw [cl_wk, Bool.and_eq_true, Bool.and_eq_true, Bool.and_eq_true, Bool.not_eq_true']; exact fun z => bb_0.mp c_4 (of_decide_eq_true z.1)) | exact bq_f (by rw [cl_wk, Bool.and_eq_true, Bool.and_eq_true, Bool.and_eq_true, Bool.not_eq_true']; exact fun z => Bool.false_ne_true (z.2.1.symm.trans (bb_n.mp c_14))) | exact bq_f (by rw [cl_wk, Bool.and_eq_true, Bool.and_eq_true, Bool.and_eq_true, Bool.not_eq_true']; exact fun z => bb_0.mp c_21 z.2.2.1) | exact bq_f (by rw [cl_wk, Bool.and_eq_true, Bool.and_eq_true, Bool.and_eq_true, Bool.not_eq_true']; exact fun z => Int32.not_lt.mpr (of_decide_eq_true z.2.2.2) c_28) | exact bq_t (by rw [cl_wk, Bool.and_eq_true, Bool.and_eq_true, Bool.and_eq_true, Bool.not_eq_true']; exact ⟨decide_eq_true (bb_n.mp c_4), (Bool.eq_false_or_eq_true (fa_b (s.1 4))).resolve_left (bb_0.mp c_14), bb_n.mp c_21, decide_eq_true (Int32.not_lt.mp c_28)⟩)
      · refine ex_aload_n dX8_lineWorks_24 rfl ?_
        refine cV_f dX8_lineWorks_25 (mm_kv i_X8_marginToday l_X8_333) ⟨(Nat.le_of_ble_eq_true rfl), (Nat.le_of_ble_eq_true rfl)⟩ (c_X8_marginToday hP) rfl rfl (cP_ow hP) (Nat.le_of_ble_eq_true rfl) rfl ?_
        refine ex_if_lt (tgt := 35) dX8_lineWorks_28 (by decide) (fun c_28 => ?_) (fun c_28 => ?_)
        · refine ex_iconst (v := 0) dX8_lineWorks_35 (by decide) ?_
          refine ex_ireturn dX8_lineWorks_36 ⟨_, rfl, rfl⟩ ?_
          first | exact bq_f (by rw [cl_wk, Bool.and_eq_true, Bool.and_eq_true, Bool.and_eq_true, Bool.not_eq_true']; exact fun z => bb_0.mp c_4 (of_decide_eq_true z.1)) | exact bq_f (by rw [cl_wk, Bool.and_eq_true, Bool.and_eq_true, Bool.and_eq_true, Bool.not_eq_true']; exact fun z => Bool.false_ne_true (z.2.1.symm.trans (bb_n.mp c_14))) | exact bq_f (by rw [cl_wk, Bool.and_eq_true, Bool.and_eq_true, Bool.and_eq_true, Bool.not_eq_true']; exact fun z => bb_0.mp c_21 z.2.2.1) | exact bq_f (by rw [cl_wk, Bool.and_eq_true, Bool.and_eq_true, Bool.and_eq_true, Bool.not_eq_true']; exact fun z => Int32.not_lt.mpr (of_decide_eq_true z.2.2.2) c_28) | exact bq_t (by rw [cl_wk, Bool.and_eq_true, Bool.and_eq_true, Bool.and_eq_true, Bool.not_eq_true']; exact ⟨decide_eq_true (bb_n.mp c_4), (Bool.eq_false_or_eq_true (fa_b (s.1 4))).resolve_left (bb_0.mp c_14), bb_n.mp c_21, decide_eq_true (Int32.not_lt.mp c_28)⟩)
        · refine ex_iconst (v := 1) dX8_lineWorks_31 (by decide) ?_
          refine ex_goto (tgt := 36) dX8_lineWorks_32 (by decide) ?_
          refine ex_ireturn dX8_lineWorks_36 ⟨_, rfl, rfl⟩ ?_
          first | exact bq_f (by rw [cl_wk, Bool.and_eq_true, Bool.and_eq_true, Bool.and_eq_true, Bool.not_eq_true']; exact fun z => bb_0.mp c_4 (of_decide_eq_true z.1)) | exact bq_f (by rw [cl_wk, Bool.and_eq_true, Bool.and_eq_true, Bool.and_eq_true, Bool.not_eq_true']; exact fun z => Bool.false_ne_true (z.2.1.symm.trans (bb_n.mp c_14))) | exact bq_f (by rw [cl_wk, Bool.and_eq_true, Bool.and_eq_true, Bool.and_eq_true, Bool.not_eq_true']; exact fun z => bb_0.mp c_21 z.2.2.1) | exact bq_f (by rw [cl_wk, Bool.and_eq_true, Bool.and_eq_true, Bool.and_eq_true, Bool.not_eq_true']; exact fun z => Int32.not_lt.mpr (of_decide_eq_true z.2.2.2) c_28) | exact bq_t (by rw [cl_wk, Bool.and_eq_true, Bool.and_eq_true, Bool.and_eq_true, Bool.not_eq_true']; exact ⟨decide_eq_true (bb_n.mp c_4), (Bool.eq_false_or_eq_true (fa_b (s.1 4))).resolve_left (bb_0.mp c_14), bb_n.mp c_21, decide_eq_true (Int32.not_lt.mp c_28)⟩)
theorem c_X8_deadLinks (hP : cl_P h s.1 s.2 c0 n0) : mm_Ct l G mX8_deadLinks [.ref 0] h (mm_ri (.int (cl_dl s)) h) := by
  refine mm_ct (by decide +kernel) (by decide +kernel) rfl (by simp [Value.category]) (Nat.le_of_ble_eq_true rfl) rfl ?_
  refine ex_aload_n dX8_deadLinks_0 rfl ?_
  refine ex_getfield dX8_deadLinks_1 g_X8_47 (cP_ow hP) rfl ?_
  refine cV_f dX8_deadLinks_4 (mm_kv i_X4_toldDead l_X8_305) ⟨(Nat.le_of_ble_eq_true rfl), (Nat.le_of_ble_eq_true rfl)⟩ (c_X4_toldDead hP.1 (cP_nw hP)) rfl rfl (cP_nw hP) (Nat.le_of_ble_eq_true rfl) rfl ?_
  refine ex_aload_n dX8_deadLinks_7 rfl ?_
  refine cV_f dX8_deadLinks_8 (mm_kv i_X8_lineWorks l_X8_308) ⟨(Nat.le_of_ble_eq_true rfl), (Nat.le_of_ble_eq_true rfl)⟩ (c_X8_lineWorks hP) rfl rfl (cP_ow hP) (Nat.le_of_ble_eq_true rfl) rfl ?_
  refine ex_if_eq (tgt := 18) dX8_deadLinks_11 (by decide) (fun c_11 => ?_) (fun c_11 => ?_)
  · refine ex_iconst (v := 1) dX8_deadLinks_18 (by decide) ?_
    refine ex_ior dX8_deadLinks_19 ?_
    refine ex_ireturn dX8_deadLinks_20 ⟨_, rfl, rfl⟩ ?_
    first | exact mm_rq (by rw [cl_dl, if_pos (bb_n.mp c_11)]) | exact mm_rq (by rw [cl_dl, if_neg (bb_0.mp c_11)])
  · refine ex_iconst (v := 0) dX8_deadLinks_14 (by decide) ?_
    refine ex_goto (tgt := 19) dX8_deadLinks_15 (by decide) ?_
    refine ex_ior dX8_deadLinks_19 ?_
    refine ex_ireturn dX8_deadLinks_20 ⟨_, rfl, rfl⟩ ?_
    first | exact mm_rq (by rw [cl_dl, if_pos (bb_n.mp c_11)]) | exact mm_rq (by rw [cl_dl, if_neg (bb_0.mp c_11)])
theorem c_X8_mayGoOn (hP : cl_P h s.1 s.2 c0 n0) : mm_Ct l G mX8_mayGoOn [.ref 0] h (mm_ri (.int (bb ((ca_w s.2.2.1 ≤ 6 ∧ s.2.2.1.2.2 ≤ s.2.2.1.1) ∧ s.2.2.2.2.2.2.1 < 12 ∧ s.2.2.2.2.2.2.2.1 = 0 ∧ ¬ cl_ce s = 100))) h) := by
  refine mm_ct (by decide +kernel) (by decide +kernel) rfl (by simp [Value.category]) (Nat.le_of_ble_eq_true rfl) rfl ?_
  refine ex_aload_n dX8_mayGoOn_0 rfl ?_
  refine ex_getfield dX8_mayGoOn_1 g_X8_19 (cP_ow hP) rfl ?_
  refine cV_f dX8_mayGoOn_4 (mm_kv i_X0_isForWork l_X8_196) ⟨(Nat.le_of_ble_eq_true rfl), (Nat.le_of_ble_eq_true rfl)⟩ (c_X0_isForWork (cP_ca hP)) rfl rfl (cP_ca hP) (Nat.le_of_ble_eq_true rfl) rfl ?_
  refine ex_if_eq (tgt := 37) dX8_mayGoOn_7 (by decide) (fun c_7 => ?_) (fun c_7 => ?_)
  · refine ex_iconst (v := 0) dX8_mayGoOn_37 (by decide) ?_
    refine ex_ireturn dX8_mayGoOn_38 ⟨_, rfl, rfl⟩ ?_
    first | exact bq_f (fun z => bb_0.mp c_7 z.1) | exact bq_f (fun z => Int32.not_le.mpr z.2.1 c_16) | exact bq_f (fun z => c_23 z.2.2.1) | exact bq_f (fun z => z.2.2.2 (bb_n.mp c_30)) | exact bq_t ⟨bb_n.mp c_7, Int32.not_le.mp c_16, c_23, bb_0.mp c_30⟩
  · refine ex_aload_n dX8_mayGoOn_10 rfl ?_
    refine ex_getfield dX8_mayGoOn_11 g_X8_109 (cP_ow hP) rfl ?_
    refine ex_bipush (v := 12) dX8_mayGoOn_14 (by decide) ?_
    refine ex_icmp_ge (tgt := 37) dX8_mayGoOn_16 (by decide) (fun c_16 => ?_) (fun c_16 => ?_)
    · refine ex_iconst (v := 0) dX8_mayGoOn_37 (by decide) ?_
      refine ex_ireturn dX8_mayGoOn_38 ⟨_, rfl, rfl⟩ ?_
      first | exact bq_f (fun z => bb_0.mp c_7 z.1) | exact bq_f (fun z => Int32.not_le.mpr z.2.1 c_16) | exact bq_f (fun z => c_23 z.2.2.1) | exact bq_f (fun z => z.2.2.2 (bb_n.mp c_30)) | exact bq_t ⟨bb_n.mp c_7, Int32.not_le.mp c_16, c_23, bb_0.mp c_30⟩
    · refine ex_aload_n dX8_mayGoOn_19 rfl ?_
      refine ex_getfield dX8_mayGoOn_20 g_X8_112 (cP_ow hP) rfl ?_
      refine ex_if_ne (tgt := 37) dX8_mayGoOn_23 (by decide) (fun c_23 => ?_) (fun c_23 => ?_)
      · refine ex_iconst (v := 0) dX8_mayGoOn_37 (by decide) ?_
        refine ex_ireturn dX8_mayGoOn_38 ⟨_, rfl, rfl⟩ ?_
        first | exact bq_f (fun z => bb_0.mp c_7 z.1) | exact bq_f (fun z => Int32.not_le.mpr z.2.1 c_16) | exact bq_f (fun z => c_23 z.2.2.1) | exact bq_f (fun z => z.2.2.2 (bb_n.mp c_30)) | exact bq_t ⟨bb_n.mp c_7, Int32.not_le.mp c_16, c_23, bb_0.mp c_30⟩
      · refine ex_aload_n dX8_mayGoOn_26 rfl ?_
        refine cV_f dX8_mayGoOn_27 (mm_kv i_X8_liesAtB l_X8_116) ⟨(Nat.le_of_ble_eq_true rfl), (Nat.le_of_ble_eq_true rfl)⟩ (c_X8_liesAtB hP) rfl rfl (cP_ow hP) (Nat.le_of_ble_eq_true rfl) rfl ?_
        refine ex_if_ne (tgt := 37) dX8_mayGoOn_30 (by decide) (fun c_30 => ?_) (fun c_30 => ?_)
        · refine ex_iconst (v := 0) dX8_mayGoOn_37 (by decide) ?_
          refine ex_ireturn dX8_mayGoOn_38 ⟨_, rfl, rfl⟩ ?_
          first | exact bq_f (fun z => bb_0.mp c_7 z.1) | exact bq_f (fun z => Int32.not_le.mpr z.2.1 c_16) | exact bq_f (fun z => c_23 z.2.2.1) | exact bq_f (fun z => z.2.2.2 (bb_n.mp c_30)) | exact bq_t ⟨bb_n.mp c_7, Int32.not_le.mp c_16, c_23, bb_0.mp c_30⟩
        · refine ex_iconst (v := 1) dX8_mayGoOn_33 (by decide) ?_
          refine ex_goto (tgt := 38) dX8_mayGoOn_34 (by decide) ?_
          refine ex_ireturn dX8_mayGoOn_38 ⟨_, rfl, rfl⟩ ?_
          first | exact bq_f (fun z => bb_0.mp c_7 z.1) | exact bq_f (fun z => Int32.not_le.mpr z.2.1 c_16) | exact bq_f (fun z => c_23 z.2.2.1) | exact bq_f (fun z => z.2.2.2 (bb_n.mp c_30)) | exact bq_t ⟨bb_n.mp c_7, Int32.not_le.mp c_16, c_23, bb_0.mp c_30⟩
end PRIV
