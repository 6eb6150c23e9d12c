def cm_way (s : cl_S) (n : Int32) : cl_R × cl_S := if 0 ≤ n ∧ n < nI (s.1 6).length then (.inl (some (tt_g (s.1 6) n 3)), s) else (.inr cx_i, s)
def cm_metre (s : cl_S) (p : Int32) : cl_R × cl_S := if 0 ≤ p ∧ p < cl_me s then (.inl (some (ro_ma p (s.1 2) 0)), s) else (.inr cx_i, s)
def cm_metreAnew (s : cl_S) (p : Int32) : cl_R × cl_S := if 0 ≤ p ∧ p < cl_me s then (.inl (some (de_m (s.1 3).reverse p)), s) else (.inr cx_i, s)
def cm_ofFault (s : cl_S) (n w : Int32) : cl_R × cl_S := if 0 ≤ n ∧ n < nI (s.1 4).length then (if ii w 0 2 then (.inl (some (tt_g (s.1 4) n (if w = 0 then 0 else if w = 1 then 2 else 3))), s) else (.inr cx_a, s)) else (.inr cx_i, s)
def cm_isLit (s : cl_S) (n : Int32) : cl_R × cl_S := if 0 ≤ n ∧ n < nI (s.1 6).length then (.inl (some (bb (¬ tt_g (s.1 6) n 3 = 0 ∧ tt_g (s.1 6) n 3 &&& cl_dl s = 0))), s) else (.inr cx_i, s)
def cm_tension (s : cl_S) (t i : Int32) : cl_R × cl_S := if ii t 0 3 ∧ ii i 0 99 then (.inl (some (ho_pl t (se_d s.2.1 i))), s) else (.inr cx_a, s)
section PUB5
variable {l : Launch} {G : mm_G} {h : mm_H} {c0 n0 : Nat} {s : cl_S}
theorem c_X8_way (hl : l.stackTraces = false) (hP : cl_P h s.1 s.2 c0 n0) (n : Int32) : mm_Ct l G mX8_way [.ref 0, .int n] h (cl_A (cm_way s n) c0 n0 h) := by
  obtain ⟨v, hv⟩ := tS_row hP.1 6 (by decide)
  refine mm_ct (by decide +kernel) (by decide +kernel) rfl (by simp [Value.category]) (Nat.le_of_ble_eq_true rfl) rfl ?_
  refine ex_iload_n dX8_way_0 rfl ?_
  refine ex_aload_n dX8_way_1 rfl ?_
  refine ex_getfield dX8_way_2 g_X8_47 (cP_ow hP) rfl ?_
  refine ex_getfield dX8_way_5 g_X8_287 (cP_nw hP) rfl ?_
  refine ex_getfield dX8_way_8 g_X8_203 hv rfl ?_
  refine cS_n dX8_way_11 (mm_ks i_X8_needIndex l_X8_281) ⟨(Nat.le_of_ble_eq_true rfl), (Nat.le_of_ble_eq_true rfl)⟩ (c_X8_needIndex hl _ _) rfl rfl (Nat.le_of_ble_eq_true rfl) rfl (fun b_11 => ?_) (fun b_11 => ?_)
  · rw [cm_way, if_neg (bb_0.mp b_11)]; exact cA_x hP
  rw [cm_way, if_pos (bb_n.mp b_11)]
  refine ex_aload_n dX8_way_14 rfl ?_
  refine ex_getfield dX8_way_15 g_X8_47 (cP_ow hP) rfl ?_
  refine ex_iload_n dX8_way_18 rfl ?_
  refine cV_f dX8_way_19 (mm_kv i_X4_wayOf l_X8_302) ⟨(Nat.le_of_ble_eq_true rfl), (Nat.le_of_ble_eq_true rfl)⟩ (c_X4_wayOf hP.1 (cP_nw hP) _) rfl rfl (cP_nw hP) (Nat.le_of_ble_eq_true rfl) rfl ?_
  refine ex_ireturn dX8_way_22 ⟨_, rfl, rfl⟩ ?_
  exact cA_i hP (cl_F.refl _)
theorem c_X8_isLit (hl : l.stackTraces = false) (hP : cl_P h s.1 s.2 c0 n0) (n : Int32) : mm_Ct l G mX8_isLit [.ref 0, .int n] h (cl_A (cm_isLit s n) c0 n0 h) := by
  obtain ⟨v, hv⟩ := tS_row hP.1 6 (by decide)
  refine mm_ct (by decide +kernel) (by decide +kernel) rfl (by simp [Value.category]) (Nat.le_of_ble_eq_true rfl) rfl ?_
  refine ex_iload_n dX8_isLit_0 rfl ?_
  refine ex_aload_n dX8_isLit_1 rfl ?_
  refine ex_getfield dX8_isLit_2 g_X8_47 (cP_ow hP) rfl ?_
  refine ex_getfield dX8_isLit_5 g_X8_287 (cP_nw hP) rfl ?_
  refine ex_getfield dX8_isLit_8 g_X8_203 hv rfl ?_
  refine cS_n dX8_isLit_11 (mm_ks i_X8_needIndex l_X8_281) ⟨(Nat.le_of_ble_eq_true rfl), (Nat.le_of_ble_eq_true rfl)⟩ (c_X8_needIndex hl _ _) rfl rfl (Nat.le_of_ble_eq_true rfl) rfl (fun b_11 => ?_) (fun b_11 => ?_)
  · rw [cm_isLit, if_neg (bb_0.mp b_11)]; exact cA_x hP
  rw [cm_isLit, if_pos (bb_n.mp b_11)]
  refine ex_aload_n dX8_isLit_14 rfl ?_
  refine ex_getfield dX8_isLit_15 g_X8_47 (cP_ow hP) rfl ?_
  refine ex_iload_n dX8_isLit_18 rfl ?_
  refine cV_f dX8_isLit_19 (mm_kv i_X4_wayOf l_X8_302) ⟨(Nat.le_of_ble_eq_true rfl), (Nat.le_of_ble_eq_true rfl)⟩ (c_X4_wayOf hP.1 (cP_nw hP) _) rfl rfl (cP_nw hP) (Nat.le_of_ble_eq_true rfl) rfl ?_
  refine ex_istore_n dX8_isLit_22 (Nat.le_of_ble_eq_true rfl) ?_
  refine ex_iload_n dX8_isLit_23 rfl ?_
  refine ex_if_eq (tgt := 40) dX8_isLit_24 (by decide) (fun c_24 => ?_) (fun c_24 => ?_)
  · refine ex_iconst (v := 0) dX8_isLit_40 (by decide) ?_
    refine ex_ireturn dX8_isLit_41 ⟨_, rfl, rfl⟩ ?_
    rw [bb_f (fun z => z.1 c_24)]; exact cA_i hP (cl_F.refl _)
  · refine ex_iload_n dX8_isLit_27 rfl ?_
    refine ex_aload_n dX8_isLit_28 rfl ?_
    refine cV_f dX8_isLit_29 (mm_kv i_X8_deadLinks l_X8_290) ⟨(Nat.le_of_ble_eq_true rfl), (Nat.le_of_ble_eq_true rfl)⟩ (c_X8_deadLinks hP) rfl rfl (cP_ow hP) (Nat.le_of_ble_eq_true rfl) rfl ?_
    refine ex_iand dX8_isLit_32 ?_
    refine ex_if_ne (tgt := 40) dX8_isLit_33 (by decide) (fun c_33 => ?_) (fun c_33 => ?_)
    · refine ex_iconst (v := 0) dX8_isLit_40 (by decide) ?_
      refine ex_ireturn dX8_isLit_41 ⟨_, rfl, rfl⟩ ?_
      rw [bb_f (fun z => c_33 z.2)]; exact cA_i hP (cl_F.refl _)
    · refine ex_iconst (v := 1) dX8_isLit_36 (by decide) ?_
      refine ex_goto (tgt := 41) dX8_isLit_37 (by decide) ?_
      refine ex_ireturn dX8_isLit_41 ⟨_, rfl, rfl⟩ ?_
      rw [bb_t ⟨c_24, c_33⟩]; exact cA_i hP (cl_F.refl _)
theorem c_X8_metre (hl : l.stackTraces = false) (hP : cl_P h s.1 s.2 c0 n0) (p : Int32) : mm_Ct l G mX8_metre [.ref 0, .int p] h (cl_A (cm_metre s p) c0 n0 h) := by
  refine mm_ct (by decide +kernel) (by decide +kernel) rfl (by simp [Value.category]) (Nat.le_of_ble_eq_true rfl) rfl ?_
  refine ex_iload_n dX8_metre_0 rfl ?_
  refine ex_aload_n dX8_metre_1 rfl ?_
  refine ex_getfield dX8_metre_2 g_X8_33 (cP_ow hP) rfl ?_
  refine ex_getfield dX8_metre_5 g_X8_123 (cP_ro hP) rfl ?_
  refine cS_n dX8_metre_8 (mm_ks i_X8_needIndex l_X8_281) ⟨(Nat.le_of_ble_eq_true rfl), (Nat.le_of_ble_eq_true rfl)⟩ (c_X8_needIndex hl _ _) rfl rfl (Nat.le_of_ble_eq_true rfl) rfl (fun b_8 => ?_) (fun b_8 => ?_)
  · rw [cm_metre, if_neg (show ¬ (0 ≤ p ∧ p < cl_me s) from bb_0.mp b_8)]; exact cA_x hP
  rw [cm_metre, if_pos (show 0 ≤ p ∧ p < cl_me s from bb_n.mp b_8)]
  refine ex_aload_n dX8_metre_11 rfl ?_
  refine ex_getfield dX8_metre_12 g_X8_33 (cP_ow hP) rfl ?_
  refine ex_iload_n dX8_metre_15 rfl ?_
  refine cV_f dX8_metre_16 (mm_kv i_X5_metreAt l_X8_327) ⟨(Nat.le_of_ble_eq_true rfl), (Nat.le_of_ble_eq_true rfl)⟩ (c_X5_metreAt hP.1 (cP_ro hP) _) rfl rfl (cP_ro hP) (Nat.le_of_ble_eq_true rfl) rfl ?_
  refine ex_ireturn dX8_metre_19 ⟨_, rfl, rfl⟩ ?_
  exact cA_i hP (cl_F.refl _)
theorem c_X8_metreAnew (hl : l.stackTraces = false) (hP : cl_P h s.1 s.2 c0 n0) (p : Int32) : mm_Ct l G mX8_metreAnew [.ref 0, .int p] h (cl_A (cm_metreAnew s p) c0 n0 h) := by
  refine mm_ct (by decide +kernel) (by decide +kernel) rfl (by simp [Value.category]) (Nat.le_of_ble_eq_true rfl) rfl ?_
  refine ex_iload_n dX8_metreAnew_0 rfl ?_
  refine ex_aload_n dX8_metreAnew_1 rfl ?_
  refine ex_getfield dX8_metreAnew_2 g_X8_33 (cP_ow hP) rfl ?_
  refine ex_getfield dX8_metreAnew_5 g_X8_123 (cP_ro hP) rfl ?_
  refine cS_n dX8_metreAnew_8 (mm_ks i_X8_needIndex l_X8_281) ⟨(Nat.le_of_ble_eq_true rfl), (Nat.le_of_ble_eq_true rfl)⟩ (c_X8_needIndex hl _ _) rfl rfl (Nat.le_of_ble_eq_true rfl) rfl (fun b_8 => ?_) (fun b_8 => ?_)
  · rw [cm_metreAnew, if_neg (show ¬ (0 ≤ p ∧ p < cl_me s) from bb_0.mp b_8)]; exact cA_x hP
  rw [cm_metreAnew, if_pos (show 0 ≤ p ∧ p < cl_me s from bb_n.mp b_8)]
  refine ex_aload_n dX8_metreAnew_11 rfl ?_
  refine ex_getfield dX8_metreAnew_12 g_X8_33 (cP_ow hP) rfl ?_
  refine ex_iload_n dX8_metreAnew_15 rfl ?_
  refine cV_f dX8_metreAnew_16 (mm_kv i_X5_metreByDeeds l_X8_330) ⟨(Nat.le_of_ble_eq_true rfl), (Nat.le_of_ble_eq_true rfl)⟩ (c_X5_metreByDeeds hP.1 (cP_ro hP) (cP_de hP) _) rfl rfl (cP_ro hP) (Nat.le_of_ble_eq_true rfl) rfl ?_
  refine ex_ireturn dX8_metreAnew_19 ⟨_, rfl, rfl⟩ ?_
  exact cA_i hP (cl_F.refl _)
theorem c_X8_ofFault (hl : l.stackTraces = false) (hP : cl_P h s.1 s.2 c0 n0) (n w : Int32) : mm_Ct l G mX8_ofFault [.ref 0, .int n, .int w] h (cl_A (cm_ofFault s n w) c0 n0 h) := by
  refine mm_ct (by decide +kernel) (by decide +kernel) rfl (by simp [Value.category]) (Nat.le_of_ble_eq_true rfl) rfl ?_
  refine ex_iload_n dX8_ofFault_0 rfl ?_
  refine ex_aload_n dX8_ofFault_1 rfl ?_
  refine ex_getfield dX8_ofFault_2 g_X8_40 (cP_ow hP) rfl ?_
  refine cV_f dX8_ofFault_5 (mm_kv i_X2_size l_X8_232) ⟨(Nat.le_of_ble_eq_true rfl), (Nat.le_of_ble_eq_true rfl)⟩ (c_X2_size hP.1 (cP_bk hP)) rfl rfl (cP_bk hP) (Nat.le_of_ble_eq_true rfl) rfl ?_
  refine cS_n dX8_ofFault_8 (mm_ks i_X8_needIndex l_X8_281) ⟨(Nat.le_of_ble_eq_true rfl), (Nat.le_of_ble_eq_true rfl)⟩ (c_X8_needIndex hl _ _) rfl rfl (Nat.le_of_ble_eq_true rfl) rfl (fun b_8 => ?_) (fun b_8 => ?_)
  · rw [cm_ofFault, if_neg (bb_0.mp b_8)]; exact cA_x hP
  rw [cm_ofFault, if_pos (bb_n.mp b_8)]
  refine ex_iload_n dX8_ofFault_11 rfl ?_
  refine ex_iconst (v := 0) dX8_ofFault_12 (by decide) ?_
  refine ex_iconst (v := 2) dX8_ofFault_13 (by decide) ?_
  refine cS_f dX8_ofFault_14 (mm_ks i_X8_isIn l_X8_55) ⟨(Nat.le_of_ble_eq_true rfl), (Nat.le_of_ble_eq_true rfl)⟩ (c_X8_isIn _ _ _) rfl rfl (Nat.le_of_ble_eq_true rfl) rfl ?_
  refine cS_n dX8_ofFault_17 (mm_ks i_X8_needArgument l_X8_59) ⟨(Nat.le_of_ble_eq_true rfl), (Nat.le_of_ble_eq_true rfl)⟩ (c_X8_needArgument hl _) rfl rfl (Nat.le_of_ble_eq_true rfl) rfl (fun b_17 => ?_) (fun b_17 => ?_)
  · rw [if_neg (bb_0.mp b_17)]; exact cA_x hP
  rw [if_pos (bb_n.mp b_17)]
  refine ex_aload_n dX8_ofFault_20 rfl ?_
  refine ex_getfield dX8_ofFault_21 g_X8_40 (cP_ow hP) rfl ?_
  refine ex_iload_n dX8_ofFault_24 rfl ?_
  refine ex_iload_n dX8_ofFault_25 rfl ?_
  refine cV_f dX8_ofFault_26 (mm_kv i_X2_tell l_X8_342) ⟨(Nat.le_of_ble_eq_true rfl), (Nat.le_of_ble_eq_true rfl)⟩ (c_X2_tell hP.1 (cP_bk hP) _ _) rfl rfl (cP_bk hP) (Nat.le_of_ble_eq_true rfl) rfl ?_
  refine ex_ireturn dX8_ofFault_29 ⟨_, rfl, rfl⟩ ?_
  exact cA_i hP (cl_F.refl _)
theorem c_X8_tension (hl : l.stackTraces = false) (hP : cl_P h s.1 s.2 c0 n0) (t i : Int32) : mm_Ct l G mX8_tension [.ref 0, .int t, .int i] h (cl_A (cm_tension s t i) c0 n0 h) := by
  refine mm_ct (by decide +kernel) (by decide +kernel) rfl (by simp [Value.category]) (Nat.le_of_ble_eq_true rfl) rfl ?_
  refine mm_via (p := ii t 0 3 ∧ ii i 0 99) (pc' := 19) (ls' := [.ref 0, .int t, .int i]) (st := []) (fun b hb => ?_) (fun k => ?_)
  · skip
    refine cS_n dX8_tension_19 (mm_ks i_X8_needArgument l_X8_59) ⟨(Nat.le_of_ble_eq_true rfl), (Nat.le_of_ble_eq_true rfl)⟩ (c_X8_needArgument hl _) rfl rfl (Nat.le_of_ble_eq_true rfl) rfl (fun b_19 => ?_) (fun b_19 => ?_)
    · rw [cm_tension, if_neg (bb_0.mp (hb ▸ b_19))]; exact cA_x hP
    rw [cm_tension, if_pos (bb_n.mp (hb ▸ b_19))]
    refine ex_iload_n dX8_tension_22 rfl ?_
    refine ex_aload_n dX8_tension_23 rfl ?_
    refine ex_getfield dX8_tension_24 g_X8_10 (cP_ow hP) rfl ?_
    refine ex_iload_n dX8_tension_27 rfl ?_
    refine cV_f dX8_tension_28 (mm_kv i_X6_depthOf l_X8_74) ⟨(Nat.le_of_ble_eq_true rfl), (Nat.le_of_ble_eq_true rfl)⟩ (c_X6_depthOf (cP_se hP) _) rfl rfl (cP_se hP).1 (Nat.le_of_ble_eq_true rfl) rfl ?_
    refine cS_f dX8_tension_31 (mm_ks i_X3_pull l_X8_311) ⟨(Nat.le_of_ble_eq_true rfl), (Nat.le_of_ble_eq_true rfl)⟩ (c_X3_pull _ _) rfl rfl (Nat.le_of_ble_eq_true rfl) rfl ?_
    refine ex_ireturn dX8_tension_34 ⟨_, rfl, rfl⟩ ?_
    exact cA_i hP (cl_F.refl _)
  · skip
    refine ex_iload_n dX8_tension_0 rfl ?_
    refine cS_f dX8_tension_1 (mm_ks i_X8_isType l_X8_148) ⟨(Nat.le_of_ble_eq_true rfl), (Nat.le_of_ble_eq_true rfl)⟩ (c_X8_isType _) rfl rfl (Nat.le_of_ble_eq_true rfl) rfl ?_
    refine ex_if_eq (tgt := 18) dX8_tension_4 (by decide) (fun c_4 => ?_) (fun c_4 => ?_)
    · refine ex_iconst (v := 0) dX8_tension_18 (by decide) ?_
      first | exact k _ (bb_f (fun z => bb_0.mp c_4 z.1)).symm | exact k _ (bb_f (fun z => bb_0.mp c_11 z.2)).symm | exact k _ (bb_t ⟨bb_n.mp c_4, bb_n.mp c_11⟩).symm
    · refine ex_iload_n dX8_tension_7 rfl ?_
      refine cS_f dX8_tension_8 (mm_ks i_X8_isCell l_X8_51) ⟨(Nat.le_of_ble_eq_true rfl), (Nat.le_of_ble_eq_true rfl)⟩ (c_X8_isCell _) rfl rfl (Nat.le_of_ble_eq_true rfl) rfl ?_
      refine ex_if_eq (tgt := 18) dX8_tension_11 (by decide) (fun c_11 => ?_) (fun c_11 => ?_)
      · refine ex_iconst (v := 0) dX8_tension_18 (by decide) ?_
        first | exact k _ (bb_f (fun z => bb_0.mp c_4 z.1)).symm | exact k _ (bb_f (fun z => bb_0.mp c_11 z.2)).symm | exact k _ (bb_t ⟨bb_n.mp c_4, bb_n.mp c_11⟩).symm
      · refine ex_iconst (v := 1) dX8_tension_14 (by decide) ?_
        refine ex_goto (tgt := 19) dX8_tension_15 (by decide) ?_
        first | exact k _ (bb_f (fun z => bb_0.mp c_4 z.1)).symm | exact k _ (bb_f (fun z => bb_0.mp c_11 z.2)).symm | exact k _ (bb_t ⟨bb_n.mp c_4, bb_n.mp c_11⟩).symm
end PUB5
