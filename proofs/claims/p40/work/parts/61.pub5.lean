def cm_metre (s : cl_S) (p : Int32) : cl_R × cl_S := if 0 ≤ p ∧ p < cl_me s then (.inl (some (ro_ma p (s.1 2) 0)), s) else (.inr cx_i, s)
def cm_metreAnew (s : cl_S) (p : Int32) : cl_R × cl_S := if 0 ≤ p ∧ p < cl_me s then (.inl (some (de_m (s.1 3).reverse p)), s) else (.inr cx_i, s)
section PUB5
variable {l : Launch} {G : mm_G} {h : mm_H} {c0 n0 : Nat} {s : cl_S}
theorem c_X8_metre (hl : l.stackTraces = false) (hP : cl_P h s.1 s.2 c0 n0) (p : Int32) : mm_Ct l G mX8_metre [.ref 0, .int p] h (cl_A (cm_metre s p) c0 n0 h) := by
  refine mm_ct (by decide +kernel) (by decide +kernel) rfl (by simp [Value.category]) (Nat.le_of_ble_eq_true rfl) rfl ?_
  refine ex_iload_n dX8_metre_0 rfl ?_
  refine ex_aload_n dX8_metre_1 rfl ?_
  refine ex_getfield dX8_metre_2 g_X8_33 (cP_ow hP) rfl ?_
  refine ex_getfield dX8_metre_5 g_X8_123 (cP_ro hP) rfl ?_
  refine cS_n dX8_metre_8 (mm_ks i_X8_needIndex l_X8_281) ⟨(Nat.le_of_ble_eq_true rfl), (Nat.le_of_ble_eq_true rfl)⟩ (c_X8_needIndex hl _ _) rfl rfl (Nat.le_of_ble_eq_true rfl) rfl (fun b_8 => ?_) (fun b_8 => ?_)
  · rw [cm_metre, if_neg (show ¬ (0 ≤ p ∧ p < cl_me s) from bb_0.mp b_8)]; exact cA_x hP
  rw [cm_metre, if_pos (show 0 ≤ p ∧ p < cl_me s from bb_n.mp b_8)]
  refine ex_aload_n dX8_metre_11 rfl ?_
  refine ex_getfield dX8_metre_12 g_X8_33 (cP_ow hP) rfl ?_
  refine ex_iload_n dX8_metre_15 rfl ?_
  refine cV_f dX8_metre_16 (mm_kv i_X5_metreAt l_X8_327) ⟨(Nat.le_of_ble_eq_true rfl), (Nat.le_of_ble_eq_true rfl)⟩ (c_X5_metreAt hP.1 (cP_ro hP) _) rfl rfl (cP_ro hP) (Nat.le_of_ble_eq_true rfl) rfl ?_
  refine ex_ireturn dX8_metre_19 ⟨_, rfl, rfl⟩ ?_
  exact cA_i hP (cl_F.refl _)
theorem c_X8_metreAnew (hl : l.stackTraces = false) (hP : cl_P h s.1 s.2 c0 n0) (p : Int32) : mm_Ct l G mX8_metreAnew [.ref 0, .int p] h (cl_A (cm_metreAnew s p) c0 n0 h) := by
  refine mm_ct (by decide +kernel) (by decide +kernel) rfl (by simp [Value.category]) (Nat.le_of_ble_eq_true rfl) rfl ?_
  refine ex_iload_n dX8_metreAnew_0 rfl ?_
  refine ex_aload_n dX8_metreAnew_1 rfl ?_
  refine ex_getfield dX8_metreAnew_2 g_X8_33 (cP_ow hP) rfl ?_
  refine ex_getfield dX8_metreAnew_5 g_X8_123 (cP_ro hP) rfl ?_
  refine cS_n dX8_metreAnew_8 (mm_ks i_X8_needIndex l_X8_281) ⟨(Nat.le_of_ble_eq_true rfl), (Nat.le_of_ble_eq_true rfl)⟩ (c_X8_needIndex hl _ _) rfl rfl (Nat.le_of_ble_eq_true rfl) rfl (fun b_8 => ?_) (fun b_8 => ?_)
  · rw [cm_metreAnew, if_neg (show ¬ (0 ≤ p ∧ p < cl_me s) from bb_0.mp b_8)]; exact cA_x hP
  rw [cm_metreAnew, if_pos (show 0 ≤ p ∧ p < cl_me s from bb_n.mp b_8)]
  refine ex_aload_n dX8_metreAnew_11 rfl ?_
  refine ex_getfield dX8_metreAnew_12 g_X8_33 (cP_ow hP) rfl ?_
  refine ex_iload_n dX8_metreAnew_15 rfl ?_
  refine cV_f dX8_metreAnew_16 (mm_kv i_X5_metreByDeeds l_X8_330) ⟨(Nat.le_of_ble_eq_true rfl), (Nat.le_of_ble_eq_true rfl)⟩ (c_X5_metreByDeeds hP.1 (cP_ro hP) (cP_de hP) _) rfl rfl (cP_ro hP) (Nat.le_of_ble_eq_true rfl) rfl ?_
  refine ex_ireturn dX8_metreAnew_19 ⟨_, rfl, rfl⟩ ?_
  exact cA_i hP (cl_F.refl _)
end PUB5
