def cl_d1 (s : cl_S) : cl_S := (s.1, s.2.1, ca_n s.2.2.1, s.2.2.2.1, s.2.2.2.2.1, s.2.2.2.2.2.1, 0, s.2.2.2.2.2.2.2)
def cl_day (s : cl_S) : cl_S := if s.2.2.2.2.2.2.2.1 = 0 ∧ ¬ cl_ce s = 100 ∧ ca_w (ca_n s.2.2.1) = 9 then cl_buoy (cl_d1 s) else cl_d1 s
section PUB4
variable {l : Launch} {G : mm_G} {h : mm_H} {tb : Nat → List tt_R} {c0 n0 : Nat} {S : se_T} {c : ca_T} {ty cm st : Nat → Int32} {pc mk ce me : Int32} {ho ro : (Nat → Int32) × Int32 × Int32} {la bu lo wa fa fb : Int32} {s : cl_S}
theorem c_X8_passOneDay {k : Nat} (hP : cl_P h tb (S, c, ho, (cm, nI k, me), st, la, bu, lo, wa, fa, fb) c0 n0) (hk : k ≤ 100) (hke : 0 < me → 1 ≤ k) (h3 : (tb 3).length ≤ 19000) : mm_Ct l G mX8_passOneDay [.ref 0] h (mm_qv (fun h' => cl_P h' (cl_day (tb, S, c, ho, (cm, nI k, me), st, la, bu, lo, wa, fa, fb)).1 (cl_day (tb, S, c, ho, (cm, nI k, me), st, la, bu, lo, wa, fa, fb)).2 c0 n0 ∧ cl_F h h')) := by
  refine mm_ct (by decide +kernel) (by decide +kernel) rfl (by simp [Value.category]) (Nat.le_of_ble_eq_true rfl) rfl ?_
  have w1 := cs_6 hP (ca_n c)
  have w2 := cs_0 w1.1 (0, bu, lo, wa, fa, fb)
  have f2 := w1.2.trans w2.2
  refine ex_aload_n dX8_passOneDay_0 rfl ?_
  refine ex_getfield dX8_passOneDay_1 g_X8_19 (cP_ow hP) rfl ?_
  refine cV_v dX8_passOneDay_4 (mm_kv i_X0_nextDay l_X8_106) ⟨(Nat.le_of_ble_eq_true rfl), (Nat.le_of_ble_eq_true rfl)⟩ (c_X0_nextDay (cP_ca hP)) rfl rfl (cP_ca hP) (Nat.le_of_ble_eq_true rfl) rfl ?_
  refine ex_aload_n dX8_passOneDay_7 rfl ?_
  refine ex_iconst (v := 0) dX8_passOneDay_8 (by decide) ?_
  refine ex_put dX8_passOneDay_9 p_X8_109 (cP_ow w1.1) (Nat.le_of_ble_eq_true rfl) (fun z => nomatch z) (mm_fi _) ?_
  skip
  show mm_Ex l G mX8_passOneDay _ 12 [.ref 0] [] (mm_set (mm_set h 6 (ca_C (ca_n c))) 0 (cl_own (0, bu, lo, wa, fa, fb)))
  have p2 := w2.1
  generalize mm_set (mm_set h 6 (ca_C (ca_n c))) 0 (cl_own (0, bu, lo, wa, fa, fb)) = hh at p2 f2
  have hd : cl_d1 (tb, S, c, ho, (cm, nI k, me), st, la, bu, lo, wa, fa, fb) = (tb, S, ca_n c, ho, (cm, nI k, me), st, 0, bu, lo, wa, fa, fb) := rfl
  unfold cl_day
  rw [hd]
  refine ex_aload_n dX8_passOneDay_12 rfl ?_
  refine ex_getfield dX8_passOneDay_13 g_X8_112 (cP_ow p2) rfl ?_
  refine ex_if_ne (tgt := 42) dX8_passOneDay_16 (by decide) (fun c_16 => ?_) (fun c_16 => ?_)
  · refine ex_return dX8_passOneDay_42 rfl ?_
    rw [if_neg (fun z => c_16 z.1)]; exact ⟨rfl, p2, f2⟩
  · refine ex_aload_n dX8_passOneDay_19 rfl ?_
    refine cV_f dX8_passOneDay_20 (mm_kv i_X8_liesAtB l_X8_116) ⟨(Nat.le_of_ble_eq_true rfl), (Nat.le_of_ble_eq_true rfl)⟩ (c_X8_liesAtB (s := (tb, S, ca_n c, ho, (cm, nI k, me), st, 0, bu, lo, wa, fa, fb)) p2) rfl rfl (cP_ow p2) (Nat.le_of_ble_eq_true rfl) rfl ?_
    refine ex_if_ne (tgt := 42) dX8_passOneDay_23 (by decide) (fun c_23 => ?_) (fun c_23 => ?_)
    · refine ex_return dX8_passOneDay_42 rfl ?_
      rw [if_neg (fun z => z.2.1 (bb_n.mp c_23))]; exact ⟨rfl, p2, f2⟩
    · refine ex_aload_n dX8_passOneDay_26 rfl ?_
      refine ex_getfield dX8_passOneDay_27 g_X8_19 (cP_ow p2) rfl ?_
      refine cV_f dX8_passOneDay_30 (mm_kv i_X0_wavesToday l_X8_99) ⟨(Nat.le_of_ble_eq_true rfl), (Nat.le_of_ble_eq_true rfl)⟩ (c_X0_wavesToday (cP_ca p2)) rfl rfl (cP_ca p2) (Nat.le_of_ble_eq_true rfl) rfl ?_
      refine ex_bipush (v := 9) dX8_passOneDay_33 (by decide) ?_
      refine ex_icmp_ne (tgt := 42) dX8_passOneDay_35 (by decide) (fun c_35 => ?_) (fun c_35 => ?_)
      · refine ex_return dX8_passOneDay_42 rfl ?_
        rw [if_neg (fun z => c_35 z.2.2)]; exact ⟨rfl, p2, f2⟩
      · refine ex_aload_n dX8_passOneDay_38 rfl ?_
        refine cV_y dX8_passOneDay_39 (mm_kv i_X8_buoy l_X8_120) ⟨(Nat.le_of_ble_eq_true rfl), (Nat.le_of_ble_eq_true rfl)⟩ (c_X8_buoy p2 hk hke h3) rfl rfl (cP_ow p2) (Nat.le_of_ble_eq_true rfl) rfl ?_
        rintro h3 ⟨p3, f3⟩
        refine ex_return dX8_passOneDay_42 rfl ?_
        rw [if_pos ⟨c_16, bb_0.mp c_23, c_35⟩]; exact ⟨rfl, p3, f2.trans f3⟩
theorem c_X8_day (hP : cl_P h s.1 s.2 c0 n0) : mm_Ct l G mX8_day [.ref 0] h (mm_ri (.int s.2.2.1.1) h) := by
  refine mm_ct (by decide +kernel) (by decide +kernel) rfl (by simp [Value.category]) (Nat.le_of_ble_eq_true rfl) rfl ?_
  refine ex_aload_n dX8_day_0 rfl ?_
  refine ex_getfield dX8_day_1 g_X8_19 (cP_ow hP) rfl ?_
  refine ex_getfield dX8_day_4 g_X8_93 (cP_ca hP) rfl ?_
  refine ex_ireturn dX8_day_7 ⟨_, rfl, rfl⟩ ?_
  exact ⟨rfl, rfl⟩
theorem c_X8_waves (hP : cl_P h s.1 s.2 c0 n0) : mm_Ct l G mX8_waves [.ref 0] h (mm_ri (.int (ca_w s.2.2.1)) h) := by
  refine mm_ct (by decide +kernel) (by decide +kernel) rfl (by simp [Value.category]) (Nat.le_of_ble_eq_true rfl) rfl ?_
  refine ex_aload_n dX8_waves_0 rfl ?_
  refine ex_getfield dX8_waves_1 g_X8_19 (cP_ow hP) rfl ?_
  refine cV_f dX8_waves_4 (mm_kv i_X0_wavesToday l_X8_99) ⟨(Nat.le_of_ble_eq_true rfl), (Nat.le_of_ble_eq_true rfl)⟩ (c_X0_wavesToday (cP_ca hP)) rfl rfl (cP_ca hP) (Nat.le_of_ble_eq_true rfl) rfl ?_
  refine ex_ireturn dX8_waves_7 ⟨_, rfl, rfl⟩ ?_
  exact ⟨rfl, rfl⟩
theorem c_X8_canWork (hP : cl_P h s.1 s.2 c0 n0) : mm_Ct l G mX8_canWork [.ref 0] h (mm_ri (.int (bb (ca_w s.2.2.1 ≤ 6 ∧ s.2.2.1.2.2 ≤ s.2.2.1.1))) h) := by
  refine mm_ct (by decide +kernel) (by decide +kernel) rfl (by simp [Value.category]) (Nat.le_of_ble_eq_true rfl) rfl ?_
  refine ex_aload_n dX8_canWork_0 rfl ?_
  refine ex_getfield dX8_canWork_1 g_X8_19 (cP_ow hP) rfl ?_
  refine cV_f dX8_canWork_4 (mm_kv i_X0_isForWork l_X8_196) ⟨(Nat.le_of_ble_eq_true rfl), (Nat.le_of_ble_eq_true rfl)⟩ (c_X0_isForWork (cP_ca hP)) rfl rfl (cP_ca hP) (Nat.le_of_ble_eq_true rfl) rfl ?_
  refine ex_ireturn dX8_canWork_7 ⟨_, rfl, bb_r⟩ ?_
  exact ⟨rfl, rfl⟩
end PUB4
