def cl_buoy (s : cl_S) : cl_S := if mn 200 (cl_me s) ≤ 0
  then (va_up s.1 4 ((fa_k (cl_me s) (s.1 4).reverse []).map (fun r => (r.1, r.2.1, 0, cl_me s))), s.2.1, s.2.2.1, s.2.2.2.1, s.2.2.2.2.1, s.2.2.2.2.2.1, s.2.2.2.2.2.2.1, 1, mn 200 (cl_me s), s.2.2.2.2.2.2.2.2.2.1 + mn 200 (cl_me s), s.2.2.2.2.2.2.2.2.2.2)
  else (va_up (va_up (va_up s.1 3 (s.1 3 ++ [(cl_me s - mn 200 (cl_me s), -1, -1, mn 200 (cl_me s))])) 2 (ro_le (s.1 2).reverse (mn 200 (cl_me s)))) 4 ((fa_k (cl_me s - mn 200 (cl_me s)) (s.1 4).reverse []).map (fun r => (r.1, r.2.1, 0, cl_me s - mn 200 (cl_me s)))), s.2.1, s.2.2.1, s.2.2.2.1, (upd s.2.2.2.2.1.1 (cl_ce s - 1).toNatClampNeg (s.2.2.2.2.1.1 (cl_ce s - 1).toNatClampNeg + -(mn 200 (cl_me s))), cl_ce s, cl_me s - mn 200 (cl_me s)), s.2.2.2.2.2.1, s.2.2.2.2.2.2.1, 1, mn 200 (cl_me s), s.2.2.2.2.2.2.2.2.2.1 + mn 200 (cl_me s), s.2.2.2.2.2.2.2.2.2.2)
section PUB3
variable {l : Launch} {G : mm_G} {h : mm_H} {tb : Nat → List tt_R} {c0 n0 : Nat} {S : se_T} {c : ca_T} {ty cm st : Nat → Int32} {pc mk ce me : Int32} {ho ro : (Nat → Int32) × Int32 × Int32} {la bu lo wa fa fb : Int32}
theorem c_X8_buoy {k : Nat} (hP : cl_P h tb (S, c, ho, (cm, nI k, me), st, la, bu, lo, wa, fa, fb) c0 n0) (hk : k ≤ 100) (hke : 0 < me → 1 ≤ k) (h3 : (tb 3).length ≤ 19000) : mm_Ct l G mX8_buoy [.ref 0] h (mm_qv (fun h' => cl_P h' (cl_buoy (tb, S, c, ho, (cm, nI k, me), st, la, bu, lo, wa, fa, fb)).1 (cl_buoy (tb, S, c, ho, (cm, nI k, me), st, la, bu, lo, wa, fa, fb)).2 c0 n0 ∧ cl_F h h')) := by
  refine mm_ct (by decide +kernel) (by decide +kernel) rfl (by simp [Value.category]) (Nat.le_of_ble_eq_true rfl) rfl ?_
  have w0 := cs_0 hP (la, 1, mn 200 me, wa + mn 200 me, fa, fb)
  refine ex_aload_n dX8_buoy_0 rfl ?_
  refine ex_iconst (v := 1) dX8_buoy_1 (by decide) ?_
  refine ex_put dX8_buoy_2 p_X8_112 (cP_ow hP) (Nat.le_of_ble_eq_true rfl) (fun z => nomatch z) (mm_fz (Or.inr rfl)) ?_
  refine ex_aload_n dX8_buoy_5 rfl ?_
  refine ex_sipush (v := 200) dX8_buoy_6 (by decide) ?_
  refine ex_aload_n dX8_buoy_9 rfl ?_
  refine ex_getfield dX8_buoy_10 g_X8_33 mm_set_at rfl ?_
  refine ex_getfield dX8_buoy_13 g_X8_123 (mm_set_ne (by decide) (cP_ro hP)) rfl ?_
  refine ex_min dX8_buoy_16 i_J9_min_7cf53 l_X8_126 (Nat.le_of_ble_eq_true rfl) (Nat.le_of_ble_eq_true rfl) ?_
  refine ex_put dX8_buoy_19 p_X8_132 mm_set_at (Nat.le_of_ble_eq_true rfl) (fun z => nomatch z) (mm_fi _) ?_
  refine ex_aload_n dX8_buoy_22 rfl ?_
  refine ex_dup dX8_buoy_23 rfl ?_
  refine ex_getfield dX8_buoy_24 g_X8_135 mm_set_at rfl ?_
  refine ex_aload_n dX8_buoy_27 rfl ?_
  refine ex_getfield dX8_buoy_28 g_X8_132 mm_set_at rfl ?_
  refine ex_iadd dX8_buoy_31 ?_
  refine ex_put dX8_buoy_32 p_X8_135 mm_set_at (Nat.le_of_ble_eq_true rfl) (fun z => nomatch z) (mm_fi _) ?_
  skip
  rw [mm_set_set, mm_set_set]
  show mm_Ex l G mX8_buoy _ 35 [.ref 0] [] (mm_set h 0 (cl_own (la, 1, mn 200 me, wa + mn 200 me, fa, fb)))
  obtain ⟨p0, f0⟩ := w0
  generalize mm_set h 0 (cl_own (la, 1, mn 200 me, wa + mn 200 me, fa, fb)) = hh at p0 f0
  unfold cl_buoy
  by_cases hn : mn 200 me ≤ 0
  · rw [if_pos (show mn 200 (cl_me (tb, S, c, ho, (cm, nI k, me), st, la, bu, lo, wa, fa, fb)) ≤ 0 from hn)]
    refine ex_aload_n dX8_buoy_35 rfl ?_
    refine ex_getfield dX8_buoy_36 g_X8_33 (cP_ow p0) rfl ?_
    refine ex_aload_n dX8_buoy_39 rfl ?_
    refine ex_getfield dX8_buoy_40 g_X8_132 (cP_ow p0) rfl ?_
    refine cV_v dX8_buoy_43 (mm_kv i_X5_loseEnd l_X8_138) ⟨(Nat.le_of_ble_eq_true rfl), (Nat.le_of_ble_eq_true rfl)⟩ (c_X5_loseEnd0 _ hn) rfl rfl (cP_ro p0) (Nat.le_of_ble_eq_true rfl) rfl ?_
    refine ex_aload_n dX8_buoy_46 rfl ?_
    refine ex_getfield dX8_buoy_47 g_X8_40 (cP_ow p0) rfl ?_
    refine ex_aload_n dX8_buoy_50 rfl ?_
    refine ex_getfield dX8_buoy_51 g_X8_33 (cP_ow p0) rfl ?_
    refine ex_getfield dX8_buoy_54 g_X8_123 (cP_ro p0) rfl ?_
    refine cV_y dX8_buoy_57 (mm_kv i_X2_dropFrom l_X8_142) ⟨(Nat.le_of_ble_eq_true rfl), (Nat.le_of_ble_eq_true rfl)⟩ (c_X2_dropFrom p0.1 (cP_bk p0) _) rfl rfl (cP_bk p0) (Nat.le_of_ble_eq_true rfl) rfl ?_
    rintro h1 ⟨q1, t1⟩
    have p1 := cP_tab p0 q1 t1
    refine ex_aload_n dX8_buoy_60 rfl ?_
    refine ex_getfield dX8_buoy_61 g_X8_40 (cP_ow p1) rfl ?_
    refine ex_aload_n dX8_buoy_64 rfl ?_
    refine ex_getfield dX8_buoy_65 g_X8_33 (cP_ow p1) rfl ?_
    refine ex_getfield dX8_buoy_68 g_X8_123 (cP_ro p1) rfl ?_
    refine cV_y dX8_buoy_71 (mm_kv i_X2_beginAnew l_X8_145) ⟨(Nat.le_of_ble_eq_true rfl), (Nat.le_of_ble_eq_true rfl)⟩ (c_X2_beginAnew p1.1 (cP_bk p1) _) rfl rfl (cP_bk p1) (Nat.le_of_ble_eq_true rfl) rfl ?_
    rintro h2 ⟨q2, t2⟩
    rw [va_uu] at q2
    have p2 := cP_tab p1 q2 t2
    refine ex_return dX8_buoy_74 rfl ?_
    exact ⟨rfl, p2, f0.trans ((cl_Ft t1).trans (cl_Ft t2))⟩
  · rw [if_neg (show ¬ mn 200 (cl_me (tb, S, c, ho, (cm, nI k, me), st, la, bu, lo, wa, fa, fb)) ≤ 0 from hn)]
    have hme : 0 < me := by
      rcases Int32.lt_or_le 0 me with z | z
      · exact z
      · exact absurd (show mn 200 me ≤ 0 by unfold mn; rw [if_pos (Int32.lt_of_le_of_lt z (by decide))]; exact z) hn
    obtain ⟨k, rfl⟩ : ∃ j, k = j + 1 := ⟨k - 1, by have := hke hme; omega⟩
    have ek : (cl_ce (tb, S, c, ho, (cm, nI (k + 1), me), st, la, bu, lo, wa, fa, fb) - 1).toNatClampNeg = k := by show (nI (k + 1) - 1).toNatClampNeg = k; rw [nI_m1]; exact nI_clamp (by omega)
    rw [ek]
    refine ex_aload_n dX8_buoy_35 rfl ?_
    refine ex_getfield dX8_buoy_36 g_X8_33 (cP_ow p0) rfl ?_
    refine ex_aload_n dX8_buoy_39 rfl ?_
    refine ex_getfield dX8_buoy_40 g_X8_132 (cP_ow p0) rfl ?_
    refine cV_y dX8_buoy_43 (mm_kv i_X5_loseEnd l_X8_138) ⟨(Nat.le_of_ble_eq_true rfl), (Nat.le_of_ble_eq_true rfl)⟩ (c_X5_loseEnd p0 (by omega) (by omega) _ (Int32.not_le.mp hn)) rfl rfl (cP_ro p0) (Nat.le_of_ble_eq_true rfl) rfl ?_
    rintro h9 ⟨p9, f9⟩
    refine ex_aload_n dX8_buoy_46 rfl ?_
    refine ex_getfield dX8_buoy_47 g_X8_40 (cP_ow p9) rfl ?_
    refine ex_aload_n dX8_buoy_50 rfl ?_
    refine ex_getfield dX8_buoy_51 g_X8_33 (cP_ow p9) rfl ?_
    refine ex_getfield dX8_buoy_54 g_X8_123 (cP_ro p9) rfl ?_
    refine cV_y dX8_buoy_57 (mm_kv i_X2_dropFrom l_X8_142) ⟨(Nat.le_of_ble_eq_true rfl), (Nat.le_of_ble_eq_true rfl)⟩ (c_X2_dropFrom p9.1 (cP_bk p9) _) rfl rfl (cP_bk p9) (Nat.le_of_ble_eq_true rfl) rfl ?_
    rintro h1 ⟨q1, t1⟩
    have p1 := cP_tab p9 q1 t1
    refine ex_aload_n dX8_buoy_60 rfl ?_
    refine ex_getfield dX8_buoy_61 g_X8_40 (cP_ow p1) rfl ?_
    refine ex_aload_n dX8_buoy_64 rfl ?_
    refine ex_getfield dX8_buoy_65 g_X8_33 (cP_ow p1) rfl ?_
    refine ex_getfield dX8_buoy_68 g_X8_123 (cP_ro p1) rfl ?_
    refine cV_y dX8_buoy_71 (mm_kv i_X2_beginAnew l_X8_145) ⟨(Nat.le_of_ble_eq_true rfl), (Nat.le_of_ble_eq_true rfl)⟩ (c_X2_beginAnew p1.1 (cP_bk p1) _) rfl rfl (cP_bk p1) (Nat.le_of_ble_eq_true rfl) rfl ?_
    rintro h2 ⟨q2, t2⟩
    rw [va_uu] at q2
    have p2 := cP_tab p1 q2 t2
    refine ex_return dX8_buoy_74 rfl ?_
    exact ⟨rfl, p2, f0.trans (f9.trans ((cl_Ft t1).trans (cl_Ft t2)))⟩
end PUB3
