def cl_bg (s : cl_S) : cl_S := cl_t s 4 ((s.1 4).map (fun r => (r.1, r.2.1, 0, cl_me s)))
def cl_un (s : cl_S) : cl_S := cl_so s (cl_la s, 0, 0, s.2.2.2.2.2.2.2.2.2)
def tu_1 (s : cl_S) (t : Int32) : cl_S := cl_t s 1 (cl_ga s t (cl_lo s)).1
def tu_2 (s : cl_S) (t : Int32) : cl_S := cl_sp (cl_t (tu_1 s t) 2 (s.1 2 ++ [(1, -1, -1, 0)]))
def tu_3 (s : cl_S) (t : Int32) : cl_S := cl_sr (cl_t (tu_2 s t) 0 (ho_so t (s.1 0).reverse (cl_lo s) [])) (cl_lo s)
def cm_takeUp (s : cl_S) (t : Int32) : cl_R × cl_S := if ii t 0 2 then (if ¬ cl_bu s = 0 ∧ cl_wo s then (if (cl_ga s t (cl_lo s)).2 = 0 then (if ho_fi (cl_ty s) (cl_ga s t (cl_lo s)).1 (cl_tyAt s (cl_me s - 1)) (-1) = true then (.inl (some (cl_lo s)), if cl_lo s ≤ 0 then cl_bg (cl_un (tu_1 s t)) else cl_bg (cl_un (tu_3 s t))) else (.inr cx_s, tu_1 s t)) else (.inr cx_s, tu_1 s t)) else (.inr cx_s, s)) else (.inr cx_a, s)
def cl_sx (s : cl_S) (j : Nat) (n : Int32) : cl_S := (va_up (va_up s.1 3 (s.1 3 ++ [(ro_bs s.2.2.2.2.1.1 j, -1, -1, s.2.2.2.2.1.1 j)] ++ ro_xd (s.1 1) (ro_bs s.2.2.2.2.1.1 j))) 2 (ro_xt (ro_bs s.2.2.2.2.1.1 j) (ro_bs s.2.2.2.2.1.1 j + s.2.2.2.2.1.1 j) (cl_me s) (s.1 2) (s.1 1)), s.2.1, s.2.2.1, s.2.2.2.1, (upd s.2.2.2.2.1.1 j n, s.2.2.2.2.1.2.1, cl_me s + (n - s.2.2.2.2.1.1 j)), s.2.2.2.2.2)
def cl_cb (s : cl_S) (x : Int32) : cl_S := (s.1, s.2.1, (s.2.2.1.1, s.2.2.1.2.1, x), s.2.2.2)
def me_b (s : cl_S) (i : Int32) : Int32 := ro_bs s.2.2.2.2.1.1 i.toNatClampNeg
def me_e (s : cl_S) (i : Int32) : Int32 := me_b s i + ro_mi s.2.2.2.2.1.1 i
def me_m (s : cl_S) (i : Int32) : Int32 := me_e s i - me_b s i + 2 * se_d s.2.1 i
def me_1 (s : cl_S) (i t : Int32) : cl_S := cl_t s 1 (cl_ga s t (me_m s i)).1
def me_2 (s : cl_S) (i t : Int32) : cl_S := cl_t (cl_sx (me_1 s i t) i.toNatClampNeg (me_m s i)) 0 (ho_so t (s.1 0).reverse (me_m s i) [])
def me_3 (s : cl_S) (i t : Int32) : cl_S := cl_cb (cl_so (me_2 s i t) (cl_la s, cl_bu s, cl_lo s, cl_wa s + (me_e s i - me_b s i), s.2.2.2.2.2.2.2.2.2.2)) (s.2.2.1.1 + 3 + se_d s.2.1 i / 1000)
def me_f (s : cl_S) (i : Int32) : List tt_R × Nat := fa_c (me_b s i) (me_e s i) (me_m s i - (me_e s i - me_b s i)) (s.1 4).reverse 0 []
def cm_mend (s : cl_S) (i t : Int32) : cl_R × cl_S := if ii i 0 99 ∧ ii t 0 2 then (if cl_wo s ∧ (cl_ce s = 100 ∨ ¬ cl_bu s = 0) then (if i < cl_ce s ∧ ¬ (¬ cl_bu s = 0 ∧ i = cl_ce s - 1) then (if (cl_ga s t (me_m s i)).2 = 0 ∧ ho_fi (cl_ty s) (cl_ga s t (me_m s i)).1 (cl_tyAt s (me_b s i - 1)) (cl_tyAt s (me_e s i)) = true then (.inl (some (nI (me_f s i).2)), cl_bg (cl_t (me_3 s i t) 4 (me_f s i).1)) else (.inr cx_s, me_1 s i t)) else (.inr cx_s, s)) else (.inr cx_s, s)) else (.inr cx_a, s)
section PUBC
variable {l : Launch} {G : mm_G} {h : mm_H} {c0 n0 : Nat} {s : cl_S}
theorem c_X5_ex {k j : Nat} (hP : cl_P h s.1 s.2 c0 n0) (hc : cl_ce s = nI k) (hk : k ≤ 100) (hj : j < k) (h1 : (s.1 1).length ≤ 100) (h2 : (s.1 2).length ≤ 9000) (h3 : (s.1 3).length ≤ 19000) (jv : Int32) (hjv : jv = nI j) (n : Int32) : mm_Ct l G mX5_exchange [.ref 13, .int jv, .ref 11, .int n] h (mm_qv (fun h' => cl_P h' (cl_sx s j n).1 (cl_sx s j n).2 c0 n0 ∧ cl_F h h')) := by
  subst hjv
  obtain ⟨tb, S, c, ho, ⟨cm, ce, me⟩, st, ow⟩ := s
  obtain rfl : ce = nI k := hc
  exact c_X5_exchange hP hk hj h1 h2 h3 n
theorem cs_cb (hP : cl_P h s.1 s.2 c0 n0) (x : Int32) : cl_P (mm_set h 6 (ca_C (s.2.2.1.1, s.2.2.1.2.1, x))) (cl_cb s x).1 (cl_cb s x).2 c0 n0 ∧ cl_F h (mm_set h 6 (ca_C (s.2.2.1.1, s.2.2.1.2.1, x))) := by
  obtain ⟨tb, S, c, ho, ro, st, ow⟩ := s
  exact cs_6 hP _
theorem c_X8_takeUp {k : Nat} (hl : l.stackTraces = false) (hP : cl_P h s.1 s.2 c0 n0) (hc : cl_ce s = nI k) (hk : k ≤ 100) (hlo : 0 < cl_lo s → 1 ≤ k) (h0 : (s.1 0).length ≤ 100) (h2 : (s.1 2).length ≤ 18000) (h3 : (s.1 3).length ≤ 18000) (t : Int32) : mm_Ct l G mX8_takeUp [.ref 0, .int t] h (cl_A (cm_takeUp s t) c0 n0 h) := by
  refine mm_ct (by decide +kernel) (by decide +kernel) rfl (by simp [Value.category]) (Nat.le_of_ble_eq_true rfl) rfl ?_
  have hgl : (cl_ga s t (cl_lo s)).1.length ≤ 100 := by
    have := ho_ga_len (t := t) (s.1 0).reverse (cl_lo s) []
    rw [List.length_reverse, List.length_nil] at this
    show (ho_ga t (s.1 0).reverse (cl_lo s) []).1.length ≤ 100
    omega
  refine ex_iload_n dX8_takeUp_0 rfl ?_
  refine cS_f dX8_takeUp_1 (mm_ks i_X8_isTank l_X8_152) ⟨(Nat.le_of_ble_eq_true rfl), (Nat.le_of_ble_eq_true rfl)⟩ (c_X8_isTank _) rfl rfl (Nat.le_of_ble_eq_true rfl) rfl ?_
  refine cS_n dX8_takeUp_4 (mm_ks i_X8_needArgument l_X8_59) ⟨(Nat.le_of_ble_eq_true rfl), (Nat.le_of_ble_eq_true rfl)⟩ (c_X8_needArgument hl _) rfl rfl (Nat.le_of_ble_eq_true rfl) rfl (fun b_4 => ?_) (fun b_4 => ?_)
  · rw [cm_takeUp, if_neg (bb_0.mp b_4)]; exact cA_x hP
  rw [cm_takeUp, if_pos (bb_n.mp b_4)]
  skip
  have hex : mm_Ex l G mX8_takeUp (cl_A (.inr cx_s, s) c0 n0 h) 44 [.ref 0, .int t, .null] [.int 0] h := by
    refine cS_n dX8_takeUp_44 (mm_ks i_X8_needState l_X8_67) ⟨Nat.le_of_ble_eq_true rfl, Nat.le_of_ble_eq_true rfl⟩ (c_X8_needState hl _) rfl rfl (Nat.le_of_ble_eq_true rfl) rfl (fun b_44 => ?_) (fun b_44 => ?_)
    · exact cA_x hP
    · exact absurd rfl b_44
  have hgo : mm_Ex l G mX8_takeUp (cl_A (if (cl_ga s t (cl_lo s)).2 = 0 then (if ho_fi (cl_ty s) (cl_ga s t (cl_lo s)).1 (cl_tyAt s (cl_me s - 1)) (-1) = true then (.inl (some (cl_lo s)), if cl_lo s ≤ 0 then cl_bg (cl_un (tu_1 s t)) else cl_bg (cl_un (tu_3 s t))) else (.inr cx_s, tu_1 s t)) else (.inr cx_s, tu_1 s t)) c0 n0 h) 24 [.ref 0, .int t, .null] [] h := by
    refine ex_aload_n dX8_takeUp_24 rfl ?_
    refine ex_getfield dX8_takeUp_25 g_X8_26 (cP_ow hP) rfl ?_
    refine ex_iload_n dX8_takeUp_28 rfl ?_
    refine ex_aload_n dX8_takeUp_29 rfl ?_
    refine ex_getfield dX8_takeUp_30 g_X8_132 (cP_ow hP) rfl ?_
    refine cV_x dX8_takeUp_33 (mm_kv i_X3_gather l_X8_175) ⟨(Nat.le_of_ble_eq_true rfl), (Nat.le_of_ble_eq_true rfl)⟩ (c_X3_gather hP.1 (cP_ho hP) h0 _ _) rfl rfl (cP_ho hP) (Nat.le_of_ble_eq_true rfl) rfl ?_
    rintro _ h1 ⟨rfl, q1, t1⟩
    have p1 : cl_P h1 (tu_1 s t).1 (tu_1 s t).2 c0 n0 := cP_tab hP q1 t1
    skip
    have hmid : ∀ b, b = bb ((cl_ga s t (cl_lo s)).2 = 0) → mm_Ex l G mX8_takeUp (cl_A (if (cl_ga s t (cl_lo s)).2 = 0 then (if ho_fi (cl_ty s) (cl_ga s t (cl_lo s)).1 (cl_tyAt s (cl_me s - 1)) (-1) = true then (.inl (some (cl_lo s)), if cl_lo s ≤ 0 then cl_bg (cl_un (tu_1 s t)) else cl_bg (cl_un (tu_3 s t))) else (.inr cx_s, tu_1 s t)) else (.inr cx_s, tu_1 s t)) c0 n0 h) 44 [.ref 0, .int t, .null] [.int b] h1 := by
      intro b hb
      refine cS_n dX8_takeUp_44 (mm_ks i_X8_needState l_X8_67) ⟨(Nat.le_of_ble_eq_true rfl), (Nat.le_of_ble_eq_true rfl)⟩ (c_X8_needState hl _) rfl rfl (Nat.le_of_ble_eq_true rfl) rfl (fun b_44 => ?_) (fun b_44 => ?_)
      · rw [if_neg (bb_0.mp (hb ▸ b_44))]; exact cA_xF p1 (cl_Ft t1)
      rw [if_pos (bb_n.mp (hb ▸ b_44))]
      refine ex_aload_n dX8_takeUp_47 rfl ?_
      refine ex_getfield dX8_takeUp_48 g_X8_26 (cP_ow p1) rfl ?_
      refine ex_aload_n dX8_takeUp_51 rfl ?_
      refine ex_aload_n dX8_takeUp_52 rfl ?_
      refine ex_getfield dX8_takeUp_53 g_X8_33 (cP_ow p1) rfl ?_
      refine ex_getfield dX8_takeUp_56 g_X8_123 (cP_ro p1) rfl ?_
      refine ex_iconst (v := 1) dX8_takeUp_59 (by decide) ?_
      refine ex_isub dX8_takeUp_60 ?_
      refine cV_f dX8_takeUp_61 (mm_kv i_X8_typeAt l_X8_181) ⟨(Nat.le_of_ble_eq_true rfl), (Nat.le_of_ble_eq_true rfl)⟩ (c_X8_typeAt (s := tu_1 s t) p1 _) rfl rfl (cP_ow p1) (Nat.le_of_ble_eq_true rfl) rfl ?_
      refine ex_iconst (v := (-1)) dX8_takeUp_64 (by decide) ?_
      refine cV_f dX8_takeUp_65 (mm_kv i_X3_fits l_X8_184) ⟨(Nat.le_of_ble_eq_true rfl), (Nat.le_of_ble_eq_true rfl)⟩ (c_X3_fits p1.1 (cP_ho p1) (cP_ty p1) _ _) rfl rfl (cP_ho p1) (Nat.le_of_ble_eq_true rfl) rfl ?_
      refine cS_n dX8_takeUp_68 (mm_ks i_X8_needState l_X8_67) ⟨(Nat.le_of_ble_eq_true rfl), (Nat.le_of_ble_eq_true rfl)⟩ (c_X8_needState hl _) rfl rfl (Nat.le_of_ble_eq_true rfl) rfl (fun b_68 => ?_) (fun b_68 => ?_)
      · rw [if_neg (show ¬ ho_fi (cl_ty s) (cl_ga s t (cl_lo s)).1 (cl_tyAt s (cl_me s - 1)) (-1) = true from bb_0.mp b_68)]; exact cA_xF p1 (cl_Ft t1)
      rw [if_pos (show ho_fi (cl_ty s) (cl_ga s t (cl_lo s)).1 (cl_tyAt s (cl_me s - 1)) (-1) = true from bb_n.mp b_68)]
      refine ex_aload_n dX8_takeUp_71 rfl ?_
      refine ex_getfield dX8_takeUp_72 g_X8_132 (cP_ow p1) rfl ?_
      refine ex_istore_n dX8_takeUp_75 (Nat.le_of_ble_eq_true rfl) ?_
      skip
      show mm_Ex l G mX8_takeUp _ 76 [.ref 0, .int t, .int (cl_lo s)] [] h1
      have hend : ∀ (s1 : cl_S) (h5 : mm_H), cl_P h5 s1.1 s1.2 c0 n0 → cl_F h h5 → mm_Ex l G mX8_takeUp (cl_A (.inl (some (cl_lo s)), cl_bg (cl_un s1)) c0 n0 h) 109 [.ref 0, .int t, .int (cl_lo s)] [] h5 := by
        intro s1 h5 p5 f5
        have w5 := cs_ow p5 (cl_la s1, 0, 0, s1.2.2.2.2.2.2.2.2.2)
        refine ex_aload_n dX8_takeUp_109 rfl ?_
        refine ex_iconst (v := 0) dX8_takeUp_110 (by decide) ?_
        refine ex_put dX8_takeUp_111 p_X8_112 (cP_ow p5) (Nat.le_of_ble_eq_true rfl) (fun z => nomatch z) (mm_fz (Or.inl rfl)) ?_
        refine ex_aload_n dX8_takeUp_114 rfl ?_
        refine ex_iconst (v := 0) dX8_takeUp_115 (by decide) ?_
        refine ex_put dX8_takeUp_116 p_X8_132 mm_set_at (Nat.le_of_ble_eq_true rfl) (fun z => nomatch z) (mm_fi _) ?_
        skip
        rw [mm_set_set]
        show mm_Ex l G mX8_takeUp _ 119 [.ref 0, .int t, .int (cl_lo s)] [] (mm_set h5 0 (cl_own (cl_la s1, 0, 0, s1.2.2.2.2.2.2.2.2.2)))
        refine ex_aload_n dX8_takeUp_119 rfl ?_
        refine ex_getfield dX8_takeUp_120 g_X8_40 (cP_ow w5.1) rfl ?_
        refine ex_aload_n dX8_takeUp_123 rfl ?_
        refine ex_getfield dX8_takeUp_124 g_X8_33 (cP_ow w5.1) rfl ?_
        refine ex_getfield dX8_takeUp_127 g_X8_123 (cP_ro w5.1) rfl ?_
        refine cV_y dX8_takeUp_130 (mm_kv i_X2_beginAnew l_X8_145) ⟨(Nat.le_of_ble_eq_true rfl), (Nat.le_of_ble_eq_true rfl)⟩ (c_X2_beginAnew w5.1.1 (cP_bk w5.1) _) rfl rfl (cP_bk w5.1) (Nat.le_of_ble_eq_true rfl) rfl ?_
        rintro h9 ⟨q9, t9⟩
        refine ex_iload_n dX8_takeUp_133 rfl ?_
        refine ex_ireturn dX8_takeUp_134 ⟨_, rfl, rfl⟩ ?_
        exact cA_i (cP_tab w5.1 q9 t9) (f5.trans (w5.2.trans (cl_Ft t9)))
      by_cases hz : cl_lo s ≤ 0
      · rw [if_pos hz]
        refine ex_iload_n dX8_takeUp_76 rfl ?_
        refine ex_if_le (tgt := 109) dX8_takeUp_77 (by decide) (fun _ => ?_) (fun z => absurd hz z)
        exact hend _ _ p1 (cl_Ft t1)
      · rw [if_neg hz]
        obtain ⟨k, rfl⟩ : ∃ j, k = j + 1 := ⟨k - 1, by have := hlo (Int32.not_le.mp hz); omega⟩
        refine ex_iload_n dX8_takeUp_76 rfl ?_
        refine ex_if_le (tgt := 109) dX8_takeUp_77 (by decide) (fun z => absurd z hz) (fun _ => ?_)
        refine ex_aload_n dX8_takeUp_80 rfl ?_
        refine ex_getfield dX8_takeUp_81 g_X8_33 (cP_ow p1) rfl ?_
        refine ex_iconst (v := 1) dX8_takeUp_84 (by decide) ?_
        refine cV_y dX8_takeUp_85 (mm_kv i_X5_addBare l_X8_217) ⟨(Nat.le_of_ble_eq_true rfl), (Nat.le_of_ble_eq_true rfl)⟩ (c_X5_addBare p1.1 (cP_ro p1) (show (s.1 2).length ≤ 20000 by omega) _) rfl rfl (cP_ro p1) (Nat.le_of_ble_eq_true rfl) rfl ?_
        rintro h2 ⟨q2, t2⟩
        have p2 : cl_P h2 (cl_t (tu_1 s t) 2 (s.1 2 ++ [(1, -1, -1, 0)])).1 (cl_t (tu_1 s t) 2 (s.1 2 ++ [(1, -1, -1, 0)])).2 c0 n0 := cP_tab p1 q2 t2
        refine ex_aload_n dX8_takeUp_88 rfl ?_
        refine cV_y dX8_takeUp_89 (mm_kv i_X8_putBehind l_X8_187) ⟨(Nat.le_of_ble_eq_true rfl), (Nat.le_of_ble_eq_true rfl)⟩ (c_X8_pb p2 hgl (show (s.1 2 ++ [_]).length ≤ 19000 by rw [List.length_append, List.length_cons, List.length_nil]; omega) (show (s.1 3).length ≤ 19000 by omega)) rfl rfl (cP_ow p2) (Nat.le_of_ble_eq_true rfl) rfl ?_
        rintro h3 ⟨p3, f3⟩
        refine ex_aload_n dX8_takeUp_92 rfl ?_
        refine ex_getfield dX8_takeUp_93 g_X8_26 (cP_ow p3) rfl ?_
        refine ex_iload_n dX8_takeUp_96 rfl ?_
        refine ex_iload_n dX8_takeUp_97 rfl ?_
        refine cV_y dX8_takeUp_98 (mm_kv i_X3_sendOut l_X8_190) ⟨(Nat.le_of_ble_eq_true rfl), (Nat.le_of_ble_eq_true rfl)⟩ (c_X3_sendOut p3.1 (cP_ho p3) _ _) rfl rfl (cP_ho p3) (Nat.le_of_ble_eq_true rfl) rfl ?_
        rintro h4 ⟨q4, t4⟩
        have p4 : cl_P h4 (cl_t (tu_2 s t) 0 (ho_so t (s.1 0).reverse (cl_lo s) [])).1 (cl_t (tu_2 s t) 0 (ho_so t (s.1 0).reverse (cl_lo s) [])).2 c0 n0 := cP_tab p3 q4 t4
        refine ex_aload_n dX8_takeUp_101 rfl ?_
        refine ex_getfield dX8_takeUp_102 g_X8_33 (cP_ow p4) rfl ?_
        refine ex_iload_n dX8_takeUp_105 rfl ?_
        refine cV_y dX8_takeUp_106 (mm_kv i_X5_regainEnd l_X8_223) ⟨(Nat.le_of_ble_eq_true rfl), (Nat.le_of_ble_eq_true rfl)⟩ (c_X5_re p4 hc (by omega) _) rfl rfl (cP_ro p4) (Nat.le_of_ble_eq_true rfl) rfl ?_
        rintro h5 ⟨p5, f5⟩
        exact hend _ _ p5 (((cl_Ft t1).trans (cl_Ft t2)).trans (f3.trans ((cl_Ft t4).trans f5)))
    refine ex_if_eq (tgt := 43) dX8_takeUp_36 (by decide) (fun c_36 => ?_) (fun c_36 => ?_)
    · refine ex_iconst (v := 0) dX8_takeUp_43 (by decide) ?_
      exact hmid _ c_36.symm
    · refine ex_iconst (v := 1) dX8_takeUp_39 (by decide) ?_
      refine ex_goto (tgt := 44) dX8_takeUp_40 (by decide) ?_
      exact hmid _ (bb_t (bb_n.mp c_36)).symm
  refine ex_aload_n dX8_takeUp_7 rfl ?_
  refine ex_getfield dX8_takeUp_8 g_X8_112 (cP_ow hP) rfl ?_
  refine ex_if_eq (tgt := 43) dX8_takeUp_11 (by decide) (fun c_11 => ?_) (fun c_11 => ?_)
  · refine ex_iconst (v := 0) dX8_takeUp_43 (by decide) ?_
    rw [if_neg (fun z => z.1 c_11)]; exact hex
  · refine ex_aload_n dX8_takeUp_14 rfl ?_
    refine ex_getfield dX8_takeUp_15 g_X8_19 (cP_ow hP) rfl ?_
    refine cV_f dX8_takeUp_18 (mm_kv i_X0_isForWork l_X8_196) ⟨(Nat.le_of_ble_eq_true rfl), (Nat.le_of_ble_eq_true rfl)⟩ (c_X0_isForWork (cP_ca hP)) rfl rfl (cP_ca hP) (Nat.le_of_ble_eq_true rfl) rfl ?_
    refine ex_if_eq (tgt := 43) dX8_takeUp_21 (by decide) (fun c_21 => ?_) (fun c_21 => ?_)
    · refine ex_iconst (v := 0) dX8_takeUp_43 (by decide) ?_
      rw [if_neg (fun z => bb_0.mp c_21 z.2)]; exact hex
    · rw [if_pos ⟨c_11, bb_n.mp c_21⟩]; exact hgo
end PUBC
