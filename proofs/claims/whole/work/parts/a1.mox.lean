/-! THE MODEL: mending -/
section MOX
variable {l : Launch} {G : mm_G} {h0 h : mm_H} {m : mo_S} {s : cl_S} {n : Nat} {T L : List tt_R}
theorem c_X9_mend (p : mo_P h0 h m) (r : r_all s m) (hi : iv n s) (hn : n ≤ 512) (i t : Int32) : mm_Ct l G mX9_mend [.ref 29, .int i, .int t] h (mo_Z h0 cx_a cx_s (cm_mend s i t)) := by
  obtain ⟨k, kp, lo, wa, mk, c, hx⟩ := hi
  have hW := hx.W (by omega)
  have hN := hx.N
  have hkp := hx.2.1
  have hce : cl_ce s = nI k := hx.1.1
  have hk100 := hx.1.2.1
  obtain ⟨r1, r2, r3, r4, r5, r6, r7, r8, r9, r10⟩ := id r
  rw [md_cm]
  refine mm_ct (by decide +kernel) (by decide +kernel) rfl (by simp [Value.category]) (Nat.le_of_ble_eq_true rfl) rfl ?_
  refine mm_via (p := ii i 0 99 ∧ ii t 0 2) (pc' := 21) (ls' := [.ref 29, .int i, .int t, .null, .null, .null, .null, .null, .null]) (st := []) (fun b hb => ?_) (fun kk => ?_)
  rotate_left
  · skip
    refine ex_iload_n dX9_mend_0 rfl ?_
    refine cS_f dX9_mend_1 (mm_ks i_X9_isCell l_X9_131) ⟨(Nat.le_of_ble_eq_true rfl), (Nat.le_of_ble_eq_true rfl)⟩ (c_X9_isCell _) rfl rfl (Nat.le_of_ble_eq_true rfl) rfl ?_
    refine ex_if_eq (tgt := 20) dX9_mend_4 (by decide) (fun c_4 => ?_) (fun c_4 => ?_)
    · refine ex_iconst (v := 0) dX9_mend_20 (by decide) ?_
      exact kk _ (bb_f (fun z => bb_0.mp c_4 z.1)).symm
    · refine ex_iload_n dX9_mend_7 rfl ?_
      refine ex_iconst (v := 0) dX9_mend_8 (by decide) ?_
      refine ex_iconst (v := 2) dX9_mend_9 (by decide) ?_
      refine cS_f dX9_mend_10 (mm_ks i_X9_isIn l_X9_123) ⟨(Nat.le_of_ble_eq_true rfl), (Nat.le_of_ble_eq_true rfl)⟩ (c_X9_isIn _ _ _) rfl rfl (Nat.le_of_ble_eq_true rfl) rfl ?_
      refine ex_if_eq (tgt := 20) dX9_mend_13 (by decide) (fun c_13 => ?_) (fun c_13 => ?_)
      · refine ex_iconst (v := 0) dX9_mend_20 (by decide) ?_
        exact kk _ (bb_f (fun z => bb_0.mp c_13 z.2)).symm
      · refine ex_iconst (v := 1) dX9_mend_16 (by decide) ?_
        refine ex_goto (tgt := 21) dX9_mend_17 (by decide) ?_
        exact kk _ (bb_t ⟨bb_n.mp c_4, bb_n.mp c_13⟩).symm
  by_cases hit : ii i 0 99 ∧ ii t 0 2
  rotate_left
  · rw [bb_f hit] at hb
    subst hb
    rw [if_neg hit]
    refine ex_istore_n dX9_mend_21 (Nat.le_of_ble_eq_true rfl) ?_
    refine ex_aload_n dX9_mend_22 rfl ?_
    refine ex_iload_n dX9_mend_23 rfl ?_
    refine ex_if_ne (tgt := 31) dX9_mend_24 (by decide) (fun z => absurd rfl z) (fun _ => ?_)
    refine ex_iconst (v := 1) dX9_mend_27 (by decide) ?_
    refine ex_goto (tgt := 45) dX9_mend_28 (by decide) ?_
    refine ex_put dX9_mend_45 p_X9_120 (mP_o p) (Nat.le_of_ble_eq_true rfl) (fun z => nomatch z) (mm_fi _) ?_
    refine mk_0 p (fun h45 p45 => ?_)
    refine ex_aload_n dX9_mend_48 rfl ?_
    refine ex_getfield (v := .int (1)) dX9_mend_49 g_X9_120 (mP_o p45) (congrArg (fun z => some (Value.int z)) (rfl)) ?_
    refine ex_if_le (tgt := 57) dX9_mend_52 (by decide) (fun z => absurd z (by decide)) (fun _ => ?_)
    refine ex_iconst (v := 0) dX9_mend_55 (by decide) ?_
    refine ex_ireturn dX9_mend_56 ⟨_, rfl, rfl⟩ ?_
    exact ⟨_, rfl, _, p45, r, ⟨Or.inl ⟨rfl, rfl⟩, _, rfl⟩⟩
  rw [bb_t hit] at hb
  subst hb
  rw [if_pos hit]
  obtain ⟨j, hj, rfl⟩ : ∃ j : Nat, j ≤ 99 ∧ i = nI j := by
    obtain ⟨j, hj, rfl⟩ := nI_of (x := i) (Int32.not_lt.mpr hit.1.1)
    exact ⟨j, (nI_leI hj (by decide : 99 < 2 ^ 31)).mp hit.1.2, rfl⟩
  obtain ⟨u, hu, rfl⟩ : ∃ u : Nat, u < 3 ∧ t = nI u := by
    obtain ⟨j, hj, rfl⟩ := nI_of (x := t) (Int32.not_lt.mpr hit.2.1)
    exact ⟨j, by have := (nI_leI hj (by decide : 2 < 2 ^ 31)).mp hit.2.2; omega, rfl⟩
  refine ex_istore_n dX9_mend_21 (Nat.le_of_ble_eq_true rfl) ?_
  refine ex_aload_n dX9_mend_22 rfl ?_
  refine ex_iload_n dX9_mend_23 rfl ?_
  refine ex_if_ne (tgt := 31) dX9_mend_24 (by decide) (fun _ => ?_) (fun z => absurd z (by decide))
  refine ex_aload_n dX9_mend_31 rfl ?_
  refine ex_iload_n dX9_mend_32 rfl ?_
  refine ex_iload_n dX9_mend_33 rfl ?_
  refine cV_x dX9_mend_34 (mm_kv i_X9_canMend l_X9_275) ⟨(Nat.le_of_ble_eq_true rfl), (Nat.le_of_ble_eq_true rfl)⟩ (c_X9_canMend p r hx (by omega) hj hu) rfl rfl (mP_o p) (Nat.le_of_ble_eq_true rfl) rfl ?_
  rintro _ h34 ⟨rfl, m1, p34, f1, o1⟩
  skip
  have q1 : r_all s m1 := ⟨r1.fr f1, r2.fr f1, r3.fr f1, r4.fr f1, r5.fr f1, r6.fr f1, r7.fr f1, r8.fr f1, r9.fr f1, r10.fr f1⟩
  by_cases hmd : md_1 s (nI j) ∧ md_2 s (nI j) (nI u)
  rotate_left
  · rw [if_neg hmd]
    refine ex_if_eq (tgt := 44) dX9_mend_37 (by decide) (fun _ => ?_) (fun z => absurd (bb_f hmd) z)
    refine ex_iconst (v := 2) dX9_mend_44 (by decide) ?_
    refine ex_put dX9_mend_45 p_X9_120 (mP_o p34) (Nat.le_of_ble_eq_true rfl) (fun z => nomatch z) (mm_fi _) ?_
    refine mk_0 p34 (fun h45 p45 => ?_)
    refine ex_aload_n dX9_mend_48 rfl ?_
    refine ex_getfield (v := .int (2)) dX9_mend_49 g_X9_120 (mP_o p45) (congrArg (fun z => some (Value.int z)) (rfl)) ?_
    refine ex_if_le (tgt := 57) dX9_mend_52 (by decide) (fun z => absurd z (by decide)) (fun _ => ?_)
    refine ex_iconst (v := 0) dX9_mend_55 (by decide) ?_
    refine ex_ireturn dX9_mend_56 ⟨_, rfl, rfl⟩ ?_
    refine ⟨_, rfl, _, p45, ?_, ⟨Or.inr ⟨rfl, rfl⟩, _, rfl⟩⟩; split; exact q1; exact q1
  rw [if_pos hmd]
  have hjk : j < k := (nI_ltI (by omega) (by omega)).mp (hce ▸ hmd.1.2.1)
  have hz := hmd.2.1
  have o1' := o1 hmd.1
  obtain ⟨d, hd1, hd2, hb, he, hm, hc, hs⟩ := md_v hx hjk
  have hle := cs_le hx hjk
  have hc0 : 800 ≤ c j := by
    have h1 := hx.2.2.2.2.1.2.2 j hjk
    have h2 := hx.2.2.2.2.2.1.2.2.1
    split at h1 <;> omega
  obtain ⟨e0, e2, e3, e4, e5, e6, eu⟩ := md_eq hx hjk (nI u)
  obtain ⟨wa', c', hx'⟩ := ivx_md hx hjk hu hz
  have hW' : ln_W (md_T (cs c j) (cs c j + c j) (s.1 2) (cl_ga s (nI u) (me_m s (nI j))).1) := by rw [← e2]; exact hx'.W (by omega)
  have hm' : ln_m (md_T (cs c j) (cs c j + c j) (s.1 2) (cl_ga s (nI u) (me_m s (nI j))).1) 0 = cl_me s + (me_m s (nI j) - nI (c j)) := by
    have hmm : cl_me (md_s s (nI j) (nI u)) = nI (ln_N ((md_s s (nI j) (nI u)).1 2)) := hx'.2.2.2.2.2.2.2.1
    rw [e2] at hmm
    rw [ln_m0 hW', ← hmm]
    unfold cl_me; rw [eu]; rfl
  have hdd : me_m s (nI j) - nI (c j) = nI (2 * d) := by rw [hm, nI_sub (by omega)]; congr 1; omega
  have hgl : (cl_ga s (nI u) (me_m s (nI j))).1.length ≤ 30 := Nat.le_trans (ga_len hx) hkp.2.1
  have hg0 : ¬ (cl_ga s (nI u) (me_m s (nI j))).1 = [] := by
    intro z
    obtain ⟨g1, g2, g3, g4, g5, g6⟩ := st_ga hx hu (show c j + 2 * d < 2 ^ 31 by omega)
    rw [← hm, z, hz] at g3
    have : nI (c j + 2 * d) = nI 0 := g3.symm
    have := (nI_eq (by omega) (by omega)).mp this
    omega
  have hTl : (s.1 2).length ≤ 3300 := by have := hx.2.2.2.1.2; omega
  obtain ⟨g, hg⟩ : ∃ g, (cl_ga s (nI u) (me_m s (nI j))).1 = g := ⟨_, rfl⟩
  rw [hg] at hg0 hgl o1' e2 hW' hm'
  have f1' : mo_F [0, 17, 18, 19, 20] m (mo_sf m1 0 0) := f1.sub.f 0 rfl
  refine ex_if_eq (tgt := 44) dX9_mend_37 (by decide) (fun z => absurd z (bb_n.mpr hmd)) (fun _ => ?_)
  refine ex_iconst (v := 0) dX9_mend_40 (by decide) ?_
  refine ex_goto (tgt := 45) dX9_mend_41 (by decide) ?_
  refine ex_put dX9_mend_45 p_X9_120 (mP_o p34) (Nat.le_of_ble_eq_true rfl) (fun z => nomatch z) (mm_fi _) ?_
  refine mk_0 p34 (fun h45 p45 => ?_)
  refine ex_aload_n dX9_mend_48 rfl ?_
  refine ex_getfield (v := .int (0)) dX9_mend_49 g_X9_120 (mP_o p45) (congrArg (fun z => some (Value.int z)) (rfl)) ?_
  refine ex_if_le (tgt := 57) dX9_mend_52 (by decide) (fun _ => ?_) (fun z => absurd (by decide) z)
  refine ex_aload_n dX9_mend_57 rfl ?_
  refine ex_iload_n dX9_mend_58 rfl ?_
  refine cV_f dX9_mend_59 (mm_kv i_X9_begins l_X9_266) ⟨(Nat.le_of_ble_eq_true rfl), (Nat.le_of_ble_eq_true rfl)⟩ (c_X9_begins p45 (cm := s.2.2.2.2.1.1) ((f1.2.2 32 rfl).trans r6.2) (i := j) (by omega) _ rfl) rfl rfl (mP_o p45) (Nat.le_of_ble_eq_true rfl) rfl ?_
  rw [bs_cs hx j (by omega)]
  refine ex_istore dX9_mend_62 (Nat.le_of_ble_eq_true rfl) ?_
  refine ex_iload dX9_mend_64 rfl ?_
  refine ex_aload_n dX9_mend_66 rfl ?_
  refine ex_getfield dX9_mend_67 g_X9_74 (mP_o p45) rfl ?_
  refine ex_iload_n dX9_mend_70 rfl ?_
  refine ex_ialoadv (v := s.2.2.2.2.1.1 j) dX9_mend_71 (mA_32 p45) (by first | assumption | exact vp_in_nI (by omega) (by decide)) (mo_av ((congrFun (f1.2.2 32 rfl) j).trans (congrFun r6.2 j)) rfl (by omega)) ?_
  refine ex_iadd dX9_mend_72 ?_
  rw [hc, nI_add]
  refine ex_istore dX9_mend_73 (Nat.le_of_ble_eq_true rfl) ?_
  refine ex_iconst (v := 2) dX9_mend_75 (by decide) ?_
  refine ex_aload_n dX9_mend_76 rfl ?_
  refine ex_iload_n dX9_mend_77 rfl ?_
  refine cV_f dX9_mend_78 (mm_kv i_X9_depthOf l_X9_127) ⟨(Nat.le_of_ble_eq_true rfl), (Nat.le_of_ble_eq_true rfl)⟩ (c_X9_depthOf p45 (r1.fr f1') (by omega)) rfl rfl (mP_o p45) (Nat.le_of_ble_eq_true rfl) rfl ?_
  refine ex_imul dX9_mend_81 ?_
  rw [hd2, show (2 : Int32) = nI 2 from rfl, pk_mul]
  refine ex_istore dX9_mend_82 (Nat.le_of_ble_eq_true rfl) ?_
  refine ex_aload_n dX9_mend_84 rfl ?_
  refine cV_f dX9_mend_85 (mm_kv i_X9_metres l_X9_160) ⟨(Nat.le_of_ble_eq_true rfl), (Nat.le_of_ble_eq_true rfl)⟩ (c_X9_metres p45 (T := s.1 2) (r5.fr f1') hW) rfl rfl (mP_o p45) (Nat.le_of_ble_eq_true rfl) rfl ?_
  rw [ln_m0 hW]
  refine ex_istore dX9_mend_88 (Nat.le_of_ble_eq_true rfl) ?_
  skip
  refine ex_aload_n dX9_mend_90 rfl ?_
  refine ex_iload_n dX9_mend_91 rfl ?_
  refine cV_y dX9_mend_92 (mm_kv i_X9_goesOut l_X9_226) ⟨(Nat.le_of_ble_eq_true rfl), (Nat.le_of_ble_eq_true rfl)⟩ (c_X9_goesOutW p45 hu _ rfl (r4.fr f1') (m := me_m s (nI j)) (by rw [show (ho_ga (nI u) (s.1 0).reverse (me_m s (nI j)) []).1 = g from hg]; exact r_out.fr (s := m1) o1' ((mo_F.refl [0] m1).f 0 rfl)) hz) rfl rfl (mP_o p45) (Nat.le_of_ble_eq_true rfl) rfl ?_
  rintro h92 ⟨m2, p92, f2, t2⟩
  refine ex_aload_n dX9_mend_95 rfl ?_
  refine ex_iconst (v := 0) dX9_mend_96 (by decide) ?_
  refine ex_put dX9_mend_97 p_X9_269 (mP_o p92) (Nat.le_of_ble_eq_true rfl) (fun z => nomatch z) (mm_fi _) ?_
  refine mk_26 p92 (fun h97 p97 => ?_)
  skip
  have f2' : mo_F [0, 13, 15, 17, 18, 19, 20] m m2 := f1'.sub.trans f2.sub
  have o2 : r_out m2 g := r_out.fr (s := mo_sf m1 0 0) (r_out.fr (s := m1) o1' ((mo_F.refl [0] m1).f 0 rfl)) f2
  have l2 : r_line (mo_sf m2 26 0) (s.1 2) := (r5.fr f2').fr ((mo_F.refl [26] m2).f 26 rfl)
  have d2 : r_new (mo_sf m2 26 0) [] := ⟨rfl, fun i r hr => by simp at hr⟩
  refine ex_aload_n dX9_mend_100 rfl ?_
  refine ex_iconst (v := 0) dX9_mend_101 (by decide) ?_
  refine ex_iload dX9_mend_102 rfl ?_
  refine ex_iload dX9_mend_104 rfl ?_
  refine ex_iconst (v := 1) dX9_mend_106 (by decide) ?_
  refine cV_y dX9_mend_107 (mm_kv i_X9_keepsFrom l_X9_278) ⟨(Nat.le_of_ble_eq_true rfl), (Nat.le_of_ble_eq_true rfl)⟩ (c_X9_keepsFrom p97 l2 hW d2 (lo := 0) (hi := cs c j) (cu := cs c j) (by decide) (by omega) (by omega) (by omega) (by rw [List.length_nil]; omega) _ _ _ _ rfl rfl rfl) rfl rfl (mP_o p97) (Nat.le_of_ble_eq_true rfl) rfl ?_
  rintro h107 ⟨m3, p107, f3, d3⟩
  skip
  rw [List.nil_append, kF_A (kp := kp) _ _ hx.2.2.2.1.1] at d3
  have hkA := kAB_len (show cs c j < cs c j + c j by omega) (s.1 2) 0
  refine ex_aload_n dX9_mend_110 rfl ?_
  refine ex_iconst (v := 1) dX9_mend_111 (by decide) ?_
  refine ex_iconst (v := (-1)) dX9_mend_112 (by decide) ?_
  refine ex_iconst (v := (-1)) dX9_mend_113 (by decide) ?_
  refine ex_iconst (v := (-1)) dX9_mend_114 (by decide) ?_
  refine cV_y dX9_mend_115 (mm_kv i_X9_keeps l_X9_272) ⟨(Nat.le_of_ble_eq_true rfl), (Nat.le_of_ble_eq_true rfl)⟩ (c_X9_keeps p107 d3.1 (by omega) _ _ _ _) rfl rfl (mP_o p107) (Nat.le_of_ble_eq_true rfl) rfl ?_
  rintro h115 p115
  refine ex_iconst (v := 0) dX9_mend_118 (by decide) ?_
  refine ex_istore dX9_mend_119 (Nat.le_of_ble_eq_true rfl) ?_
  skip
  have f3' : mo_F [26, 27, 28, 29, 30] m2 (mo_kp m3 (kA (cs c j) (s.1 2) 0).length 1 (-1) (-1) (-1)) := (((mo_F.refl [26, 27, 28, 29, 30] m2).f 26 rfl).trans f3).kp _ _ _ _ _
  have d4 : r_new (mo_kp m3 (kA (cs c j) (s.1 2) 0).length 1 (-1) (-1) (-1)) (kA (cs c j) (s.1 2) 0 ++ [(1, -1, -1, 0)]) := d3.kp (1, -1, -1, 0)
  refine x_X9_pcs (o2.fr f3') hgl _ _ _ _ _ _ _ _ _ _ p115 (mo_F.refl _ _) d4 (by rw [List.length_append, List.length_cons, List.length_nil]; omega) (fun m5 h5 p5 f5 d5 => ?_)
  have hxl := md_x_len g 0
  refine ex_aload_n dX9_mend_175 rfl ?_
  refine ex_iconst (v := 1) dX9_mend_176 (by decide) ?_
  refine ex_iconst (v := (-1)) dX9_mend_177 (by decide) ?_
  refine ex_iconst (v := (-1)) dX9_mend_178 (by decide) ?_
  refine ex_iconst (v := (-1)) dX9_mend_179 (by decide) ?_
  refine cV_y dX9_mend_180 (mm_kv i_X9_keeps l_X9_272) ⟨(Nat.le_of_ble_eq_true rfl), (Nat.le_of_ble_eq_true rfl)⟩ (c_X9_keeps p5 d5.1 (by rw [List.length_append, List.length_append, List.length_cons, List.length_nil]; omega) _ _ _ _) rfl rfl (mP_o p5) (Nat.le_of_ble_eq_true rfl) rfl ?_
  rintro h180 p180
  skip
  have d6 := d5.kp (1, -1, -1, 0)
  have f6 : mo_F [26, 27, 28, 29, 30] m2 (mo_kp m5 (kA (cs c j) (s.1 2) 0 ++ [(1, -1, -1, 0)] ++ md_x 0 g).length 1 (-1) (-1) (-1)) := (f3'.trans f5).kp _ _ _ _ _
  have l6 := (r5.fr f2').fr f6
  refine ex_aload_n dX9_mend_183 rfl ?_
  refine ex_iload dX9_mend_184 rfl ?_
  refine ex_iload dX9_mend_186 rfl ?_
  refine ex_iload dX9_mend_188 rfl ?_
  refine ex_iconst (v := 0) dX9_mend_190 (by decide) ?_
  refine cV_y dX9_mend_191 (mm_kv i_X9_keepsFrom l_X9_278) ⟨(Nat.le_of_ble_eq_true rfl), (Nat.le_of_ble_eq_true rfl)⟩ (c_X9_keepsFrom p180 l6 hW d6 (lo := cs c j + c j) (hi := ln_N (s.1 2)) (cu := cs c j + c j) (by omega) (by omega) (by omega) (by omega) (by rw [List.length_append, List.length_append, List.length_append, List.length_cons, List.length_nil]; omega) _ _ _ _ rfl rfl rfl) rfl rfl (mP_o p180) (Nat.le_of_ble_eq_true rfl) rfl ?_
  rintro h191 ⟨m7, p191, f7, d7⟩
  refine ex_iconst (v := 0) dX9_mend_194 (by decide) ?_
  refine ex_istore dX9_mend_195 (Nat.le_of_ble_eq_true rfl) ?_
  skip
  have hTT : kA (cs c j) (s.1 2) 0 ++ [(1, -1, -1, 0)] ++ md_x 0 g ++ [(1, -1, -1, 0)] ++ kF (cs c j + c j) (ln_N (s.1 2)) (cs c j + c j) 0 (s.1 2) 0 = md_T (cs c j) (cs c j + c j) (s.1 2) g := by
    rw [kF_B (kp := kp) _ _ hx.2.2.2.1.1 (by omega), List.append_assoc _ (md_x 0 g), md_x0 hg0, md_T, List.append_assoc, List.append_assoc]; rfl
  rw [hTT] at d7
  have hlT := hW'.1
  generalize hT2 : md_T (cs c j) (cs c j + c j) (s.1 2) g = T2 at d7 e2 hW' hm' hlT
  refine x_X9_copy d7 (by omega) _ _ _ _ _ _ _ _ _ p191 (mo_F.refl _ _) (fun j r hj => absurd hj (Nat.not_lt_zero j)) (fun m8 h8 p8 f8 q8 => ?_)
  have f78 : mo_F [22, 23, 24, 25, 26, 27, 28, 29, 30] m2 m8 := (f6.trans f7).sub.trans f8.sub
  have f8' : mo_F [0, 13, 15, 17, 18, 19, 20, 22, 23, 24, 25, 26, 27, 28, 29, 30] m m8 := f2'.sub.trans f78.sub
  have rs8 : r_sea s.2.1 m8.2.2 := r1.fr f8'
  refine ex_aload_n dX9_mend_268 rfl ?_
  refine ex_aload_n dX9_mend_269 rfl ?_
  refine ex_getfield (v := .int (nI T2.length)) dX9_mend_270 g_X9_269 (mP_o p8) (congrArg (fun z => some (Value.int z)) ((f8.1 26 rfl).trans d7.1)) ?_
  refine ex_put dX9_mend_273 p_X9_171 (mP_o p8) (Nat.le_of_ble_eq_true rfl) (fun z => nomatch z) (mm_fi _) ?_
  refine mk_21 p8 (fun h273 p273 => ?_)
  refine ex_aload_n dX9_mend_276 rfl ?_
  refine ex_dup dX9_mend_277 rfl ?_
  refine ex_getfield dX9_mend_278 g_X9_167 (mP_o p273) rfl ?_
  refine ex_iload dX9_mend_281 rfl ?_
  refine ex_iload dX9_mend_283 rfl ?_
  refine ex_isub dX9_mend_285 ?_
  refine ex_i2l dX9_mend_286 ?_
  refine ex_ladd dX9_mend_287 ?_
  refine ex_put dX9_mend_288 p_X9_167 (mP_o p273) (Nat.le_of_ble_eq_true rfl) (fun z => nomatch z) (mm_fl _) ?_
  refine mk_33 p273 (fun h288 p288 => ?_)
  refine ex_aload_n dX9_mend_291 rfl ?_
  refine ex_getfield dX9_mend_292 g_X9_74 (mP_o p288) rfl ?_
  refine ex_iload_n dX9_mend_295 rfl ?_
  refine ex_dup2 dX9_mend_296 rfl rfl ?_
  refine ex_ialoadv (v := s.2.2.2.2.1.1 j) dX9_mend_297 (mA_32 p288) (by first | assumption | exact vp_in_nI (by omega) (by decide)) (mo_av ((congrFun (f8'.2.2 32 rfl) j).trans (congrFun r6.2 j)) rfl (by omega)) ?_
  refine ex_iload dX9_mend_298 rfl ?_
  refine ex_iadd dX9_mend_300 ?_
  refine ex_iastore dX9_mend_301 (mA_32 p288) (by first | assumption | exact vp_in_nI (by omega) (by decide)) ?_
  refine mq_32 p288 (fun h301 p301 => ?_)
  refine ex_aload_n dX9_mend_302 rfl ?_
  refine ex_aload_n dX9_mend_303 rfl ?_
  refine ex_getfield (v := .int (s.2.2.1.1)) dX9_mend_304 g_X9_139 (mP_o p301) (congrArg (fun z => some (Value.int z)) ((f8'.1 6 rfl).trans r2.1)) ?_
  refine ex_iconst (v := 3) dX9_mend_307 (by decide) ?_
  refine ex_iadd dX9_mend_308 ?_
  refine ex_aload_n dX9_mend_309 rfl ?_
  refine ex_iload_n dX9_mend_310 rfl ?_
  refine cV_f dX9_mend_311 (mm_kv i_X9_depthOf l_X9_127) ⟨(Nat.le_of_ble_eq_true rfl), (Nat.le_of_ble_eq_true rfl)⟩ (c_X9_depthOf p301 (r_sea.fr (m := mo_g2 (mo_sf m8 21 (nI T2.length)) ((mo_sf m8 21 (nI T2.length)).2.1.2 + (nI (cs c j + c j) - nI (cs c j)).toInt64)) rs8 ((mo_F.refl [32] _).a 32 rfl)) (by omega)) rfl rfl (mP_o p301) (Nat.le_of_ble_eq_true rfl) rfl ?_
  refine ex_sipush (v := 1000) dX9_mend_314 (by decide) ?_
  refine ex_idiv dX9_mend_317 (by decide) ?_
  refine ex_iadd dX9_mend_318 ?_
  refine ex_put dX9_mend_319 p_X9_183 (mP_o p301) (Nat.le_of_ble_eq_true rfl) (fun z => nomatch z) (mm_fi _) ?_
  refine mk_8 p301 (fun h319 p319 => ?_)
  skip
  rw [nI_clamp (show j < 2 ^ 31 by omega)] at p319
  have hwv : (mo_sf m8 21 (nI T2.length)).2.1.2 + (nI (cs c j + c j) - nI (cs c j)).toInt64 = (cl_wa s + nI (c j)).toInt64 := by
    rw [show (mo_sf m8 21 (nI T2.length)).2.1.2 = (cl_wa s).toInt64 from (congrArg Prod.snd f8'.2.1).trans r7.2.2.2.1, hx.2.2.2.2.2.2.1.1, nI_sub (by omega), show cs c j + c j - cs c j = c j by omega]
    have h1 := hx.2.2.2.2.2.2.1.2.2.1
    have h2 := hx.2.2.2.2.2.2.1.2.2.2
    have h3 := hkp.2.1
    exact lN_w (by omega)
  have fB : mo_F [0, 13, 15, 17, 18, 19, 20, 21, 22, 23, 24, 25, 26, 27, 28, 29, 30] m (mo_sf m8 21 (nI T2.length)) := f8'.sub.f 21 rfl
  have lB : r_line (mo_sf m8 21 (nI T2.length)) T2 := ⟨show upd m8.1 21 (nI T2.length) 21 = _ from pk_us, q8⟩
  have tB : r_tank (mo_sf m8 21 (nI T2.length)) (ho_so (nI u) (s.1 0).reverse (me_m s (nI j)) []) := t2.fr ((f78.sub (K' := [21, 22, 23, 24, 25, 26, 27, 28, 29, 30])).f 21 rfl)
  generalize hsB : mo_sf m8 21 (nI T2.length) = sB at p319 fB lB tB hwv
  have xB1 : r_sea s.2.1 sB.2.2 := r1.fr fB
  have xB8 : r_fau sB (s.1 4) := r8.fr fB
  have xB9 : r_lnk sB (s.1 5) := r9.fr fB
  have xB10 : r_dem sB (s.1 6) := r10.fr fB
  rw [hwv] at p319
  have fE : mo_F [8, 32] (mo_g2 sB (cl_wa s + nI (c j)).toInt64) (mo_sf (mo_sa (mo_g2 sB (cl_wa s + nI (c j)).toInt64) 32 j (s.2.2.2.2.1.1 j + nI (2 * d))) 8 (s.2.2.1.1 + 3 + se_d s.2.1 (nI j) / 1000)) := ((mo_F.refl _ _).a 32 rfl).f 8 rfl
  have lE := r_line.fr (s := mo_g2 sB (cl_wa s + nI (c j)).toInt64) lB fE
  have aE := (r_fau.fr (s := mo_g2 sB (cl_wa s + nI (c j)).toInt64) xB8 fE)
  have hcel : (mo_sf (mo_sa (mo_g2 sB (cl_wa s + nI (c j)).toInt64) 32 j (s.2.2.2.2.1.1 j + nI (2 * d))) 8 (s.2.2.1.1 + 3 + se_d s.2.1 (nI j) / 1000)).2.2 32 = upd s.2.2.2.2.1.1 j (me_m s (nI j)) := by
    show upd (sB.2.2 32) j _ = _
    rw [fB.2.2 32 rfl, r6.2, hm, hc, nI_add]
  have hbus : (mo_sf (mo_sa (mo_g2 sB (cl_wa s + nI (c j)).toInt64) 32 j (s.2.2.2.2.1.1 j + nI (2 * d))) 8 (s.2.2.1.1 + 3 + se_d s.2.1 (nI j) / 1000)).1 8 = s.2.2.1.1 + 3 + se_d s.2.1 (nI j) / 1000 := show upd sB.1 8 _ 8 = _ from pk_us
  generalize hsE : mo_sf (mo_sa (mo_g2 sB (cl_wa s + nI (c j)).toInt64) 32 j (s.2.2.2.2.1.1 j + nI (2 * d))) 8 (s.2.2.1.1 + 3 + se_d s.2.1 (nI j) / 1000) = sE at p319 fE lE aE hcel hbus
  refine ex_aload_n dX9_mend_322 rfl ?_
  refine ex_iload dX9_mend_323 rfl ?_
  refine ex_iload dX9_mend_325 rfl ?_
  refine ex_iload dX9_mend_327 rfl ?_
  refine cV_x dX9_mend_329 (mm_kv i_X9_mendsFaults l_X9_282) ⟨(Nat.le_of_ble_eq_true rfl), (Nat.le_of_ble_eq_true rfl)⟩ (c_X9_mendsFaults p319 lE hW' aE hx.2.2.2.2.2.2.2.2.2.1.1 _ _ _ (nI_le (Nat.le_add_right _ _) (by omega))) rfl rfl (mP_o p319) (Nat.le_of_ble_eq_true rfl) rfl ?_
  rintro _ h329 ⟨rfl, m9, p329, f9, q9⟩
  refine ex_ireturn dX9_mend_332 ⟨_, rfl, rfl⟩ ?_
  refine ⟨_, rfl, m9, p329, ?_, ?_, ?_⟩
  · have f9' : mo_F [8, 32, 38, 39, 40, 41, 42] (mo_g2 sB (cl_wa s + nI (c j)).toInt64) m9 := fE.sub.trans f9.sub
    have hlong : m9.2.1 = (sB.2.1.1, (cl_wa s + nI (c j)).toInt64) := f9'.2.1
    show r_all (md_s s (nI j) (nI u)) m9
    unfold r_all
    rw [e0, e2, e4, e5, e6]
    refine ⟨?_, ?_, ?_, ?_, ?_, ?_, ?_, ?_, ?_, ?_⟩
    · rw [eu]; exact r_sea.fr (m := mo_g2 sB (cl_wa s + nI (c j)).toInt64) xB1 f9'
    · unfold r_cal; rw [eu]
      exact ⟨(f9'.1 6 rfl).trans ((fB.1 6 rfl).trans r2.1), (f9'.1 7 rfl).trans ((fB.1 7 rfl).trans r2.2.1), (f9.1 8 rfl).trans hbus⟩
    · unfold r_hold; rw [eu]
      exact ⟨(f9'.1 10 rfl).trans ((fB.1 10 rfl).trans r3.1), (f9'.2.2 11 rfl).trans ((fB.2.2 11 rfl).trans r3.2.1), (congrArg Prod.fst hlong).trans ((congrArg Prod.fst fB.2.1).trans r3.2.2)⟩
    · exact r_tank.fr (s := mo_g2 sB (cl_wa s + nI (c j)).toInt64) tB f9'
    · exact lE.fr f9
    · unfold r_cel cl_ce; rw [eu]
      exact ⟨(f9'.1 31 rfl).trans ((fB.1 31 rfl).trans r6.1), (f9.2.2 32 rfl).trans hcel⟩
    · unfold r_own cl_la cl_bu cl_lo cl_wa cl_fa cl_fb; rw [eu]
      exact ⟨(f9'.1 9 rfl).trans ((fB.1 9 rfl).trans r7.1), (f9'.1 34 rfl).trans ((fB.1 34 rfl).trans r7.2.1), (f9'.1 35 rfl).trans ((fB.1 35 rfl).trans r7.2.2.1), congrArg Prod.snd hlong, (f9'.1 36 rfl).trans ((fB.1 36 rfl).trans r7.2.2.2.2.1), (f9'.1 37 rfl).trans ((fB.1 37 rfl).trans r7.2.2.2.2.2)⟩
    · rw [← hm', hb, he, hdd]; exact q9
    · exact r_lnk.fr (m := mo_g2 sB (cl_wa s + nI (c j)).toInt64) xB9 f9'
    · exact r_dem.fr (m := mo_g2 sB (cl_wa s + nI (c j)).toInt64) xB10 f9'
  · exact (f9.1 0 rfl).trans ((fE.1 0 rfl).trans (by rw [← hsB]; exact (f78.1 0 rfl).trans (f2.1 0 rfl)))
  · have hcnt := (fa_c_f (b := me_b s (nI j)) (e := me_e s (nI j)) (d := me_m s (nI j) - (me_e s (nI j) - me_b s (nI j))) (s.1 4).reverse 0 []).2
    rw [List.reverse_reverse, List.length_reverse, hs, hdd, hb, he] at hcnt
    have : (me_f s (nI j)).2 = (s.1 4).length - (md_L (nI (cs c j)) (nI (cs c j + c j)) (nI (2 * d)) (s.1 4)).length := by unfold me_f; rw [hs, hdd, hb, he]; omega
    rw [this]
end MOX
