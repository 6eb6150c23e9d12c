section PUBD
variable {l : Launch} {G : mm_G} {h : mm_H} {c0 n0 : Nat} {s : cl_S}
theorem cP_i1 {i : Int32} {kc : Nat} (hi : ii i 0 99) (hc : i < nI kc) (hk : kc ≤ 100) : ∃ j, i = nI j ∧ j < kc := by
  obtain ⟨j, hj, rfl⟩ := nI_of (x := i) (Int32.not_lt.mpr hi.1)
  exact ⟨j, rfl, (nI_ltI hj (by omega)).mp hc⟩
theorem c_X8_mend {kc : Nat} (hl : l.stackTraces = false) (hP : cl_P h s.1 s.2 c0 n0) (hc : cl_ce s = nI kc) (hkc : kc ≤ 100) (h0 : (s.1 0).length ≤ 100) (h2 : (s.1 2).length ≤ 9000) (h3 : (s.1 3).length ≤ 19000) (i t : Int32) : mm_Ct l G mX8_mend [.ref 0, .int i, .int t] h (cl_A (cm_mend s i t) c0 n0 h) := by
  refine mm_ct (by decide +kernel) (by decide +kernel) rfl (by simp [Value.category]) (Nat.le_of_ble_eq_true rfl) rfl ?_
  have hgl : (cl_ga s t (me_m s i)).1.length ≤ 100 := by
    have := ho_ga_len (t := t) (s.1 0).reverse (me_m s i) []
    rw [List.length_reverse, List.length_nil] at this
    show (ho_ga t (s.1 0).reverse (me_m s i) []).1.length ≤ 100
    omega
  refine mm_via (p := ii i 0 99 ∧ ii t 0 2) (pc' := 19) (ls' := [.ref 0, .int i, .int t, .null, .null, .null, .null, .null]) (st := []) (fun b hb1 => ?_) (fun k => ?_)
  · skip
    refine cS_n dX8_mend_19 (mm_ks i_X8_needArgument l_X8_59) ⟨(Nat.le_of_ble_eq_true rfl), (Nat.le_of_ble_eq_true rfl)⟩ (c_X8_needArgument hl _) rfl rfl (Nat.le_of_ble_eq_true rfl) rfl (fun b_19 => ?_) (fun b_19 => ?_)
    · rw [cm_mend, if_neg (bb_0.mp (hb1 ▸ b_19))]; exact cA_x hP
    replace hb1 : ii i 0 99 ∧ ii t 0 2 := bb_n.mp (hb1 ▸ b_19)
    rw [cm_mend, if_pos hb1]
    skip
    refine mm_via (p := cl_wo s ∧ (cl_ce s = 100 ∨ ¬ cl_bu s = 0)) (pc' := 51) (ls' := [.ref 0, .int i, .int t, .null, .null, .null, .null, .null]) (st := []) (fun b hb2 => ?_) (fun k => ?_)
    · skip
      refine cS_n dX8_mend_51 (mm_ks i_X8_needState l_X8_67) ⟨(Nat.le_of_ble_eq_true rfl), (Nat.le_of_ble_eq_true rfl)⟩ (c_X8_needState hl _) rfl rfl (Nat.le_of_ble_eq_true rfl) rfl (fun b_51 => ?_) (fun b_51 => ?_)
      · rw [if_neg (bb_0.mp (hb2 ▸ b_51))]; exact cA_x hP
      rw [if_pos (bb_n.mp (hb2 ▸ b_51))]
      skip
      refine mm_via (p := i < cl_ce s ∧ ¬ (¬ cl_bu s = 0 ∧ i = cl_ce s - 1)) (pc' := 90) (ls' := [.ref 0, .int i, .int t, .null, .null, .null, .null, .null]) (st := []) (fun b hb3 => ?_) (fun k => ?_)
      · skip
        refine cS_n dX8_mend_90 (mm_ks i_X8_needState l_X8_67) ⟨(Nat.le_of_ble_eq_true rfl), (Nat.le_of_ble_eq_true rfl)⟩ (c_X8_needState hl _) rfl rfl (Nat.le_of_ble_eq_true rfl) rfl (fun b_90 => ?_) (fun b_90 => ?_)
        · rw [if_neg (bb_0.mp (hb3 ▸ b_90))]; exact cA_x hP
        replace hb3 : i < cl_ce s ∧ ¬ (¬ cl_bu s = 0 ∧ i = cl_ce s - 1) := bb_n.mp (hb3 ▸ b_90)
        rw [if_pos hb3]
        skip
        obtain ⟨j, hij, hjk⟩ := cP_i1 hb1.1 (hc ▸ hb3.1) hkc
        have hij2 : i.toNatClampNeg = j := by rw [hij]; exact nI_clamp (by omega)
        have hO := cP_ro hP
        rw [show s.2.2.2.2.1.2.1 = nI kc from hc] at hO
        have hbeg : mm_Ct l G mX5_beginOf [.ref 13, .int i] h (mm_ri (.int (me_b s i)) h) := by
          have := c_X5_beginOf (l := l) (G := G) (c := j) (cP_cm hP) hO hkc (by omega)
          rw [Nat.min_eq_left (by omega)] at this
          unfold me_b
          rw [hij2, hij]
          exact this
        refine ex_aload_n dX8_mend_93 rfl ?_
        refine ex_getfield dX8_mend_94 g_X8_33 (cP_ow hP) rfl ?_
        refine ex_iload_n dX8_mend_97 rfl ?_
        refine cV_f dX8_mend_98 (mm_kv i_X5_beginOf l_X8_238) ⟨(Nat.le_of_ble_eq_true rfl), (Nat.le_of_ble_eq_true rfl)⟩ (hbeg) rfl rfl (cP_ro hP) (Nat.le_of_ble_eq_true rfl) rfl ?_
        refine ex_istore_n dX8_mend_101 (Nat.le_of_ble_eq_true rfl) ?_
        refine ex_iload_n dX8_mend_102 rfl ?_
        refine ex_aload_n dX8_mend_103 rfl ?_
        refine ex_getfield dX8_mend_104 g_X8_33 (cP_ow hP) rfl ?_
        refine ex_iload_n dX8_mend_107 rfl ?_
        refine cV_f dX8_mend_108 (mm_kv i_X5_metresIn l_X8_241) ⟨(Nat.le_of_ble_eq_true rfl), (Nat.le_of_ble_eq_true rfl)⟩ (c_X5_metresIn (cP_ro hP) (cP_cm hP) _) rfl rfl (cP_ro hP) (Nat.le_of_ble_eq_true rfl) rfl ?_
        refine ex_iadd dX8_mend_111 ?_
        refine ex_istore dX8_mend_112 (Nat.le_of_ble_eq_true rfl) ?_
        refine ex_aload_n dX8_mend_114 rfl ?_
        refine ex_getfield dX8_mend_115 g_X8_10 (cP_ow hP) rfl ?_
        refine ex_iload_n dX8_mend_118 rfl ?_
        refine cV_f dX8_mend_119 (mm_kv i_X6_depthOf l_X8_74) ⟨(Nat.le_of_ble_eq_true rfl), (Nat.le_of_ble_eq_true rfl)⟩ (c_X6_depthOf (cP_se hP) _) rfl rfl (cP_se hP).1 (Nat.le_of_ble_eq_true rfl) rfl ?_
        refine ex_istore dX8_mend_122 (Nat.le_of_ble_eq_true rfl) ?_
        refine ex_iload dX8_mend_124 rfl ?_
        refine ex_iload_n dX8_mend_126 rfl ?_
        refine ex_isub dX8_mend_127 ?_
        refine ex_iconst (v := 2) dX8_mend_128 (by decide) ?_
        refine ex_iload dX8_mend_129 rfl ?_
        refine ex_imul dX8_mend_131 ?_
        refine ex_iadd dX8_mend_132 ?_
        refine ex_istore dX8_mend_133 (Nat.le_of_ble_eq_true rfl) ?_
        refine ex_aload_n dX8_mend_135 rfl ?_
        refine ex_getfield dX8_mend_136 g_X8_26 (cP_ow hP) rfl ?_
        refine ex_iload_n dX8_mend_139 rfl ?_
        refine ex_iload dX8_mend_140 rfl ?_
        refine cV_x dX8_mend_142 (mm_kv i_X3_gather l_X8_175) ⟨(Nat.le_of_ble_eq_true rfl), (Nat.le_of_ble_eq_true rfl)⟩ (c_X3_gather hP.1 (cP_ho hP) h0 _ _) rfl rfl (cP_ho hP) (Nat.le_of_ble_eq_true rfl) rfl ?_
        rintro _ h1 ⟨rfl, q1, t1⟩
        have p1 : cl_P h1 (me_1 s i t).1 (me_1 s i t).2 c0 n0 := cP_tab hP q1 t1
        skip
        refine mm_via (p := (cl_ga s t (me_m s i)).2 = 0 ∧ ho_fi (cl_ty s) (cl_ga s t (me_m s i)).1 (cl_tyAt s (me_b s i - 1)) (cl_tyAt s (me_e s i)) = true) (pc' := 176) (ls' := [.ref 0, .int i, .int t, .int (me_b s i), .int (me_e s i), .int (se_d s.2.1 i), .int (me_m s i), .null]) (st := []) (fun b hb4 => ?_) (fun k => ?_)
        · skip
          refine cS_n dX8_mend_176 (mm_ks i_X8_needState l_X8_67) ⟨(Nat.le_of_ble_eq_true rfl), (Nat.le_of_ble_eq_true rfl)⟩ (c_X8_needState hl _) rfl rfl (Nat.le_of_ble_eq_true rfl) rfl (fun b_176 => ?_) (fun b_176 => ?_)
          · rw [if_neg (bb_0.mp (hb4 ▸ b_176))]; exact cA_xF p1 (cl_Ft t1)
          rw [if_pos (bb_n.mp (hb4 ▸ b_176))]
          refine ex_aload_n dX8_mend_179 rfl ?_
          refine ex_getfield dX8_mend_180 g_X8_33 (cP_ow p1) rfl ?_
          refine ex_iload_n dX8_mend_183 rfl ?_
          refine ex_aload_n dX8_mend_184 rfl ?_
          refine ex_getfield dX8_mend_185 g_X8_26 (cP_ow p1) rfl ?_
          refine ex_getfield dX8_mend_188 g_X8_199 (cP_ho p1) rfl ?_
          refine ex_iload dX8_mend_191 rfl ?_
          refine cV_y dX8_mend_193 (mm_kv i_X5_exchange l_X8_261) ⟨(Nat.le_of_ble_eq_true rfl), (Nat.le_of_ble_eq_true rfl)⟩ (c_X5_ex p1 hc hkc hjk hgl h2 h3 _ hij _) rfl rfl (cP_ro p1) (Nat.le_of_ble_eq_true rfl) rfl ?_
          rintro h4 ⟨p4, f4⟩
          refine ex_aload_n dX8_mend_196 rfl ?_
          refine ex_getfield dX8_mend_197 g_X8_26 (cP_ow p4) rfl ?_
          refine ex_iload_n dX8_mend_200 rfl ?_
          refine ex_iload dX8_mend_201 rfl ?_
          refine cV_y dX8_mend_203 (mm_kv i_X3_sendOut l_X8_190) ⟨(Nat.le_of_ble_eq_true rfl), (Nat.le_of_ble_eq_true rfl)⟩ (c_X3_sendOut p4.1 (cP_ho p4) _ _) rfl rfl (cP_ho p4) (Nat.le_of_ble_eq_true rfl) rfl ?_
          rintro h5 ⟨q5, t5⟩
          have p5 : cl_P h5 (me_2 s i t).1 (me_2 s i t).2 c0 n0 := by unfold me_2; rw [hij2]; exact cP_tab p4 q5 t5
          refine ex_aload_n dX8_mend_206 rfl ?_
          refine ex_dup dX8_mend_207 rfl ?_
          refine ex_getfield dX8_mend_208 g_X8_135 (cP_ow p5) rfl ?_
          refine ex_iload dX8_mend_211 rfl ?_
          refine ex_iload_n dX8_mend_213 rfl ?_
          refine ex_isub dX8_mend_214 ?_
          refine ex_iadd dX8_mend_215 ?_
          refine ex_put dX8_mend_216 p_X8_135 (cP_ow p5) (Nat.le_of_ble_eq_true rfl) (fun z => nomatch z) (mm_fi _) ?_
          skip
          have w6 := cs_ow p5 (cl_la s, cl_bu s, cl_lo s, cl_wa s + (me_e s i - me_b s i), s.2.2.2.2.2.2.2.2.2.2)
          have f6 := ((cl_Ft t1).trans f4).trans ((cl_Ft t5).trans w6.2)
          replace w6 := w6.1
          show mm_Ex l G mX8_mend _ 219 [.ref 0, .int i, .int t, .int (me_b s i), .int (me_e s i), .int (se_d s.2.1 i), .int (me_m s i), .null] [] (mm_set h5 0 (cl_own (cl_la s, cl_bu s, cl_lo s, cl_wa s + (me_e s i - me_b s i), s.2.2.2.2.2.2.2.2.2.2)))
          generalize mm_set h5 0 (cl_own (cl_la s, cl_bu s, cl_lo s, cl_wa s + (me_e s i - me_b s i), s.2.2.2.2.2.2.2.2.2.2)) = h6 at w6 f6
          refine ex_aload_n dX8_mend_219 rfl ?_
          refine ex_getfield dX8_mend_220 g_X8_19 (cP_ow w6) rfl ?_
          refine ex_aload_n dX8_mend_223 rfl ?_
          refine ex_getfield dX8_mend_224 g_X8_19 (cP_ow w6) rfl ?_
          refine ex_getfield dX8_mend_227 g_X8_93 (cP_ca w6) rfl ?_
          refine ex_iconst (v := 3) dX8_mend_230 (by decide) ?_
          refine ex_iadd dX8_mend_231 ?_
          refine ex_iload dX8_mend_232 rfl ?_
          refine ex_sipush (v := 1000) dX8_mend_234 (by decide) ?_
          refine ex_idiv dX8_mend_237 (by decide) ?_
          refine ex_iadd dX8_mend_238 ?_
          refine ex_put dX8_mend_239 p_X8_265 (cP_ca w6) (Nat.le_of_ble_eq_true rfl) (fun z => nomatch z) (mm_fi _) ?_
          skip
          have w7 := cs_cb w6 (s.2.2.1.1 + 3 + se_d s.2.1 i / 1000)
          have f7 := f6.trans w7.2
          replace w7 : cl_P _ (me_3 s i t).1 (me_3 s i t).2 c0 n0 := w7.1
          show mm_Ex l G mX8_mend _ 242 [.ref 0, .int i, .int t, .int (me_b s i), .int (me_e s i), .int (se_d s.2.1 i), .int (me_m s i), .null] [] (mm_set h6 6 (ca_C (s.2.2.1.1, s.2.2.1.2.1, s.2.2.1.1 + 3 + se_d s.2.1 i / 1000)))
          replace w7 : cl_P (mm_set h6 6 (ca_C (s.2.2.1.1, s.2.2.1.2.1, s.2.2.1.1 + 3 + se_d s.2.1 i / 1000))) (me_3 s i t).1 (me_3 s i t).2 c0 n0 := w7
          replace f7 : cl_F h (mm_set h6 6 (ca_C (s.2.2.1.1, s.2.2.1.2.1, s.2.2.1.1 + 3 + se_d s.2.1 i / 1000))) := f7
          generalize mm_set h6 6 (ca_C (s.2.2.1.1, s.2.2.1.2.1, s.2.2.1.1 + 3 + se_d s.2.1 i / 1000)) = h7 at w7 f7
          refine ex_aload_n dX8_mend_242 rfl ?_
          refine ex_getfield dX8_mend_243 g_X8_40 (cP_ow w7) rfl ?_
          refine ex_iload_n dX8_mend_246 rfl ?_
          refine ex_iload dX8_mend_247 rfl ?_
          refine ex_iload dX8_mend_249 rfl ?_
          refine ex_iload dX8_mend_251 rfl ?_
          refine ex_iload_n dX8_mend_253 rfl ?_
          refine ex_isub dX8_mend_254 ?_
          refine ex_isub dX8_mend_255 ?_
          refine cV_x dX8_mend_256 (mm_kv i_X2_cutOut l_X8_268) ⟨(Nat.le_of_ble_eq_true rfl), (Nat.le_of_ble_eq_true rfl)⟩ (c_X2_cutOut w7.1 (cP_bk w7) _ _ _) rfl rfl (cP_bk w7) (Nat.le_of_ble_eq_true rfl) rfl ?_
          rintro _ h8 ⟨rfl, q8, t8⟩
          have p8 : cl_P h8 (cl_t (me_3 s i t) 4 (me_f s i).1).1 (cl_t (me_3 s i t) 4 (me_f s i).1).2 c0 n0 := cP_tab w7 q8 t8
          refine ex_istore dX8_mend_259 (Nat.le_of_ble_eq_true rfl) ?_
          refine ex_aload_n dX8_mend_261 rfl ?_
          refine ex_getfield dX8_mend_262 g_X8_40 (cP_ow p8) rfl ?_
          refine ex_aload_n dX8_mend_265 rfl ?_
          refine ex_getfield dX8_mend_266 g_X8_33 (cP_ow p8) rfl ?_
          refine ex_getfield dX8_mend_269 g_X8_123 (cP_ro p8) rfl ?_
          refine cV_y dX8_mend_272 (mm_kv i_X2_beginAnew l_X8_145) ⟨(Nat.le_of_ble_eq_true rfl), (Nat.le_of_ble_eq_true rfl)⟩ (c_X2_beginAnew p8.1 (cP_bk p8) _) rfl rfl (cP_bk p8) (Nat.le_of_ble_eq_true rfl) rfl ?_
          rintro h9 ⟨q9, t9⟩
          refine ex_iload dX8_mend_275 rfl ?_
          refine ex_ireturn dX8_mend_277 ⟨_, rfl, rfl⟩ ?_
          exact cA_i (cP_tab p8 q9 t9) (f7.trans ((cl_Ft t8).trans (cl_Ft t9)))
        · skip
          refine ex_if_eq (tgt := 175) dX8_mend_145 (by decide) (fun c_145 => ?_) (fun c_145 => ?_)
          · refine ex_iconst (v := 0) dX8_mend_175 (by decide) ?_
            exact k _ (bb_f (fun z => bb_0.mp c_145 z.1)).symm
          · refine ex_aload_n dX8_mend_148 rfl ?_
            refine ex_getfield dX8_mend_149 g_X8_26 (cP_ow p1) rfl ?_
            refine ex_aload_n dX8_mend_152 rfl ?_
            refine ex_iload_n dX8_mend_153 rfl ?_
            refine ex_iconst (v := 1) dX8_mend_154 (by decide) ?_
            refine ex_isub dX8_mend_155 ?_
            refine cV_f dX8_mend_156 (mm_kv i_X8_typeAt l_X8_181) ⟨(Nat.le_of_ble_eq_true rfl), (Nat.le_of_ble_eq_true rfl)⟩ (c_X8_typeAt (s := me_1 s i t) p1 _) rfl rfl (cP_ow p1) (Nat.le_of_ble_eq_true rfl) rfl ?_
            refine ex_aload_n dX8_mend_159 rfl ?_
            refine ex_iload dX8_mend_160 rfl ?_
            refine cV_f dX8_mend_162 (mm_kv i_X8_typeAt l_X8_181) ⟨(Nat.le_of_ble_eq_true rfl), (Nat.le_of_ble_eq_true rfl)⟩ (c_X8_typeAt (s := me_1 s i t) p1 _) rfl rfl (cP_ow p1) (Nat.le_of_ble_eq_true rfl) rfl ?_
            refine cV_f dX8_mend_165 (mm_kv i_X3_fits l_X8_184) ⟨(Nat.le_of_ble_eq_true rfl), (Nat.le_of_ble_eq_true rfl)⟩ (c_X3_fits p1.1 (cP_ho p1) (cP_ty p1) _ _) rfl rfl (cP_ho p1) (Nat.le_of_ble_eq_true rfl) rfl ?_
            refine ex_if_eq (tgt := 175) dX8_mend_168 (by decide) (fun c_168 => ?_) (fun c_168 => ?_)
            · refine ex_iconst (v := 0) dX8_mend_175 (by decide) ?_
              exact k _ (bb_f (fun z => bb_0.mp c_168 z.2)).symm
            · refine ex_iconst (v := 1) dX8_mend_171 (by decide) ?_
              refine ex_goto (tgt := 176) dX8_mend_172 (by decide) ?_
              exact k _ (bb_t ⟨bb_n.mp c_145, bb_n.mp c_168⟩).symm
      · skip
        refine ex_iload_n dX8_mend_54 rfl ?_
        refine ex_aload_n dX8_mend_55 rfl ?_
        refine ex_getfield dX8_mend_56 g_X8_33 (cP_ow hP) rfl ?_
        refine ex_getfield dX8_mend_59 g_X8_63 (cP_ro hP) rfl ?_
        refine ex_icmp_ge (tgt := 89) dX8_mend_62 (by decide) (fun c_62 => ?_) (fun c_62 => ?_)
        · refine ex_iconst (v := 0) dX8_mend_89 (by decide) ?_
          exact k _ (bb_f (fun z => Int32.not_lt.mpr c_62 z.1)).symm
        · refine ex_aload_n dX8_mend_65 rfl ?_
          refine ex_getfield dX8_mend_66 g_X8_112 (cP_ow hP) rfl ?_
          refine ex_if_eq (tgt := 85) dX8_mend_69 (by decide) (fun c_69 => ?_) (fun c_69 => ?_)
          · refine ex_iconst (v := 1) dX8_mend_85 (by decide) ?_
            refine ex_goto (tgt := 90) dX8_mend_86 (by decide) ?_
            exact k _ (bb_t ⟨Int32.not_le.mp c_62, fun z => z.1 c_69⟩).symm
          · refine ex_iload_n dX8_mend_72 rfl ?_
            refine ex_aload_n dX8_mend_73 rfl ?_
            refine ex_getfield dX8_mend_74 g_X8_33 (cP_ow hP) rfl ?_
            refine ex_getfield dX8_mend_77 g_X8_63 (cP_ro hP) rfl ?_
            refine ex_iconst (v := 1) dX8_mend_80 (by decide) ?_
            refine ex_isub dX8_mend_81 ?_
            refine ex_icmp_eq (tgt := 89) dX8_mend_82 (by decide) (fun c_82 => ?_) (fun c_82 => ?_)
            · refine ex_iconst (v := 0) dX8_mend_89 (by decide) ?_
              exact k _ (bb_f (fun z => z.2 ⟨c_69, c_82⟩)).symm
            · refine ex_iconst (v := 1) dX8_mend_85 (by decide) ?_
              refine ex_goto (tgt := 90) dX8_mend_86 (by decide) ?_
              exact k _ (bb_t ⟨Int32.not_le.mp c_62, fun z => c_82 z.2⟩).symm
    · skip
      refine ex_aload_n dX8_mend_22 rfl ?_
      refine ex_getfield dX8_mend_23 g_X8_19 (cP_ow hP) rfl ?_
      refine cV_f dX8_mend_26 (mm_kv i_X0_isForWork l_X8_196) ⟨(Nat.le_of_ble_eq_true rfl), (Nat.le_of_ble_eq_true rfl)⟩ (c_X0_isForWork (cP_ca hP)) rfl rfl (cP_ca hP) (Nat.le_of_ble_eq_true rfl) rfl ?_
      refine ex_if_eq (tgt := 50) dX8_mend_29 (by decide) (fun c_29 => ?_) (fun c_29 => ?_)
      · refine ex_iconst (v := 0) dX8_mend_50 (by decide) ?_
        exact k _ (bb_f (fun z => bb_0.mp c_29 z.1)).symm
      · refine ex_aload_n dX8_mend_32 rfl ?_
        refine cV_f dX8_mend_33 (mm_kv i_X8_liesAtB l_X8_116) ⟨(Nat.le_of_ble_eq_true rfl), (Nat.le_of_ble_eq_true rfl)⟩ (c_X8_liesAtB hP) rfl rfl (cP_ow hP) (Nat.le_of_ble_eq_true rfl) rfl ?_
        refine ex_if_ne (tgt := 46) dX8_mend_36 (by decide) (fun c_36 => ?_) (fun c_36 => ?_)
        · refine ex_iconst (v := 1) dX8_mend_46 (by decide) ?_
          refine ex_goto (tgt := 51) dX8_mend_47 (by decide) ?_
          exact k _ (bb_t ⟨bb_n.mp c_29, Or.inl (bb_n.mp c_36)⟩).symm
        · refine ex_aload_n dX8_mend_39 rfl ?_
          refine ex_getfield dX8_mend_40 g_X8_112 (cP_ow hP) rfl ?_
          refine ex_if_eq (tgt := 50) dX8_mend_43 (by decide) (fun c_43 => ?_) (fun c_43 => ?_)
          · refine ex_iconst (v := 0) dX8_mend_50 (by decide) ?_
            exact k _ (bb_f (fun z => z.2.elim (bb_0.mp c_36) (fun y => y c_43))).symm
          · refine ex_iconst (v := 1) dX8_mend_46 (by decide) ?_
            refine ex_goto (tgt := 51) dX8_mend_47 (by decide) ?_
            exact k _ (bb_t ⟨bb_n.mp c_29, Or.inr c_43⟩).symm
  · skip
    refine ex_iload_n dX8_mend_0 rfl ?_
    refine cS_f dX8_mend_1 (mm_ks i_X8_isCell l_X8_51) ⟨(Nat.le_of_ble_eq_true rfl), (Nat.le_of_ble_eq_true rfl)⟩ (c_X8_isCell _) rfl rfl (Nat.le_of_ble_eq_true rfl) rfl ?_
    refine ex_if_eq (tgt := 18) dX8_mend_4 (by decide) (fun c_4 => ?_) (fun c_4 => ?_)
    · refine ex_iconst (v := 0) dX8_mend_18 (by decide) ?_
      exact k _ (bb_f (fun z => bb_0.mp c_4 z.1)).symm
    · refine ex_iload_n dX8_mend_7 rfl ?_
      refine cS_f dX8_mend_8 (mm_ks i_X8_isTank l_X8_152) ⟨(Nat.le_of_ble_eq_true rfl), (Nat.le_of_ble_eq_true rfl)⟩ (c_X8_isTank _) rfl rfl (Nat.le_of_ble_eq_true rfl) rfl ?_
      refine ex_if_eq (tgt := 18) dX8_mend_11 (by decide) (fun c_11 => ?_) (fun c_11 => ?_)
      · refine ex_iconst (v := 0) dX8_mend_18 (by decide) ?_
        exact k _ (bb_f (fun z => bb_0.mp c_11 z.2)).symm
      · refine ex_iconst (v := 1) dX8_mend_14 (by decide) ?_
        refine ex_goto (tgt := 19) dX8_mend_15 (by decide) ?_
        exact k _ (bb_t ⟨bb_n.mp c_4, bb_n.mp c_11⟩).symm
end PUBD
