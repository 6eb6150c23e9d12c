def cl_t (s : cl_S) (i : Nat) (L : List tt_R) : cl_S := (va_up s.1 i L, s.2)
def cl_sp (s : cl_S) : cl_S := (va_up (va_up s.1 3 (cl_pb (s.1 1) (s.1 2) (s.1 3) (cl_me s)).2.1) 2 (cl_pb (s.1 1) (s.1 2) (s.1 3) (cl_me s)).1, s.2.1, s.2.2.1, s.2.2.2.1, (s.2.2.2.2.1.1, s.2.2.2.2.1.2.1, (cl_pb (s.1 1) (s.1 2) (s.1 3) (cl_me s)).2.2), s.2.2.2.2.2)
def cl_se (s : cl_S) (n : Int32) : cl_S := (s.1, s.2.1, s.2.2.1, s.2.2.2.1, (upd s.2.2.2.2.1.1 (cl_ce s).toNatClampNeg n, cl_ce s + 1, s.2.2.2.2.1.2.2), s.2.2.2.2.2)
def cl_sr (s : cl_S) (n : Int32) : cl_S := (s.1, s.2.1, s.2.2.1, s.2.2.2.1, (upd s.2.2.2.2.1.1 (cl_ce s - 1).toNatClampNeg (s.2.2.2.2.1.1 (cl_ce s - 1).toNatClampNeg + n), s.2.2.2.2.1.2.1, s.2.2.2.2.1.2.2), s.2.2.2.2.2)
def cl_so (s : cl_S) (w : Int32 × Int32 × Int32 × Int32 × Int32 × Int32) : cl_S := (s.1, s.2.1, s.2.2.1, s.2.2.2.1, s.2.2.2.2.1, s.2.2.2.2.2.1, w)
def cl_la (s : cl_S) : Int32 := s.2.2.2.2.2.2.1
def cl_sl (s : cl_S) : cl_S := cl_so s (cl_la s + 1, s.2.2.2.2.2.2.2)
abbrev cl_wo (s : cl_S) : Prop := ca_w s.2.2.1 ≤ 6 ∧ s.2.2.1.2.2 ≤ s.2.2.1.1
abbrev cl_may (s : cl_S) : Prop := (ca_w s.2.2.1 ≤ 6 ∧ s.2.2.1.2.2 ≤ s.2.2.1.1) ∧ s.2.2.2.2.2.2.1 < 12 ∧ s.2.2.2.2.2.2.2.1 = 0 ∧ ¬ cl_ce s = 100
abbrev cl_op (S : se_T) (i : Int32) : Prop := ¬ (ii i 0 99 ∧ ¬ S.2.2.1 i.toNatClampNeg = 0) ∧ ¬ (if ii i 0 99 then S.2.2.2 i.toNatClampNeg else 0) = 1
def ly_m (s : cl_S) (sl : Int32) : Int32 := se_g s.2.1 (cl_ce s) + se_g s.2.1 (cl_ce s) * sl / 1000
def cl_ga (s : cl_S) (t m : Int32) : List tt_R × Int32 := ho_ga t (s.1 0).reverse m []
def cl_l2 (s : cl_S) (t m : Int32) : cl_S := cl_sl (cl_se (cl_t (cl_sp (cl_t s 1 (cl_ga s t m).1)) 0 (ho_so t (s.1 0).reverse m [])) m)
def cl_l1 (s : cl_S) (sl t : Int32) : Bool × cl_S := if cl_may s ∧ cl_op s.2.1 (cl_ce s) then (if (cl_ga s t (ly_m s sl)).2 = 0 ∧ ho_ha (cl_ty s) (se_d s.2.1 (cl_ce s)) (cl_ga s t (ly_m s sl)).1 = true ∧ ho_fi (cl_ty s) (cl_ga s t (ly_m s sl)).1 (cl_tyAt s (cl_me s - 1)) (-1) = true then (true, cl_l2 s t (ly_m s sl)) else (false, cl_t s 1 (cl_ga s t (ly_m s sl)).1)) else (false, s)
def cl_ly (sl t : Int32) : Nat → Nat → cl_S → Nat × cl_S
  | 0, d, s => (d, s)
  | n + 1, d, s => if (cl_l1 s sl t).1 = true then cl_ly sl t n (d + 1) (cl_l1 s sl t).2 else (d, (cl_l1 s sl t).2)
def cm_lay (s : cl_S) (n sl t : Int32) : cl_R × cl_S := if ii n 1 12 ∧ ii sl 0 50 ∧ ii t 0 2 then (if cl_ce s = 100 then (.inr cx_s, s) else (.inl (some (nI (cl_ly sl t n.toNatClampNeg 0 s).1)), (cl_ly sl t n.toNatClampNeg 0 s).2)) else (.inr cx_a, s)
theorem ho_ga_len {t : Int32} : ∀ (L : List tt_R) (m : Int32) (g : List tt_R), (ho_ga t L m g).1.length ≤ g.length + L.length
  | [], m, g => Nat.le_refl _
  | r :: L, m, g => by
    have g1 := ho_ga_len (t := t) L m g
    have g2 := ho_ga_len (t := t) L (m - mn m r.2.2.2) (g ++ [(t, r.2.1, r.2.2.1, mn m r.2.2.2)])
    rw [List.length_append, List.length_cons, List.length_nil] at g2
    rw [ho_ga, List.length_cons]
    split
    · show g.length ≤ _; omega
    · split <;> omega
theorem ho_so_len {t : Int32} : ∀ (L : List tt_R) (m : Int32) (d : List tt_R), (ho_so t L m d).length ≤ d.length + L.length
  | [], m, d => Nat.le_refl _
  | r :: L, m, d => by
    have g0 := ho_so_len (t := t) L m (r :: d)
    have g1 := ho_so_len (t := t) L (m - mn m r.2.2.2) d
    have g2 := ho_so_len (t := t) L (m - mn m r.2.2.2) ((r.1, r.2.1, r.2.2.1 + mn m r.2.2.2, r.2.2.2 - mn m r.2.2.2) :: d)
    rw [List.length_cons] at g0 g2
    rw [ho_so, List.length_cons]
    split
    · rw [List.length_append, List.length_reverse, List.length_cons]; omega
    · split
      · split <;> omega
      · omega
section PUBB
variable {l : Launch} {G : mm_G} {h : mm_H} {c0 n0 : Nat} {s : cl_S}
theorem c_X8_pb (hP : cl_P h s.1 s.2 c0 n0) (h1 : (s.1 1).length ≤ 100) (h2 : (s.1 2).length ≤ 19000) (h3 : (s.1 3).length ≤ 19000) : mm_Ct l G mX8_putBehind [.ref 0] h (mm_qv (fun h' => cl_P h' (cl_sp s).1 (cl_sp s).2 c0 n0 ∧ cl_F h h')) := by
  obtain ⟨tb, S, c, ho, ⟨cm, ce, me⟩, st, ow⟩ := s
  exact c_X8_putBehind hP h1 h2 h3
theorem c_X5_ec {k : Nat} (hP : cl_P h s.1 s.2 c0 n0) (hc : cl_ce s = nI k) (hk : k < 100) (n : Int32) : mm_Ct l G mX5_endCell [.ref 13, .int n] h (mm_qv (fun h' => cl_P h' (cl_se s n).1 (cl_se s n).2 c0 n0 ∧ cl_F h h')) := by
  obtain ⟨tb, S, c, ho, ⟨cm, ce, me⟩, st, ow⟩ := s
  obtain rfl : ce = nI k := hc
  have := c_X5_endCell (l := l) (G := G) hP hk n
  unfold cl_se
  rw [show (cl_ce (tb, S, c, ho, (cm, nI k, me), st, ow)).toNatClampNeg = k from nI_clamp (by omega), show cl_ce (tb, S, c, ho, (cm, nI k, me), st, ow) + 1 = nI (k + 1) from nI_1 k]
  exact this
theorem c_X5_re {k : Nat} (hP : cl_P h s.1 s.2 c0 n0) (hc : cl_ce s = nI (k + 1)) (hk : k < 100) (n : Int32) : mm_Ct l G mX5_regainEnd [.ref 13, .int n] h (mm_qv (fun h' => cl_P h' (cl_sr s n).1 (cl_sr s n).2 c0 n0 ∧ cl_F h h')) := by
  obtain ⟨tb, S, c, ho, ⟨cm, ce, me⟩, st, ow⟩ := s
  obtain rfl : ce = nI (k + 1) := hc
  have := c_X5_regainEnd (l := l) (G := G) hP hk n
  unfold cl_sr
  rw [show (cl_ce (tb, S, c, ho, (cm, nI (k + 1), me), st, ow) - 1).toNatClampNeg = k from by show (nI (k + 1) - 1).toNatClampNeg = k; rw [nI_m1]; exact nI_clamp (by omega)]
  exact this
theorem cs_ow (hP : cl_P h s.1 s.2 c0 n0) (w : Int32 × Int32 × Int32 × Int32 × Int32 × Int32) : cl_P (mm_set h 0 (cl_own w)) (cl_so s w).1 (cl_so s w).2 c0 n0 ∧ cl_F h (mm_set h 0 (cl_own w)) := by
  obtain ⟨tb, S, c, ho, ro, st, ow⟩ := s
  exact cs_0 hP w
theorem cs_la (hP : cl_P h s.1 s.2 c0 n0) : cl_P (mm_set h 0 (cl_own (cl_la s + 1, s.2.2.2.2.2.2.2))) (cl_sl s).1 (cl_sl s).2 c0 n0 ∧ cl_F h (mm_set h 0 (cl_own (cl_la s + 1, s.2.2.2.2.2.2.2))) := cs_ow hP _
theorem c_X8_layOneCell {k : Nat} (hP : cl_P h s.1 s.2 c0 n0) (hc : cl_ce s = nI k) (hk : k ≤ 100) (h0 : (s.1 0).length ≤ 100) (h2 : (s.1 2).length ≤ 19000) (h3 : (s.1 3).length ≤ 19000) (sl t : Int32) : mm_Ct l G mX8_layOneCell [.ref 0, .int sl, .int t] h (mm_qi (fun v h' => v = .int (bb ((cl_l1 s sl t).1 = true)) ∧ cl_P h' (cl_l1 s sl t).2.1 (cl_l1 s sl t).2.2 c0 n0 ∧ cl_F h h')) := by
  refine mm_ct (by decide +kernel) (by decide +kernel) rfl (by simp [Value.category]) (Nat.le_of_ble_eq_true rfl) rfl ?_
  have hgl : (cl_ga s t (ly_m s sl)).1.length ≤ 100 := by
    have := ho_ga_len (t := t) (s.1 0).reverse (ly_m s sl) []
    rw [List.length_reverse, List.length_nil] at this
    show (ho_ga t (s.1 0).reverse (ly_m s sl) []).1.length ≤ 100
    omega
  unfold cl_l1
  have hgo : cl_may s → mm_Ex l G mX8_layOneCell (mm_qi (fun v h' => v = .int (bb ((if (cl_ga s t (ly_m s sl)).2 = 0 ∧ ho_ha (cl_ty s) (se_d s.2.1 (cl_ce s)) (cl_ga s t (ly_m s sl)).1 = true ∧ ho_fi (cl_ty s) (cl_ga s t (ly_m s sl)).1 (cl_tyAt s (cl_me s - 1)) (-1) = true then (true, cl_l2 s t (ly_m s sl)) else (false, cl_t s 1 (cl_ga s t (ly_m s sl)).1)).1 = true)) ∧ cl_P h' (if (cl_ga s t (ly_m s sl)).2 = 0 ∧ ho_ha (cl_ty s) (se_d s.2.1 (cl_ce s)) (cl_ga s t (ly_m s sl)).1 = true ∧ ho_fi (cl_ty s) (cl_ga s t (ly_m s sl)).1 (cl_tyAt s (cl_me s - 1)) (-1) = true then (true, cl_l2 s t (ly_m s sl)) else (false, cl_t s 1 (cl_ga s t (ly_m s sl)).1)).2.1 (if (cl_ga s t (ly_m s sl)).2 = 0 ∧ ho_ha (cl_ty s) (se_d s.2.1 (cl_ce s)) (cl_ga s t (ly_m s sl)).1 = true ∧ ho_fi (cl_ty s) (cl_ga s t (ly_m s sl)).1 (cl_tyAt s (cl_me s - 1)) (-1) = true then (true, cl_l2 s t (ly_m s sl)) else (false, cl_t s 1 (cl_ga s t (ly_m s sl)).1)).2.2 c0 n0 ∧ cl_F h h')) 28 [.ref 0, .int sl, .int t, .int (cl_ce s), .null, .null] [] h := by
    intro hmay
    have hk1 : k < 100 := by
      rcases Nat.lt_or_ge k 100 with z | z
      · exact z
      · exact absurd (hc.trans (by rw [show k = 100 by omega]; rfl)) hmay.2.2.2
    refine ex_aload_n dX8_layOneCell_28 rfl ?_
    refine ex_getfield dX8_layOneCell_29 g_X8_10 (cP_ow hP) rfl ?_
    refine ex_iload_n dX8_layOneCell_32 rfl ?_
    refine cV_f dX8_layOneCell_33 (mm_kv i_X6_groundOf l_X8_172) ⟨(Nat.le_of_ble_eq_true rfl), (Nat.le_of_ble_eq_true rfl)⟩ (c_X6_groundOf (cP_se hP) _) rfl rfl (cP_se hP).1 (Nat.le_of_ble_eq_true rfl) rfl ?_
    refine ex_istore dX8_layOneCell_36 (Nat.le_of_ble_eq_true rfl) ?_
    refine ex_iload dX8_layOneCell_38 rfl ?_
    refine ex_iload dX8_layOneCell_40 rfl ?_
    refine ex_iload_n dX8_layOneCell_42 rfl ?_
    refine ex_imul dX8_layOneCell_43 ?_
    refine ex_sipush (v := 1000) dX8_layOneCell_44 (by decide) ?_
    refine ex_idiv dX8_layOneCell_47 (by decide) ?_
    refine ex_iadd dX8_layOneCell_48 ?_
    refine ex_istore dX8_layOneCell_49 (Nat.le_of_ble_eq_true rfl) ?_
    skip
    show mm_Ex l G mX8_layOneCell _ 51 [.ref 0, .int sl, .int t, .int (cl_ce s), .int (se_g s.2.1 (cl_ce s)), .int (ly_m s sl)] [] h
    refine ex_aload_n dX8_layOneCell_51 rfl ?_
    refine ex_getfield dX8_layOneCell_52 g_X8_26 (cP_ow hP) rfl ?_
    refine ex_iload_n dX8_layOneCell_55 rfl ?_
    refine ex_iload dX8_layOneCell_56 rfl ?_
    refine cV_x dX8_layOneCell_58 (mm_kv i_X3_gather l_X8_175) ⟨(Nat.le_of_ble_eq_true rfl), (Nat.le_of_ble_eq_true rfl)⟩ (c_X3_gather hP.1 (cP_ho hP) h0 _ _) rfl rfl (cP_ho hP) (Nat.le_of_ble_eq_true rfl) rfl ?_
    rintro _ h1 ⟨rfl, q1, t1⟩
    have p1 : cl_P h1 (cl_t s 1 (cl_ga s t (ly_m s sl)).1).1 (cl_t s 1 (cl_ga s t (ly_m s sl)).1).2 c0 n0 := cP_tab hP q1 t1
    refine ex_if_eq (tgt := 106) dX8_layOneCell_61 (by decide) (fun c_61 => ?_) (fun c_61 => ?_)
    · refine ex_iconst (v := 0) dX8_layOneCell_106 (by decide) ?_
      refine ex_ireturn dX8_layOneCell_107 ⟨_, rfl, rfl⟩ ?_
      rw [if_neg (fun z => bb_0.mp c_61 z.1)]; exact ⟨_, rfl, congrArg Value.int (bb_f (fun z => nomatch z)).symm, p1, cl_Ft t1⟩
    · refine ex_aload_n dX8_layOneCell_64 rfl ?_
      refine ex_getfield dX8_layOneCell_65 g_X8_26 (cP_ow p1) rfl ?_
      refine ex_aload_n dX8_layOneCell_68 rfl ?_
      refine ex_getfield dX8_layOneCell_69 g_X8_10 (cP_ow p1) rfl ?_
      refine ex_iload_n dX8_layOneCell_72 rfl ?_
      refine cV_f dX8_layOneCell_73 (mm_kv i_X6_depthOf l_X8_74) ⟨(Nat.le_of_ble_eq_true rfl), (Nat.le_of_ble_eq_true rfl)⟩ (c_X6_depthOf (cP_se p1) _) rfl rfl (cP_se p1).1 (Nat.le_of_ble_eq_true rfl) rfl ?_
      refine cV_f dX8_layOneCell_76 (mm_kv i_X3_holdsAt l_X8_178) ⟨(Nat.le_of_ble_eq_true rfl), (Nat.le_of_ble_eq_true rfl)⟩ (c_X3_holdsAt p1.1 (cP_ho p1) (cP_ty p1) _) rfl rfl (cP_ho p1) (Nat.le_of_ble_eq_true rfl) rfl ?_
      refine ex_if_eq (tgt := 106) dX8_layOneCell_79 (by decide) (fun c_79 => ?_) (fun c_79 => ?_)
      · refine ex_iconst (v := 0) dX8_layOneCell_106 (by decide) ?_
        refine ex_ireturn dX8_layOneCell_107 ⟨_, rfl, rfl⟩ ?_
        rw [if_neg (fun z => bb_0.mp c_79 z.2.1)]; exact ⟨_, rfl, congrArg Value.int (bb_f (fun z => nomatch z)).symm, p1, cl_Ft t1⟩
      · refine ex_aload_n dX8_layOneCell_82 rfl ?_
        refine ex_getfield dX8_layOneCell_83 g_X8_26 (cP_ow p1) rfl ?_
        refine ex_aload_n dX8_layOneCell_86 rfl ?_
        refine ex_aload_n dX8_layOneCell_87 rfl ?_
        refine ex_getfield dX8_layOneCell_88 g_X8_33 (cP_ow p1) rfl ?_
        refine ex_getfield dX8_layOneCell_91 g_X8_123 (cP_ro p1) rfl ?_
        refine ex_iconst (v := 1) dX8_layOneCell_94 (by decide) ?_
        refine ex_isub dX8_layOneCell_95 ?_
        refine cV_f dX8_layOneCell_96 (mm_kv i_X8_typeAt l_X8_181) ⟨(Nat.le_of_ble_eq_true rfl), (Nat.le_of_ble_eq_true rfl)⟩ (c_X8_typeAt (s := cl_t s 1 (cl_ga s t (ly_m s sl)).1) p1 _) rfl rfl (cP_ow p1) (Nat.le_of_ble_eq_true rfl) rfl ?_
        refine ex_iconst (v := (-1)) dX8_layOneCell_99 (by decide) ?_
        refine cV_f dX8_layOneCell_100 (mm_kv i_X3_fits l_X8_184) ⟨(Nat.le_of_ble_eq_true rfl), (Nat.le_of_ble_eq_true rfl)⟩ (c_X3_fits p1.1 (cP_ho p1) (cP_ty p1) _ _) rfl rfl (cP_ho p1) (Nat.le_of_ble_eq_true rfl) rfl ?_
        refine ex_if_ne (tgt := 108) dX8_layOneCell_103 (by decide) (fun c_103 => ?_) (fun c_103 => ?_)
        · refine ex_aload_n dX8_layOneCell_108 rfl ?_
          refine cV_y dX8_layOneCell_109 (mm_kv i_X8_putBehind l_X8_187) ⟨(Nat.le_of_ble_eq_true rfl), (Nat.le_of_ble_eq_true rfl)⟩ (c_X8_pb p1 (show (cl_ga s t (ly_m s sl)).1.length ≤ 100 from hgl) h2 h3) rfl rfl (cP_ow p1) (Nat.le_of_ble_eq_true rfl) rfl ?_
          rintro h5 ⟨p5, f5⟩
          refine ex_aload_n dX8_layOneCell_112 rfl ?_
          refine ex_getfield dX8_layOneCell_113 g_X8_26 (cP_ow p5) rfl ?_
          refine ex_iload_n dX8_layOneCell_116 rfl ?_
          refine ex_iload dX8_layOneCell_117 rfl ?_
          refine cV_y dX8_layOneCell_119 (mm_kv i_X3_sendOut l_X8_190) ⟨(Nat.le_of_ble_eq_true rfl), (Nat.le_of_ble_eq_true rfl)⟩ (c_X3_sendOut p5.1 (cP_ho p5) _ _) rfl rfl (cP_ho p5) (Nat.le_of_ble_eq_true rfl) rfl ?_
          rintro h6 ⟨q6, t6⟩
          have p6 : cl_P h6 (cl_t (cl_sp (cl_t s 1 (cl_ga s t (ly_m s sl)).1)) 0 (ho_so t (s.1 0).reverse (ly_m s sl) [])).1 (cl_t (cl_sp (cl_t s 1 (cl_ga s t (ly_m s sl)).1)) 0 (ho_so t (s.1 0).reverse (ly_m s sl) [])).2 c0 n0 := cP_tab p5 q6 t6
          refine ex_aload_n dX8_layOneCell_122 rfl ?_
          refine ex_getfield dX8_layOneCell_123 g_X8_33 (cP_ow p6) rfl ?_
          refine ex_iload dX8_layOneCell_126 rfl ?_
          refine cV_y dX8_layOneCell_128 (mm_kv i_X5_endCell l_X8_193) ⟨(Nat.le_of_ble_eq_true rfl), (Nat.le_of_ble_eq_true rfl)⟩ (c_X5_ec p6 hc hk1 _) rfl rfl (cP_ro p6) (Nat.le_of_ble_eq_true rfl) rfl ?_
          rintro h7 ⟨p7, f7⟩
          refine ex_aload_n dX8_layOneCell_131 rfl ?_
          refine ex_dup dX8_layOneCell_132 rfl ?_
          refine ex_getfield dX8_layOneCell_133 g_X8_109 (cP_ow p7) rfl ?_
          refine ex_iconst (v := 1) dX8_layOneCell_136 (by decide) ?_
          refine ex_iadd dX8_layOneCell_137 ?_
          refine ex_put dX8_layOneCell_138 p_X8_109 (cP_ow p7) (Nat.le_of_ble_eq_true rfl) (fun z => nomatch z) (mm_fi _) ?_
          refine ex_iconst (v := 1) dX8_layOneCell_141 (by decide) ?_
          refine ex_ireturn dX8_layOneCell_142 ⟨_, rfl, rfl⟩ ?_
          rw [if_pos ⟨bb_n.mp c_61, bb_n.mp c_79, bb_n.mp c_103⟩]; exact ⟨_, rfl, congrArg Value.int (bb_t rfl).symm, (cs_la p7).1, ((cl_Ft t1).trans f5).trans ((cl_Ft t6).trans (f7.trans (cs_la p7).2))⟩
        · refine ex_iconst (v := 0) dX8_layOneCell_106 (by decide) ?_
          refine ex_ireturn dX8_layOneCell_107 ⟨_, rfl, rfl⟩ ?_
          rw [if_neg (fun z => bb_0.mp c_103 z.2.2)]; exact ⟨_, rfl, congrArg Value.int (bb_f (fun z => nomatch z)).symm, p1, cl_Ft t1⟩
  refine ex_aload_n dX8_layOneCell_0 rfl ?_
  refine ex_getfield dX8_layOneCell_1 g_X8_33 (cP_ow hP) rfl ?_
  refine ex_getfield dX8_layOneCell_4 g_X8_63 (cP_ro hP) rfl ?_
  refine ex_istore_n dX8_layOneCell_7 (Nat.le_of_ble_eq_true rfl) ?_
  refine ex_aload_n dX8_layOneCell_8 rfl ?_
  refine cV_f dX8_layOneCell_9 (mm_kv i_X8_mayGoOn l_X8_166) ⟨(Nat.le_of_ble_eq_true rfl), (Nat.le_of_ble_eq_true rfl)⟩ (c_X8_mayGoOn hP) rfl rfl (cP_ow hP) (Nat.le_of_ble_eq_true rfl) rfl ?_
  refine ex_if_eq (tgt := 26) dX8_layOneCell_12 (by decide) (fun c_12 => ?_) (fun c_12 => ?_)
  · refine ex_iconst (v := 0) dX8_layOneCell_26 (by decide) ?_
    refine ex_ireturn dX8_layOneCell_27 ⟨_, rfl, rfl⟩ ?_
    rw [if_neg (fun z => bb_0.mp c_12 z.1)]; exact ⟨_, rfl, congrArg Value.int (bb_f (fun z => nomatch z)).symm, hP, cl_F.refl _⟩
  · refine ex_aload_n dX8_layOneCell_15 rfl ?_
    refine ex_getfield dX8_layOneCell_16 g_X8_10 (cP_ow hP) rfl ?_
    refine ex_iload_n dX8_layOneCell_19 rfl ?_
    refine cV_f dX8_layOneCell_20 (mm_kv i_X6_isOpen l_X8_169) ⟨(Nat.le_of_ble_eq_true rfl), (Nat.le_of_ble_eq_true rfl)⟩ (c_X6_isOpen (cP_se hP) _) rfl rfl (cP_se hP).1 (Nat.le_of_ble_eq_true rfl) rfl ?_
    refine ex_if_ne (tgt := 28) dX8_layOneCell_23 (by decide) (fun c_23 => ?_) (fun c_23 => ?_)
    · rw [if_pos ⟨bb_n.mp c_12, bb_n.mp c_23⟩]; exact hgo (bb_n.mp c_12)
    · refine ex_iconst (v := 0) dX8_layOneCell_26 (by decide) ?_
      refine ex_ireturn dX8_layOneCell_27 ⟨_, rfl, rfl⟩ ?_
      rw [if_neg (fun z => bb_0.mp c_23 z.2)]; exact ⟨_, rfl, congrArg Value.int (bb_f (fun z => nomatch z)).symm, hP, cl_F.refl _⟩
theorem c_X8_lay {I : cl_S → Prop} (sl t : Int32) (hI : ∀ s, I s → (∃ k, cl_ce s = nI k ∧ k ≤ 100) ∧ (s.1 0).length ≤ 100 ∧ (s.1 2).length ≤ 19000 ∧ (s.1 3).length ≤ 19000 ∧ ((cl_l1 s sl t).1 = true → I (cl_l1 s sl t).2)) (hl : l.stackTraces = false) (hP : cl_P h s.1 s.2 c0 n0) (hs : I s) (n : Int32) : mm_Ct l G mX8_lay [.ref 0, .int n, .int sl, .int t] h (cl_A (cm_lay s n sl t) c0 n0 h) := by
  refine mm_ct (by decide +kernel) (by decide +kernel) rfl (by simp [Value.category]) (Nat.le_of_ble_eq_true rfl) rfl ?_
  refine mm_via (p := ii n 1 12 ∧ ii sl 0 50 ∧ ii t 0 2) (pc' := 32) (ls' := [.ref 0, .int n, .int sl, .int t, .null]) (st := []) (fun b hb => ?_) (fun k => ?_)
  · skip
    refine cS_n dX8_lay_32 (mm_ks i_X8_needArgument l_X8_59) ⟨(Nat.le_of_ble_eq_true rfl), (Nat.le_of_ble_eq_true rfl)⟩ (c_X8_needArgument hl _) rfl rfl (Nat.le_of_ble_eq_true rfl) rfl (fun b_32 => ?_) (fun b_32 => ?_)
    · rw [cm_lay, if_neg (bb_0.mp (hb ▸ b_32))]; exact cA_x hP
    replace hb : ii n 1 12 ∧ ii sl 0 50 ∧ ii t 0 2 := bb_n.mp (hb ▸ b_32)
    rw [cm_lay, if_pos hb]
    skip
    refine mm_via (p := ¬ cl_ce s = 100) (pc' := 47) (ls' := [.ref 0, .int n, .int sl, .int t, .null]) (st := []) (fun b hb2 => ?_) (fun k => ?_)
    · skip
      refine cS_n dX8_lay_47 (mm_ks i_X8_needState l_X8_67) ⟨(Nat.le_of_ble_eq_true rfl), (Nat.le_of_ble_eq_true rfl)⟩ (c_X8_needState hl _) rfl rfl (Nat.le_of_ble_eq_true rfl) rfl (fun b_47 => ?_) (fun b_47 => ?_)
      · rw [if_pos (Decidable.not_not.mp (bb_0.mp (hb2 ▸ b_47)))]; exact cA_x hP
      rw [if_neg (bb_n.mp (hb2 ▸ b_47))]
      refine ex_iconst (v := 0) dX8_lay_50 (by decide) ?_
      refine ex_istore dX8_lay_51 (Nat.le_of_ble_eq_true rfl) ?_
      skip
      obtain ⟨N, hN, rfl⟩ := nI_of (x := n) (fun z => Int32.not_lt.mpr hb.1.1 (Int32.lt_of_lt_of_le z (by decide)))
      rw [nI_clamp hN]
      have key : ∀ (d m : Nat) (s1 : cl_S) (h1 : mm_H), d + m = N → I s1 → cl_P h1 s1.1 s1.2 c0 n0 → cl_F h h1 → mm_Ex l G mX8_lay (cl_A (.inl (some (nI (cl_ly sl t m d s1).1)), (cl_ly sl t m d s1).2) c0 n0 h) 53 [.ref 0, .int (nI N), .int sl, .int t, .int (nI d)] [] h1 := by
        intro d m
        induction m generalizing d with
        | zero =>
          intro s1 h1 hd i1 p1 f1
          obtain rfl : d = N := by omega
          refine ex_iload dX8_lay_53 rfl ?_
          refine ex_iload_n dX8_lay_55 rfl ?_
          refine ex_icmp_ge (tgt := 74) dX8_lay_56 (by decide) (fun _ => ?_) (fun z => absurd (Int32.le_refl _) z)
          refine ex_iload dX8_lay_74 rfl ?_
          refine ex_ireturn dX8_lay_76 ⟨_, rfl, rfl⟩ ?_
          exact cA_i p1 f1
        | succ m ih =>
          intro s1 h1 hd i1 p1 f1
          obtain ⟨⟨k1, e1, e2⟩, e3, e4, e5, e6⟩ := hI s1 i1
          refine ex_iload dX8_lay_53 rfl ?_
          refine ex_iload_n dX8_lay_55 rfl ?_
          refine ex_icmp_ge (tgt := 74) dX8_lay_56 (by decide) (fun z => absurd z (nI_ge (by omega) hN)) (fun _ => ?_)
          refine ex_aload_n dX8_lay_59 rfl ?_
          refine ex_iload_n dX8_lay_60 rfl ?_
          refine ex_iload_n dX8_lay_61 rfl ?_
          refine cV_x dX8_lay_62 (mm_kv i_X8_layOneCell l_X8_162) ⟨(Nat.le_of_ble_eq_true rfl), (Nat.le_of_ble_eq_true rfl)⟩ (c_X8_layOneCell p1 e1 e2 e3 e4 e5 sl t) rfl rfl (cP_ow p1) (Nat.le_of_ble_eq_true rfl) rfl ?_
          rintro _ h2 ⟨rfl, p2, f2⟩
          refine ex_if_eq (tgt := 74) dX8_lay_65 (by decide) (fun c_65 => ?_) (fun c_65 => ?_)
          · refine ex_iload dX8_lay_74 rfl ?_
            refine ex_ireturn dX8_lay_76 ⟨_, rfl, rfl⟩ ?_
            rw [cl_ly, if_neg (bb_0.mp c_65)]; exact cA_i p2 (f1.trans f2)
          · refine ex_iinc (d := 1) dX8_lay_68 rfl (by decide) ?_
            refine ex_goto (tgt := 53) dX8_lay_71 (by decide) ?_
            rw [cl_ly, if_pos (bb_n.mp c_65), nI_1]; exact ih (d + 1) _ _ (by omega) (e6 (bb_n.mp c_65)) p2 (f1.trans f2)
      exact key 0 N s h (by omega) hs hP (cl_F.refl _)
    · skip
      refine ex_aload_n dX8_lay_35 rfl ?_
      refine cV_f dX8_lay_36 (mm_kv i_X8_liesAtB l_X8_116) ⟨(Nat.le_of_ble_eq_true rfl), (Nat.le_of_ble_eq_true rfl)⟩ (c_X8_liesAtB hP) rfl rfl (cP_ow hP) (Nat.le_of_ble_eq_true rfl) rfl ?_
      refine ex_if_ne (tgt := 46) dX8_lay_39 (by decide) (fun c_39 => ?_) (fun c_39 => ?_)
      · refine ex_iconst (v := 0) dX8_lay_46 (by decide) ?_
        first | exact k _ (bb_f (fun z => z (bb_n.mp c_39))).symm | exact k _ (bb_t (bb_0.mp c_39)).symm
      · refine ex_iconst (v := 1) dX8_lay_42 (by decide) ?_
        refine ex_goto (tgt := 47) dX8_lay_43 (by decide) ?_
        first | exact k _ (bb_f (fun z => z (bb_n.mp c_39))).symm | exact k _ (bb_t (bb_0.mp c_39)).symm
  · skip
    refine ex_iload_n dX8_lay_0 rfl ?_
    refine ex_iconst (v := 1) dX8_lay_1 (by decide) ?_
    refine ex_bipush (v := 12) dX8_lay_2 (by decide) ?_
    refine cS_f dX8_lay_4 (mm_ks i_X8_isIn l_X8_55) ⟨(Nat.le_of_ble_eq_true rfl), (Nat.le_of_ble_eq_true rfl)⟩ (c_X8_isIn _ _ _) rfl rfl (Nat.le_of_ble_eq_true rfl) rfl ?_
    refine ex_if_eq (tgt := 31) dX8_lay_7 (by decide) (fun c_7 => ?_) (fun c_7 => ?_)
    · refine ex_iconst (v := 0) dX8_lay_31 (by decide) ?_
      first | exact k _ (bb_f (fun z => bb_0.mp c_7 z.1)).symm | exact k _ (bb_f (fun z => bb_0.mp c_17 z.2.1)).symm | exact k _ (bb_f (fun z => bb_0.mp c_24 z.2.2)).symm | exact k _ (bb_t ⟨bb_n.mp c_7, bb_n.mp c_17, bb_n.mp c_24⟩).symm
    · refine ex_iload_n dX8_lay_10 rfl ?_
      refine ex_iconst (v := 0) dX8_lay_11 (by decide) ?_
      refine ex_bipush (v := 50) dX8_lay_12 (by decide) ?_
      refine cS_f dX8_lay_14 (mm_ks i_X8_isIn l_X8_55) ⟨(Nat.le_of_ble_eq_true rfl), (Nat.le_of_ble_eq_true rfl)⟩ (c_X8_isIn _ _ _) rfl rfl (Nat.le_of_ble_eq_true rfl) rfl ?_
      refine ex_if_eq (tgt := 31) dX8_lay_17 (by decide) (fun c_17 => ?_) (fun c_17 => ?_)
      · refine ex_iconst (v := 0) dX8_lay_31 (by decide) ?_
        first | exact k _ (bb_f (fun z => bb_0.mp c_7 z.1)).symm | exact k _ (bb_f (fun z => bb_0.mp c_17 z.2.1)).symm | exact k _ (bb_f (fun z => bb_0.mp c_24 z.2.2)).symm | exact k _ (bb_t ⟨bb_n.mp c_7, bb_n.mp c_17, bb_n.mp c_24⟩).symm
      · refine ex_iload_n dX8_lay_20 rfl ?_
        refine cS_f dX8_lay_21 (mm_ks i_X8_isTank l_X8_152) ⟨(Nat.le_of_ble_eq_true rfl), (Nat.le_of_ble_eq_true rfl)⟩ (c_X8_isTank _) rfl rfl (Nat.le_of_ble_eq_true rfl) rfl ?_
        refine ex_if_eq (tgt := 31) dX8_lay_24 (by decide) (fun c_24 => ?_) (fun c_24 => ?_)
        · refine ex_iconst (v := 0) dX8_lay_31 (by decide) ?_
          first | exact k _ (bb_f (fun z => bb_0.mp c_7 z.1)).symm | exact k _ (bb_f (fun z => bb_0.mp c_17 z.2.1)).symm | exact k _ (bb_f (fun z => bb_0.mp c_24 z.2.2)).symm | exact k _ (bb_t ⟨bb_n.mp c_7, bb_n.mp c_17, bb_n.mp c_24⟩).symm
        · refine ex_iconst (v := 1) dX8_lay_27 (by decide) ?_
          refine ex_goto (tgt := 32) dX8_lay_28 (by decide) ?_
          first | exact k _ (bb_f (fun z => bb_0.mp c_7 z.1)).symm | exact k _ (bb_f (fun z => bb_0.mp c_17 z.2.1)).symm | exact k _ (bb_f (fun z => bb_0.mp c_24 z.2.2)).symm | exact k _ (bb_t ⟨bb_n.mp c_7, bb_n.mp c_17, bb_n.mp c_24⟩).symm
end PUBB
