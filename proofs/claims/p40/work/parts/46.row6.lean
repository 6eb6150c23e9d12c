theorem ls_ins {A D : List tt_R} {x : tt_R} {m : Nat} (h : A.length = m) : (A ++ D).take m ++ x :: (A ++ D).drop m = A ++ x :: D := by subst h; simp
theorem ls_ins2 {A D : List tt_R} {x y : tt_R} {m : Nat} (h : A.length = m) : (A ++ x :: D).take (m + 1) ++ y :: (A ++ x :: D).drop (m + 1) = (A ++ [x, y]) ++ D := by
  have := ls_ins (A := A ++ [x]) (D := D) (x := y) (m := m + 1) (by simp [h])
  simpa using this
theorem va_co {α : Type} (f : Nat → α) (a b c : α) : va_up (va_up (va_up f 3 a) 2 b) 3 c = va_up (va_up f 3 c) 2 b := by
  funext j; unfold va_up
  by_cases h3 : j = 3
  · subst h3; rfl
  · by_cases h2 : j = 2
    · subst h2; rfl
    · simp [h2, h3]
theorem va_co2 {α : Type} (f : Nat → α) (a c : α) : va_up (va_up f 2 a) 3 c = va_up (va_up f 3 c) 2 a := by
  funext j; unfold va_up
  by_cases h3 : j = 3
  · subst h3; rfl
  · by_cases h2 : j = 2
    · subst h2; rfl
    · simp [h2, h3]
def ro_ex (b e me : Int32) (T : List tt_R) : List tt_R × Nat := ro_ct b e (ro_dv e (ro_dv b T 0) 0).reverse 0 me []
def ro_xt (b e me : Int32) (T P : List tt_R) : List tt_R := (ro_ex b e me T).1.take ((ro_ex b e me T).1.length - (ro_ex b e me T).2) ++ (1, -1, -1, 0) :: (ro_xs P ++ (ro_ex b e me T).1.drop ((ro_ex b e me T).1.length - (ro_ex b e me T).2))
section ROW6
variable {l : Launch} {G : mm_G} {h : mm_H} {tb : Nat → List tt_R} {c0 n0 : Nat} {S : se_T} {c : ca_T} {ho : (Nat → Int32) × Int32 × Int32} {cm st : Nat → Int32} {ce me : Int32} {ow : Int32 × Int32 × Int32 × Int32 × Int32 × Int32}
theorem c_X5_exchange {k j : Nat} (hP : cl_P h tb (S, c, ho, (cm, nI k, me), st, ow) c0 n0) (hk : k ≤ 100) (hj : j < k) (h1 : (tb 1).length ≤ 100) (h2 : (tb 2).length ≤ 9000) (h3 : (tb 3).length ≤ 19000) (n : Int32) : mm_Ct l G mX5_exchange [.ref 13, .int (nI j), .ref 11, .int n] h (mm_qv (fun h' => cl_P h' (va_up (va_up tb 3 (tb 3 ++ [(ro_bs cm j, -1, -1, cm j)] ++ ro_xd (tb 1) (ro_bs cm j))) 2 (ro_xt (ro_bs cm j) (ro_bs cm j + cm j) me (tb 2) (tb 1))) (S, c, ho, (upd cm j n, nI k, me + (n - cm j)), st, ow) c0 n0 ∧ cl_F h h')) := by
  have ej : (nI j).toNatClampNeg = j := nI_clamp (by omega)
  have hi : ii (nI j) 0 99 := ⟨nI_pos' (by omega), nI_le (b := 99) (by omega) (by decide)⟩
  have hO : h.1 13 = some (ro_C (nI k) me) := cP_ro hP
  refine mm_ct (by decide +kernel) (by decide +kernel) rfl (by simp [Value.category]) (Nat.le_of_ble_eq_true rfl) rfl ?_
  refine ex_iload_n dX5_exchange_0 rfl ?_
  refine cSN_f dX5_exchange_1 (mm_ksn i_X8_isCell l_X5_37) ⟨(Nat.le_of_ble_eq_true rfl), (Nat.le_of_ble_eq_true rfl)⟩ (c_X8_isCell _) rfl rfl (Nat.le_of_ble_eq_true rfl) rfl ?_
  refine ex_if_ne (tgt := 8) dX5_exchange_4 (by decide) (fun _ => ?_) (fun z => absurd z (fun z => bb_0.mp z hi))
  refine ex_aload_n dX5_exchange_8 rfl ?_
  refine ex_iload_n dX5_exchange_9 rfl ?_
  refine cV_f dX5_exchange_10 (mm_kv i_X5_beginOf l_X5_84) ⟨(Nat.le_of_ble_eq_true rfl), (Nat.le_of_ble_eq_true rfl)⟩ (c_X5_beginOf (cP_cm hP) hO hk (by omega)) rfl rfl hO (Nat.le_of_ble_eq_true rfl) rfl ?_
  refine ex_istore dX5_exchange_13 (Nat.le_of_ble_eq_true rfl) ?_
  refine ex_aload_n dX5_exchange_15 rfl ?_
  refine ex_getfield dX5_exchange_16 g_X5_25 hO rfl ?_
  refine ex_iload_n dX5_exchange_19 rfl ?_
  refine ex_iaload dX5_exchange_20 (cP_cm hP) (ii_99 hi) ?_
  refine ex_istore dX5_exchange_21 (Nat.le_of_ble_eq_true rfl) ?_
  skip
  rw [ej, Nat.min_eq_left (show j ≤ k by omega)]
  generalize hb : ro_bs cm j = b
  show mm_Ex l G mX5_exchange _ 23 [.ref 13, .int (nI j), .ref 11, .int n, .int b, .int (cm j), _, _, _, _, _, _] [] h
  have hle := ro_ct_le (b := b) (e := b + cm j) (ro_dv (b + cm j) (ro_dv b (tb 2) 0) 0).reverse 0 me [] (Nat.le_refl _)
  have l1 := ro_dv_len (p := b) (tb 2) 0
  have l2 := ro_dv_len (p := b + cm j) (ro_dv b (tb 2) 0) 0
  rw [List.length_reverse, List.length_nil] at hle
  refine ex_aload_n dX5_exchange_23 rfl ?_
  refine ex_iload dX5_exchange_24 rfl ?_
  refine ex_iload dX5_exchange_26 rfl ?_
  refine ex_iload dX5_exchange_28 rfl ?_
  refine ex_iadd dX5_exchange_30 ?_
  refine cV_x dX5_exchange_31 (mm_kv i_X5_cutThings l_X5_87) ⟨(Nat.le_of_ble_eq_true rfl), (Nat.le_of_ble_eq_true rfl)⟩ (c_X5_cutThings hP.1 hO (by omega) _ _) rfl rfl hO (Nat.le_of_ble_eq_true rfl) rfl ?_
  rintro _ h4 ⟨rfl, q1, q2⟩
  refine ex_istore dX5_exchange_34 (Nat.le_of_ble_eq_true rfl) ?_
  refine ex_aload_n dX5_exchange_36 rfl ?_
  refine ex_getfield dX5_exchange_37 g_X5_21 ((q2 13 rfl).trans hO) rfl ?_
  refine ex_iload dX5_exchange_40 rfl ?_
  refine ex_iload dX5_exchange_42 rfl ?_
  refine cV_y dX5_exchange_44 (mm_kv i_X1_cutOut l_X5_74) ⟨(Nat.le_of_ble_eq_true rfl), (Nat.le_of_ble_eq_true rfl)⟩ (c_X1_cutOut q1 ((q2 16 rfl).trans (cP_de hP)) (show (tb 3).length ≤ 20000 by omega) _ _) rfl rfl ((q2 16 rfl).trans (cP_de hP)) (Nat.le_of_ble_eq_true rfl) rfl ?_
  rintro h5 ⟨q3, q4⟩
  obtain ⟨v, hv⟩ := tS_row q3 2 (by decide)
  refine ex_iload dX5_exchange_47 rfl ?_
  refine ex_istore dX5_exchange_49 (Nat.le_of_ble_eq_true rfl) ?_
  refine ex_aload_n dX5_exchange_51 rfl ?_
  refine ex_getfield dX5_exchange_52 g_X5_12 (((q2.trans q4) 13 rfl).trans hO) rfl ?_
  refine ex_iload dX5_exchange_55 rfl ?_
  refine ex_iconst (v := 1) dX5_exchange_57 (by decide) ?_
  refine ex_iconst (v := (-1)) dX5_exchange_58 (by decide) ?_
  refine ex_iconst (v := (-1)) dX5_exchange_59 (by decide) ?_
  refine ex_iconst (v := 0) dX5_exchange_60 (by decide) ?_
  refine cV_y dX5_exchange_61 (mm_kv i_X7_insert l_X5_90) ⟨(Nat.le_of_ble_eq_true rfl), (Nat.le_of_ble_eq_true rfl)⟩ (tS_insert q3 2 (by decide) (show (ro_ex b (b + cm j) me (tb 2)).1.length ≤ 20000 from Nat.le_trans hle.2 (by omega)) ((ro_ex b (b + cm j) me (tb 2)).1.length - (ro_ex b (b + cm j) me (tb 2)).2) (Nat.sub_le _ _) _ rfl _ _ _ _) rfl rfl hv (Nat.le_of_ble_eq_true rfl) rfl ?_
  rintro h6 ⟨q5, q6⟩
  refine ex_iconst (v := 0) dX5_exchange_64 (by decide) ?_
  refine ex_istore dX5_exchange_65 (Nat.le_of_ble_eq_true rfl) ?_
  skip
  have hF6 := (q2.trans q4).trans q6
  rw [va_co2, va_uu] at q5
  show mm_Ex l G mX5_exchange _ 67 [.ref 13, .int (nI j), .ref 11, .int n, .int b, .int (cm j), .int (nI ((ro_ex b (b + cm j) me (tb 2)).1.length - (ro_ex b (b + cm j) me (tb 2)).2)), .int b, .int (nI 0), _, _, _] [] h6
  replace q5 : tt_S h6 (va_up (va_up tb 3 (tb 3 ++ [(b, -1, -1, cm j)])) 2 ((ro_ex b (b + cm j) me (tb 2)).1.take ((ro_ex b (b + cm j) me (tb 2)).1.length - (ro_ex b (b + cm j) me (tb 2)).2) ++ (1, -1, -1, 0) :: (ro_ex b (b + cm j) me (tb 2)).1.drop ((ro_ex b (b + cm j) me (tb 2)).1.length - (ro_ex b (b + cm j) me (tb 2)).2))) c0 n0 := q5
  unfold ro_xt
  have hXl : (ro_ex b (b + cm j) me (tb 2)).1.length ≤ 9002 := Nat.le_trans hle.2 (by omega)
  generalize (ro_ex b (b + cm j) me (tb 2)).1 = X at q5 hXl
  generalize hm : X.length - (ro_ex b (b + cm j) me (tb 2)).2 = m at q5
  have hmX : m ≤ X.length := by omega
  generalize hD : X.drop m = D at q5
  have hDl : D.length ≤ 9002 := by rw [← hD, List.length_drop]; omega
  generalize hA : X.take m = A0 at q5
  have hml : m ≤ 9002 := by omega
  have hAl : A0.length = m := by rw [← hA, List.length_take]; omega
  clear hle hm hD hA hmX hXl
  have key : ∀ (m : Nat) (A dd : List tt_R) (pl : Int32) (h7 : mm_H) (x9 x10 x11 : Value), A.length = m + 1 → m ≤ 9002 → dd.length ≤ 19001 → tt_S h7 (va_up (va_up tb 3 dd) 2 (A ++ D)) c0 n0 → tt_F h h7 → mm_Ex l G mX5_exchange (mm_qv (fun h' => cl_P h' (va_up (va_up tb 3 (dd ++ ro_xd (tb 1) pl)) 2 (A ++ (ro_xs (tb 1) ++ D))) (S, c, ho, (upd cm j n, nI k, me + (n - cm j)), st, ow) c0 n0 ∧ cl_F h h')) 67 [.ref 13, .int (nI j), .ref 11, .int n, .int b, .int (cm j), .int (nI m), .int pl, .int (nI 0), x9, x10, x11] [] h7 := by
    refine lp_fwd (tb 1) (fun i R => ∀ (m : Nat) (A dd : List tt_R) (pl : Int32) (h7 : mm_H) (x9 x10 x11 : Value), A.length = m + 1 → m ≤ 9002 + 2 * i → dd.length ≤ 19001 + i → tt_S h7 (va_up (va_up tb 3 dd) 2 (A ++ D)) c0 n0 → tt_F h h7 → mm_Ex l G mX5_exchange (mm_qv (fun h' => cl_P h' (va_up (va_up tb 3 (dd ++ ro_xd R pl)) 2 (A ++ (ro_xs R ++ D))) (S, c, ho, (upd cm j n, nI k, me + (n - cm j)), st, ow) c0 n0 ∧ cl_F h h')) 67 [.ref 13, .int (nI j), .ref 11, .int n, .int b, .int (cm j), .int (nI m), .int pl, .int (nI i), x9, x10, x11] [] h7) ?_ ?_
    · intro m A dd pl h7 x9 x10 x11 hA hm hdd q7 f7
      obtain ⟨v, hv⟩ := tS_row q7 1 (by decide)
      refine ex_iload dX5_exchange_67 rfl ?_
      refine ex_aload_n dX5_exchange_69 rfl ?_
      refine ex_getfield dX5_exchange_70 g_X5_41 hv rfl ?_
      refine ex_icmp_ge (tgt := 167) dX5_exchange_73 (by decide) (fun _ => ?_) (fun z => absurd (Int32.le_refl _) z)
      refine ex_aload_n dX5_exchange_167 rfl ?_
      refine ex_dup dX5_exchange_168 rfl ?_
      refine ex_getfield dX5_exchange_169 g_X5_52 ((f7 13 rfl).trans hO) rfl ?_
      refine ex_iload_n dX5_exchange_172 rfl ?_
      refine ex_iload dX5_exchange_173 rfl ?_
      refine ex_isub dX5_exchange_175 ?_
      refine ex_iadd dX5_exchange_176 ?_
      refine ex_put dX5_exchange_177 p_X5_52 ((f7 13 rfl).trans hO) (Nat.le_of_ble_eq_true rfl) (fun z => nomatch z) (mm_fi _) ?_
      refine ex_aload_n dX5_exchange_180 rfl ?_
      refine ex_getfield dX5_exchange_181 g_X5_25 mm_set_at rfl ?_
      refine ex_iload_n dX5_exchange_184 rfl ?_
      refine ex_iload_n dX5_exchange_185 rfl ?_
      refine ex_iastore dX5_exchange_186 (mm_set_ne (by decide) ((f7 19 rfl).trans (cP_cm hP))) (ii_99 hi) ?_
      refine ex_return dX5_exchange_187 rfl ?_
      rw [ro_xs, ro_xd, List.append_nil, List.nil_append, ej]; exact ⟨rfl, (cs_19 (cs_13 (cP_tab hP q7 f7) _ _).1 _).1, (cl_Ft f7).trans ((cs_13 (cP_tab hP q7 f7) (nI k) (me + (n - cm j))).2.trans (cs_19 (cs_13 (cP_tab hP q7 f7) (nI k) (me + (n - cm j))).1 _).2)⟩
    · intro i r R hr hR hi ih m A dd pl h7 x9 x10 x11 hA hm hdd q7 f7
      obtain ⟨v, hv⟩ := tS_row q7 1 (by decide)
      replace hv : h7.1 (tp 1) = some (.inr (7, [.ref v, .int (nI (tb 1).length)])) := hv
      obtain ⟨w, hw⟩ := tS_row q7 2 (by decide)
      refine ex_iload dX5_exchange_67 rfl ?_
      refine ex_aload_n dX5_exchange_69 rfl ?_
      refine ex_getfield dX5_exchange_70 g_X5_41 hv rfl ?_
      refine ex_icmp_ge (tgt := 167) dX5_exchange_73 (by decide) (fun z => absurd z (nI_ge hi (by omega))) (fun _ => ?_)
      refine ex_aload_n dX5_exchange_76 rfl ?_
      refine ex_iload dX5_exchange_77 rfl ?_
      refine ex_iconst (v := 1) dX5_exchange_79 (by decide) ?_
      refine cV_f dX5_exchange_80 (mm_kv i_X7_get l_X5_44) ⟨(Nat.le_of_ble_eq_true rfl), (Nat.le_of_ble_eq_true rfl)⟩ (tS_getr q7 1 (by decide) (L := tb 1) rfl hr 1 _ rfl (by decide) _ rfl) rfl rfl hv (Nat.le_of_ble_eq_true rfl) rfl ?_
      refine ex_istore dX5_exchange_83 (Nat.le_of_ble_eq_true rfl) ?_
      refine ex_aload_n dX5_exchange_85 rfl ?_
      refine ex_iload dX5_exchange_86 rfl ?_
      refine ex_iconst (v := 2) dX5_exchange_88 (by decide) ?_
      refine cV_f dX5_exchange_89 (mm_kv i_X7_get l_X5_44) ⟨(Nat.le_of_ble_eq_true rfl), (Nat.le_of_ble_eq_true rfl)⟩ (tS_getr q7 1 (by decide) (L := tb 1) rfl hr 2 _ rfl (by decide) _ rfl) rfl rfl hv (Nat.le_of_ble_eq_true rfl) rfl ?_
      refine ex_istore dX5_exchange_92 (Nat.le_of_ble_eq_true rfl) ?_
      refine ex_aload_n dX5_exchange_94 rfl ?_
      refine ex_iload dX5_exchange_95 rfl ?_
      refine ex_iconst (v := 3) dX5_exchange_97 (by decide) ?_
      refine cV_f dX5_exchange_98 (mm_kv i_X7_get l_X5_44) ⟨(Nat.le_of_ble_eq_true rfl), (Nat.le_of_ble_eq_true rfl)⟩ (tS_getr q7 1 (by decide) (L := tb 1) rfl hr 3 _ rfl (by decide) _ rfl) rfl rfl hv (Nat.le_of_ble_eq_true rfl) rfl ?_
      refine ex_istore dX5_exchange_101 (Nat.le_of_ble_eq_true rfl) ?_
      refine ex_aload_n dX5_exchange_103 rfl ?_
      refine ex_getfield dX5_exchange_104 g_X5_12 ((f7 13 rfl).trans hO) rfl ?_
      refine ex_iload dX5_exchange_107 rfl ?_
      refine ex_iconst (v := 1) dX5_exchange_109 (by decide) ?_
      refine ex_iadd dX5_exchange_110 ?_
      refine ex_iconst (v := 0) dX5_exchange_111 (by decide) ?_
      refine ex_iload dX5_exchange_112 rfl ?_
      refine ex_iload dX5_exchange_114 rfl ?_
      refine ex_iload dX5_exchange_116 rfl ?_
      refine cV_y dX5_exchange_118 (mm_kv i_X7_insert l_X5_90) ⟨(Nat.le_of_ble_eq_true rfl), (Nat.le_of_ble_eq_true rfl)⟩ (tS_insert q7 2 (by decide) (show (A ++ D).length ≤ 20000 by rw [List.length_append]; omega) (m + 1) (show m + 1 ≤ (A ++ D).length by rw [List.length_append]; omega) _ (nI_1 m) _ _ _ _) rfl rfl hw (Nat.le_of_ble_eq_true rfl) rfl ?_
      rintro h8 ⟨q8, f8⟩
      rw [va_uu, show ∀ x, (va_up (va_up tb 3 dd) 2 (A ++ D) 2).take (m + 1) ++ x :: (va_up (va_up tb 3 dd) 2 (A ++ D) 2).drop (m + 1) = A ++ x :: D from fun x => ls_ins hA] at q8
      obtain ⟨w2, hw2⟩ := tS_row q8 2 (by decide)
      refine ex_aload_n dX5_exchange_121 rfl ?_
      refine ex_getfield dX5_exchange_122 g_X5_12 (((f7.trans f8) 13 rfl).trans hO) rfl ?_
      refine ex_iload dX5_exchange_125 rfl ?_
      refine ex_iconst (v := 2) dX5_exchange_127 (by decide) ?_
      refine ex_iadd dX5_exchange_128 ?_
      refine ex_iconst (v := 1) dX5_exchange_129 (by decide) ?_
      refine ex_iconst (v := (-1)) dX5_exchange_130 (by decide) ?_
      refine ex_iconst (v := (-1)) dX5_exchange_131 (by decide) ?_
      refine ex_iconst (v := 0) dX5_exchange_132 (by decide) ?_
      refine cV_y dX5_exchange_133 (mm_kv i_X7_insert l_X5_90) ⟨(Nat.le_of_ble_eq_true rfl), (Nat.le_of_ble_eq_true rfl)⟩ (tS_insert q8 2 (by decide) (show (A ++ _ :: D).length ≤ 20000 by rw [List.length_append, List.length_cons]; omega) (m + 2) (show m + 2 ≤ (A ++ _ :: D).length by rw [List.length_append, List.length_cons]; omega) _ (nI_add m 2) _ _ _ _) rfl rfl hw2 (Nat.le_of_ble_eq_true rfl) rfl ?_
      rintro h9 ⟨q9, f9⟩
      rw [va_uu, show ∀ x y, (va_up (va_up tb 3 dd) 2 (A ++ x :: D) 2).take (m + 2) ++ y :: (va_up (va_up tb 3 dd) 2 (A ++ x :: D) 2).drop (m + 2) = (A ++ [x, y]) ++ D from fun x y => ls_ins2 hA] at q9
      refine ex_aload_n dX5_exchange_136 rfl ?_
      refine ex_getfield dX5_exchange_137 g_X5_21 ((((f7.trans f8).trans f9) 13 rfl).trans hO) rfl ?_
      refine ex_iload dX5_exchange_140 rfl ?_
      refine ex_iload dX5_exchange_142 rfl ?_
      refine ex_iload dX5_exchange_144 rfl ?_
      refine ex_iload dX5_exchange_146 rfl ?_
      refine cV_y dX5_exchange_148 (mm_kv i_X1_putIn l_X5_55) ⟨(Nat.le_of_ble_eq_true rfl), (Nat.le_of_ble_eq_true rfl)⟩ (c_X1_putIn q9 ((((f7.trans f8).trans f9) 16 rfl).trans (cP_de hP)) (show dd.length ≤ 20000 by omega) _ _ _ _) rfl rfl ((((f7.trans f8).trans f9) 16 rfl).trans (cP_de hP)) (Nat.le_of_ble_eq_true rfl) rfl ?_
      rintro h10 ⟨q10, f10⟩
      rw [va_co] at q10
      refine ex_iinc (d := 2) dX5_exchange_151 rfl (by decide) ?_
      refine ex_iload dX5_exchange_154 rfl ?_
      refine ex_iload dX5_exchange_156 rfl ?_
      refine ex_iadd dX5_exchange_158 ?_
      refine ex_istore dX5_exchange_159 (Nat.le_of_ble_eq_true rfl) ?_
      refine ex_iinc (d := 1) dX5_exchange_161 rfl (by decide) ?_
      refine ex_goto (tgt := 67) dX5_exchange_164 (by decide) ?_
      rw [nI_1, show nI m + 2 = nI (m + 2) from nI_add m 2, ro_xs, ro_xd, List.append_cons dd, show ∀ x y : tt_R, A ++ (x :: y :: ro_xs R ++ D) = (A ++ [x, y]) ++ (ro_xs R ++ D) from fun x y => by simp]; exact ih (m + 2) _ _ _ _ _ _ _ (by simp [hA]) (by omega) (by show (dd ++ [_]).length ≤ _; rw [List.length_append, List.length_cons, List.length_nil]; omega) q10 (((f7.trans f8).trans f9).trans f10)
  have := key m (A0 ++ [(1, -1, -1, 0)]) (tb 3 ++ [(b, -1, -1, cm j)]) b h6 .null .null .null (by simp [hAl]) (by omega) (by simp; omega) (by rw [List.append_assoc]; exact q5) hF6
  rw [List.append_assoc A0] at this
  exact this
end ROW6
