theorem nI_sub {a b : Nat} (h : b ≤ a) : nI a - nI b = nI (a - b) := by
  have e : nI (a - b) + nI b = nI a := by rw [nI_add]; congr 1; omega
  rw [← e]; exact Int32.add_sub_cancel _ _
theorem rv_len {L R : List tt_R} {i : Nat} (hR : (L.take i).reverse = R) (hi : i < L.length) : R.length = i ∧ R.reverse = L.take i := by
  subst hR; simp; omega
theorem ls_snoc_erase {L : List tt_R} {r : tt_R} : (L ++ [r]).eraseIdx L.length = L := by rw [List.eraseIdx_append_of_length_le (Nat.le_refl _), Nat.sub_self]; simp
section ROW4
variable {l : Launch} {G : mm_G} {h : mm_H} {tb : Nat → List tt_R} {c0 n0 : Nat} {S : se_T} {c : ca_T} {ho : (Nat → Int32) × Int32 × Int32} {cm st : Nat → Int32} {ce me : Int32} {ow : Int32 × Int32 × Int32 × Int32 × Int32 × Int32}
theorem c_X5_loseEnd0 (n : Int32) (hn : n ≤ 0) : mm_Ct l G mX5_loseEnd [.ref 13, .int n] h (mm_rv h) := by
  refine mm_ct (by decide +kernel) (by decide +kernel) rfl (by simp [Value.category]) (Nat.le_of_ble_eq_true rfl) rfl ?_
  refine ex_iload_n dX5_loseEnd_0 rfl ?_
  refine ex_if_gt (tgt := 5) dX5_loseEnd_1 (by decide) (fun z => absurd z (Int32.not_lt.mpr hn)) (fun _ => ?_)
  refine ex_return dX5_loseEnd_4 rfl ?_
  exact ⟨rfl, rfl⟩
theorem c_X5_loseEnd {k : Nat} (hP : cl_P h tb (S, c, ho, (cm, nI (k + 1), me), st, ow) c0 n0) (hk : k < 100) (h3 : (tb 3).length ≤ 20000) (n : Int32) (hn : 0 < n) : mm_Ct l G mX5_loseEnd [.ref 13, .int n] h (mm_qv (fun h' => cl_P h' (va_up (va_up tb 3 (tb 3 ++ [(me - n, -1, -1, n)])) 2 (ro_le (tb 2).reverse n)) (S, c, ho, (upd cm k (cm k + -n), nI (k + 1), me - n), st, ow) c0 n0 ∧ cl_F h h')) := by
  refine mm_ct (by decide +kernel) (by decide +kernel) rfl (by simp [Value.category]) (Nat.le_of_ble_eq_true rfl) rfl ?_
  refine ex_iload_n dX5_loseEnd_0 rfl ?_
  refine ex_if_gt (tgt := 5) dX5_loseEnd_1 (by decide) (fun _ => ?_) (fun z => absurd hn z)
  refine ex_aload_n dX5_loseEnd_5 rfl ?_
  refine ex_dup dX5_loseEnd_6 rfl ?_
  refine ex_getfield dX5_loseEnd_7 g_X5_52 (cP_ro hP) rfl ?_
  refine ex_iload_n dX5_loseEnd_10 rfl ?_
  refine ex_isub dX5_loseEnd_11 ?_
  refine ex_put dX5_loseEnd_12 p_X5_52 (cP_ro hP) (Nat.le_of_ble_eq_true rfl) (fun z => nomatch z) (mm_fi _) ?_
  skip
  have w1 := cs_13 hP (nI (k + 1)) (me - n)
  refine ex_aload_n dX5_loseEnd_15 rfl ?_
  refine ex_getfield dX5_loseEnd_16 g_X5_21 (cP_ro w1.1) rfl ?_
  refine ex_aload_n dX5_loseEnd_19 rfl ?_
  refine ex_getfield dX5_loseEnd_20 g_X5_52 (cP_ro w1.1) rfl ?_
  refine ex_iload_n dX5_loseEnd_23 rfl ?_
  refine cV_y dX5_loseEnd_24 (mm_kv i_X1_cutOut l_X5_74) ⟨(Nat.le_of_ble_eq_true rfl), (Nat.le_of_ble_eq_true rfl)⟩ (c_X1_cutOut w1.1.1 (cP_de w1.1) h3 _ _) rfl rfl (cP_de w1.1) (Nat.le_of_ble_eq_true rfl) rfl ?_
  rintro h2 ⟨q1, q2⟩
  have w2 := cP_tab w1.1 q1 q2
  refine ex_aload_n dX5_loseEnd_27 rfl ?_
  refine ex_iload_n dX5_loseEnd_28 rfl ?_
  refine ex_ineg dX5_loseEnd_29 ?_
  refine cV_y dX5_loseEnd_30 (mm_kv i_X5_regainEnd l_X5_78) ⟨(Nat.le_of_ble_eq_true rfl), (Nat.le_of_ble_eq_true rfl)⟩ (c_X5_regainEnd w2 hk _) rfl rfl (cP_ro w2) (Nat.le_of_ble_eq_true rfl) rfl ?_
  rintro h3 ⟨w3, f3⟩
  skip
  generalize hgt : va_up tb 3 (tb 3 ++ [(me - n, -1, -1, n)]) = t3 at w3
  have hgt' : va_up tb 3 (tb 3 ++ [((S, c, ho, (cm, nI (k + 1), me), st, ow).2.2.2.1.2.2 - n, -1, -1, n)]) = t3 := hgt
  have e2 : t3 2 = tb 2 := by rw [← hgt]; rfl
  have hF1 := w1.2.trans ((cl_Ft q2).trans f3)
  rw [← e2]
  obtain ⟨v, hv⟩ := tS_row w3.1 2 (by decide)
  have hlen := tS_len w3.1 2 (by decide)
  have key : ∀ (m : Int32) (h1 : mm_H) (x4 : Value), tt_S h1 (va_up t3 2 (t3 2).reverse.reverse) c0 n0 → tt_F h3 h1 → mm_Ex l G mX5_loseEnd (mm_qv (fun h' => tt_S h' (va_up t3 2 (ro_le (t3 2).reverse m)) c0 n0 ∧ tt_F h3 h')) 45 [.ref 13, .int n, .int m, .int (nI (t3 2).length - 1), x4] [] h1 := by
    refine lp_bwd (t3 2) (fun i R => ∀ (m : Int32) (h1 : mm_H) (x4 : Value), tt_S h1 (va_up t3 2 R.reverse) c0 n0 → tt_F h3 h1 → mm_Ex l G mX5_loseEnd (mm_qv (fun h' => tt_S h' (va_up t3 2 (ro_le R m)) c0 n0 ∧ tt_F h3 h')) 45 [.ref 13, .int n, .int m, .int (nI i - 1), x4] [] h1) ?_ ?_
    · intro m h1 x4 hS1 hF1
      refine ex_iload_n dX5_loseEnd_45 rfl ?_
      refine ex_if_lt (tgt := 111) dX5_loseEnd_46 (by decide) (fun _ => ?_) (fun z => absurd nI_neg1 z)
      refine ex_return dX5_loseEnd_111 rfl ?_
      exact ⟨rfl, hS1, hF1⟩
    · intro i r R hr hR hi ih m h1 x4 hS1 hF1
      rw [nI_m1]
      rw [List.reverse_cons] at hS1
      have hRl : R.reverse.length = i := by rw [List.length_reverse]; exact (rv_len hR hi).1
      have hg : (R.reverse ++ [r])[i]? = some r := by rw [← hRl]; exact ls_snoc_get
      obtain ⟨v, hv⟩ := tS_row hS1 2 (by decide)
      refine ex_iload_n dX5_loseEnd_45 rfl ?_
      refine ex_if_lt (tgt := 111) dX5_loseEnd_46 (by decide) (fun z => absurd z (nI_pos (by omega))) (fun _ => ?_)
      refine ex_aload_n dX5_loseEnd_49 rfl ?_
      refine ex_getfield dX5_loseEnd_50 g_X5_12 ((hF1 13 rfl).trans (cP_ro w3)) rfl ?_
      refine ex_iload_n dX5_loseEnd_53 rfl ?_
      refine ex_iconst (v := 3) dX5_loseEnd_54 (by decide) ?_
      refine cV_f dX5_loseEnd_55 (mm_kv i_X7_get l_X5_44) ⟨(Nat.le_of_ble_eq_true rfl), (Nat.le_of_ble_eq_true rfl)⟩ (tS_getr hS1 2 (by decide) (L := R.reverse ++ [r]) rfl hg 3 _ rfl (by decide) _ rfl) rfl rfl hv (Nat.le_of_ble_eq_true rfl) rfl ?_
      refine ex_istore dX5_loseEnd_58 (Nat.le_of_ble_eq_true rfl) ?_
      refine ex_aload_n dX5_loseEnd_60 rfl ?_
      refine ex_getfield dX5_loseEnd_61 g_X5_12 ((hF1 13 rfl).trans (cP_ro w3)) rfl ?_
      refine ex_iload_n dX5_loseEnd_64 rfl ?_
      refine ex_iconst (v := 0) dX5_loseEnd_65 (by decide) ?_
      refine cV_f dX5_loseEnd_66 (mm_kv i_X7_get l_X5_44) ⟨(Nat.le_of_ble_eq_true rfl), (Nat.le_of_ble_eq_true rfl)⟩ (tS_getr hS1 2 (by decide) (L := R.reverse ++ [r]) rfl hg 0 _ rfl (by decide) _ rfl) rfl rfl hv (Nat.le_of_ble_eq_true rfl) rfl ?_
      refine ex_if_ne (tgt := 92) dX5_loseEnd_69 (by decide) (fun c_69 => ?_) (fun c_69 => ?_)
      · refine ex_iload_n dX5_loseEnd_92 rfl ?_
        refine ex_iload dX5_loseEnd_93 rfl ?_
        refine ex_isub dX5_loseEnd_95 ?_
        refine ex_istore_n dX5_loseEnd_96 (Nat.le_of_ble_eq_true rfl) ?_
        refine ex_aload_n dX5_loseEnd_97 rfl ?_
        refine ex_getfield dX5_loseEnd_98 g_X5_12 ((hF1 13 rfl).trans (cP_ro w3)) rfl ?_
        refine ex_iload_n dX5_loseEnd_101 rfl ?_
        refine cV_y dX5_loseEnd_102 (mm_kv i_X7_remove l_X5_81) ⟨(Nat.le_of_ble_eq_true rfl), (Nat.le_of_ble_eq_true rfl)⟩ (tS_remove hS1 2 (by decide) i (by show i < (R.reverse ++ [r]).length; rw [List.length_append, hRl]; exact Nat.lt_succ_self i) _ rfl) rfl rfl hv (Nat.le_of_ble_eq_true rfl) rfl ?_
        rintro h4 ⟨q3, q4⟩
        rw [va_uu, show (va_up t3 2 (R.reverse ++ [r]) 2).eraseIdx i = R.reverse from by rw [← hRl]; exact ls_snoc_erase] at q3
        refine ex_iinc (d := (-1)) dX5_loseEnd_105 rfl (by decide) ?_
        refine ex_goto (tgt := 45) dX5_loseEnd_108 (by decide) ?_
        rw [nI_m2, ro_le]; first | (rw [if_neg (show ¬ r.1 = 0 from c_69)]; exact ih _ _ _ q3 (hF1.trans q4)) | (rw [if_pos (show r.1 = 0 from c_69), if_pos (show r.2.2.2 ≤ m from c_75)]; exact ih _ _ _ q3 (hF1.trans q4))
      · refine ex_iload dX5_loseEnd_72 rfl ?_
        refine ex_iload_n dX5_loseEnd_74 rfl ?_
        refine ex_icmp_le (tgt := 92) dX5_loseEnd_75 (by decide) (fun c_75 => ?_) (fun c_75 => ?_)
        · refine ex_iload_n dX5_loseEnd_92 rfl ?_
          refine ex_iload dX5_loseEnd_93 rfl ?_
          refine ex_isub dX5_loseEnd_95 ?_
          refine ex_istore_n dX5_loseEnd_96 (Nat.le_of_ble_eq_true rfl) ?_
          refine ex_aload_n dX5_loseEnd_97 rfl ?_
          refine ex_getfield dX5_loseEnd_98 g_X5_12 ((hF1 13 rfl).trans (cP_ro w3)) rfl ?_
          refine ex_iload_n dX5_loseEnd_101 rfl ?_
          refine cV_y dX5_loseEnd_102 (mm_kv i_X7_remove l_X5_81) ⟨(Nat.le_of_ble_eq_true rfl), (Nat.le_of_ble_eq_true rfl)⟩ (tS_remove hS1 2 (by decide) i (by show i < (R.reverse ++ [r]).length; rw [List.length_append, hRl]; exact Nat.lt_succ_self i) _ rfl) rfl rfl hv (Nat.le_of_ble_eq_true rfl) rfl ?_
          rintro h4 ⟨q3, q4⟩
          rw [va_uu, show (va_up t3 2 (R.reverse ++ [r]) 2).eraseIdx i = R.reverse from by rw [← hRl]; exact ls_snoc_erase] at q3
          refine ex_iinc (d := (-1)) dX5_loseEnd_105 rfl (by decide) ?_
          refine ex_goto (tgt := 45) dX5_loseEnd_108 (by decide) ?_
          rw [nI_m2, ro_le]; first | (rw [if_neg (show ¬ r.1 = 0 from c_69)]; exact ih _ _ _ q3 (hF1.trans q4)) | (rw [if_pos (show r.1 = 0 from c_69), if_pos (show r.2.2.2 ≤ m from c_75)]; exact ih _ _ _ q3 (hF1.trans q4))
        · refine ex_aload_n dX5_loseEnd_78 rfl ?_
          refine ex_getfield dX5_loseEnd_79 g_X5_12 ((hF1 13 rfl).trans (cP_ro w3)) rfl ?_
          refine ex_iload_n dX5_loseEnd_82 rfl ?_
          refine ex_iconst (v := 3) dX5_loseEnd_83 (by decide) ?_
          refine ex_iload dX5_loseEnd_84 rfl ?_
          refine ex_iload_n dX5_loseEnd_86 rfl ?_
          refine ex_isub dX5_loseEnd_87 ?_
          refine cV_y dX5_loseEnd_88 (mm_kv i_X7_set l_X5_66) ⟨(Nat.le_of_ble_eq_true rfl), (Nat.le_of_ble_eq_true rfl)⟩ (tS_set hS1 2 (by decide) i r hg _ rfl 3 _ rfl (by decide) _) rfl rfl hv (Nat.le_of_ble_eq_true rfl) rfl ?_
          rintro h4 ⟨q3, q4⟩
          rw [va_uu, show ∀ x, (va_up t3 2 (R.reverse ++ [r]) 2).set i x = R.reverse ++ [x] from fun x => by rw [← hRl]; exact ls_snoc_set] at q3
          refine ex_return dX5_loseEnd_91 rfl ?_
          rw [ro_le, if_pos (show r.1 = 0 from c_69), if_neg (show ¬ r.2.2.2 ≤ m from c_75)]; exact ⟨rfl, q3, hF1.trans q4⟩
  refine ex_iload_n dX5_loseEnd_33 rfl ?_
  refine ex_istore_n dX5_loseEnd_34 (Nat.le_of_ble_eq_true rfl) ?_
  refine ex_aload_n dX5_loseEnd_35 rfl ?_
  refine ex_getfield dX5_loseEnd_36 g_X5_12 (cP_ro w3) rfl ?_
  refine ex_getfield dX5_loseEnd_39 g_X5_41 hv rfl ?_
  refine ex_iconst (v := 1) dX5_loseEnd_42 (by decide) ?_
  refine ex_isub dX5_loseEnd_43 ?_
  refine ex_istore_n dX5_loseEnd_44 (Nat.le_of_ble_eq_true rfl) ?_
  exact mm_ex_mono (key _ _ _ (by rw [List.reverse_reverse, va_id]; exact w3.1) (tt_F.refl _)) (fun r h' ⟨z1, z2, z3⟩ => ⟨z1, cP_tab w3 z2 z3, hF1.trans (cl_Ft z3)⟩)
end ROW4
