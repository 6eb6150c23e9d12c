theorem ls_snoc_get {L : List tt_R} {r : tt_R} : (L ++ [r])[L.length]? = some r := by rw [List.getElem?_append_right (Nat.le_refl _), Nat.sub_self]; rfl
theorem ls_snoc_set {L : List tt_R} {r x : tt_R} : (L ++ [r]).set L.length x = L ++ [x] := by rw [List.set_append_right _ _ (Nat.le_refl _), Nat.sub_self]; rfl
def ro_ap (p f n : Int32) (L : List tt_R) : List tt_R := match L.getLast? with
  | none => L ++ [(0, p, f, n)]
  | some r => if r.1 = 0 then (if r.2.1 = p ∧ r.2.2.1 + r.2.2.2 = f then L.dropLast ++ [(r.1, r.2.1, r.2.2.1, r.2.2.2 + n)] else L ++ [(1, -1, -1, 0)] ++ [(0, p, f, n)]) else L ++ [(0, p, f, n)]
theorem ro_ap_nil {p f n : Int32} : ro_ap p f n [] = [(0, p, f, n)] := rfl
theorem ro_ap_1 {p f n : Int32} {L : List tt_R} {r : tt_R} (h1 : r.1 = 0) (h2 : r.2.1 = p ∧ r.2.2.1 + r.2.2.2 = f) : ro_ap p f n (L ++ [r]) = L ++ [(r.1, r.2.1, r.2.2.1, r.2.2.2 + n)] := by
  unfold ro_ap; rw [List.getLast?_concat]; dsimp only; rw [if_pos h1, if_pos h2, List.dropLast_concat]
theorem ro_ap_2 {p f n : Int32} {L : List tt_R} {r : tt_R} (h1 : r.1 = 0) (h2 : ¬ (r.2.1 = p ∧ r.2.2.1 + r.2.2.2 = f)) : ro_ap p f n (L ++ [r]) = L ++ [r] ++ [(1, -1, -1, 0)] ++ [(0, p, f, n)] := by
  unfold ro_ap; rw [List.getLast?_concat]; dsimp only; rw [if_pos h1, if_neg h2]
theorem ro_ap_3 {p f n : Int32} {L : List tt_R} {r : tt_R} (h1 : ¬ r.1 = 0) : ro_ap p f n (L ++ [r]) = L ++ [r] ++ [(0, p, f, n)] := by
  unfold ro_ap; rw [List.getLast?_concat]; dsimp only; rw [if_neg h1]
theorem ro_ap_len {p f n : Int32} {L : List tt_R} : (ro_ap p f n L).length ≤ L.length + 2 := by
  rcases List.eq_nil_or_concat L with rfl | ⟨L0, r, rfl⟩
  · show 1 ≤ 0 + 2; omega
  · rw [List.concat_eq_append]
    by_cases h1 : r.1 = 0
    · by_cases h2 : r.2.1 = p ∧ r.2.2.1 + r.2.2.2 = f
      · rw [ro_ap_1 h1 h2]; simp
      · rw [ro_ap_2 h1 h2]; simp
    · rw [ro_ap_3 h1]; simp
theorem ro_lk_snoc {L : List tt_R} {r : tt_R} (h : L.length < 2 ^ 31 - 1) : ro_lk (L ++ [r]) = r.1 := by
  unfold ro_lk
  rw [List.length_append, show [r].length = 1 from rfl, nI_m1, tt_g_nI ls_snoc_get (by omega)]; rfl
section ROW3
variable {l : Launch} {G : mm_G} {h : mm_H} {tb : Nat → List tt_R} {c0 n0 : Nat} {S : se_T} {c : ca_T} {ho : (Nat → Int32) × Int32 × Int32} {cm st : Nat → Int32} {ce me : Int32} {ow : Int32 × Int32 × Int32 × Int32 × Int32 × Int32}
theorem c_X5_endCell {k : Nat} (hP : cl_P h tb (S, c, ho, (cm, nI k, me), st, ow) c0 n0) (hk : k < 100) (n : Int32) : mm_Ct l G mX5_endCell [.ref 13, .int n] h (mm_qv (fun h' => cl_P h' tb (S, c, ho, (upd cm k n, nI (k + 1), me), st, ow) c0 n0 ∧ cl_F h h')) := by
  have ek : (nI k).toNatClampNeg = k := nI_clamp (by omega)
  have hi : ii (nI k) 0 99 := ⟨nI_pos' (by omega), nI_le (b := 99) (by omega) (by decide)⟩
  refine mm_ct (by decide +kernel) (by decide +kernel) rfl (by simp [Value.category]) (Nat.le_of_ble_eq_true rfl) rfl ?_
  refine ex_aload_n dX5_endCell_0 rfl ?_
  refine ex_getfield dX5_endCell_1 g_X5_29 (cP_ro hP) rfl ?_
  refine cSN_f dX5_endCell_4 (mm_ksn i_X8_isCell l_X5_37) ⟨(Nat.le_of_ble_eq_true rfl), (Nat.le_of_ble_eq_true rfl)⟩ (c_X8_isCell _) rfl rfl (Nat.le_of_ble_eq_true rfl) rfl ?_
  refine ex_if_eq (tgt := 30) dX5_endCell_7 (by decide) (fun z => absurd z (bb_n.mpr hi)) (fun _ => ?_)
  refine ex_aload_n dX5_endCell_10 rfl ?_
  refine ex_getfield dX5_endCell_11 g_X5_25 (cP_ro hP) rfl ?_
  refine ex_aload_n dX5_endCell_14 rfl ?_
  refine ex_getfield dX5_endCell_15 g_X5_29 (cP_ro hP) rfl ?_
  refine ex_iload_n dX5_endCell_18 rfl ?_
  refine ex_iastore dX5_endCell_19 (cP_cm hP) (vp_in_nI hk (by decide)) ?_
  refine ex_aload_n dX5_endCell_20 rfl ?_
  refine ex_dup dX5_endCell_21 rfl ?_
  refine ex_getfield dX5_endCell_22 g_X5_29 (mm_set_ne (by decide) (cP_ro hP)) rfl ?_
  refine ex_iconst (v := 1) dX5_endCell_25 (by decide) ?_
  refine ex_iadd dX5_endCell_26 ?_
  refine ex_put dX5_endCell_27 p_X5_29 (mm_set_ne (by decide) (cP_ro hP)) (Nat.le_of_ble_eq_true rfl) (fun z => nomatch z) (mm_fi _) ?_
  refine ex_return dX5_endCell_30 rfl ?_
  exact ⟨rfl, by rw [ek, nI_1]; exact (cs_13 (cs_19 hP _).1 _ _).1, by rw [ek, nI_1]; exact (cs_19 hP _).2.trans (cs_13 (cs_19 hP (upd cm k n)).1 _ _).2⟩
theorem c_X5_regainEnd {k : Nat} (hP : cl_P h tb (S, c, ho, (cm, nI (k + 1), me), st, ow) c0 n0) (hk : k < 100) (n : Int32) : mm_Ct l G mX5_regainEnd [.ref 13, .int n] h (mm_qv (fun h' => cl_P h' tb (S, c, ho, (upd cm k (cm k + n), nI (k + 1), me), st, ow) c0 n0 ∧ cl_F h h')) := by
  have ek : (nI (k + 1) - 1).toNatClampNeg = k := by rw [nI_m1]; exact nI_clamp (by omega)
  have hi : ii (nI (k + 1) - 1) 0 99 := by rw [nI_m1]; exact ⟨nI_pos' (by omega), nI_le (b := 99) (by omega) (by decide)⟩
  refine mm_ct (by decide +kernel) (by decide +kernel) rfl (by simp [Value.category]) (Nat.le_of_ble_eq_true rfl) rfl ?_
  refine ex_aload_n dX5_regainEnd_0 rfl ?_
  refine ex_getfield dX5_regainEnd_1 g_X5_29 (cP_ro hP) rfl ?_
  refine ex_iconst (v := 1) dX5_regainEnd_4 (by decide) ?_
  refine ex_isub dX5_regainEnd_5 ?_
  refine cSN_f dX5_regainEnd_6 (mm_ksn i_X8_isCell l_X5_37) ⟨(Nat.le_of_ble_eq_true rfl), (Nat.le_of_ble_eq_true rfl)⟩ (c_X8_isCell _) rfl rfl (Nat.le_of_ble_eq_true rfl) rfl ?_
  refine ex_if_eq (tgt := 27) dX5_regainEnd_9 (by decide) (fun z => absurd z (bb_n.mpr hi)) (fun _ => ?_)
  refine ex_aload_n dX5_regainEnd_12 rfl ?_
  refine ex_getfield dX5_regainEnd_13 g_X5_25 (cP_ro hP) rfl ?_
  refine ex_aload_n dX5_regainEnd_16 rfl ?_
  refine ex_getfield dX5_regainEnd_17 g_X5_29 (cP_ro hP) rfl ?_
  refine ex_iconst (v := 1) dX5_regainEnd_20 (by decide) ?_
  refine ex_isub dX5_regainEnd_21 ?_
  refine ex_dup2 dX5_regainEnd_22 rfl rfl ?_
  refine ex_iaload dX5_regainEnd_23 (cP_cm hP) (ii_99 hi) ?_
  refine ex_iload_n dX5_regainEnd_24 rfl ?_
  refine ex_iadd dX5_regainEnd_25 ?_
  refine ex_iastore dX5_regainEnd_26 (cP_cm hP) (ii_99 hi) ?_
  refine ex_return dX5_regainEnd_27 rfl ?_
  exact ⟨rfl, by rw [ek]; exact (cs_19 hP _).1, by rw [ek]; exact (cs_19 hP _).2⟩
theorem c_X5_append (hP : cl_P h tb (S, c, ho, (cm, ce, me), st, ow) c0 n0) (h2 : (tb 2).length ≤ 19990) (h3 : (tb 3).length ≤ 20000) (p f n : Int32) : mm_Ct l G mX5_append [.ref 13, .int p, .int f, .int n] h (mm_qv (fun h' => cl_P h' (va_up (va_up tb 3 (tb 3 ++ [(me, p, f, n)])) 2 (ro_ap p f n (tb 2))) (S, c, ho, (cm, ce, me + n), st, ow) c0 n0 ∧ cl_F h h')) := by
  refine mm_ct (by decide +kernel) (by decide +kernel) rfl (by simp [Value.category]) (Nat.le_of_ble_eq_true rfl) rfl ?_
  refine ex_aload_n dX5_append_0 rfl ?_
  refine ex_getfield dX5_append_1 g_X5_21 (cP_ro hP) rfl ?_
  refine ex_aload_n dX5_append_4 rfl ?_
  refine ex_getfield dX5_append_5 g_X5_52 (cP_ro hP) rfl ?_
  refine ex_iload_n dX5_append_8 rfl ?_
  refine ex_iload_n dX5_append_9 rfl ?_
  refine ex_iload_n dX5_append_10 rfl ?_
  refine cV_y dX5_append_11 (mm_kv i_X1_putIn l_X5_55) ⟨(Nat.le_of_ble_eq_true rfl), (Nat.le_of_ble_eq_true rfl)⟩ (c_X1_putIn hP.1 (cP_de hP) h3 _ _ _ _) rfl rfl (cP_de hP) (Nat.le_of_ble_eq_true rfl) rfl ?_
  rintro h1 ⟨q1, q2⟩
  have w1 := cP_tab hP q1 q2
  refine ex_aload_n dX5_append_14 rfl ?_
  refine ex_dup dX5_append_15 rfl ?_
  refine ex_getfield dX5_append_16 g_X5_52 (cP_ro w1) rfl ?_
  refine ex_iload_n dX5_append_19 rfl ?_
  refine ex_iadd dX5_append_20 ?_
  refine ex_put dX5_append_21 p_X5_52 (cP_ro w1) (Nat.le_of_ble_eq_true rfl) (fun z => nomatch z) (mm_fi _) ?_
  skip
  have w2 := cs_13 w1 ce (me + n)
  generalize hgt : va_up tb 3 (tb 3 ++ [(me, p, f, n)]) = t3 at w2 q1 w1
  have e2 : t3 2 = tb 2 := by rw [← hgt]; rfl
  have hF1 := (cl_Ft q2).trans w2.2
  replace w2 := w2.1
  rw [← e2] at h2
  rw [← e2]
  clear hgt e2
  obtain ⟨v, hv⟩ := tS_row w2.1 2 (by decide)
  rcases List.eq_nil_or_concat (t3 2) with hn | ⟨L0, r, hr⟩
  · rw [hn] at hv
    refine ex_aload_n dX5_append_24 rfl ?_
    refine ex_getfield dX5_append_25 g_X5_12 mm_set_at rfl ?_
    refine ex_getfield dX5_append_28 g_X5_41 hv rfl ?_
    refine ex_iconst (v := 1) dX5_append_31 (by decide) ?_
    refine ex_isub dX5_append_32 ?_
    refine ex_istore dX5_append_33 (Nat.le_of_ble_eq_true rfl) ?_
    refine ex_aload_n dX5_append_35 rfl ?_
    refine cV_f dX5_append_36 (mm_kv i_X5_lastKind l_X5_58) ⟨(Nat.le_of_ble_eq_true rfl), (Nat.le_of_ble_eq_true rfl)⟩ (c_X5_lastKind w2.1 (cP_ro w2)) rfl rfl mm_set_at (Nat.le_of_ble_eq_true rfl) rfl ?_
    refine ex_if_ne (tgt := 46) dX5_append_39 (by decide) (fun _ => ?_) (fun z => absurd z (by rw [hn]; decide))
    refine ex_iconst (v := 0) dX5_append_46 (by decide) ?_
    refine ex_istore dX5_append_47 (Nat.le_of_ble_eq_true rfl) ?_
    refine ex_iload dX5_append_49 rfl ?_
    refine ex_if_eq (tgt := 88) dX5_append_51 (by decide) (fun _ => ?_) (fun z => absurd rfl z)
    refine ex_iload dX5_append_88 rfl ?_
    refine ex_if_eq (tgt := 98) dX5_append_90 (by decide) (fun _ => ?_) (fun z => absurd rfl z)
    refine ex_aload_n dX5_append_98 rfl ?_
    refine ex_getfield dX5_append_99 g_X5_12 mm_set_at rfl ?_
    refine ex_iconst (v := 0) dX5_append_102 (by decide) ?_
    refine ex_iload_n dX5_append_103 rfl ?_
    refine ex_iload_n dX5_append_104 rfl ?_
    refine ex_iload_n dX5_append_105 rfl ?_
    refine cV_y dX5_append_106 (mm_kv i_X7_add l_X5_48) ⟨(Nat.le_of_ble_eq_true rfl), (Nat.le_of_ble_eq_true rfl)⟩ (tS_add w2.1 2 (by decide) (by omega) _ _ _ _) rfl rfl hv (Nat.le_of_ble_eq_true rfl) rfl ?_
    rintro h4 ⟨q3, q4⟩
    refine ex_return dX5_append_109 rfl ?_
    exact ⟨rfl, by rw [hn, ro_ap_nil]; rw [hn] at q3; exact cP_tab w2 q3 q4, hF1.trans (cl_Ft q4)⟩
  · rw [List.concat_eq_append] at hr
    have hl : (t3 2).length = L0.length + 1 := by rw [hr]; simp
    have hg : (t3 2)[L0.length]? = some r := by rw [hr]; exact ls_snoc_get
    have hk : ro_lk (t3 2) = r.1 := by rw [hr]; exact ro_lk_snoc (by omega)
    rw [hl] at hv
    by_cases hz : r.1 = 0
    · skip
      refine ex_aload_n dX5_append_24 rfl ?_
      refine ex_getfield dX5_append_25 g_X5_12 mm_set_at rfl ?_
      refine ex_getfield dX5_append_28 g_X5_41 hv rfl ?_
      refine ex_iconst (v := 1) dX5_append_31 (by decide) ?_
      refine ex_isub dX5_append_32 ?_
      refine ex_istore dX5_append_33 (Nat.le_of_ble_eq_true rfl) ?_
      refine ex_aload_n dX5_append_35 rfl ?_
      refine cV_f dX5_append_36 (mm_kv i_X5_lastKind l_X5_58) ⟨(Nat.le_of_ble_eq_true rfl), (Nat.le_of_ble_eq_true rfl)⟩ (c_X5_lastKind w2.1 (cP_ro w2)) rfl rfl mm_set_at (Nat.le_of_ble_eq_true rfl) rfl ?_
      refine ex_if_ne (tgt := 46) dX5_append_39 (by decide) (fun z => absurd (by rw [hk]; exact hz) z) (fun _ => ?_)
      refine ex_iconst (v := 1) dX5_append_42 (by decide) ?_
      refine ex_goto (tgt := 47) dX5_append_43 (by decide) ?_
      refine ex_istore dX5_append_47 (Nat.le_of_ble_eq_true rfl) ?_
      refine ex_iload dX5_append_49 rfl ?_
      refine ex_if_eq (tgt := 88) dX5_append_51 (by decide) (fun z => absurd z (by decide)) (fun _ => ?_)
      refine ex_aload_n dX5_append_54 rfl ?_
      refine ex_iload dX5_append_55 rfl ?_
      refine ex_iload_n dX5_append_57 rfl ?_
      refine ex_iload_n dX5_append_58 rfl ?_
      refine cV_f dX5_append_59 (mm_kv i_X5_goesOn l_X5_62) ⟨(Nat.le_of_ble_eq_true rfl), (Nat.le_of_ble_eq_true rfl)⟩ (c_X5_goesOn w2.1 (cP_ro w2) hg _ (nI_m1 _) _ _) rfl rfl mm_set_at (Nat.le_of_ble_eq_true rfl) rfl ?_
      refine ex_if_eq (tgt := 88) dX5_append_62 (by decide) (fun c_62 => ?_) (fun c_62 => ?_)
      · refine ex_iload dX5_append_88 rfl ?_
        refine ex_if_eq (tgt := 98) dX5_append_90 (by decide) (fun z => absurd z (by decide)) (fun _ => ?_)
        refine ex_aload_n dX5_append_93 rfl ?_
        refine ex_iconst (v := 1) dX5_append_94 (by decide) ?_
        refine cV_y dX5_append_95 (mm_kv i_X5_addBare l_X5_70) ⟨(Nat.le_of_ble_eq_true rfl), (Nat.le_of_ble_eq_true rfl)⟩ (c_X5_addBare w2.1 (cP_ro w2) (by omega) _) rfl rfl mm_set_at (Nat.le_of_ble_eq_true rfl) rfl ?_
        rintro h4 ⟨q3, q4⟩
        obtain ⟨w, hw⟩ := tS_row q3 2 (by decide)
        refine ex_aload_n dX5_append_98 rfl ?_
        refine ex_getfield dX5_append_99 g_X5_12 (cP_ro (cP_tab w2 q3 q4)) rfl ?_
        refine ex_iconst (v := 0) dX5_append_102 (by decide) ?_
        refine ex_iload_n dX5_append_103 rfl ?_
        refine ex_iload_n dX5_append_104 rfl ?_
        refine ex_iload_n dX5_append_105 rfl ?_
        refine cV_y dX5_append_106 (mm_kv i_X7_add l_X5_48) ⟨(Nat.le_of_ble_eq_true rfl), (Nat.le_of_ble_eq_true rfl)⟩ (tS_add q3 2 (by decide) (by show (t3 2 ++ [_]).length ≤ 20000; rw [List.length_append]; show (t3 2).length + 1 ≤ 20000; omega) _ _ _ _) rfl rfl hw (Nat.le_of_ble_eq_true rfl) rfl ?_
        rintro h5 ⟨q5, q6⟩
        rw [va_uu] at q5
        refine ex_return dX5_append_109 rfl ?_
        exact ⟨rfl, by rw [hr, ro_ap_2 hz (bb_0.mp c_62)]; rw [hr] at q5; exact cP_tab w2 q5 (q4.trans q6), hF1.trans (cl_Ft (q4.trans q6))⟩
      · refine ex_aload_n dX5_append_65 rfl ?_
        refine ex_getfield dX5_append_66 g_X5_12 mm_set_at rfl ?_
        refine ex_iload dX5_append_69 rfl ?_
        refine ex_iconst (v := 3) dX5_append_71 (by decide) ?_
        refine ex_aload_n dX5_append_72 rfl ?_
        refine ex_getfield dX5_append_73 g_X5_12 mm_set_at rfl ?_
        refine ex_iload dX5_append_76 rfl ?_
        refine ex_iconst (v := 3) dX5_append_78 (by decide) ?_
        refine cV_f dX5_append_79 (mm_kv i_X7_get l_X5_44) ⟨(Nat.le_of_ble_eq_true rfl), (Nat.le_of_ble_eq_true rfl)⟩ (tS_getr w2.1 2 (by decide) rfl hg 3 _ rfl (by decide) _ (nI_m1 _)) rfl rfl hv (Nat.le_of_ble_eq_true rfl) rfl ?_
        refine ex_iload_n dX5_append_82 rfl ?_
        refine ex_iadd dX5_append_83 ?_
        refine cV_y dX5_append_84 (mm_kv i_X7_set l_X5_66) ⟨(Nat.le_of_ble_eq_true rfl), (Nat.le_of_ble_eq_true rfl)⟩ (tS_set w2.1 2 (by decide) _ r hg _ (nI_m1 _) 3 _ rfl (by decide) _) rfl rfl hv (Nat.le_of_ble_eq_true rfl) rfl ?_
        rintro h4 ⟨q3, q4⟩
        refine ex_return dX5_append_87 rfl ?_
        exact ⟨rfl, by rw [hr, ro_ap_1 hz (bb_n.mp c_62)]; rw [hr, ls_snoc_set] at q3; exact cP_tab w2 q3 q4, hF1.trans (cl_Ft q4)⟩
    · skip
      refine ex_aload_n dX5_append_24 rfl ?_
      refine ex_getfield dX5_append_25 g_X5_12 mm_set_at rfl ?_
      refine ex_getfield dX5_append_28 g_X5_41 hv rfl ?_
      refine ex_iconst (v := 1) dX5_append_31 (by decide) ?_
      refine ex_isub dX5_append_32 ?_
      refine ex_istore dX5_append_33 (Nat.le_of_ble_eq_true rfl) ?_
      refine ex_aload_n dX5_append_35 rfl ?_
      refine cV_f dX5_append_36 (mm_kv i_X5_lastKind l_X5_58) ⟨(Nat.le_of_ble_eq_true rfl), (Nat.le_of_ble_eq_true rfl)⟩ (c_X5_lastKind w2.1 (cP_ro w2)) rfl rfl mm_set_at (Nat.le_of_ble_eq_true rfl) rfl ?_
      refine ex_if_ne (tgt := 46) dX5_append_39 (by decide) (fun _ => ?_) (fun z => absurd z (by rw [hk]; exact hz))
      refine ex_iconst (v := 0) dX5_append_46 (by decide) ?_
      refine ex_istore dX5_append_47 (Nat.le_of_ble_eq_true rfl) ?_
      refine ex_iload dX5_append_49 rfl ?_
      refine ex_if_eq (tgt := 88) dX5_append_51 (by decide) (fun _ => ?_) (fun z => absurd rfl z)
      refine ex_iload dX5_append_88 rfl ?_
      refine ex_if_eq (tgt := 98) dX5_append_90 (by decide) (fun _ => ?_) (fun z => absurd rfl z)
      refine ex_aload_n dX5_append_98 rfl ?_
      refine ex_getfield dX5_append_99 g_X5_12 mm_set_at rfl ?_
      refine ex_iconst (v := 0) dX5_append_102 (by decide) ?_
      refine ex_iload_n dX5_append_103 rfl ?_
      refine ex_iload_n dX5_append_104 rfl ?_
      refine ex_iload_n dX5_append_105 rfl ?_
      refine cV_y dX5_append_106 (mm_kv i_X7_add l_X5_48) ⟨(Nat.le_of_ble_eq_true rfl), (Nat.le_of_ble_eq_true rfl)⟩ (tS_add w2.1 2 (by decide) (by omega) _ _ _ _) rfl rfl hv (Nat.le_of_ble_eq_true rfl) rfl ?_
      rintro h4 ⟨q3, q4⟩
      refine ex_return dX5_append_109 rfl ?_
      exact ⟨rfl, by rw [hr, ro_ap_3 hz]; rw [hr] at q3; exact cP_tab w2 q3 q4, hF1.trans (cl_Ft q4)⟩
end ROW3
