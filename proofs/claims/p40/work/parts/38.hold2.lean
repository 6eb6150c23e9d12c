theorem va_id {α : Type} (f : Nat → α) (k : Nat) : va_up f k (f k) = f := funext fun j => by
  unfold va_up; split
  · rename_i e; rw [e]
  · rfl
theorem ls_get {L d : List tt_R} {i : Nat} {r : tt_R} (hi : i < L.length) : (L.take i ++ r :: d)[i]? = some r := by
  have : (L.take i).length = i := by rw [List.length_take]; omega
  rw [List.getElem?_append_right (by omega), this, Nat.sub_self]; rfl
theorem ls_set {L d : List tt_R} {i : Nat} {r x : tt_R} (hi : i < L.length) : (L.take i ++ r :: d).set i x = L.take i ++ x :: d := by
  have : (L.take i).length = i := by rw [List.length_take]; omega
  rw [List.set_append_right _ _ (by omega), this, Nat.sub_self]; rfl
theorem ls_erase {L d : List tt_R} {i : Nat} {r : tt_R} (hi : i < L.length) : (L.take i ++ r :: d).eraseIdx i = L.take i ++ d := by
  have : (L.take i).length = i := by rw [List.length_take]; omega
  rw [List.eraseIdx_append_of_length_le (by omega), this, Nat.sub_self]; rfl
theorem ls_rev {L R d : List tt_R} {i : Nat} {r : tt_R} (hR : (L.take i).reverse = R) : (r :: R).reverse ++ d = L.take i ++ r :: d := by
  rw [← hR]; simp
theorem ls_len {L d : List tt_R} {i : Nat} {r : tt_R} (hi : i < L.length) : i < (L.take i ++ r :: d).length := by
  rw [List.length_append, List.length_take, List.length_cons]; omega
section HOLD2
variable {l : Launch} {G : mm_G} {h : mm_H} {tb : Nat → List tt_R} {c0 n0 : Nat} {types : Nat → Int32} {pieces made : Int32}
theorem c_X3_gather (hT : tt_S h tb c0 n0) (hO : h.1 7 = some (ho_C pieces made)) (hlen : (tb 0).length ≤ 100) (tank metres : Int32) : mm_Ct l G mX3_gather [.ref 7, .int tank, .int metres] h (mm_qi (fun v h' => v = .int (bb ((ho_ga tank (tb 0).reverse metres []).2 = 0)) ∧ tt_S h' (va_up tb 1 (ho_ga tank (tb 0).reverse metres []).1) c0 n0 ∧ tt_F h h')) := by
  have key : ∀ (m : Int32) (g : List tt_R) (h1 : mm_H) (x5 : Value), tt_S h1 (va_up tb 1 g) c0 n0 → tt_F h h1 → g.length + (tb 0).length ≤ 100 → mm_Ex l G mX3_gather (mm_qi (fun v h' => v = .int (bb ((ho_ga tank (tb 0).reverse m g).2 = 0)) ∧ tt_S h' (va_up tb 1 (ho_ga tank (tb 0).reverse m g).1) c0 n0 ∧ tt_F h h')) 20 [.ref 7, .int tank, .int metres, .int m, .int (nI (tb 0).length - 1), x5] [] h1 := by
    refine lp_bwd (tb 0) (fun i R => ∀ (m : Int32) (g : List tt_R) (h1 : mm_H) (x5 : Value), tt_S h1 (va_up tb 1 g) c0 n0 → tt_F h h1 → g.length + i ≤ 100 → mm_Ex l G mX3_gather (mm_qi (fun v h' => v = .int (bb ((ho_ga tank R m g).2 = 0)) ∧ tt_S h' (va_up tb 1 (ho_ga tank R m g).1) c0 n0 ∧ tt_F h h')) 20 [.ref 7, .int tank, .int metres, .int m, .int (nI i - 1), x5] [] h1) ?_ ?_
    · intro m g h1 x5 hS1 hF1 hg
      refine ex_iload dX3_gather_20 rfl ?_
      refine ex_if_lt (tgt := 100) dX3_gather_22 (by decide) (fun _ => ?_) (fun z => absurd nI_neg1 z)
      refine ex_iload_n dX3_gather_100 rfl ?_
      refine ex_if_ne (tgt := 108) dX3_gather_101 (by decide) (fun c_101 => ?_) (fun c_101 => ?_)
      · refine ex_iconst (v := 0) dX3_gather_108 (by decide) ?_
        refine ex_ireturn dX3_gather_109 ⟨_, rfl, rfl⟩ ?_
        first | exact ⟨_, rfl, congrArg Value.int (bb_f c_101).symm, hS1, hF1⟩ | exact ⟨_, rfl, congrArg Value.int (bb_t c_101).symm, hS1, hF1⟩
      · refine ex_iconst (v := 1) dX3_gather_104 (by decide) ?_
        refine ex_goto (tgt := 109) dX3_gather_105 (by decide) ?_
        refine ex_ireturn dX3_gather_109 ⟨_, rfl, rfl⟩ ?_
        first | exact ⟨_, rfl, congrArg Value.int (bb_f c_101).symm, hS1, hF1⟩ | exact ⟨_, rfl, congrArg Value.int (bb_t c_101).symm, hS1, hF1⟩
    · intro i r R hr hR hi ih m g h1 x5 hS1 hF1 hg
      rw [nI_m1]
      obtain ⟨v, hv⟩ := tS_row hS1 0 (by decide)
      obtain ⟨w, hw⟩ := tS_row hS1 1 (by decide)
      refine ex_iload dX3_gather_20 rfl ?_
      refine ex_if_lt (tgt := 100) dX3_gather_22 (by decide) (fun z => absurd z (nI_pos (by omega))) (fun _ => ?_)
      refine ex_iload_n dX3_gather_25 rfl ?_
      refine ex_if_le (tgt := 100) dX3_gather_26 (by decide) (fun c_26 => ?_) (fun c_26 => ?_)
      · refine ex_iload_n dX3_gather_100 rfl ?_
        refine ex_if_ne (tgt := 108) dX3_gather_101 (by decide) (fun c_101 => ?_) (fun c_101 => ?_)
        · refine ex_iconst (v := 0) dX3_gather_108 (by decide) ?_
          refine ex_ireturn dX3_gather_109 ⟨_, rfl, rfl⟩ ?_
          rw [ho_ga, if_pos c_26]; first | exact ⟨_, rfl, congrArg Value.int (bb_f c_101).symm, hS1, hF1⟩ | exact ⟨_, rfl, congrArg Value.int (bb_t c_101).symm, hS1, hF1⟩
        · refine ex_iconst (v := 1) dX3_gather_104 (by decide) ?_
          refine ex_goto (tgt := 109) dX3_gather_105 (by decide) ?_
          refine ex_ireturn dX3_gather_109 ⟨_, rfl, rfl⟩ ?_
          rw [ho_ga, if_pos c_26]; first | exact ⟨_, rfl, congrArg Value.int (bb_f c_101).symm, hS1, hF1⟩ | exact ⟨_, rfl, congrArg Value.int (bb_t c_101).symm, hS1, hF1⟩
      · refine ex_aload_n dX3_gather_29 rfl ?_
        refine ex_getfield dX3_gather_30 g_X3_18 ((hF1 7 rfl).trans hO) rfl ?_
        refine ex_iload dX3_gather_33 rfl ?_
        refine ex_iconst (v := 0) dX3_gather_35 (by decide) ?_
        refine cV_f dX3_gather_36 (mm_kv i_X7_get l_X3_39) ⟨(Nat.le_of_ble_eq_true rfl), (Nat.le_of_ble_eq_true rfl)⟩ (tS_getr hS1 0 (by decide) (L := tb 0) rfl hr 0 _ rfl (by decide) _ rfl) rfl rfl hv (Nat.le_of_ble_eq_true rfl) rfl ?_
        refine ex_iload_n dX3_gather_39 rfl ?_
        refine ex_icmp_ne (tgt := 94) dX3_gather_40 (by decide) (fun c_40 => ?_) (fun c_40 => ?_)
        · refine ex_iinc (d := (-1)) dX3_gather_94 rfl (by decide) ?_
          refine ex_goto (tgt := 20) dX3_gather_97 (by decide) ?_
          rw [nI_m2, ho_ga, if_neg c_26]; first | (rw [if_neg (show ¬ r.1 = tank from c_40)]; exact ih _ _ _ _ hS1 hF1 (by omega)) | (rw [if_pos (show r.1 = tank from c_40)]; exact ih _ _ _ _ q1 (hF1.trans q2) (by rw [List.length_append]; show g.length + 1 + i ≤ 100; omega))
        · refine ex_iload_n dX3_gather_43 rfl ?_
          refine ex_aload_n dX3_gather_44 rfl ?_
          refine ex_getfield dX3_gather_45 g_X3_18 ((hF1 7 rfl).trans hO) rfl ?_
          refine ex_iload dX3_gather_48 rfl ?_
          refine ex_iconst (v := 3) dX3_gather_50 (by decide) ?_
          refine cV_f dX3_gather_51 (mm_kv i_X7_get l_X3_39) ⟨(Nat.le_of_ble_eq_true rfl), (Nat.le_of_ble_eq_true rfl)⟩ (tS_getr hS1 0 (by decide) (L := tb 0) rfl hr 3 _ rfl (by decide) _ rfl) rfl rfl hv (Nat.le_of_ble_eq_true rfl) rfl ?_
          refine ex_min dX3_gather_54 i_J9_min_7cf53 l_X3_46 (Nat.le_of_ble_eq_true rfl) (Nat.le_of_ble_eq_true rfl) ?_
          refine ex_istore dX3_gather_57 (Nat.le_of_ble_eq_true rfl) ?_
          refine ex_aload_n dX3_gather_59 rfl ?_
          refine ex_getfield dX3_gather_60 g_X3_22 ((hF1 7 rfl).trans hO) rfl ?_
          refine ex_iload_n dX3_gather_63 rfl ?_
          refine ex_aload_n dX3_gather_64 rfl ?_
          refine ex_getfield dX3_gather_65 g_X3_18 ((hF1 7 rfl).trans hO) rfl ?_
          refine ex_iload dX3_gather_68 rfl ?_
          refine ex_iconst (v := 1) dX3_gather_70 (by decide) ?_
          refine cV_f dX3_gather_71 (mm_kv i_X7_get l_X3_39) ⟨(Nat.le_of_ble_eq_true rfl), (Nat.le_of_ble_eq_true rfl)⟩ (tS_getr hS1 0 (by decide) (L := tb 0) rfl hr 1 _ rfl (by decide) _ rfl) rfl rfl hv (Nat.le_of_ble_eq_true rfl) rfl ?_
          refine ex_aload_n dX3_gather_74 rfl ?_
          refine ex_getfield dX3_gather_75 g_X3_18 ((hF1 7 rfl).trans hO) rfl ?_
          refine ex_iload dX3_gather_78 rfl ?_
          refine ex_iconst (v := 2) dX3_gather_80 (by decide) ?_
          refine cV_f dX3_gather_81 (mm_kv i_X7_get l_X3_39) ⟨(Nat.le_of_ble_eq_true rfl), (Nat.le_of_ble_eq_true rfl)⟩ (tS_getr hS1 0 (by decide) (L := tb 0) rfl hr 2 _ rfl (by decide) _ rfl) rfl rfl hv (Nat.le_of_ble_eq_true rfl) rfl ?_
          refine ex_iload dX3_gather_84 rfl ?_
          refine cV_y dX3_gather_86 (mm_kv i_X7_add l_X3_32) ⟨(Nat.le_of_ble_eq_true rfl), (Nat.le_of_ble_eq_true rfl)⟩ (tS_add hS1 1 (by decide) (by show g.length ≤ 20000; omega) _ _ _ _) rfl rfl hw (Nat.le_of_ble_eq_true rfl) rfl ?_
          rintro h2 ⟨q1, q2⟩
          rw [va_uu] at q1
          refine ex_iload_n dX3_gather_89 rfl ?_
          refine ex_iload dX3_gather_90 rfl ?_
          refine ex_isub dX3_gather_92 ?_
          refine ex_istore_n dX3_gather_93 (Nat.le_of_ble_eq_true rfl) ?_
          refine ex_iinc (d := (-1)) dX3_gather_94 rfl (by decide) ?_
          refine ex_goto (tgt := 20) dX3_gather_97 (by decide) ?_
          rw [nI_m2, ho_ga, if_neg c_26]; first | (rw [if_neg (show ¬ r.1 = tank from c_40)]; exact ih _ _ _ _ hS1 hF1 (by omega)) | (rw [if_pos (show r.1 = tank from c_40)]; exact ih _ _ _ _ q1 (hF1.trans q2) (by rw [List.length_append]; show g.length + 1 + i ≤ 100; omega))
  obtain ⟨v, hv⟩ := tS_row hT 1 (by decide)
  refine mm_ct (by decide +kernel) (by decide +kernel) rfl (by simp [Value.category]) (Nat.le_of_ble_eq_true rfl) rfl ?_
  refine ex_aload_n dX3_gather_0 rfl ?_
  refine ex_getfield dX3_gather_1 g_X3_22 hO rfl ?_
  refine cV_y dX3_gather_4 (mm_kv i_X7_clear l_X3_43) ⟨(Nat.le_of_ble_eq_true rfl), (Nat.le_of_ble_eq_true rfl)⟩ (tS_clear hT 1 (by decide)) rfl rfl hv (Nat.le_of_ble_eq_true rfl) rfl ?_
  rintro h1 ⟨q1, q2⟩
  obtain ⟨w, hw⟩ := tS_row q1 0 (by decide)
  refine ex_iload_n dX3_gather_7 rfl ?_
  refine ex_istore_n dX3_gather_8 (Nat.le_of_ble_eq_true rfl) ?_
  refine ex_aload_n dX3_gather_9 rfl ?_
  refine ex_getfield dX3_gather_10 g_X3_18 ((q2 7 rfl).trans hO) rfl ?_
  refine ex_getfield dX3_gather_13 g_X3_36 hw rfl ?_
  refine ex_iconst (v := 1) dX3_gather_16 (by decide) ?_
  refine ex_isub dX3_gather_17 ?_
  refine ex_istore dX3_gather_18 (Nat.le_of_ble_eq_true rfl) ?_
  exact key metres [] h1 _ q1 q2 (by show 0 + (tb 0).length ≤ 100; omega)
theorem c_X3_sendOut (hT : tt_S h tb c0 n0) (hO : h.1 7 = some (ho_C pieces made)) (tank metres : Int32) : mm_Ct l G mX3_sendOut [.ref 7, .int tank, .int metres] h (mm_qv (fun h' => tt_S h' (va_up tb 0 (ho_so tank (tb 0).reverse metres [])) c0 n0 ∧ tt_F h h')) := by
  have hlen := tS_len hT 0 (by decide)
  have key : ∀ (m : Int32) (d : List tt_R) (h1 : mm_H) (x5 x6 : Value), tt_S h1 (va_up tb 0 ((tb 0).reverse.reverse ++ d)) c0 n0 → tt_F h h1 → mm_Ex l G mX3_sendOut (mm_qv (fun h' => tt_S h' (va_up tb 0 (ho_so tank (tb 0).reverse m d)) c0 n0 ∧ tt_F h h')) 13 [.ref 7, .int tank, .int metres, .int m, .int (nI (tb 0).length - 1), x5, x6] [] h1 := by
    refine lp_bwd (tb 0) (fun i R => ∀ (m : Int32) (d : List tt_R) (h1 : mm_H) (x5 x6 : Value), tt_S h1 (va_up tb 0 (R.reverse ++ d)) c0 n0 → tt_F h h1 → mm_Ex l G mX3_sendOut (mm_qv (fun h' => tt_S h' (va_up tb 0 (ho_so tank R m d)) c0 n0 ∧ tt_F h h')) 13 [.ref 7, .int tank, .int metres, .int m, .int (nI i - 1), x5, x6] [] h1) ?_ ?_
    · intro m d h1 x5 x6 hS1 hF1
      refine ex_iload dX3_sendOut_13 rfl ?_
      refine ex_if_lt (tgt := 124) dX3_sendOut_15 (by decide) (fun _ => ?_) (fun z => absurd nI_neg1 z)
      refine ex_return dX3_sendOut_124 rfl ?_
      exact ⟨rfl, hS1, hF1⟩
    · intro i r R hr hR hi ih m d h1 x5 x6 hS1 hF1
      rw [nI_m1]
      rw [ls_rev hR] at hS1
      have hg : ((tb 0).take i ++ r :: d)[i]? = some r := ls_get hi
      obtain ⟨v, hv⟩ := tS_row hS1 0 (by decide)
      refine ex_iload dX3_sendOut_13 rfl ?_
      refine ex_if_lt (tgt := 124) dX3_sendOut_15 (by decide) (fun z => absurd z (nI_pos (by omega))) (fun _ => ?_)
      refine ex_iload_n dX3_sendOut_18 rfl ?_
      refine ex_if_le (tgt := 124) dX3_sendOut_19 (by decide) (fun c_19 => ?_) (fun c_19 => ?_)
      · refine ex_return dX3_sendOut_124 rfl ?_
        rw [ho_so, if_pos c_19]; exact ⟨rfl, by rw [ls_rev hR]; exact hS1, hF1⟩
      · refine ex_aload_n dX3_sendOut_22 rfl ?_
        refine ex_getfield dX3_sendOut_23 g_X3_18 ((hF1 7 rfl).trans hO) rfl ?_
        refine ex_iload dX3_sendOut_26 rfl ?_
        refine ex_iconst (v := 0) dX3_sendOut_28 (by decide) ?_
        refine cV_f dX3_sendOut_29 (mm_kv i_X7_get l_X3_39) ⟨(Nat.le_of_ble_eq_true rfl), (Nat.le_of_ble_eq_true rfl)⟩ (tS_getr hS1 0 (by decide) (L := (tb 0).take i ++ r :: d) rfl hg 0 _ rfl (by decide) _ rfl) rfl rfl hv (Nat.le_of_ble_eq_true rfl) rfl ?_
        refine ex_iload_n dX3_sendOut_32 rfl ?_
        refine ex_icmp_ne (tgt := 118) dX3_sendOut_33 (by decide) (fun c_33 => ?_) (fun c_33 => ?_)
        · refine ex_iinc (d := (-1)) dX3_sendOut_118 rfl (by decide) ?_
          refine ex_goto (tgt := 13) dX3_sendOut_121 (by decide) ?_
          rw [nI_m2, ho_so, if_neg c_19]; first | (rw [if_neg (show ¬ r.1 = tank from c_33)]; exact ih _ _ _ _ _ (by rw [← hR, List.reverse_reverse]; exact hS1) hF1) | (rw [if_pos (show r.1 = tank from c_33), if_neg (show ¬ mn m r.2.2.2 = r.2.2.2 from c_65)]; exact ih _ _ _ _ _ (by rw [← hR, List.reverse_reverse]; exact p3) (hF1.trans (p2.trans p4))) | (rw [if_pos (show r.1 = tank from c_33), if_pos (show mn m r.2.2.2 = r.2.2.2 from c_65)]; exact ih _ _ _ _ _ (by rw [← hR, List.reverse_reverse]; exact p1) (hF1.trans p2))
        · refine ex_aload_n dX3_sendOut_36 rfl ?_
          refine ex_getfield dX3_sendOut_37 g_X3_18 ((hF1 7 rfl).trans hO) rfl ?_
          refine ex_iload dX3_sendOut_40 rfl ?_
          refine ex_iconst (v := 3) dX3_sendOut_42 (by decide) ?_
          refine cV_f dX3_sendOut_43 (mm_kv i_X7_get l_X3_39) ⟨(Nat.le_of_ble_eq_true rfl), (Nat.le_of_ble_eq_true rfl)⟩ (tS_getr hS1 0 (by decide) (L := (tb 0).take i ++ r :: d) rfl hg 3 _ rfl (by decide) _ rfl) rfl rfl hv (Nat.le_of_ble_eq_true rfl) rfl ?_
          refine ex_istore dX3_sendOut_46 (Nat.le_of_ble_eq_true rfl) ?_
          refine ex_iload_n dX3_sendOut_48 rfl ?_
          refine ex_iload dX3_sendOut_49 rfl ?_
          refine ex_min dX3_sendOut_51 i_J9_min_7cf53 l_X3_46 (Nat.le_of_ble_eq_true rfl) (Nat.le_of_ble_eq_true rfl) ?_
          refine ex_istore dX3_sendOut_54 (Nat.le_of_ble_eq_true rfl) ?_
          refine ex_iload_n dX3_sendOut_56 rfl ?_
          refine ex_iload dX3_sendOut_57 rfl ?_
          refine ex_isub dX3_sendOut_59 ?_
          refine ex_istore_n dX3_sendOut_60 (Nat.le_of_ble_eq_true rfl) ?_
          refine ex_iload dX3_sendOut_61 rfl ?_
          refine ex_iload dX3_sendOut_63 rfl ?_
          refine ex_icmp_ne (tgt := 80) dX3_sendOut_65 (by decide) (fun c_65 => ?_) (fun c_65 => ?_)
          · refine ex_aload_n dX3_sendOut_80 rfl ?_
            refine ex_getfield dX3_sendOut_81 g_X3_18 ((hF1 7 rfl).trans hO) rfl ?_
            refine ex_iload dX3_sendOut_84 rfl ?_
            refine ex_iconst (v := 2) dX3_sendOut_86 (by decide) ?_
            refine ex_aload_n dX3_sendOut_87 rfl ?_
            refine ex_getfield dX3_sendOut_88 g_X3_18 ((hF1 7 rfl).trans hO) rfl ?_
            refine ex_iload dX3_sendOut_91 rfl ?_
            refine ex_iconst (v := 2) dX3_sendOut_93 (by decide) ?_
            refine cV_f dX3_sendOut_94 (mm_kv i_X7_get l_X3_39) ⟨(Nat.le_of_ble_eq_true rfl), (Nat.le_of_ble_eq_true rfl)⟩ (tS_getr hS1 0 (by decide) (L := (tb 0).take i ++ r :: d) rfl hg 2 _ rfl (by decide) _ rfl) rfl rfl hv (Nat.le_of_ble_eq_true rfl) rfl ?_
            refine ex_iload dX3_sendOut_97 rfl ?_
            refine ex_iadd dX3_sendOut_99 ?_
            refine cV_y dX3_sendOut_100 (mm_kv i_X7_set l_X3_55) ⟨(Nat.le_of_ble_eq_true rfl), (Nat.le_of_ble_eq_true rfl)⟩ (tS_set hS1 0 (by decide) i r hg _ rfl 2 _ rfl (by decide) _) rfl rfl hv (Nat.le_of_ble_eq_true rfl) rfl ?_
            rintro h2 ⟨p1, p2⟩
            rw [va_uu, show ∀ x, (va_up tb 0 ((tb 0).take i ++ r :: d) 0).set i x = (tb 0).take i ++ x :: d from fun x => ls_set hi] at p1
            obtain ⟨w, hw⟩ := tS_row p1 0 (by decide)
            refine ex_aload_n dX3_sendOut_103 rfl ?_
            refine ex_getfield dX3_sendOut_104 g_X3_18 ((p2 7 rfl).trans ((hF1 7 rfl).trans hO)) rfl ?_
            refine ex_iload dX3_sendOut_107 rfl ?_
            refine ex_iconst (v := 3) dX3_sendOut_109 (by decide) ?_
            refine ex_iload dX3_sendOut_110 rfl ?_
            refine ex_iload dX3_sendOut_112 rfl ?_
            refine ex_isub dX3_sendOut_114 ?_
            refine cV_y dX3_sendOut_115 (mm_kv i_X7_set l_X3_55) ⟨(Nat.le_of_ble_eq_true rfl), (Nat.le_of_ble_eq_true rfl)⟩ (tS_set p1 0 (by decide) i _ (ls_get hi) _ rfl 3 _ rfl (by decide) _) rfl rfl hw (Nat.le_of_ble_eq_true rfl) rfl ?_
            rintro h3 ⟨p3, p4⟩
            rw [va_uu, show ∀ x y, (va_up tb 0 ((tb 0).take i ++ x :: d) 0).set i y = (tb 0).take i ++ y :: d from fun x y => ls_set hi] at p3
            refine ex_iinc (d := (-1)) dX3_sendOut_118 rfl (by decide) ?_
            refine ex_goto (tgt := 13) dX3_sendOut_121 (by decide) ?_
            rw [nI_m2, ho_so, if_neg c_19]; first | (rw [if_neg (show ¬ r.1 = tank from c_33)]; exact ih _ _ _ _ _ (by rw [← hR, List.reverse_reverse]; exact hS1) hF1) | (rw [if_pos (show r.1 = tank from c_33), if_neg (show ¬ mn m r.2.2.2 = r.2.2.2 from c_65)]; exact ih _ _ _ _ _ (by rw [← hR, List.reverse_reverse]; exact p3) (hF1.trans (p2.trans p4))) | (rw [if_pos (show r.1 = tank from c_33), if_pos (show mn m r.2.2.2 = r.2.2.2 from c_65)]; exact ih _ _ _ _ _ (by rw [← hR, List.reverse_reverse]; exact p1) (hF1.trans p2))
          · refine ex_aload_n dX3_sendOut_68 rfl ?_
            refine ex_getfield dX3_sendOut_69 g_X3_18 ((hF1 7 rfl).trans hO) rfl ?_
            refine ex_iload dX3_sendOut_72 rfl ?_
            refine cV_y dX3_sendOut_74 (mm_kv i_X7_remove l_X3_51) ⟨(Nat.le_of_ble_eq_true rfl), (Nat.le_of_ble_eq_true rfl)⟩ (tS_remove hS1 0 (by decide) i (ls_len hi) _ rfl) rfl rfl hv (Nat.le_of_ble_eq_true rfl) rfl ?_
            rintro h2 ⟨p1, p2⟩
            rw [va_uu, show (va_up tb 0 ((tb 0).take i ++ r :: d) 0).eraseIdx i = (tb 0).take i ++ d from ls_erase hi] at p1
            refine ex_goto (tgt := 118) dX3_sendOut_77 (by decide) ?_
            refine ex_iinc (d := (-1)) dX3_sendOut_118 rfl (by decide) ?_
            refine ex_goto (tgt := 13) dX3_sendOut_121 (by decide) ?_
            rw [nI_m2, ho_so, if_neg c_19]; first | (rw [if_neg (show ¬ r.1 = tank from c_33)]; exact ih _ _ _ _ _ (by rw [← hR, List.reverse_reverse]; exact hS1) hF1) | (rw [if_pos (show r.1 = tank from c_33), if_neg (show ¬ mn m r.2.2.2 = r.2.2.2 from c_65)]; exact ih _ _ _ _ _ (by rw [← hR, List.reverse_reverse]; exact p3) (hF1.trans (p2.trans p4))) | (rw [if_pos (show r.1 = tank from c_33), if_pos (show mn m r.2.2.2 = r.2.2.2 from c_65)]; exact ih _ _ _ _ _ (by rw [← hR, List.reverse_reverse]; exact p1) (hF1.trans p2))
  obtain ⟨v, hv⟩ := tS_row hT 0 (by decide)
  refine mm_ct (by decide +kernel) (by decide +kernel) rfl (by simp [Value.category]) (Nat.le_of_ble_eq_true rfl) rfl ?_
  refine ex_iload_n dX3_sendOut_0 rfl ?_
  refine ex_istore_n dX3_sendOut_1 (Nat.le_of_ble_eq_true rfl) ?_
  refine ex_aload_n dX3_sendOut_2 rfl ?_
  refine ex_getfield dX3_sendOut_3 g_X3_18 hO rfl ?_
  refine ex_getfield dX3_sendOut_6 g_X3_36 hv rfl ?_
  refine ex_iconst (v := 1) dX3_sendOut_9 (by decide) ?_
  refine ex_isub dX3_sendOut_10 ?_
  refine ex_istore dX3_sendOut_11 (Nat.le_of_ble_eq_true rfl) ?_
  exact key metres [] h _ _ (by rw [List.reverse_reverse, List.append_nil]; rw [va_id]; exact hT) (tt_F.refl h)
end HOLD2
