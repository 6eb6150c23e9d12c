/-! THE BOOK OF FAULTS -/
theorem ls_mg {D R : List tt_R} {r : tt_R} : (D ++ r :: R)[D.length]? = some r := by rw [List.getElem?_append_right (Nat.le_refl _), Nat.sub_self]; rfl
theorem ls_ms {D R : List tt_R} {r x : tt_R} : (D ++ r :: R).set D.length x = D ++ x :: R := by rw [List.set_append_right _ _ (Nat.le_refl _), Nat.sub_self]; rfl
theorem ls_me {D R : List tt_R} {r : tt_R} : (D ++ r :: R).eraseIdx D.length = D ++ R := by rw [List.eraseIdx_append_of_length_le (Nat.le_refl _), Nat.sub_self]; rfl
def fa_c (b e s : Int32) : List tt_R → Nat → List tt_R → List tt_R × Nat
  | [], n, d => (d, n)
  | r :: R, n, d => if r.2.1 < e then (if r.2.1 < b then fa_c b e s R n (r :: d) else fa_c b e s R (n + 1) d) else fa_c b e s R n ((r.1, r.2.1 + s, r.2.2.1, r.2.2.2) :: d)
def fa_k (p : Int32) : List tt_R → List tt_R → List tt_R
  | [], d => d
  | r :: R, d => if r.2.1 < p then fa_k p R (r :: d) else fa_k p R d
section FB
variable {l : Launch} {G : mm_G} {h : mm_H} {tb : Nat → List tt_R} {c0 n0 : Nat}
theorem c_X2_beginAnew (hT : tt_S h tb c0 n0) (hO : h.1 20 = some (.inr (2, [.ref 21]))) (m : Int32) : mm_Ct l G mX2_beginAnew [.ref 20, .int m] h (mm_qv (fun h' => tt_S h' (va_up tb 4 ((tb 4).map (fun r => (r.1, r.2.1, 0, m)))) c0 n0 ∧ tt_F h h')) := by
  have key : ∀ (R D : List tt_R) (h1 : mm_H), tt_S h1 (va_up tb 4 (D ++ R)) c0 n0 → tt_F h h1 → mm_Ex l G mX2_beginAnew (mm_qv (fun h' => tt_S h' (va_up tb 4 (D ++ R.map (fun r => (r.1, r.2.1, 0, m)))) c0 n0 ∧ tt_F h h')) 2 [.ref 20, .int m, .int (nI D.length)] [] h1 := by
    intro R
    induction R with
    | nil =>
      intro D h1 q1 f1
      obtain ⟨v, hv⟩ := tS_row q1 4 (by decide)
      replace hv : h1.1 (tp 4) = some (.inr (7, [.ref v, .int (nI (D ++ []).length)])) := hv
      refine ex_iload_n dX2_beginAnew_2 rfl ?_
      refine ex_aload_n dX2_beginAnew_3 rfl ?_
      refine ex_getfield dX2_beginAnew_4 g_X2_12 ((f1 20 rfl).trans hO) rfl ?_
      refine ex_getfield dX2_beginAnew_7 g_X2_18 hv rfl ?_
      refine ex_icmp_ge (tgt := 39) dX2_beginAnew_10 (by decide) (fun _ => ?_) (fun z => absurd (by rw [List.append_nil]; exact Int32.le_refl _) z)
      refine ex_return dX2_beginAnew_39 rfl ?_
      exact ⟨rfl, q1, f1⟩
    | cons r R ih =>
      intro D h1 q1 f1
      obtain ⟨v, hv⟩ := tS_row q1 4 (by decide)
      have hl : (D ++ r :: R).length < 2 ^ 31 := Nat.lt_of_le_of_lt (tS_len q1 4 (by decide)) (by decide)
      replace hv : h1.1 (tp 4) = some (.inr (7, [.ref v, .int (nI (D ++ r :: R).length)])) := hv
      refine ex_iload_n dX2_beginAnew_2 rfl ?_
      refine ex_aload_n dX2_beginAnew_3 rfl ?_
      refine ex_getfield dX2_beginAnew_4 g_X2_12 ((f1 20 rfl).trans hO) rfl ?_
      refine ex_getfield dX2_beginAnew_7 g_X2_18 hv rfl ?_
      refine ex_icmp_ge (tgt := 39) dX2_beginAnew_10 (by decide) (fun z => absurd z (nI_ge (by rw [List.length_append, List.length_cons]; omega) hl)) (fun _ => ?_)
      refine ex_aload_n dX2_beginAnew_13 rfl ?_
      refine ex_getfield dX2_beginAnew_14 g_X2_12 ((f1 20 rfl).trans hO) rfl ?_
      refine ex_iload_n dX2_beginAnew_17 rfl ?_
      refine ex_iconst (v := 2) dX2_beginAnew_18 (by decide) ?_
      refine ex_iconst (v := 0) dX2_beginAnew_19 (by decide) ?_
      refine cV_y dX2_beginAnew_20 (mm_kv i_X7_set l_X2_29) ⟨(Nat.le_of_ble_eq_true rfl), (Nat.le_of_ble_eq_true rfl)⟩ (tS_set q1 4 (by decide) D.length r ls_mg _ rfl 2 _ rfl (by decide) _) rfl rfl hv (Nat.le_of_ble_eq_true rfl) rfl ?_
      rintro h2 ⟨q2, f2⟩
      rw [va_uu, show ∀ x, (va_up tb 4 (D ++ r :: R) 4).set D.length x = D ++ x :: R from fun x => ls_ms] at q2
      obtain ⟨w, hw⟩ := tS_row q2 4 (by decide)
      refine ex_aload_n dX2_beginAnew_23 rfl ?_
      refine ex_getfield dX2_beginAnew_24 g_X2_12 (((f1.trans f2) 20 rfl).trans hO) rfl ?_
      refine ex_iload_n dX2_beginAnew_27 rfl ?_
      refine ex_iconst (v := 3) dX2_beginAnew_28 (by decide) ?_
      refine ex_iload_n dX2_beginAnew_29 rfl ?_
      refine cV_y dX2_beginAnew_30 (mm_kv i_X7_set l_X2_29) ⟨(Nat.le_of_ble_eq_true rfl), (Nat.le_of_ble_eq_true rfl)⟩ (tS_set q2 4 (by decide) D.length _ ls_mg _ rfl 3 _ rfl (by decide) _) rfl rfl hw (Nat.le_of_ble_eq_true rfl) rfl ?_
      rintro h3 ⟨q3, f3⟩
      rw [va_uu, show ∀ x y, (va_up tb 4 (D ++ y :: R) 4).set D.length x = D ++ x :: R from fun x y => ls_ms] at q3
      refine ex_iinc (d := 1) dX2_beginAnew_33 rfl (by decide) ?_
      refine ex_goto (tgt := 2) dX2_beginAnew_36 (by decide) ?_
      rw [nI_1, List.map_cons, List.append_cons, show D.length + 1 = (D ++ [(r.1, r.2.1, (0 : Int32), m)]).length by simp]; exact ih _ _ (by rw [List.append_assoc]; exact q3) (f1.trans (f2.trans f3))
  refine mm_ct (by decide +kernel) (by decide +kernel) rfl (by simp [Value.category]) (Nat.le_of_ble_eq_true rfl) rfl ?_
  refine ex_iconst (v := 0) dX2_beginAnew_0 (by decide) ?_
  refine ex_istore_n dX2_beginAnew_1 (Nat.le_of_ble_eq_true rfl) ?_
  exact key (tb 4) [] h (by rw [List.nil_append, va_id]; exact hT) (tt_F.refl _)
theorem c_X2_dropFrom (hT : tt_S h tb c0 n0) (hO : h.1 20 = some (.inr (2, [.ref 21]))) (p : Int32) : mm_Ct l G mX2_dropFrom [.ref 20, .int p] h (mm_qv (fun h' => tt_S h' (va_up tb 4 (fa_k p (tb 4).reverse [])) c0 n0 ∧ tt_F h h')) := by
  have key : ∀ (R D : List tt_R) (h1 : mm_H), tt_S h1 (va_up tb 4 (R.reverse ++ D)) c0 n0 → tt_F h h1 → R.length ≤ 100000 → mm_Ex l G mX2_dropFrom (mm_qv (fun h' => tt_S h' (va_up tb 4 (fa_k p R D)) c0 n0 ∧ tt_F h h')) 10 [.ref 20, .int p, .int (nI R.length - 1)] [] h1 := by
    intro R
    induction R with
    | nil =>
      intro D h1 q1 f1 hl
      refine ex_iload_n dX2_dropFrom_10 rfl ?_
      refine ex_if_lt (tgt := 41) dX2_dropFrom_11 (by decide) (fun _ => ?_) (fun z => absurd nI_neg1 z)
      refine ex_return dX2_dropFrom_41 rfl ?_
      exact ⟨rfl, q1, f1⟩
    | cons r R ih =>
      intro D h1 q1 f1 hl
      rw [List.length_cons, nI_m1]
      rw [List.reverse_cons, List.append_assoc, List.singleton_append] at q1
      obtain ⟨v, hv⟩ := tS_row q1 4 (by decide)
      refine ex_iload_n dX2_dropFrom_10 rfl ?_
      refine ex_if_lt (tgt := 41) dX2_dropFrom_11 (by decide) (fun z => absurd z (nI_pos (by rw [List.length_cons] at hl; omega))) (fun _ => ?_)
      refine ex_aload_n dX2_dropFrom_14 rfl ?_
      refine ex_getfield dX2_dropFrom_15 g_X2_12 ((f1 20 rfl).trans hO) rfl ?_
      refine ex_iload_n dX2_dropFrom_18 rfl ?_
      refine ex_iconst (v := 1) dX2_dropFrom_19 (by decide) ?_
      refine cV_f dX2_dropFrom_20 (mm_kv i_X7_get l_X2_25) ⟨(Nat.le_of_ble_eq_true rfl), (Nat.le_of_ble_eq_true rfl)⟩ (tS_getr q1 4 (by decide) (L := R.reverse ++ r :: D) rfl (j := R.length) (by have := ls_mg (D := R.reverse) (r := r) (R := D); rwa [List.length_reverse] at this) 1 _ rfl (by decide) _ rfl) rfl rfl hv (Nat.le_of_ble_eq_true rfl) rfl ?_
      refine ex_iload_n dX2_dropFrom_23 rfl ?_
      refine ex_icmp_lt (tgt := 35) dX2_dropFrom_24 (by decide) (fun c_24 => ?_) (fun c_24 => ?_)
      · refine ex_iinc (d := (-1)) dX2_dropFrom_35 rfl (by decide) ?_
        refine ex_goto (tgt := 10) dX2_dropFrom_38 (by decide) ?_
        rw [nI_m2, fa_k]; first | (rw [if_pos (show r.2.1 < p from c_24)]; exact ih _ _ q1 f1 (by rw [List.length_cons] at hl; omega)) | (rw [if_neg (show ¬ r.2.1 < p from c_24)]; exact ih _ _ q2 (f1.trans f2) (by rw [List.length_cons] at hl; omega))
      · refine ex_aload_n dX2_dropFrom_27 rfl ?_
        refine ex_getfield dX2_dropFrom_28 g_X2_12 ((f1 20 rfl).trans hO) rfl ?_
        refine ex_iload_n dX2_dropFrom_31 rfl ?_
        refine cV_y dX2_dropFrom_32 (mm_kv i_X7_remove l_X2_33) ⟨(Nat.le_of_ble_eq_true rfl), (Nat.le_of_ble_eq_true rfl)⟩ (tS_remove q1 4 (by decide) R.length (show R.length < (R.reverse ++ r :: D).length by rw [List.length_append, List.length_reverse, List.length_cons]; omega) _ rfl) rfl rfl hv (Nat.le_of_ble_eq_true rfl) rfl ?_
        rintro h2 ⟨q2, f2⟩
        rw [va_uu, show (va_up tb 4 (R.reverse ++ r :: D) 4).eraseIdx R.length = R.reverse ++ D by have := ls_me (D := R.reverse) (r := r) (R := D); rwa [List.length_reverse] at this] at q2
        refine ex_iinc (d := (-1)) dX2_dropFrom_35 rfl (by decide) ?_
        refine ex_goto (tgt := 10) dX2_dropFrom_38 (by decide) ?_
        rw [nI_m2, fa_k]; first | (rw [if_pos (show r.2.1 < p from c_24)]; exact ih _ _ q1 f1 (by rw [List.length_cons] at hl; omega)) | (rw [if_neg (show ¬ r.2.1 < p from c_24)]; exact ih _ _ q2 (f1.trans f2) (by rw [List.length_cons] at hl; omega))
  obtain ⟨v, hv⟩ := tS_row hT 4 (by decide)
  have hlen := tS_len hT 4 (by decide)
  refine mm_ct (by decide +kernel) (by decide +kernel) rfl (by simp [Value.category]) (Nat.le_of_ble_eq_true rfl) rfl ?_
  refine ex_aload_n dX2_dropFrom_0 rfl ?_
  refine ex_getfield dX2_dropFrom_1 g_X2_12 hO rfl ?_
  refine ex_getfield dX2_dropFrom_4 g_X2_18 hv rfl ?_
  refine ex_iconst (v := 1) dX2_dropFrom_7 (by decide) ?_
  refine ex_isub dX2_dropFrom_8 ?_
  refine ex_istore_n dX2_dropFrom_9 (Nat.le_of_ble_eq_true rfl) ?_
  rw [← List.length_reverse (as := tb 4)]; exact key (tb 4).reverse [] h (by rw [List.reverse_reverse, List.append_nil, va_id]; exact hT) (tt_F.refl _) (by rw [List.length_reverse]; exact hlen)
theorem c_X2_cutOut (hT : tt_S h tb c0 n0) (hO : h.1 20 = some (.inr (2, [.ref 21]))) (b e s : Int32) : mm_Ct l G mX2_cutOut [.ref 20, .int b, .int e, .int s] h (mm_qi (fun v h' => v = .int (nI (fa_c b e s (tb 4).reverse 0 []).2) ∧ tt_S h' (va_up tb 4 (fa_c b e s (tb 4).reverse 0 []).1) c0 n0 ∧ tt_F h h')) := by
  have key : ∀ (R D : List tt_R) (n : Nat) (h1 : mm_H) (x6 : Value), tt_S h1 (va_up tb 4 (R.reverse ++ D)) c0 n0 → tt_F h h1 → R.length ≤ 100000 → mm_Ex l G mX2_cutOut (mm_qi (fun v h' => v = .int (nI (fa_c b e s R n D).2) ∧ tt_S h' (va_up tb 4 (fa_c b e s R n D).1) c0 n0 ∧ tt_F h h')) 14 [.ref 20, .int b, .int e, .int s, .int (nI n), .int (nI R.length - 1), x6] [] h1 := by
    intro R
    induction R with
    | nil =>
      intro D n h1 x6 q1 f1 hl
      refine ex_iload dX2_cutOut_14 rfl ?_
      refine ex_if_lt (tgt := 78) dX2_cutOut_16 (by decide) (fun _ => ?_) (fun z => absurd nI_neg1 z)
      refine ex_iload dX2_cutOut_78 rfl ?_
      refine ex_ireturn dX2_cutOut_80 ⟨_, rfl, rfl⟩ ?_
      exact ⟨_, rfl, rfl, q1, f1⟩
    | cons r R ih =>
      intro D n h1 x6 q1 f1 hl
      rw [List.length_cons, nI_m1]
      rw [List.reverse_cons, List.append_assoc, List.singleton_append] at q1
      obtain ⟨v, hv⟩ := tS_row q1 4 (by decide)
      refine ex_iload dX2_cutOut_14 rfl ?_
      refine ex_if_lt (tgt := 78) dX2_cutOut_16 (by decide) (fun z => absurd z (nI_pos (by rw [List.length_cons] at hl; omega))) (fun _ => ?_)
      refine ex_aload_n dX2_cutOut_19 rfl ?_
      refine ex_getfield dX2_cutOut_20 g_X2_12 ((f1 20 rfl).trans hO) rfl ?_
      refine ex_iload dX2_cutOut_23 rfl ?_
      refine ex_iconst (v := 1) dX2_cutOut_25 (by decide) ?_
      refine cV_f dX2_cutOut_26 (mm_kv i_X7_get l_X2_25) ⟨(Nat.le_of_ble_eq_true rfl), (Nat.le_of_ble_eq_true rfl)⟩ (tS_getr q1 4 (by decide) (L := R.reverse ++ r :: D) rfl (j := R.length) (by have := ls_mg (D := R.reverse) (r := r) (R := D); rwa [List.length_reverse] at this) 1 _ rfl (by decide) _ rfl) rfl rfl hv (Nat.le_of_ble_eq_true rfl) rfl ?_
      refine ex_istore dX2_cutOut_29 (Nat.le_of_ble_eq_true rfl) ?_
      refine ex_iload dX2_cutOut_31 rfl ?_
      refine ex_iload_n dX2_cutOut_33 rfl ?_
      refine ex_icmp_lt (tgt := 54) dX2_cutOut_34 (by decide) (fun c_34 => ?_) (fun c_34 => ?_)
      · refine ex_iload dX2_cutOut_54 rfl ?_
        refine ex_iload_n dX2_cutOut_56 rfl ?_
        refine ex_icmp_lt (tgt := 72) dX2_cutOut_57 (by decide) (fun c_57 => ?_) (fun c_57 => ?_)
        · refine ex_iinc (d := (-1)) dX2_cutOut_72 rfl (by decide) ?_
          refine ex_goto (tgt := 14) dX2_cutOut_75 (by decide) ?_
          rw [nI_m2, fa_c]; first | (rw [if_neg (show ¬ r.2.1 < e from c_34)]; exact ih _ _ _ _ q2 (f1.trans f2) (by rw [List.length_cons] at hl; omega)) | (rw [if_pos (show r.2.1 < e from c_34), if_pos (show r.2.1 < b from c_57)]; exact ih _ _ _ _ q1 f1 (by rw [List.length_cons] at hl; omega)) | (rw [nI_1, if_pos (show r.2.1 < e from c_34), if_neg (show ¬ r.2.1 < b from c_57)]; exact ih _ _ _ _ q2 (f1.trans f2) (by rw [List.length_cons] at hl; omega))
        · refine ex_aload_n dX2_cutOut_60 rfl ?_
          refine ex_getfield dX2_cutOut_61 g_X2_12 ((f1 20 rfl).trans hO) rfl ?_
          refine ex_iload dX2_cutOut_64 rfl ?_
          refine cV_y dX2_cutOut_66 (mm_kv i_X7_remove l_X2_33) ⟨(Nat.le_of_ble_eq_true rfl), (Nat.le_of_ble_eq_true rfl)⟩ (tS_remove q1 4 (by decide) R.length (show R.length < (R.reverse ++ r :: D).length by rw [List.length_append, List.length_reverse, List.length_cons]; omega) _ rfl) rfl rfl hv (Nat.le_of_ble_eq_true rfl) rfl ?_
          rintro h2 ⟨q2, f2⟩
          rw [va_uu, show (va_up tb 4 (R.reverse ++ r :: D) 4).eraseIdx R.length = R.reverse ++ D by have := ls_me (D := R.reverse) (r := r) (R := D); rwa [List.length_reverse] at this] at q2
          refine ex_iinc (d := 1) dX2_cutOut_69 rfl (by decide) ?_
          refine ex_iinc (d := (-1)) dX2_cutOut_72 rfl (by decide) ?_
          refine ex_goto (tgt := 14) dX2_cutOut_75 (by decide) ?_
          rw [nI_m2, fa_c]; first | (rw [if_neg (show ¬ r.2.1 < e from c_34)]; exact ih _ _ _ _ q2 (f1.trans f2) (by rw [List.length_cons] at hl; omega)) | (rw [if_pos (show r.2.1 < e from c_34), if_pos (show r.2.1 < b from c_57)]; exact ih _ _ _ _ q1 f1 (by rw [List.length_cons] at hl; omega)) | (rw [nI_1, if_pos (show r.2.1 < e from c_34), if_neg (show ¬ r.2.1 < b from c_57)]; exact ih _ _ _ _ q2 (f1.trans f2) (by rw [List.length_cons] at hl; omega))
      · refine ex_aload_n dX2_cutOut_37 rfl ?_
        refine ex_getfield dX2_cutOut_38 g_X2_12 ((f1 20 rfl).trans hO) rfl ?_
        refine ex_iload dX2_cutOut_41 rfl ?_
        refine ex_iconst (v := 1) dX2_cutOut_43 (by decide) ?_
        refine ex_iload dX2_cutOut_44 rfl ?_
        refine ex_iload_n dX2_cutOut_46 rfl ?_
        refine ex_iadd dX2_cutOut_47 ?_
        refine cV_y dX2_cutOut_48 (mm_kv i_X7_set l_X2_29) ⟨(Nat.le_of_ble_eq_true rfl), (Nat.le_of_ble_eq_true rfl)⟩ (tS_set q1 4 (by decide) R.length r (show (R.reverse ++ r :: D)[R.length]? = some r by have := ls_mg (D := R.reverse) (r := r) (R := D); rwa [List.length_reverse] at this) _ rfl 1 _ rfl (by decide) _) rfl rfl hv (Nat.le_of_ble_eq_true rfl) rfl ?_
        rintro h2 ⟨q2, f2⟩
        rw [va_uu, show ∀ x, (va_up tb 4 (R.reverse ++ r :: D) 4).set R.length x = R.reverse ++ x :: D from fun x => by have := ls_ms (D := R.reverse) (r := r) (R := D) (x := x); rwa [List.length_reverse] at this] at q2
        refine ex_goto (tgt := 72) dX2_cutOut_51 (by decide) ?_
        refine ex_iinc (d := (-1)) dX2_cutOut_72 rfl (by decide) ?_
        refine ex_goto (tgt := 14) dX2_cutOut_75 (by decide) ?_
        rw [nI_m2, fa_c]; first | (rw [if_neg (show ¬ r.2.1 < e from c_34)]; exact ih _ _ _ _ q2 (f1.trans f2) (by rw [List.length_cons] at hl; omega)) | (rw [if_pos (show r.2.1 < e from c_34), if_pos (show r.2.1 < b from c_57)]; exact ih _ _ _ _ q1 f1 (by rw [List.length_cons] at hl; omega)) | (rw [nI_1, if_pos (show r.2.1 < e from c_34), if_neg (show ¬ r.2.1 < b from c_57)]; exact ih _ _ _ _ q2 (f1.trans f2) (by rw [List.length_cons] at hl; omega))
  obtain ⟨v, hv⟩ := tS_row hT 4 (by decide)
  have hlen := tS_len hT 4 (by decide)
  refine mm_ct (by decide +kernel) (by decide +kernel) rfl (by simp [Value.category]) (Nat.le_of_ble_eq_true rfl) rfl ?_
  refine ex_iconst (v := 0) dX2_cutOut_0 (by decide) ?_
  refine ex_istore dX2_cutOut_1 (Nat.le_of_ble_eq_true rfl) ?_
  refine ex_aload_n dX2_cutOut_3 rfl ?_
  refine ex_getfield dX2_cutOut_4 g_X2_12 hO rfl ?_
  refine ex_getfield dX2_cutOut_7 g_X2_18 hv rfl ?_
  refine ex_iconst (v := 1) dX2_cutOut_10 (by decide) ?_
  refine ex_isub dX2_cutOut_11 ?_
  refine ex_istore dX2_cutOut_12 (Nat.le_of_ble_eq_true rfl) ?_
  rw [← List.length_reverse (as := tb 4)]; exact key (tb 4).reverse [] 0 h _ (by rw [List.reverse_reverse, List.append_nil, va_id]; exact hT) (tt_F.refl _) (by rw [List.length_reverse]; exact hlen)
end FB
