section NET4
variable {l : Launch} {G : mm_G} {h : mm_H} {tb : Nat → List tt_R} {c0 n0 : Nat} {st : Nat → Int32}
theorem c_X4_carryDark {S : se_T} {c : ca_T} {ho ro : (Nat → Int32) × Int32 × Int32} {ow : Int32 × Int32 × Int32 × Int32 × Int32 × Int32} (hP : cl_P h tb (S, c, ho, ro, st, ow) c0 n0) (d : Int32) : mm_Ct l G mX4_carryDark [.ref 23, .int d] h (mm_qi (fun v h' => v = .int (ne_cd (tb 5) d (tb 6) [] st 0).2.2 ∧ cl_P h' (va_up tb 6 (ne_cd (tb 5) d (tb 6) [] st 0).1) (S, c, ho, ro, (ne_cd (tb 5) d (tb 6) [] st 0).2.1, ow) c0 n0 ∧ cl_F h h')) := by
  have key : ∀ (R D : List tt_R) (st1 : Nat → Int32) (n : Int32) (h1 : mm_H), cl_P h1 (va_up tb 6 (D ++ R)) (S, c, ho, ro, st1, ow) c0 n0 → cl_F h h1 → mm_Ex l G mX4_carryDark (mm_qi (fun v h' => v = .int (ne_cd (tb 5) d R D st1 n).2.2 ∧ cl_P h' (va_up tb 6 (ne_cd (tb 5) d R D st1 n).1) (S, c, ho, ro, (ne_cd (tb 5) d R D st1 n).2.1, ow) c0 n0 ∧ cl_F h h')) 4 [.ref 23, .int d, .int n, .int (nI D.length)] [] h1 := by
    intro R
    induction R with
    | nil =>
      intro D st1 n h1 p1 f1
      obtain ⟨v, hv⟩ := tS_row p1.1 6 (by decide)
      replace hv : h1.1 (tp 6) = some (.inr (7, [.ref v, .int (nI (D ++ []).length)])) := hv
      refine ex_iload_n dX4_carryDark_4 rfl ?_
      refine ex_aload_n dX4_carryDark_5 rfl ?_
      refine ex_getfield dX4_carryDark_6 g_X4_18 (cP_nw p1) rfl ?_
      refine ex_getfield dX4_carryDark_9 g_X4_33 hv rfl ?_
      refine ex_icmp_ge (tgt := 46) dX4_carryDark_12 (by decide) (fun _ => ?_) (fun z => absurd (by rw [List.append_nil]; exact Int32.le_refl _) z)
      refine ex_iload_n dX4_carryDark_46 rfl ?_
      refine ex_ireturn dX4_carryDark_47 ⟨_, rfl, rfl⟩ ?_
      exact ⟨_, rfl, rfl, by rw [List.append_nil] at p1; exact p1, f1⟩
    | cons q R ih =>
      intro D st1 n h1 p1 f1
      obtain ⟨v, hv⟩ := tS_row p1.1 6 (by decide)
      have hl : (D ++ q :: R).length < 2 ^ 31 := Nat.lt_of_le_of_lt (tS_len p1.1 6 (by decide)) (by decide)
      replace hv : h1.1 (tp 6) = some (.inr (7, [.ref v, .int (nI (D ++ q :: R).length)])) := hv
      have hl2 : D.length < 2 ^ 31 := by rw [List.length_append, List.length_cons] at hl; omega
      have hgv : tt_g (va_up tb 6 (D ++ q :: R) 6) (nI D.length) 3 = q.2.2.2 := tt_g_nI (show (D ++ q :: R)[D.length]? = some q from ls_mg) hl2
      refine ex_iload_n dX4_carryDark_4 rfl ?_
      refine ex_aload_n dX4_carryDark_5 rfl ?_
      refine ex_getfield dX4_carryDark_6 g_X4_18 (cP_nw p1) rfl ?_
      refine ex_getfield dX4_carryDark_9 g_X4_33 hv rfl ?_
      refine ex_icmp_ge (tgt := 46) dX4_carryDark_12 (by decide) (fun z => absurd z (nI_ge (by rw [List.length_append, List.length_cons]; omega) hl)) (fun _ => ?_)
      refine ex_aload_n dX4_carryDark_15 rfl ?_
      refine ex_iload_n dX4_carryDark_16 rfl ?_
      refine cV_f dX4_carryDark_17 (mm_kv i_X4_wayOf l_X4_37) ⟨(Nat.le_of_ble_eq_true rfl), (Nat.le_of_ble_eq_true rfl)⟩ (c_X4_wayOf p1.1 (cP_nw p1) _) rfl rfl (cP_nw p1) (Nat.le_of_ble_eq_true rfl) rfl ?_
      rw [hgv]
      by_cases hz : q.2.2.2 = 0
      · skip
        refine ex_if_ne (tgt := 29) dX4_carryDark_20 (by decide) (fun z => absurd hz z) (fun _ => ?_)
        refine ex_aload_n dX4_carryDark_23 rfl ?_
        refine ex_iload_n dX4_carryDark_24 rfl ?_
        refine ex_iload_n dX4_carryDark_25 rfl ?_
        refine cV_y dX4_carryDark_26 (mm_kv i_X4_carry l_X4_45) ⟨(Nat.le_of_ble_eq_true rfl), (Nat.le_of_ble_eq_true rfl)⟩ (c_X4_carry p1 (show (va_up tb 6 (D ++ q :: R) 6)[D.length]? = some q from ls_mg) d) rfl rfl (cP_nw p1) (Nat.le_of_ble_eq_true rfl) rfl ?_
        rintro h2 ⟨p2, f2⟩
        rw [va_uu, show ∀ x, (va_up tb 6 (D ++ q :: R) 6).set D.length x = D ++ x :: R from fun x => ls_ms] at p2
        have hg2 : ∀ x, tt_g (va_up tb 6 (D ++ x :: R) 6) (nI D.length) 3 = x.2.2.2 := fun x => tt_g_nI (show (D ++ x :: R)[D.length]? = some x from ls_mg) hl2
        refine ex_aload_n dX4_carryDark_29 rfl ?_
        refine ex_iload_n dX4_carryDark_30 rfl ?_
        refine cV_f dX4_carryDark_31 (mm_kv i_X4_wayOf l_X4_37) ⟨(Nat.le_of_ble_eq_true rfl), (Nat.le_of_ble_eq_true rfl)⟩ (c_X4_wayOf p2.1 (cP_nw p2) _) rfl rfl (cP_nw p2) (Nat.le_of_ble_eq_true rfl) rfl ?_
        rw [hg2]
        refine ex_if_ne (tgt := 40) dX4_carryDark_34 (by decide) (fun c_34 => ?_) (fun c_34 => ?_)
        · refine ex_iinc (d := 1) dX4_carryDark_40 rfl (by decide) ?_
          refine ex_goto (tgt := 4) dX4_carryDark_43 (by decide) ?_
          rw [nI_1, ne_cd, if_pos hz]; first | (rw [if_pos (show ne_w (tb 5) (D ++ q :: R) st1 d q = 0 from c_34), show D.length + 1 = (D ++ [(q.1, q.2.1, q.2.2.1, ne_w (tb 5) (D ++ q :: R) st1 d q)]).length by simp]; exact ih _ _ _ _ (by rw [List.append_assoc]; exact p2) (f1.trans f2)) | (rw [if_neg (show ¬ ne_w (tb 5) (D ++ q :: R) st1 d q = 0 from c_34), show D.length + 1 = (D ++ [(q.1, q.2.1, q.2.2.1, ne_w (tb 5) (D ++ q :: R) st1 d q)]).length by simp]; exact ih _ _ _ _ (by rw [List.append_assoc]; exact p2) (f1.trans f2))
        · refine ex_iinc (d := 1) dX4_carryDark_37 rfl (by decide) ?_
          refine ex_iinc (d := 1) dX4_carryDark_40 rfl (by decide) ?_
          refine ex_goto (tgt := 4) dX4_carryDark_43 (by decide) ?_
          rw [nI_1, ne_cd, if_pos hz]; first | (rw [if_pos (show ne_w (tb 5) (D ++ q :: R) st1 d q = 0 from c_34), show D.length + 1 = (D ++ [(q.1, q.2.1, q.2.2.1, ne_w (tb 5) (D ++ q :: R) st1 d q)]).length by simp]; exact ih _ _ _ _ (by rw [List.append_assoc]; exact p2) (f1.trans f2)) | (rw [if_neg (show ¬ ne_w (tb 5) (D ++ q :: R) st1 d q = 0 from c_34), show D.length + 1 = (D ++ [(q.1, q.2.1, q.2.2.1, ne_w (tb 5) (D ++ q :: R) st1 d q)]).length by simp]; exact ih _ _ _ _ (by rw [List.append_assoc]; exact p2) (f1.trans f2))
      · skip
        refine ex_if_ne (tgt := 29) dX4_carryDark_20 (by decide) (fun _ => ?_) (fun z => absurd z hz)
        refine ex_aload_n dX4_carryDark_29 rfl ?_
        refine ex_iload_n dX4_carryDark_30 rfl ?_
        refine cV_f dX4_carryDark_31 (mm_kv i_X4_wayOf l_X4_37) ⟨(Nat.le_of_ble_eq_true rfl), (Nat.le_of_ble_eq_true rfl)⟩ (c_X4_wayOf p1.1 (cP_nw p1) _) rfl rfl (cP_nw p1) (Nat.le_of_ble_eq_true rfl) rfl ?_
        rw [hgv]
        refine ex_if_ne (tgt := 40) dX4_carryDark_34 (by decide) (fun _ => ?_) (fun z => absurd z hz)
        refine ex_iinc (d := 1) dX4_carryDark_40 rfl (by decide) ?_
        refine ex_goto (tgt := 4) dX4_carryDark_43 (by decide) ?_
        rw [nI_1, ne_cd, if_neg hz, show D.length + 1 = (D ++ [q]).length by simp]; exact ih _ _ _ _ (by rw [List.append_assoc]; exact p1) f1
  refine mm_ct (by decide +kernel) (by decide +kernel) rfl (by simp [Value.category]) (Nat.le_of_ble_eq_true rfl) rfl ?_
  refine ex_iconst (v := 0) dX4_carryDark_0 (by decide) ?_
  refine ex_istore_n dX4_carryDark_1 (Nat.le_of_ble_eq_true rfl) ?_
  refine ex_iconst (v := 0) dX4_carryDark_2 (by decide) ?_
  refine ex_istore_n dX4_carryDark_3 (Nat.le_of_ble_eq_true rfl) ?_
  exact key (tb 6) [] st 0 h (by rw [List.nil_append, va_id]; exact hP) (cl_F.refl _)
end NET4
