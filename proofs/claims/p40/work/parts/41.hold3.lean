/-! THE HOLD: fits, holdsAt, stow -/
section HOLD3
variable {l : Launch} {G : mm_G} {h : mm_H} {tb : Nat → List tt_R} {c0 n0 : Nat} {types : Nat → Int32} {pieces made : Int32}
theorem mm_rb {l : Launch} {G : mm_G} {M : mm_M} {pc : Nat} {ls st : List Value} {h h1 : mm_H} {x y : Bool} (e : y = x) (k : mm_Ex l G M (mm_ri (.int (bb (x = true))) h) pc ls st h1) : mm_Ex l G M (mm_ri (.int (bb (y = true))) h) pc ls st h1 := by rw [e]; exact k
theorem ho_fi_t {ty : Int32 → Int32} {r : tt_R} {R : List tt_R} {last b : Int32} (hh : ho_nr last (ty r.2.1) = true) : ho_fi ty (r :: R) last b = ho_fi ty R (ty r.2.1) b := by rw [ho_fi, hh, Bool.true_and]
theorem ho_fi_f {ty : Int32 → Int32} {r : tt_R} {R : List tt_R} {last b : Int32} (hh : ¬ ho_nr last (ty r.2.1) = true) : ¬ ho_fi ty (r :: R) last b = true := by rw [ho_fi, Bool.and_eq_true]; exact fun z => hh z.1
theorem ho_ha_t {ty : Int32 → Int32} {r : tt_R} {R : List tt_R} {d : Int32} (hh : ho_pl (ty r.2.1) d ≤ ho_mp (ty r.2.1)) : ho_ha ty d (r :: R) = ho_ha ty d R := by rw [ho_ha, decide_eq_true hh, Bool.true_and]
theorem ho_ha_f {ty : Int32 → Int32} {r : tt_R} {R : List tt_R} {d : Int32} (hh : ¬ ho_pl (ty r.2.1) d ≤ ho_mp (ty r.2.1)) : ¬ ho_ha ty d (r :: R) = true := by rw [ho_ha, decide_eq_false hh, Bool.false_and]; decide
theorem c_X3_fits (hT : tt_S h tb c0 n0) (hO : h.1 7 = some (ho_C pieces made)) (hY : h.1 8 = some (.inl (.int, 30, .inl types))) (a b : Int32) : mm_Ct l G mX3_fits [.ref 7, .int a, .int b] h (mm_ri (.int (bb (ho_fi (ho_ty types pieces) (tb 1) a b = true))) h) := by
  obtain ⟨v, hv⟩ := tS_row hT 1 (by decide)
  have hlen := tS_len hT 1 (by decide)
  have key : ∀ (s : Int32) (x5 : Value), mm_Ex l G mX3_fits (mm_ri (.int (bb (ho_fi (ho_ty types pieces) (tb 1) s b = true))) h) 5 [.ref 7, .int a, .int b, .int s, .int (nI 0), x5] [] h := by
    refine lp_fwd (tb 1) (fun i R => ∀ (s : Int32) (x5 : Value), mm_Ex l G mX3_fits (mm_ri (.int (bb (ho_fi (ho_ty types pieces) R s b = true))) h) 5 [.ref 7, .int a, .int b, .int s, .int (nI i), x5] [] h) ?_ ?_
    · intro s x5
      refine ex_iload dX3_fits_5 rfl ?_
      refine ex_aload_n dX3_fits_7 rfl ?_
      refine ex_getfield dX3_fits_8 g_X3_22 hO rfl ?_
      refine ex_getfield dX3_fits_11 g_X3_36 hv rfl ?_
      refine ex_icmp_ge (tgt := 53) dX3_fits_14 (by decide) (fun _ => ?_) (fun z => absurd (Int32.le_refl _) z)
      refine ex_iload_n dX3_fits_53 rfl ?_
      refine ex_iload_n dX3_fits_54 rfl ?_
      refine cS_f dX3_fits_55 (mm_ks i_X3_isNear l_X3_63) ⟨(Nat.le_of_ble_eq_true rfl), (Nat.le_of_ble_eq_true rfl)⟩ (c_X3_isNear _ _) rfl rfl (Nat.le_of_ble_eq_true rfl) rfl ?_
      refine ex_ireturn dX3_fits_58 ⟨_, rfl, bb_r⟩ ?_
      exact ⟨rfl, rfl⟩
    · intro i r R hr hR hi ih s x5
      refine ex_iload dX3_fits_5 rfl ?_
      refine ex_aload_n dX3_fits_7 rfl ?_
      refine ex_getfield dX3_fits_8 g_X3_22 hO rfl ?_
      refine ex_getfield dX3_fits_11 g_X3_36 hv rfl ?_
      refine ex_icmp_ge (tgt := 53) dX3_fits_14 (by decide) (fun z => absurd z (nI_ge hi (by omega))) (fun _ => ?_)
      refine ex_aload_n dX3_fits_17 rfl ?_
      refine ex_aload_n dX3_fits_18 rfl ?_
      refine ex_getfield dX3_fits_19 g_X3_22 hO rfl ?_
      refine ex_iload dX3_fits_22 rfl ?_
      refine ex_iconst (v := 1) dX3_fits_24 (by decide) ?_
      refine cV_f dX3_fits_25 (mm_kv i_X7_get l_X3_39) ⟨(Nat.le_of_ble_eq_true rfl), (Nat.le_of_ble_eq_true rfl)⟩ (tS_getr hT 1 (by decide) rfl hr 1 _ rfl (by decide) _ rfl) rfl rfl hv (Nat.le_of_ble_eq_true rfl) rfl ?_
      refine cV_f dX3_fits_28 (mm_kv i_X3_typeOf l_X3_59) ⟨(Nat.le_of_ble_eq_true rfl), (Nat.le_of_ble_eq_true rfl)⟩ (c_X3_typeOf hO hY _) rfl rfl hO (Nat.le_of_ble_eq_true rfl) rfl ?_
      refine ex_istore dX3_fits_31 (Nat.le_of_ble_eq_true rfl) ?_
      refine ex_iload_n dX3_fits_33 rfl ?_
      refine ex_iload dX3_fits_34 rfl ?_
      refine cS_f dX3_fits_36 (mm_ks i_X3_isNear l_X3_63) ⟨(Nat.le_of_ble_eq_true rfl), (Nat.le_of_ble_eq_true rfl)⟩ (c_X3_isNear _ _) rfl rfl (Nat.le_of_ble_eq_true rfl) rfl ?_
      refine ex_if_ne (tgt := 44) dX3_fits_39 (by decide) (fun c_39 => ?_) (fun c_39 => ?_)
      · refine ex_iload dX3_fits_44 rfl ?_
        refine ex_istore_n dX3_fits_46 (Nat.le_of_ble_eq_true rfl) ?_
        refine ex_iinc (d := 1) dX3_fits_47 rfl (by decide) ?_
        refine ex_goto (tgt := 5) dX3_fits_50 (by decide) ?_
        rw [nI_1]; exact mm_rb (ho_fi_t (bb_n.mp c_39)) (ih _ _)
      · refine ex_iconst (v := 0) dX3_fits_42 (by decide) ?_
        refine ex_ireturn dX3_fits_43 ⟨_, rfl, rfl⟩ ?_
        exact bq_f (ho_fi_f (bb_0.mp c_39))
  refine mm_ct (by decide +kernel) (by decide +kernel) rfl (by simp [Value.category]) (Nat.le_of_ble_eq_true rfl) rfl ?_
  refine ex_iload_n dX3_fits_0 rfl ?_
  refine ex_istore_n dX3_fits_1 (Nat.le_of_ble_eq_true rfl) ?_
  refine ex_iconst (v := 0) dX3_fits_2 (by decide) ?_
  refine ex_istore dX3_fits_3 (Nat.le_of_ble_eq_true rfl) ?_
  exact key a _
theorem c_X3_mostPull (t : Int32) : mm_Ct l G mX3_mostPull [.int t] h (mm_ri (.int (ho_mp t)) h) := by
  refine mm_ct (by decide +kernel) (by decide +kernel) rfl (by simp [Value.category]) (Nat.le_of_ble_eq_true rfl) rfl ?_
  refine ex_iload_n dX3_mostPull_0 rfl ?_
  by_cases h0 : t = 0
  · subst h0
    refine ex_tableIn (tgt := 28) dX3_mostPull_1 (by decide) (by decide) rfl (by decide) ?_
    refine ex_bipush (v := 60) dX3_mostPull_28 (by decide) ?_
    refine ex_ireturn dX3_mostPull_30 ⟨_, rfl, rfl⟩ ?_
    exact ⟨rfl, rfl⟩
  by_cases h1 : t = 1
  · subst h1
    refine ex_tableIn (tgt := 31) dX3_mostPull_1 (by decide) (by decide) rfl (by decide) ?_
    refine ex_bipush (v := 90) dX3_mostPull_31 (by decide) ?_
    refine ex_ireturn dX3_mostPull_33 ⟨_, rfl, rfl⟩ ?_
    exact ⟨rfl, rfl⟩
  by_cases h2 : t = 2
  · subst h2
    refine ex_tableIn (tgt := 34) dX3_mostPull_1 (by decide) (by decide) rfl (by decide) ?_
    refine ex_sipush (v := 150) dX3_mostPull_34 (by decide) ?_
    refine ex_ireturn dX3_mostPull_37 ⟨_, rfl, rfl⟩ ?_
    exact ⟨rfl, rfl⟩
  have e0 : ¬ t.toInt = 0 := fun z => h0 (Int32.toInt_inj.mp (z.trans (by decide)))
  have e1 : ¬ t.toInt = 1 := fun z => h1 (Int32.toInt_inj.mp (z.trans (by decide)))
  have e2 : ¬ t.toInt = 2 := fun z => h2 (Int32.toInt_inj.mp (z.trans (by decide)))
  refine ex_tableOut (tgt := 38) dX3_mostPull_1 (by omega) (by decide) ?_
  refine ex_sipush (v := 200) dX3_mostPull_38 (by decide) ?_
  refine ex_ireturn dX3_mostPull_41 ⟨_, rfl, rfl⟩ ?_
  exact mm_rq ((if_neg h0).trans ((if_neg h1).trans (if_neg h2)))
theorem c_X3_holdsAt (hT : tt_S h tb c0 n0) (hO : h.1 7 = some (ho_C pieces made)) (hY : h.1 8 = some (.inl (.int, 30, .inl types))) (d : Int32) : mm_Ct l G mX3_holdsAt [.ref 7, .int d] h (mm_ri (.int (bb (ho_ha (ho_ty types pieces) d (tb 1) = true))) h) := by
  obtain ⟨v, hv⟩ := tS_row hT 1 (by decide)
  have hlen := tS_len hT 1 (by decide)
  have key : ∀ (x5 : Value), mm_Ex l G mX3_holdsAt (mm_ri (.int (bb (ho_ha (ho_ty types pieces) d (tb 1) = true))) h) 2 [.ref 7, .int d, .int (nI 0), x5] [] h := by
    refine lp_fwd (tb 1) (fun i R => ∀ (x5 : Value), mm_Ex l G mX3_holdsAt (mm_ri (.int (bb (ho_ha (ho_ty types pieces) d R = true))) h) 2 [.ref 7, .int d, .int (nI i), x5] [] h) ?_ ?_
    · intro x5
      refine ex_iload_n dX3_holdsAt_2 rfl ?_
      refine ex_aload_n dX3_holdsAt_3 rfl ?_
      refine ex_getfield dX3_holdsAt_4 g_X3_22 hO rfl ?_
      refine ex_getfield dX3_holdsAt_7 g_X3_36 hv rfl ?_
      refine ex_icmp_ge (tgt := 47) dX3_holdsAt_10 (by decide) (fun _ => ?_) (fun z => absurd (Int32.le_refl _) z)
      refine ex_iconst (v := 1) dX3_holdsAt_47 (by decide) ?_
      refine ex_ireturn dX3_holdsAt_48 ⟨_, rfl, rfl⟩ ?_
      exact ⟨rfl, rfl⟩
    · intro i r R hr hR hi ih x5
      refine ex_iload_n dX3_holdsAt_2 rfl ?_
      refine ex_aload_n dX3_holdsAt_3 rfl ?_
      refine ex_getfield dX3_holdsAt_4 g_X3_22 hO rfl ?_
      refine ex_getfield dX3_holdsAt_7 g_X3_36 hv rfl ?_
      refine ex_icmp_ge (tgt := 47) dX3_holdsAt_10 (by decide) (fun z => absurd z (nI_ge hi (by omega))) (fun _ => ?_)
      refine ex_aload_n dX3_holdsAt_13 rfl ?_
      refine ex_aload_n dX3_holdsAt_14 rfl ?_
      refine ex_getfield dX3_holdsAt_15 g_X3_22 hO rfl ?_
      refine ex_iload_n dX3_holdsAt_18 rfl ?_
      refine ex_iconst (v := 1) dX3_holdsAt_19 (by decide) ?_
      refine cV_f dX3_holdsAt_20 (mm_kv i_X7_get l_X3_39) ⟨(Nat.le_of_ble_eq_true rfl), (Nat.le_of_ble_eq_true rfl)⟩ (tS_getr hT 1 (by decide) rfl hr 1 _ rfl (by decide) _ rfl) rfl rfl hv (Nat.le_of_ble_eq_true rfl) rfl ?_
      refine cV_f dX3_holdsAt_23 (mm_kv i_X3_typeOf l_X3_59) ⟨(Nat.le_of_ble_eq_true rfl), (Nat.le_of_ble_eq_true rfl)⟩ (c_X3_typeOf hO hY _) rfl rfl hO (Nat.le_of_ble_eq_true rfl) rfl ?_
      refine ex_istore_n dX3_holdsAt_26 (Nat.le_of_ble_eq_true rfl) ?_
      refine ex_iload_n dX3_holdsAt_27 rfl ?_
      refine ex_iload_n dX3_holdsAt_28 rfl ?_
      refine cS_f dX3_holdsAt_29 (mm_ks i_X3_pull l_X3_67) ⟨(Nat.le_of_ble_eq_true rfl), (Nat.le_of_ble_eq_true rfl)⟩ (c_X3_pull _ _) rfl rfl (Nat.le_of_ble_eq_true rfl) rfl ?_
      refine ex_iload_n dX3_holdsAt_32 rfl ?_
      refine cS_f dX3_holdsAt_33 (mm_ks i_X3_mostPull l_X3_70) ⟨(Nat.le_of_ble_eq_true rfl), (Nat.le_of_ble_eq_true rfl)⟩ (c_X3_mostPull _) rfl rfl (Nat.le_of_ble_eq_true rfl) rfl ?_
      refine ex_icmp_le (tgt := 41) dX3_holdsAt_36 (by decide) (fun c_36 => ?_) (fun c_36 => ?_)
      · refine ex_iinc (d := 1) dX3_holdsAt_41 rfl (by decide) ?_
        refine ex_goto (tgt := 2) dX3_holdsAt_44 (by decide) ?_
        rw [nI_1]; exact mm_rb (ho_ha_t c_36) (ih _)
      · refine ex_iconst (v := 0) dX3_holdsAt_39 (by decide) ?_
        refine ex_ireturn dX3_holdsAt_40 ⟨_, rfl, rfl⟩ ?_
        exact bq_f (ho_ha_f (Int32.not_le.mpr (Int32.not_le.mp c_36)))
  refine mm_ct (by decide +kernel) (by decide +kernel) rfl (by simp [Value.category]) (Nat.le_of_ble_eq_true rfl) rfl ?_
  refine ex_iconst (v := 0) dX3_holdsAt_0 (by decide) ?_
  refine ex_istore_n dX3_holdsAt_1 (Nat.le_of_ble_eq_true rfl) ?_
  exact key _
theorem c_X3_stow {S : se_T} {c : ca_T} {ro : (Nat → Int32) × Int32 × Int32} {st : Nat → Int32} {ow : Int32 × Int32 × Int32 × Int32 × Int32 × Int32} {k : Nat} (hP : cl_P h tb (S, c, (types, nI k, made), ro, st, ow) c0 n0) (hk : k < 30) (hL : (tb 0).length ≤ 20000) (t m tank : Int32) : mm_Ct l G mX3_stow [.ref 7, .int t, .int m, .int tank] h (mm_qi (fun v h' => v = .int (nI k) ∧ cl_P h' (va_up tb 0 (tb 0 ++ [(tank, nI k, 0, m)])) (S, c, (upd types k t, nI (k + 1), made + m), ro, st, ow) c0 n0 ∧ cl_F h h')) := by
  have ek : (nI k).toNatClampNeg = k := nI_clamp (by omega)
  refine mm_ct (by decide +kernel) (by decide +kernel) rfl (by simp [Value.category]) (Nat.le_of_ble_eq_true rfl) rfl ?_
  refine ex_aload_n dX3_stow_0 rfl ?_
  refine ex_getfield dX3_stow_1 g_X3_25 (cP_ho hP) rfl ?_
  refine ex_istore dX3_stow_4 (Nat.le_of_ble_eq_true rfl) ?_
  refine ex_iload dX3_stow_6 rfl ?_
  refine ex_if_lt (tgt := 61) dX3_stow_8 (by decide) (fun z => absurd z (nI_pos (by omega))) (fun _ => ?_)
  refine ex_iload dX3_stow_11 rfl ?_
  refine ex_aload_n dX3_stow_13 rfl ?_
  refine ex_getfield dX3_stow_14 g_X3_11 (cP_ho hP) rfl ?_
  refine ex_alen dX3_stow_17 (cP_ty hP) (Or.inl rfl) ?_
  refine ex_icmp_ge (tgt := 61) dX3_stow_18 (by decide) (fun z => absurd z (nI_ge (a := k) (b := 30) hk (by decide))) (fun _ => ?_)
  refine ex_aload_n dX3_stow_21 rfl ?_
  refine ex_getfield dX3_stow_22 g_X3_11 (cP_ho hP) rfl ?_
  refine ex_iload dX3_stow_25 rfl ?_
  refine ex_iload_n dX3_stow_27 rfl ?_
  refine ex_iastore dX3_stow_28 (cP_ty hP) (vp_in_nI hk (by decide)) ?_
  refine ex_aload_n dX3_stow_29 rfl ?_
  refine ex_dup dX3_stow_30 rfl ?_
  refine ex_getfield dX3_stow_31 g_X3_25 (mm_set_ne (by decide) (cP_ho hP)) rfl ?_
  refine ex_iconst (v := 1) dX3_stow_34 (by decide) ?_
  refine ex_iadd dX3_stow_35 ?_
  refine ex_put dX3_stow_36 p_X3_25 (mm_set_ne (by decide) (cP_ho hP)) (Nat.le_of_ble_eq_true rfl) (fun z => nomatch z) (mm_fi _) ?_
  refine ex_aload_n dX3_stow_39 rfl ?_
  refine ex_dup dX3_stow_40 rfl ?_
  refine ex_getfield dX3_stow_41 g_X3_29 mm_set_at rfl ?_
  refine ex_iload_n dX3_stow_44 rfl ?_
  refine ex_iadd dX3_stow_45 ?_
  refine ex_put dX3_stow_46 p_X3_29 mm_set_at (Nat.le_of_ble_eq_true rfl) (fun z => nomatch z) (mm_fi _) ?_
  refine ex_aload_n dX3_stow_49 rfl ?_
  refine ex_getfield dX3_stow_50 g_X3_18 mm_set_at rfl ?_
  refine ex_iload_n dX3_stow_53 rfl ?_
  refine ex_iload dX3_stow_54 rfl ?_
  refine ex_iconst (v := 0) dX3_stow_56 (by decide) ?_
  refine ex_iload_n dX3_stow_57 rfl ?_
  have w8 := cs_8 hP (upd types k t)
  rw [ek, mm_set_set, nI_1]
  have w7 := cs_7 w8.1 (nI (k + 1)) (made + m)
  obtain ⟨v, hv⟩ := tS_row w7.1.1 0 (by decide)
  refine cV_y dX3_stow_58 (mm_kv i_X7_add l_X3_32) ⟨(Nat.le_of_ble_eq_true rfl), (Nat.le_of_ble_eq_true rfl)⟩ (tS_add w7.1.1 0 (by decide) hL _ _ _ _) rfl rfl hv (Nat.le_of_ble_eq_true rfl) rfl ?_
  rintro h2 ⟨q1, q2⟩
  refine ex_iload dX3_stow_61 rfl ?_
  refine ex_ireturn dX3_stow_63 ⟨_, rfl, rfl⟩ ?_
  exact ⟨_, rfl, rfl, cP_tab w7.1 q1 q2, w8.2.trans (w7.2.trans (cl_Ft q2))⟩
end HOLD3
