section FB2
variable {l : Launch} {G : mm_G} {h : mm_H} {tb : Nat → List tt_R} {c0 n0 : Nat}
theorem c_X2_hasBreak (hT : tt_S h tb c0 n0) (hO : h.1 20 = some (.inr (2, [.ref 21]))) : mm_Ct l G mX2_hasBreak [.ref 20] h (mm_ri (.int (bb (fa_b (tb 4) = true))) h) := by
  obtain ⟨v, hv⟩ := tS_row hT 4 (by decide)
  have hlen := tS_len hT 4 (by decide)
  have key : mm_Ex l G mX2_hasBreak (mm_ri (.int (bb (fa_b (tb 4) = true))) h) 2 [.ref 20, .int (nI 0)] [] h := by
    refine lp_fwd (tb 4) (fun i R => mm_Ex l G mX2_hasBreak (mm_ri (.int (bb (fa_b R = true))) h) 2 [.ref 20, .int (nI i)] [] h) ?_ ?_
    · skip
      refine ex_iload_n dX2_hasBreak_2 rfl ?_
      refine ex_aload_n dX2_hasBreak_3 rfl ?_
      refine ex_getfield dX2_hasBreak_4 g_X2_12 hO rfl ?_
      refine ex_getfield dX2_hasBreak_7 g_X2_18 hv rfl ?_
      refine ex_icmp_ge (tgt := 34) dX2_hasBreak_10 (by decide) (fun _ => ?_) (fun z => absurd (Int32.le_refl _) z)
      refine ex_iconst (v := 0) dX2_hasBreak_34 (by decide) ?_
      refine ex_ireturn dX2_hasBreak_35 ⟨_, rfl, rfl⟩ ?_
      exact ⟨rfl, rfl⟩
    · intro i r R hr hR hi ih
      refine ex_iload_n dX2_hasBreak_2 rfl ?_
      refine ex_aload_n dX2_hasBreak_3 rfl ?_
      refine ex_getfield dX2_hasBreak_4 g_X2_12 hO rfl ?_
      refine ex_getfield dX2_hasBreak_7 g_X2_18 hv rfl ?_
      refine ex_icmp_ge (tgt := 34) dX2_hasBreak_10 (by decide) (fun z => absurd z (nI_ge hi (by omega))) (fun _ => ?_)
      refine ex_aload_n dX2_hasBreak_13 rfl ?_
      refine ex_getfield dX2_hasBreak_14 g_X2_12 hO rfl ?_
      refine ex_iload_n dX2_hasBreak_17 rfl ?_
      refine ex_iconst (v := 0) dX2_hasBreak_18 (by decide) ?_
      refine cV_f dX2_hasBreak_19 (mm_kv i_X7_get l_X2_25) ⟨(Nat.le_of_ble_eq_true rfl), (Nat.le_of_ble_eq_true rfl)⟩ (tS_getr hT 4 (by decide) rfl hr 0 _ rfl (by decide) _ rfl) rfl rfl hv (Nat.le_of_ble_eq_true rfl) rfl ?_
      refine ex_iconst (v := 1) dX2_hasBreak_22 (by decide) ?_
      refine ex_icmp_ne (tgt := 28) dX2_hasBreak_23 (by decide) (fun c_23 => ?_) (fun c_23 => ?_)
      · refine ex_iinc (d := 1) dX2_hasBreak_28 rfl (by decide) ?_
        refine ex_goto (tgt := 2) dX2_hasBreak_31 (by decide) ?_
        rw [nI_1]; exact mm_rb (if_neg (show ¬ r.1 = 1 from c_23)) ih
      · refine ex_iconst (v := 1) dX2_hasBreak_26 (by decide) ?_
        refine ex_ireturn dX2_hasBreak_27 ⟨_, rfl, rfl⟩ ?_
        exact bq_t (if_pos (show r.1 = 1 from c_23))
  refine mm_ct (by decide +kernel) (by decide +kernel) rfl (by simp [Value.category]) (Nat.le_of_ble_eq_true rfl) rfl ?_
  refine ex_iconst (v := 0) dX2_hasBreak_0 (by decide) ?_
  refine ex_istore_n dX2_hasBreak_1 (Nat.le_of_ble_eq_true rfl) ?_
  exact key
theorem c_X2_firstShunt (hT : tt_S h tb c0 n0) (hO : h.1 20 = some (.inr (2, [.ref 21]))) : mm_Ct l G mX2_firstShunt [.ref 20] h (mm_ri (.int (fa_f (tb 4) (-1))) h) := by
  obtain ⟨v, hv⟩ := tS_row hT 4 (by decide)
  have hlen := tS_len hT 4 (by decide)
  have key : ∀ (f : Int32) (x3 : Value), mm_Ex l G mX2_firstShunt (mm_ri (.int (fa_f (tb 4) f)) h) 4 [.ref 20, .int f, .int (nI 0), x3] [] h := by
    refine lp_fwd (tb 4) (fun i R => ∀ (f : Int32) (x3 : Value), mm_Ex l G mX2_firstShunt (mm_ri (.int (fa_f R f)) h) 4 [.ref 20, .int f, .int (nI i), x3] [] h) ?_ ?_
    · intro f x3
      refine ex_iload_n dX2_firstShunt_4 rfl ?_
      refine ex_aload_n dX2_firstShunt_5 rfl ?_
      refine ex_getfield dX2_firstShunt_6 g_X2_12 hO rfl ?_
      refine ex_getfield dX2_firstShunt_9 g_X2_18 hv rfl ?_
      refine ex_icmp_ge (tgt := 55) dX2_firstShunt_12 (by decide) (fun _ => ?_) (fun z => absurd (Int32.le_refl _) z)
      refine ex_iload_n dX2_firstShunt_55 rfl ?_
      refine ex_ireturn dX2_firstShunt_56 ⟨_, rfl, rfl⟩ ?_
      exact ⟨rfl, rfl⟩
    · intro i r R hr hR hi ih f x3
      refine ex_iload_n dX2_firstShunt_4 rfl ?_
      refine ex_aload_n dX2_firstShunt_5 rfl ?_
      refine ex_getfield dX2_firstShunt_6 g_X2_12 hO rfl ?_
      refine ex_getfield dX2_firstShunt_9 g_X2_18 hv rfl ?_
      refine ex_icmp_ge (tgt := 55) dX2_firstShunt_12 (by decide) (fun z => absurd z (nI_ge hi (by omega))) (fun _ => ?_)
      refine ex_aload_n dX2_firstShunt_15 rfl ?_
      refine ex_getfield dX2_firstShunt_16 g_X2_12 hO rfl ?_
      refine ex_iload_n dX2_firstShunt_19 rfl ?_
      refine ex_iconst (v := 1) dX2_firstShunt_20 (by decide) ?_
      refine cV_f dX2_firstShunt_21 (mm_kv i_X7_get l_X2_25) ⟨(Nat.le_of_ble_eq_true rfl), (Nat.le_of_ble_eq_true rfl)⟩ (tS_getr hT 4 (by decide) rfl hr 1 _ rfl (by decide) _ rfl) rfl rfl hv (Nat.le_of_ble_eq_true rfl) rfl ?_
      refine ex_istore_n dX2_firstShunt_24 (Nat.le_of_ble_eq_true rfl) ?_
      refine ex_aload_n dX2_firstShunt_25 rfl ?_
      refine ex_getfield dX2_firstShunt_26 g_X2_12 hO rfl ?_
      refine ex_iload_n dX2_firstShunt_29 rfl ?_
      refine ex_iconst (v := 0) dX2_firstShunt_30 (by decide) ?_
      refine cV_f dX2_firstShunt_31 (mm_kv i_X7_get l_X2_25) ⟨(Nat.le_of_ble_eq_true rfl), (Nat.le_of_ble_eq_true rfl)⟩ (tS_getr hT 4 (by decide) rfl hr 0 _ rfl (by decide) _ rfl) rfl rfl hv (Nat.le_of_ble_eq_true rfl) rfl ?_
      refine ex_if_ne (tgt := 49) dX2_firstShunt_34 (by decide) (fun c_34 => ?_) (fun c_34 => ?_)
      · refine ex_iinc (d := 1) dX2_firstShunt_49 rfl (by decide) ?_
        refine ex_goto (tgt := 4) dX2_firstShunt_52 (by decide) ?_
        rw [nI_1]; first | exact mm_rw (if_neg c_34) (ih _ _) | exact mm_rw ((if_pos c_34).trans (if_pos c_39)) (ih _ _) | exact mm_rw (((if_pos c_34).trans (if_neg c_39)).trans (if_pos c_44)) (ih _ _) | exact mm_rw (((if_pos c_34).trans (if_neg c_39)).trans (if_neg c_44)) (ih _ _)
      · refine ex_iload_n dX2_firstShunt_37 rfl ?_
        refine ex_iconst (v := (-1)) dX2_firstShunt_38 (by decide) ?_
        refine ex_icmp_eq (tgt := 47) dX2_firstShunt_39 (by decide) (fun c_39 => ?_) (fun c_39 => ?_)
        · refine ex_iload_n dX2_firstShunt_47 rfl ?_
          refine ex_istore_n dX2_firstShunt_48 (Nat.le_of_ble_eq_true rfl) ?_
          refine ex_iinc (d := 1) dX2_firstShunt_49 rfl (by decide) ?_
          refine ex_goto (tgt := 4) dX2_firstShunt_52 (by decide) ?_
          rw [nI_1]; first | exact mm_rw (if_neg c_34) (ih _ _) | exact mm_rw ((if_pos c_34).trans (if_pos c_39)) (ih _ _) | exact mm_rw (((if_pos c_34).trans (if_neg c_39)).trans (if_pos c_44)) (ih _ _) | exact mm_rw (((if_pos c_34).trans (if_neg c_39)).trans (if_neg c_44)) (ih _ _)
        · refine ex_iload_n dX2_firstShunt_42 rfl ?_
          refine ex_iload_n dX2_firstShunt_43 rfl ?_
          refine ex_icmp_ge (tgt := 49) dX2_firstShunt_44 (by decide) (fun c_44 => ?_) (fun c_44 => ?_)
          · refine ex_iinc (d := 1) dX2_firstShunt_49 rfl (by decide) ?_
            refine ex_goto (tgt := 4) dX2_firstShunt_52 (by decide) ?_
            rw [nI_1]; first | exact mm_rw (if_neg c_34) (ih _ _) | exact mm_rw ((if_pos c_34).trans (if_pos c_39)) (ih _ _) | exact mm_rw (((if_pos c_34).trans (if_neg c_39)).trans (if_pos c_44)) (ih _ _) | exact mm_rw (((if_pos c_34).trans (if_neg c_39)).trans (if_neg c_44)) (ih _ _)
          · refine ex_iload_n dX2_firstShunt_47 rfl ?_
            refine ex_istore_n dX2_firstShunt_48 (Nat.le_of_ble_eq_true rfl) ?_
            refine ex_iinc (d := 1) dX2_firstShunt_49 rfl (by decide) ?_
            refine ex_goto (tgt := 4) dX2_firstShunt_52 (by decide) ?_
            rw [nI_1]; first | exact mm_rw (if_neg c_34) (ih _ _) | exact mm_rw ((if_pos c_34).trans (if_pos c_39)) (ih _ _) | exact mm_rw (((if_pos c_34).trans (if_neg c_39)).trans (if_pos c_44)) (ih _ _) | exact mm_rw (((if_pos c_34).trans (if_neg c_39)).trans (if_neg c_44)) (ih _ _)
  refine mm_ct (by decide +kernel) (by decide +kernel) rfl (by simp [Value.category]) (Nat.le_of_ble_eq_true rfl) rfl ?_
  refine ex_iconst (v := (-1)) dX2_firstShunt_0 (by decide) ?_
  refine ex_istore_n dX2_firstShunt_1 (Nat.le_of_ble_eq_true rfl) ?_
  refine ex_iconst (v := 0) dX2_firstShunt_2 (by decide) ?_
  refine ex_istore_n dX2_firstShunt_3 (Nat.le_of_ble_eq_true rfl) ?_
  exact key _ _
theorem c_X2_lastShunt (hT : tt_S h tb c0 n0) (hO : h.1 20 = some (.inr (2, [.ref 21]))) : mm_Ct l G mX2_lastShunt [.ref 20] h (mm_ri (.int (fa_l (tb 4) (-1))) h) := by
  obtain ⟨v, hv⟩ := tS_row hT 4 (by decide)
  have hlen := tS_len hT 4 (by decide)
  have key : ∀ (f : Int32), mm_Ex l G mX2_lastShunt (mm_ri (.int (fa_l (tb 4) f)) h) 4 [.ref 20, .int f, .int (nI 0)] [] h := by
    refine lp_fwd (tb 4) (fun i R => ∀ (f : Int32), mm_Ex l G mX2_lastShunt (mm_ri (.int (fa_l R f)) h) 4 [.ref 20, .int f, .int (nI i)] [] h) ?_ ?_
    · intro f
      refine ex_iload_n dX2_lastShunt_4 rfl ?_
      refine ex_aload_n dX2_lastShunt_5 rfl ?_
      refine ex_getfield dX2_lastShunt_6 g_X2_12 hO rfl ?_
      refine ex_getfield dX2_lastShunt_9 g_X2_18 hv rfl ?_
      refine ex_icmp_ge (tgt := 47) dX2_lastShunt_12 (by decide) (fun _ => ?_) (fun z => absurd (Int32.le_refl _) z)
      refine ex_iload_n dX2_lastShunt_47 rfl ?_
      refine ex_ireturn dX2_lastShunt_48 ⟨_, rfl, rfl⟩ ?_
      exact ⟨rfl, rfl⟩
    · intro i r R hr hR hi ih f
      refine ex_iload_n dX2_lastShunt_4 rfl ?_
      refine ex_aload_n dX2_lastShunt_5 rfl ?_
      refine ex_getfield dX2_lastShunt_6 g_X2_12 hO rfl ?_
      refine ex_getfield dX2_lastShunt_9 g_X2_18 hv rfl ?_
      refine ex_icmp_ge (tgt := 47) dX2_lastShunt_12 (by decide) (fun z => absurd z (nI_ge hi (by omega))) (fun _ => ?_)
      refine ex_aload_n dX2_lastShunt_15 rfl ?_
      refine ex_getfield dX2_lastShunt_16 g_X2_12 hO rfl ?_
      refine ex_iload_n dX2_lastShunt_19 rfl ?_
      refine ex_iconst (v := 0) dX2_lastShunt_20 (by decide) ?_
      refine cV_f dX2_lastShunt_21 (mm_kv i_X7_get l_X2_25) ⟨(Nat.le_of_ble_eq_true rfl), (Nat.le_of_ble_eq_true rfl)⟩ (tS_getr hT 4 (by decide) rfl hr 0 _ rfl (by decide) _ rfl) rfl rfl hv (Nat.le_of_ble_eq_true rfl) rfl ?_
      refine ex_if_ne (tgt := 41) dX2_lastShunt_24 (by decide) (fun c_24 => ?_) (fun c_24 => ?_)
      · refine ex_iinc (d := 1) dX2_lastShunt_41 rfl (by decide) ?_
        refine ex_goto (tgt := 4) dX2_lastShunt_44 (by decide) ?_
        rw [nI_1]; first | exact mm_rw (if_neg c_24) (ih _) | exact mm_rw (if_pos c_24) (ih _)
      · refine ex_iload_n dX2_lastShunt_27 rfl ?_
        refine ex_aload_n dX2_lastShunt_28 rfl ?_
        refine ex_getfield dX2_lastShunt_29 g_X2_12 hO rfl ?_
        refine ex_iload_n dX2_lastShunt_32 rfl ?_
        refine ex_iconst (v := 1) dX2_lastShunt_33 (by decide) ?_
        refine cV_f dX2_lastShunt_34 (mm_kv i_X7_get l_X2_25) ⟨(Nat.le_of_ble_eq_true rfl), (Nat.le_of_ble_eq_true rfl)⟩ (tS_getr hT 4 (by decide) rfl hr 1 _ rfl (by decide) _ rfl) rfl rfl hv (Nat.le_of_ble_eq_true rfl) rfl ?_
        refine ex_max dX2_lastShunt_37 i_J9_max_7cf53 l_X2_37 (Nat.le_of_ble_eq_true rfl) (Nat.le_of_ble_eq_true rfl) ?_
        refine ex_istore_n dX2_lastShunt_40 (Nat.le_of_ble_eq_true rfl) ?_
        refine ex_iinc (d := 1) dX2_lastShunt_41 rfl (by decide) ?_
        refine ex_goto (tgt := 4) dX2_lastShunt_44 (by decide) ?_
        rw [nI_1]; first | exact mm_rw (if_neg c_24) (ih _) | exact mm_rw (if_pos c_24) (ih _)
  refine mm_ct (by decide +kernel) (by decide +kernel) rfl (by simp [Value.category]) (Nat.le_of_ble_eq_true rfl) rfl ?_
  refine ex_iconst (v := (-1)) dX2_lastShunt_0 (by decide) ?_
  refine ex_istore_n dX2_lastShunt_1 (Nat.le_of_ble_eq_true rfl) ?_
  refine ex_iconst (v := 0) dX2_lastShunt_2 (by decide) ?_
  refine ex_istore_n dX2_lastShunt_3 (Nat.le_of_ble_eq_true rfl) ?_
  exact key _
theorem c_X2_narrow (hT : tt_S h tb c0 n0) (hO : h.1 20 = some (.inr (2, [.ref 21]))) {j : Nat} {r : tt_R} (hr : (tb 4)[j]? = some r) (jv : Int32) (hjv : jv = nI j) (p w : Int32) : mm_Ct l G mX2_narrow [.ref 20, .int jv, .int p, .int w] h (mm_qv (fun h' => tt_S h' (va_up tb 4 ((tb 4).set j (r.1, r.2.1, mx r.2.2.1 (p - w), mn r.2.2.2 (p + w)))) c0 n0 ∧ tt_F h h')) := by
  obtain ⟨v, hv⟩ := tS_row hT 4 (by decide)
  refine mm_ct (by decide +kernel) (by decide +kernel) rfl (by simp [Value.category]) (Nat.le_of_ble_eq_true rfl) rfl ?_
  refine ex_aload_n dX2_narrow_0 rfl ?_
  refine ex_getfield dX2_narrow_1 g_X2_12 hO rfl ?_
  refine ex_iload_n dX2_narrow_4 rfl ?_
  refine ex_iconst (v := 2) dX2_narrow_5 (by decide) ?_
  refine ex_aload_n dX2_narrow_6 rfl ?_
  refine ex_getfield dX2_narrow_7 g_X2_12 hO rfl ?_
  refine ex_iload_n dX2_narrow_10 rfl ?_
  refine ex_iconst (v := 2) dX2_narrow_11 (by decide) ?_
  refine cV_f dX2_narrow_12 (mm_kv i_X7_get l_X2_25) ⟨(Nat.le_of_ble_eq_true rfl), (Nat.le_of_ble_eq_true rfl)⟩ (tS_getr hT 4 (by decide) rfl hr 2 _ rfl (by decide) _ hjv) rfl rfl hv (Nat.le_of_ble_eq_true rfl) rfl ?_
  refine ex_iload_n dX2_narrow_15 rfl ?_
  refine ex_iload_n dX2_narrow_16 rfl ?_
  refine ex_isub dX2_narrow_17 ?_
  refine ex_max dX2_narrow_18 i_J9_max_7cf53 l_X2_37 (Nat.le_of_ble_eq_true rfl) (Nat.le_of_ble_eq_true rfl) ?_
  refine cV_y dX2_narrow_21 (mm_kv i_X7_set l_X2_29) ⟨(Nat.le_of_ble_eq_true rfl), (Nat.le_of_ble_eq_true rfl)⟩ (tS_set hT 4 (by decide) j r hr _ hjv 2 _ rfl (by decide) _) rfl rfl hv (Nat.le_of_ble_eq_true rfl) rfl ?_
  rintro h1 ⟨q1, f1⟩
  obtain ⟨w, hw⟩ := tS_row q1 4 (by decide)
  have hr1 : ∀ x, (va_up tb 4 ((tb 4).set j x) 4)[j]? = some x := fun x => List.getElem?_set_self (List.getElem?_eq_some_iff.mp hr).1
  refine ex_aload_n dX2_narrow_24 rfl ?_
  refine ex_getfield dX2_narrow_25 g_X2_12 ((f1 20 rfl).trans hO) rfl ?_
  refine ex_iload_n dX2_narrow_28 rfl ?_
  refine ex_iconst (v := 3) dX2_narrow_29 (by decide) ?_
  refine ex_aload_n dX2_narrow_30 rfl ?_
  refine ex_getfield dX2_narrow_31 g_X2_12 ((f1 20 rfl).trans hO) rfl ?_
  refine ex_iload_n dX2_narrow_34 rfl ?_
  refine ex_iconst (v := 3) dX2_narrow_35 (by decide) ?_
  refine cV_f dX2_narrow_36 (mm_kv i_X7_get l_X2_25) ⟨(Nat.le_of_ble_eq_true rfl), (Nat.le_of_ble_eq_true rfl)⟩ (tS_getr q1 4 (by decide) rfl (hr1 _) 3 _ rfl (by decide) _ hjv) rfl rfl hw (Nat.le_of_ble_eq_true rfl) rfl ?_
  refine ex_iload_n dX2_narrow_39 rfl ?_
  refine ex_iload_n dX2_narrow_40 rfl ?_
  refine ex_iadd dX2_narrow_41 ?_
  refine ex_min dX2_narrow_42 i_J9_min_7cf53 l_X2_46 (Nat.le_of_ble_eq_true rfl) (Nat.le_of_ble_eq_true rfl) ?_
  refine cV_y dX2_narrow_45 (mm_kv i_X7_set l_X2_29) ⟨(Nat.le_of_ble_eq_true rfl), (Nat.le_of_ble_eq_true rfl)⟩ (tS_set q1 4 (by decide) j _ (hr1 _) _ hjv 3 _ rfl (by decide) _) rfl rfl hw (Nat.le_of_ble_eq_true rfl) rfl ?_
  rintro h2 ⟨q2, f2⟩
  rw [va_uu, show ∀ x y, (va_up tb 4 ((tb 4).set j x) 4).set j y = (tb 4).set j y from fun x y => List.set_set ..] at q2
  refine ex_return dX2_narrow_48 rfl ?_
  exact ⟨rfl, q2, f1.trans f2⟩
end FB2
