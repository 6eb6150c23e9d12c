def cl_pb : List tt_R → List tt_R → List tt_R → Int32 → List tt_R × List tt_R × Int32
  | [], T, D, me => (T, D, me)
  | q :: L, T, D, me => cl_pb L (ro_ap q.2.1 q.2.2.1 q.2.2.2 T) (D ++ [(me, q.2.1, q.2.2.1, q.2.2.2)]) (me + q.2.2.2)
theorem va_id2 {α : Type} (f : Nat → α) : va_up (va_up f 3 (f 3)) 2 (f 2) = f := by
  rw [va_id, va_id]
section PUB2
variable {l : Launch} {G : mm_G} {h : mm_H} {tb : Nat → List tt_R} {c0 n0 : Nat} {S : se_T} {c : ca_T} {ty cm st : Nat → Int32} {pc mk ce me : Int32} {ho ro : (Nat → Int32) × Int32 × Int32} {ow : Int32 × Int32 × Int32 × Int32 × Int32 × Int32}
theorem c_X8_putBehind (hP : cl_P h tb (S, c, ho, (cm, ce, me), st, ow) c0 n0) (h1 : (tb 1).length ≤ 100) (h2 : (tb 2).length ≤ 19000) (h3 : (tb 3).length ≤ 19000) : mm_Ct l G mX8_putBehind [.ref 0] h (mm_qv (fun h' => cl_P h' (va_up (va_up tb 3 (cl_pb (tb 1) (tb 2) (tb 3) me).2.1) 2 (cl_pb (tb 1) (tb 2) (tb 3) me).1) (S, c, ho, (cm, ce, (cl_pb (tb 1) (tb 2) (tb 3) me).2.2), st, ow) c0 n0 ∧ cl_F h h')) := by
  have key : ∀ (T D : List tt_R) (me1 : Int32) (h4 : mm_H), T.length ≤ 19000 → D.length ≤ 19000 → cl_P h4 (va_up (va_up tb 3 D) 2 T) (S, c, ho, (cm, ce, me1), st, ow) c0 n0 → cl_F h h4 → mm_Ex l G mX8_putBehind (mm_qv (fun h' => cl_P h' (va_up (va_up tb 3 (cl_pb (tb 1) T D me1).2.1) 2 (cl_pb (tb 1) T D me1).1) (S, c, ho, (cm, ce, (cl_pb (tb 1) T D me1).2.2), st, ow) c0 n0 ∧ cl_F h h')) 10 [.ref 0, .ref 11, .int (nI 0)] [] h4 := by
    refine lp_fwd (tb 1) (fun i R => ∀ (T D : List tt_R) (me1 : Int32) (h4 : mm_H), T.length ≤ 19000 + 2 * i → D.length ≤ 19000 + i → cl_P h4 (va_up (va_up tb 3 D) 2 T) (S, c, ho, (cm, ce, me1), st, ow) c0 n0 → cl_F h h4 → mm_Ex l G mX8_putBehind (mm_qv (fun h' => cl_P h' (va_up (va_up tb 3 (cl_pb R T D me1).2.1) 2 (cl_pb R T D me1).1) (S, c, ho, (cm, ce, (cl_pb R T D me1).2.2), st, ow) c0 n0 ∧ cl_F h h')) 10 [.ref 0, .ref 11, .int (nI i)] [] h4) ?_ ?_
    · intro T D me1 h4 hT hD p4 f4
      obtain ⟨v, hv⟩ := tS_row p4.1 1 (by decide)
      replace hv : h4.1 (tp 1) = some (.inr (7, [.ref v, .int (nI (tb 1).length)])) := hv
      refine ex_iload_n dX8_putBehind_10 rfl ?_
      refine ex_aload_n dX8_putBehind_11 rfl ?_
      refine ex_getfield dX8_putBehind_12 g_X8_203 hv rfl ?_
      refine ex_icmp_ge (tgt := 49) dX8_putBehind_15 (by decide) (fun _ => ?_) (fun z => absurd (Int32.le_refl _) z)
      refine ex_return dX8_putBehind_49 rfl ?_
      exact ⟨rfl, p4, f4⟩
    · intro i r R hr hR hi ih T D me1 h4 hT hD p4 f4
      obtain ⟨v, hv⟩ := tS_row p4.1 1 (by decide)
      replace hv : h4.1 (tp 1) = some (.inr (7, [.ref v, .int (nI (tb 1).length)])) := hv
      refine ex_iload_n dX8_putBehind_10 rfl ?_
      refine ex_aload_n dX8_putBehind_11 rfl ?_
      refine ex_getfield dX8_putBehind_12 g_X8_203 hv rfl ?_
      refine ex_icmp_ge (tgt := 49) dX8_putBehind_15 (by decide) (fun z => absurd z (nI_ge hi (by omega))) (fun _ => ?_)
      refine ex_aload_n dX8_putBehind_18 rfl ?_
      refine ex_getfield dX8_putBehind_19 g_X8_33 (cP_ow p4) rfl ?_
      refine ex_aload_n dX8_putBehind_22 rfl ?_
      refine ex_iload_n dX8_putBehind_23 rfl ?_
      refine ex_iconst (v := 1) dX8_putBehind_24 (by decide) ?_
      refine cV_f dX8_putBehind_25 (mm_kv i_X7_get l_X8_208) ⟨(Nat.le_of_ble_eq_true rfl), (Nat.le_of_ble_eq_true rfl)⟩ (tS_getr p4.1 1 (by decide) (L := tb 1) rfl hr 1 _ rfl (by decide) _ rfl) rfl rfl hv (Nat.le_of_ble_eq_true rfl) rfl ?_
      refine ex_aload_n dX8_putBehind_28 rfl ?_
      refine ex_iload_n dX8_putBehind_29 rfl ?_
      refine ex_iconst (v := 2) dX8_putBehind_30 (by decide) ?_
      refine cV_f dX8_putBehind_31 (mm_kv i_X7_get l_X8_208) ⟨(Nat.le_of_ble_eq_true rfl), (Nat.le_of_ble_eq_true rfl)⟩ (tS_getr p4.1 1 (by decide) (L := tb 1) rfl hr 2 _ rfl (by decide) _ rfl) rfl rfl hv (Nat.le_of_ble_eq_true rfl) rfl ?_
      refine ex_aload_n dX8_putBehind_34 rfl ?_
      refine ex_iload_n dX8_putBehind_35 rfl ?_
      refine ex_iconst (v := 3) dX8_putBehind_36 (by decide) ?_
      refine cV_f dX8_putBehind_37 (mm_kv i_X7_get l_X8_208) ⟨(Nat.le_of_ble_eq_true rfl), (Nat.le_of_ble_eq_true rfl)⟩ (tS_getr p4.1 1 (by decide) (L := tb 1) rfl hr 3 _ rfl (by decide) _ rfl) rfl rfl hv (Nat.le_of_ble_eq_true rfl) rfl ?_
      refine cV_y dX8_putBehind_40 (mm_kv i_X5_append l_X8_211) ⟨(Nat.le_of_ble_eq_true rfl), (Nat.le_of_ble_eq_true rfl)⟩ (c_X5_append p4 (show T.length ≤ 19990 by omega) (show D.length ≤ 20000 by omega) _ _ _) rfl rfl (cP_ro p4) (Nat.le_of_ble_eq_true rfl) rfl ?_
      rintro h5 ⟨p5, f5⟩
      rw [va_co, va_uu] at p5
      refine ex_iinc (d := 1) dX8_putBehind_43 rfl (by decide) ?_
      refine ex_goto (tgt := 10) dX8_putBehind_46 (by decide) ?_
      rw [nI_1, cl_pb]; exact ih _ _ _ _ (by have := ro_ap_len (p := r.2.1) (f := r.2.2.1) (n := r.2.2.2) (L := T); omega) (by rw [List.length_append, List.length_cons, List.length_nil]; omega) p5 (f4.trans f5)
  refine mm_ct (by decide +kernel) (by decide +kernel) rfl (by simp [Value.category]) (Nat.le_of_ble_eq_true rfl) rfl ?_
  refine ex_aload_n dX8_putBehind_0 rfl ?_
  refine ex_getfield dX8_putBehind_1 g_X8_26 (cP_ow hP) rfl ?_
  refine ex_getfield dX8_putBehind_4 g_X8_199 (cP_ho hP) rfl ?_
  refine ex_astore_n dX8_putBehind_7 (Nat.le_of_ble_eq_true rfl) ?_
  refine ex_iconst (v := 0) dX8_putBehind_8 (by decide) ?_
  refine ex_istore_n dX8_putBehind_9 (Nat.le_of_ble_eq_true rfl) ?_
  exact key _ _ _ _ h2 h3 (by rw [va_id2]; exact hP) (cl_F.refl _)
end PUB2
