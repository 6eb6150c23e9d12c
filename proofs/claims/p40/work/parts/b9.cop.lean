/-! THE CONSTRUCTORS: sea, hold, row, network, ship -/
section COP
variable {l : Launch} {G : mm_G} {M : mm_M} {Q : mm_R → mm_H → Prop} {pc : Nat} {ls st : List Value} {P R R' : List mm_E} {p q c n : Nat}
theorem c_X6_init (hP : P.length = p) : mm_Ct l G mX6_init [.ref p] (hp (P ++ [.inr (6, [.null, .null, .null, .null])]) c n) (mm_rv (hp (P ++ [.inr (6, [.ref (p + 1), .ref (p + 2), .ref (p + 3), .ref (p + 4)]), .inl (.int, 100, .inl (fl_N (fun _ => 0) 100 100)), .inl (.int, 100, .inl (fl_N (fun _ => 0) 501 100)), .inl (.boolean, 100, .inl (fun _ => 0)), .inl (.int, 100, .inl (fun _ => 0))]) (c + 1 + 1 + 1 + 1) (n + 100 + 100 + 100 + 100))) := by
  refine mm_ct (by decide +kernel) (by decide +kernel) rfl (by simp [Value.category]) (Nat.le_of_ble_eq_true rfl) rfl ?_
  refine ex_aload_n dX6_init_0 rfl ?_
  refine ex_objInit dX6_init_1 l_X6_3 (Nat.le_of_ble_eq_true rfl) (Nat.le_of_ble_eq_true rfl) ?_
  refine ex_aload_n dX6_init_4 rfl ?_
  refine ex_bipush (v := 100) dX6_init_5 (by decide) ?_
  refine pr_newI hP (q := p + 1) (N := 100) dX6_init_7 a_int (by decide) rfl (by decide) rfl rfl ?_
  refine pr_put hP dX6_init_9 p_X6_9 rfl (Nat.le_of_ble_eq_true rfl) (fun _ => rfl) (mm_fa _ _) rfl ?_
  refine ex_aload_n dX6_init_12 rfl ?_
  refine ex_bipush (v := 100) dX6_init_13 (by decide) ?_
  refine pr_newI hP (q := p + 2) (N := 100) dX6_init_15 a_int (by decide) rfl (by decide) rfl rfl ?_
  refine pr_put hP dX6_init_17 p_X6_15 rfl (Nat.le_of_ble_eq_true rfl) (fun _ => rfl) (mm_fa _ _) rfl ?_
  refine ex_aload_n dX6_init_20 rfl ?_
  refine ex_bipush (v := 100) dX6_init_21 (by decide) ?_
  refine pr_newZ hP (q := p + 3) (N := 100) dX6_init_23 a_boolean (by decide) rfl (by decide) rfl rfl ?_
  refine pr_put hP dX6_init_25 p_X6_18 rfl (Nat.le_of_ble_eq_true rfl) (fun _ => rfl) (mm_fa _ _) rfl ?_
  refine ex_aload_n dX6_init_28 rfl ?_
  refine ex_bipush (v := 100) dX6_init_29 (by decide) ?_
  refine pr_newI hP (q := p + 4) (N := 100) dX6_init_31 a_int (by decide) rfl (by decide) rfl rfl ?_
  refine pr_put hP dX6_init_33 p_X6_22 rfl (Nat.le_of_ble_eq_true rfl) (fun _ => rfl) (mm_fa _ _) rfl ?_
  refine ex_aload_n dX6_init_36 rfl ?_
  refine ex_getfield dX6_init_37 g_X6_9 (pr_g (i := 0) hP rfl) rfl ?_
  refine ex_bipush (v := 100) dX6_init_40 (by decide) ?_
  refine cS_v dX6_init_42 (mm_ks i_J7_fill_53178 l_X6_25) ⟨(Nat.le_of_ble_eq_true rfl), (Nat.le_of_ble_eq_true rfl)⟩ (c_fillP (i := 1) hP rfl rfl (by decide) rfl) rfl rfl (Nat.le_of_ble_eq_true rfl) rfl ?_
  refine ex_aload_n dX6_init_45 rfl ?_
  refine ex_getfield dX6_init_46 g_X6_15 (pr_g (i := 0) hP rfl) rfl ?_
  refine ex_sipush (v := 501) dX6_init_49 (by decide) ?_
  refine cS_v dX6_init_52 (mm_ks i_J7_fill_53178 l_X6_25) ⟨(Nat.le_of_ble_eq_true rfl), (Nat.le_of_ble_eq_true rfl)⟩ (c_fillP (i := 2) hP rfl rfl (by decide) rfl) rfl rfl (Nat.le_of_ble_eq_true rfl) rfl ?_
  refine ex_return dX6_init_55 rfl ?_
  exact ⟨rfl, rfl⟩
theorem c_X3_init (hP : P.length = p) : mm_Ct l G mX3_init [.ref p] (hp (P ++ [.inr (3, [.null, .null, .null, .int 0, .int 0])]) c n) (mm_rv (hp (P ++ [.inr (3, [.ref (p + 1), .ref (p + 2), .ref (p + 4), .int 0, .int 0]), .inl (.int, 30, .inl (fun _ => 0)), .inr (7, [.ref (p + 3), .int 0]), .inl (.int, 64, .inl (fun _ => 0)), .inr (7, [.ref (p + 5), .int 0]), .inl (.int, 64, .inl (fun _ => 0))]) (c + 1 + 1 + 1 + 1 + 1) (n + 30 + 2 + 64 + 2 + 64))) := by
  refine mm_ct (by decide +kernel) (by decide +kernel) rfl (by simp [Value.category]) (Nat.le_of_ble_eq_true rfl) rfl ?_
  refine ex_aload_n dX3_init_0 rfl ?_
  refine ex_objInit dX3_init_1 l_X3_3 (Nat.le_of_ble_eq_true rfl) (Nat.le_of_ble_eq_true rfl) ?_
  refine ex_aload_n dX3_init_4 rfl ?_
  refine ex_bipush (v := 30) dX3_init_5 (by decide) ?_
  refine pr_newI hP (q := p + 1) (N := 30) dX3_init_7 a_int (by decide) rfl (by decide) rfl rfl ?_
  refine pr_put hP dX3_init_9 p_X3_11 rfl (Nat.le_of_ble_eq_true rfl) (fun _ => rfl) (mm_fa _ _) rfl ?_
  refine ex_aload_n dX3_init_12 rfl ?_
  refine pr_new hP (q := p + 2) dX3_init_13 n_X3_15 rfl rfl ?_
  refine ex_dup dX3_init_16 rfl ?_
  refine cI_v dX3_init_17 (mm_ki i_X7_init l_X3_17) ⟨(Nat.le_of_ble_eq_true rfl), (Nat.le_of_ble_eq_true rfl)⟩ (c_tab (R0 := [_, _]) hP rfl rfl rfl) rfl rfl (Nat.le_of_ble_eq_true rfl) rfl ?_
  skip
  refine pr_put hP dX3_init_20 p_X3_18 rfl (Nat.le_of_ble_eq_true rfl) (fun _ => rfl) (mm_fo _ _) rfl ?_
  refine ex_aload_n dX3_init_23 rfl ?_
  refine pr_new hP (q := p + 4) dX3_init_24 n_X3_15 rfl rfl ?_
  refine ex_dup dX3_init_27 rfl ?_
  refine cI_v dX3_init_28 (mm_ki i_X7_init l_X3_17) ⟨(Nat.le_of_ble_eq_true rfl), (Nat.le_of_ble_eq_true rfl)⟩ (c_tab (R0 := [_, _, _, _]) hP rfl rfl rfl) rfl rfl (Nat.le_of_ble_eq_true rfl) rfl ?_
  refine pr_put hP dX3_init_31 p_X3_22 rfl (Nat.le_of_ble_eq_true rfl) (fun _ => rfl) (mm_fo _ _) rfl ?_
  refine ex_return dX3_init_34 rfl ?_
  exact ⟨rfl, rfl⟩
theorem c_X5_init (hP : P.length = p) : mm_Ct l G mX5_init [.ref p] (hp (P ++ [.inr (5, [.null, .null, .null, .int 0, .int 0])]) c n) (mm_rv (hp (P ++ [.inr (5, [.ref (p + 1), .ref (p + 3), .ref (p + 6), .int 0, .int 0]), .inr (7, [.ref (p + 2), .int 0]), .inl (.int, 64, .inl (fun _ => 0)), .inr (1, [.ref (p + 4)]), .inr (7, [.ref (p + 5), .int 0]), .inl (.int, 64, .inl (fun _ => 0)), .inl (.int, 100, .inl (fun _ => 0))]) (c + 1 + 1 + 1 + 1 + 1 + 1) (n + 2 + 64 + 1 + 2 + 64 + 100))) := by
  have hd : ∀ (A : List mm_E) (x y z : mm_E) (c n : Nat), mm_Ct l G mX1_init [.ref (p + 3)] (hp (P ++ [x, y, z, .inr (1, [.null])]) c n) (mm_rv (hp (P ++ [x, y, z, .inr (1, [.ref (p + 4)]), .inr (7, [.ref (p + 5), .int 0]), .inl (.int, 64, .inl (fun _ => 0))]) (c + 1 + 1) (n + 2 + 64))) := fun A x y z c n => by
    have := c_X1_init (l := l) (G := G) (P := P ++ [x, y, z]) (p := p + 3) (c := c) (n := n) (by rw [List.length_append, hP]; rfl)
    rw [List.append_assoc, List.append_assoc] at this
    exact this
  refine mm_ct (by decide +kernel) (by decide +kernel) rfl (by simp [Value.category]) (Nat.le_of_ble_eq_true rfl) rfl ?_
  refine ex_aload_n dX5_init_0 rfl ?_
  refine ex_objInit dX5_init_1 l_X5_3 (Nat.le_of_ble_eq_true rfl) (Nat.le_of_ble_eq_true rfl) ?_
  refine ex_aload_n dX5_init_4 rfl ?_
  refine pr_new hP (q := p + 1) dX5_init_5 n_X5_9 rfl rfl ?_
  refine ex_dup dX5_init_8 rfl ?_
  refine cI_v dX5_init_9 (mm_ki i_X7_init l_X5_11) ⟨(Nat.le_of_ble_eq_true rfl), (Nat.le_of_ble_eq_true rfl)⟩ (c_tab (R0 := [_]) hP rfl rfl rfl) rfl rfl (Nat.le_of_ble_eq_true rfl) rfl ?_
  refine pr_put hP dX5_init_12 p_X5_12 rfl (Nat.le_of_ble_eq_true rfl) (fun _ => rfl) (mm_fo _ _) rfl ?_
  skip
  refine ex_aload_n dX5_init_15 rfl ?_
  refine pr_new hP (q := p + 3) dX5_init_16 n_X5_18 rfl rfl ?_
  refine ex_dup dX5_init_19 rfl ?_
  refine cIN_v dX5_init_20 (mm_kin i_X1_init l_X5_20) ⟨(Nat.le_of_ble_eq_true rfl), (Nat.le_of_ble_eq_true rfl)⟩ (hd [] _ _ _ _ _) rfl rfl (Nat.le_of_ble_eq_true rfl) rfl ?_
  refine pr_put hP dX5_init_23 p_X5_21 rfl (Nat.le_of_ble_eq_true rfl) (fun _ => rfl) (mm_fo _ _) rfl ?_
  skip
  refine ex_aload_n dX5_init_26 rfl ?_
  refine ex_bipush (v := 100) dX5_init_27 (by decide) ?_
  refine pr_newI hP (q := p + 6) (N := 100) dX5_init_29 a_int (by decide) rfl (by decide) rfl rfl ?_
  refine pr_put hP dX5_init_31 p_X5_25 rfl (Nat.le_of_ble_eq_true rfl) (fun _ => rfl) (mm_fa _ _) rfl ?_
  refine ex_return dX5_init_34 rfl ?_
  exact ⟨rfl, rfl⟩
theorem c_X7_add0 {h : mm_H} {t v m : Nat} (hT : tt_T h t v m []) (htv : ¬ t = v) (hm : 4 ≤ m) (a b c d : Int32) : mm_Ct l G mX7_add [.ref t, .int a, .int b, .int c, .int d] h (mm_qv (fun h' => tt_T h' t v m [(a, b, c, d)] ∧ h'.2 = h.2 ∧ ∀ p, ¬ p = t → ¬ p = v → h'.1 p = h.1 p)) := by
  obtain ⟨hT1, hT2, hT3, f, hT4, hT5⟩ := id hT
  have hi : mm_Ct l G mX7_insert [.ref t, .int (nI 0), .int a, .int b, .int c, .int d] h (mm_qv (fun h' => tt_T h' t v m [(a, b, c, d)] ∧ h'.2 = h.2 ∧ ∀ p, ¬ p = t → ¬ p = v → h'.1 p = h.1 p)) := by
    refine mm_ct (by decide +kernel) (by decide +kernel) rfl (by simp [Value.category]) (Nat.le_of_ble_eq_true rfl) rfl ?_
    refine ex_aload_n dX7_insert_0 rfl ?_
    refine ex_getfield dX7_insert_1 g_X7_15 hT1 rfl ?_
    refine ex_iconst (v := 4) dX7_insert_4 (by decide) ?_
    refine ex_imul dX7_insert_5 ?_
    refine ex_istore dX7_insert_6 (Nat.le_of_ble_eq_true rfl) ?_
    refine ex_iload_n dX7_insert_8 rfl ?_
    refine ex_if_lt (tgt := 29) dX7_insert_9 (by decide) (fun z => absurd z (by decide)) (fun _ => ?_)
    refine ex_iload_n dX7_insert_12 rfl ?_
    refine ex_aload_n dX7_insert_13 rfl ?_
    refine ex_getfield dX7_insert_14 g_X7_15 hT1 rfl ?_
    refine ex_icmp_gt (tgt := 29) dX7_insert_17 (by decide) (fun z => absurd z (by decide)) (fun _ => ?_)
    refine ex_iload dX7_insert_20 rfl ?_
    refine ex_iconst (v := 4) dX7_insert_22 (by decide) ?_
    refine ex_iadd dX7_insert_23 ?_
    refine ex_ldc dX7_insert_24 k_X7_23 ?_
    refine ex_icmp_le (tgt := 30) dX7_insert_26 (by decide) (fun _ => ?_) (fun z => absurd (by decide) z)
    refine ex_iload dX7_insert_30 rfl ?_
    refine ex_iconst (v := 4) dX7_insert_32 (by decide) ?_
    refine ex_iadd dX7_insert_33 ?_
    refine ex_aload_n dX7_insert_34 rfl ?_
    refine ex_getfield dX7_insert_35 g_X7_11 hT1 rfl ?_
    refine ex_alen dX7_insert_38 hT4 (Or.inl rfl) ?_
    refine ex_icmp_le (tgt := 59) dX7_insert_39 (by decide) (fun _ => ?_) (fun z => absurd (show nI 0 * 4 + 4 ≤ nI m from nI_le (a := 4) (by omega) (by omega)) z)
    exact x_X7_insert hT htv hm 0 (Nat.le_refl _) a b c d 0 _ (by decide) (fun h' q1 q2 q3 => ⟨rfl, q1, q2, q3⟩)
  refine mm_ct (by decide +kernel) (by decide +kernel) rfl (by simp [Value.category]) (Nat.le_of_ble_eq_true rfl) rfl ?_
  refine ex_aload_n dX7_add_0 rfl ?_
  refine ex_aload_n dX7_add_1 rfl ?_
  refine ex_getfield dX7_add_2 g_X7_15 hT1 rfl ?_
  refine ex_iload_n dX7_add_5 rfl ?_
  refine ex_iload_n dX7_add_6 rfl ?_
  refine ex_iload_n dX7_add_7 rfl ?_
  refine ex_iload dX7_add_8 rfl ?_
  refine cV_y dX7_add_10 (mm_kv i_X7_insert l_X7_19) ⟨(Nat.le_of_ble_eq_true rfl), (Nat.le_of_ble_eq_true rfl)⟩ (hi) rfl rfl hT1 (Nat.le_of_ble_eq_true rfl) rfl ?_
  intro h1 hh
  refine ex_return dX7_add_13 rfl ?_
  exact ⟨rfl, hh⟩
/-- the network, its own table of links holding the line -/
def c4_h (P : List mm_E) (p c n : Nat) : mm_H := hp (P ++ [.inr (4, [.ref (p + 1), .ref (p + 3), .ref (p + 5)]), .inr (7, [.ref (p + 2), .int 0]), .inl (.int, 64, .inl (fun _ => 0)), .inr (7, [.ref (p + 4), .int 0]), .inl (.int, 64, .inl (fun _ => 0)), .inl (.int, 4, .inl (fun _ => 0))]) (c + 1 + 1 + 1 + 1 + 1) (n + 2 + 64 + 2 + 64 + 4)
theorem c_X4_init (hP : P.length = p) : mm_Ct l G mX4_init [.ref p] (hp (P ++ [.inr (4, [.null, .null, .null])]) c n) (mm_qv (fun h' => tt_T h' (p + 1) (p + 2) 64 [(0, 1, 8, 0)] ∧ h'.2 = (c4_h P p c n).2 ∧ ∀ q, ¬ q = p + 1 → ¬ q = p + 2 → h'.1 q = (c4_h P p c n).1 q)) := by
  refine mm_ct (by decide +kernel) (by decide +kernel) rfl (by simp [Value.category]) (Nat.le_of_ble_eq_true rfl) rfl ?_
  refine ex_aload_n dX4_init_0 rfl ?_
  refine ex_objInit dX4_init_1 l_X4_3 (Nat.le_of_ble_eq_true rfl) (Nat.le_of_ble_eq_true rfl) ?_
  refine ex_aload_n dX4_init_4 rfl ?_
  refine pr_new hP (q := p + 1) dX4_init_5 n_X4_9 rfl rfl ?_
  refine ex_dup dX4_init_8 rfl ?_
  refine cI_v dX4_init_9 (mm_ki i_X7_init l_X4_11) ⟨(Nat.le_of_ble_eq_true rfl), (Nat.le_of_ble_eq_true rfl)⟩ (c_tab (R0 := [_]) hP rfl rfl rfl) rfl rfl (Nat.le_of_ble_eq_true rfl) rfl ?_
  refine pr_put hP dX4_init_12 p_X4_12 rfl (Nat.le_of_ble_eq_true rfl) (fun _ => rfl) (mm_fo _ _) rfl ?_
  skip
  refine ex_aload_n dX4_init_15 rfl ?_
  refine pr_new hP (q := p + 3) dX4_init_16 n_X4_9 rfl rfl ?_
  refine ex_dup dX4_init_19 rfl ?_
  refine cI_v dX4_init_20 (mm_ki i_X7_init l_X4_11) ⟨(Nat.le_of_ble_eq_true rfl), (Nat.le_of_ble_eq_true rfl)⟩ (c_tab (R0 := [_, _, _]) hP rfl rfl rfl) rfl rfl (Nat.le_of_ble_eq_true rfl) rfl ?_
  refine pr_put hP dX4_init_23 p_X4_18 rfl (Nat.le_of_ble_eq_true rfl) (fun _ => rfl) (mm_fo _ _) rfl ?_
  skip
  refine ex_aload_n dX4_init_26 rfl ?_
  refine ex_iconst (v := 4) dX4_init_27 (by decide) ?_
  refine pr_newI hP (q := p + 5) (N := 4) dX4_init_28 a_int (by decide) rfl (by decide) rfl rfl ?_
  refine pr_put hP dX4_init_30 p_X4_21 rfl (Nat.le_of_ble_eq_true rfl) (fun _ => rfl) (mm_fa _ _) rfl ?_
  skip
  change mm_Ex l G mX4_init _ 33 _ _ (c4_h P p c n)
  have hT : tt_T (c4_h P p c n) (p + 1) (p + 2) 64 [] := ⟨pr_g hP rfl, by decide, by decide, _, pr_g hP rfl, fun i r hr => by simp at hr⟩
  refine ex_aload_n dX4_init_33 rfl ?_
  refine ex_getfield dX4_init_34 g_X4_12 (show (c4_h P p c n).1 p = some _ from pr_g (i := 0) hP rfl) rfl ?_
  refine ex_iconst (v := 0) dX4_init_37 (by decide) ?_
  refine ex_iconst (v := 1) dX4_init_38 (by decide) ?_
  refine ex_bipush (v := 8) dX4_init_39 (by decide) ?_
  refine ex_iconst (v := 0) dX4_init_41 (by decide) ?_
  refine cV_y dX4_init_42 (mm_kv i_X7_add l_X4_25) ⟨(Nat.le_of_ble_eq_true rfl), (Nat.le_of_ble_eq_true rfl)⟩ (c_X7_add0 hT (by omega) (by decide) 0 1 8 0) rfl rfl hT.1 (Nat.le_of_ble_eq_true rfl) rfl ?_
  intro h1 hh
  refine ex_return dX4_init_45 rfl ?_
  exact ⟨rfl, hh⟩
end COP
