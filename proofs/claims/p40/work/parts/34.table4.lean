theorem c_X7_insert {l : Launch} {G : mm_G} {h : mm_H} {t v n : Nat} {L : List tt_R} (hT : tt_T h t v n L) (htv : ¬ t = v) (htn : t < h.2.1) (hvn : v < h.2.1) (hL : L.length ≤ 20000) (j : Nat) (hj : j ≤ L.length) (jv : Int32) (hjv : jv = nI j) (a b c d : Int32) :
    mm_Ct l G mX7_insert [.ref t, .int jv, .int a, .int b, .int c, .int d] h (mm_qv (fun h' => ∃ v' n', tt_T h' t v' n' (L.take j ++ (a, b, c, d) :: L.drop j) ∧ (∀ p, ¬ p = t → ¬ p = v' → h'.1 p = h.1 p) ∧
      ((v' = v ∧ n' = n ∧ h'.2 = h.2) ∨ (v' = h.2.1 ∧ 2 * n < n' ∧ h'.2 = (h.2.1 + 1, h.2.2.1 + 1, h.2.2.2 + n'))))) := by
  subst hjv
  obtain ⟨hT1, hT2, hT3, f, hT4, hT5⟩ := id hT
  have b0 : nI L.length * 4 = nI (4 * L.length) := by rw [show (4 : Int32) = nI 4 from rfl, pk_mul, Nat.mul_comm]
  have b1 : nI L.length * 4 + 4 = nI (4 * L.length + 4) := by rw [b0]; exact nI_add _ 4
  have b2 : nI L.length * 4 + 4 ≤ 1000000 := by rw [b1]; exact nI_le (b := 1000000) (by omega) (by omega)
  have b3 : ¬ nI L.length < nI j := nI_nlt hj (by omega)
  refine mm_ct (by decide +kernel) (by decide +kernel) rfl (by simp [Value.category]) (Nat.le_of_ble_eq_true rfl) rfl ?_
  by_cases hg : 4 * L.length + 4 ≤ n
  · have b4 : nI L.length * 4 + 4 ≤ Int32.ofNat n := by rw [b1]; exact nI_le hg (by omega)
    refine ex_aload_n dX7_insert_0 rfl ?_
    refine ex_getfield dX7_insert_1 g_X7_15 hT1 rfl ?_
    refine ex_iconst (v := 4) dX7_insert_4 (by decide) ?_
    refine ex_imul dX7_insert_5 ?_
    refine ex_istore dX7_insert_6 (Nat.le_of_ble_eq_true rfl) ?_
    refine ex_iload_n dX7_insert_8 rfl ?_
    refine ex_if_lt (tgt := 29) dX7_insert_9 (by decide) (fun z => absurd z (nI_pos (by omega))) (fun _ => ?_)
    refine ex_iload_n dX7_insert_12 rfl ?_
    refine ex_aload_n dX7_insert_13 rfl ?_
    refine ex_getfield dX7_insert_14 g_X7_15 hT1 rfl ?_
    refine ex_icmp_gt (tgt := 29) dX7_insert_17 (by decide) (fun z => absurd z b3) (fun _ => ?_)
    refine ex_iload dX7_insert_20 rfl ?_
    refine ex_iconst (v := 4) dX7_insert_22 (by decide) ?_
    refine ex_iadd dX7_insert_23 ?_
    refine ex_ldc dX7_insert_24 k_X7_23 ?_
    refine ex_icmp_le (tgt := 30) dX7_insert_26 (by decide) (fun _ => ?_) (fun z => absurd b2 z)
    refine ex_iload dX7_insert_30 rfl ?_
    refine ex_iconst (v := 4) dX7_insert_32 (by decide) ?_
    refine ex_iadd dX7_insert_33 ?_
    refine ex_aload_n dX7_insert_34 rfl ?_
    refine ex_getfield dX7_insert_35 g_X7_11 hT1 rfl ?_
    refine ex_alen dX7_insert_38 hT4 (Or.inl rfl) ?_
    refine ex_icmp_le (tgt := 59) dX7_insert_39 (by decide) (fun _ => ?_) (fun z => absurd b4 z)
    exact x_X7_insert hT htv hg j hj a b c d 0 _ b0 (fun h' q1 q2 q3 => ⟨rfl, v, n, q1, q3, Or.inl ⟨rfl, rfl, q2⟩⟩)
  · have b4 : ¬ nI L.length * 4 + 4 ≤ Int32.ofNat n := by rw [b1]; exact nI_ge (by omega) (by omega)
    have b5 : (2 : Int32) * (nI L.length * 4 + 4) = nI (2 * (4 * L.length + 4)) := by rw [b1, show (2 : Int32) = nI 2 from rfl, pk_mul]
    refine ex_aload_n dX7_insert_0 rfl ?_
    refine ex_getfield dX7_insert_1 g_X7_15 hT1 rfl ?_
    refine ex_iconst (v := 4) dX7_insert_4 (by decide) ?_
    refine ex_imul dX7_insert_5 ?_
    refine ex_istore dX7_insert_6 (Nat.le_of_ble_eq_true rfl) ?_
    refine ex_iload_n dX7_insert_8 rfl ?_
    refine ex_if_lt (tgt := 29) dX7_insert_9 (by decide) (fun z => absurd z (nI_pos (by omega))) (fun _ => ?_)
    refine ex_iload_n dX7_insert_12 rfl ?_
    refine ex_aload_n dX7_insert_13 rfl ?_
    refine ex_getfield dX7_insert_14 g_X7_15 hT1 rfl ?_
    refine ex_icmp_gt (tgt := 29) dX7_insert_17 (by decide) (fun z => absurd z b3) (fun _ => ?_)
    refine ex_iload dX7_insert_20 rfl ?_
    refine ex_iconst (v := 4) dX7_insert_22 (by decide) ?_
    refine ex_iadd dX7_insert_23 ?_
    refine ex_ldc dX7_insert_24 k_X7_23 ?_
    refine ex_icmp_le (tgt := 30) dX7_insert_26 (by decide) (fun _ => ?_) (fun z => absurd b2 z)
    refine ex_iload dX7_insert_30 rfl ?_
    refine ex_iconst (v := 4) dX7_insert_32 (by decide) ?_
    refine ex_iadd dX7_insert_33 ?_
    refine ex_aload_n dX7_insert_34 rfl ?_
    refine ex_getfield dX7_insert_35 g_X7_11 hT1 rfl ?_
    refine ex_alen dX7_insert_38 hT4 (Or.inl rfl) ?_
    refine ex_icmp_le (tgt := 59) dX7_insert_39 (by decide) (fun z => absurd z b4) (fun _ => ?_)
    refine ex_aload_n dX7_insert_42 rfl ?_
    refine ex_aload_n dX7_insert_43 rfl ?_
    refine ex_getfield dX7_insert_44 g_X7_11 hT1 rfl ?_
    refine ex_iconst (v := 2) dX7_insert_47 (by decide) ?_
    refine ex_iload dX7_insert_48 rfl ?_
    refine ex_iconst (v := 4) dX7_insert_50 (by decide) ?_
    refine ex_iadd dX7_insert_51 ?_
    refine ex_imul dX7_insert_52 ?_
    refine cS_f dX7_insert_53 (mm_ks i_J7_copyOf_59c91 l_X7_24) ⟨(Nat.le_of_ble_eq_true rfl), (Nat.le_of_ble_eq_true rfl)⟩ (c_J7_copyOf hT4 hvn (N := 2 * (4 * L.length + 4)) (by omega) (by omega) _ b5) rfl rfl (Nat.le_of_ble_eq_true rfl) rfl ?_
    refine ex_put dX7_insert_56 p_X7_11 (mm_set_ne (by omega) (mm_new_ne (by omega) hT1)) (Nat.le_of_ble_eq_true rfl) (fun z => nomatch z) (mm_fa _ _) ?_
    refine x_X7_insert (n := 2 * (4 * L.length + 4)) (v := h.2.1) ⟨?_, by omega, by omega, _, mm_set_ne (by omega) mm_set_at, fun i r hi k hk => ?_⟩ (by omega) (by omega) j hj a b c d 0 _ b0 (fun h' q1 q2 q3 => ⟨rfl, _, _, q1, fun p p1 p2 => (q3 p p1 p2).trans (mm_set_ne p1 (mm_set_ne p2 (mm_new_ne p2 rfl))), Or.inr ⟨rfl, by omega, q2⟩⟩)
    · exact mm_set_at
    · have hl := (List.getElem?_eq_some_iff.mp hi).1
      rw [pk_cpy_in (Nat.zero_le _) (by omega)]
      have := hT5 i r hi k hk
      simpa using this
theorem c_X7_add {l : Launch} {G : mm_G} {h : mm_H} {t v n : Nat} {L : List tt_R} (hT : tt_T h t v n L) (htv : ¬ t = v) (htn : t < h.2.1) (hvn : v < h.2.1) (hL : L.length ≤ 20000) (a b c d : Int32) :
    mm_Ct l G mX7_add [.ref t, .int a, .int b, .int c, .int d] h (mm_qv (fun h' => ∃ v' n', tt_T h' t v' n' (L ++ [(a, b, c, d)]) ∧ (∀ p, ¬ p = t → ¬ p = v' → h'.1 p = h.1 p) ∧
      ((v' = v ∧ n' = n ∧ h'.2 = h.2) ∨ (v' = h.2.1 ∧ 2 * n < n' ∧ h'.2 = (h.2.1 + 1, h.2.2.1 + 1, h.2.2.2 + n'))))) := by
  have h0 := c_X7_insert (l := l) (G := G) hT htv htn hvn hL L.length (Nat.le_refl _) _ rfl a b c d
  rw [List.take_length, List.drop_length] at h0
  refine mm_ct (by decide +kernel) (by decide +kernel) rfl (by simp [Value.category]) (Nat.le_of_ble_eq_true rfl) rfl ?_
  refine ex_aload_n dX7_add_0 rfl ?_
  refine ex_aload_n dX7_add_1 rfl ?_
  refine ex_getfield dX7_add_2 g_X7_15 hT.1 rfl ?_
  refine ex_iload_n dX7_add_5 rfl ?_
  refine ex_iload_n dX7_add_6 rfl ?_
  refine ex_iload_n dX7_add_7 rfl ?_
  refine ex_iload dX7_add_8 rfl ?_
  refine cV_y dX7_add_10 (mm_kv i_X7_insert l_X7_19) ⟨(Nat.le_of_ble_eq_true rfl), (Nat.le_of_ble_eq_true rfl)⟩ (h0) rfl rfl hT.1 (Nat.le_of_ble_eq_true rfl) rfl ?_
  intro h1 hh
  refine ex_return dX7_add_13 rfl ?_
  exact ⟨rfl, hh⟩

