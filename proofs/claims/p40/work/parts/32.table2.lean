theorem mm_set_at {h : mm_H} {k : Nat} {e : mm_E} : (mm_set h k e).1 k = some e := by simp [mm_set]
theorem mm_set_ne {h : mm_H} {k j : Nat} {e : mm_E} {x : Option mm_E} (hn : ¬ j = k) (hx : h.1 j = x) : (mm_set h k e).1 j = x := by simp only [mm_set, if_neg hn]; exact hx
theorem mm_new_at {h : mm_H} {e : mm_E} {n : Nat} : (mm_new h e n).1 h.2.1 = some e := by simp [mm_new]
theorem mm_new_ne {h : mm_H} {j n : Nat} {e : mm_E} {x : Option mm_E} (hn : ¬ j = h.2.1) (hx : h.1 j = x) : (mm_new h e n).1 j = x := by simp only [mm_new, if_neg hn]; exact hx
theorem tt_A_set {f : Nat → Int32} {L : List tt_R} {j c : Nat} {x : Int32} (h : tt_A f L) (hj : j < L.length) (hc : c < 4) : tt_A (upd f (4 * j + c) x) (L.set j (tt_s (L[j]'hj) c x)) := by
  intro i r hi k hk
  by_cases hij : j = i
  · subst hij
    rw [List.getElem?_set_self hj] at hi
    cases hi
    have h0 := h j _ (List.getElem?_eq_getElem hj) k hk
    by_cases hkc : k = c
    · subst hkc
      rw [pk_us]
      rcases (by omega : k = 0 ∨ k = 1 ∨ k = 2 ∨ k = 3) with rfl | rfl | rfl | rfl <;> rfl
    · rw [pk_un (by omega), h0]
      rcases (by omega : c = 0 ∨ c = 1 ∨ c = 2 ∨ c = 3) with rfl | rfl | rfl | rfl <;> rcases (by omega : k = 0 ∨ k = 1 ∨ k = 2 ∨ k = 3) with rfl | rfl | rfl | rfl <;> first | rfl | exact absurd rfl hkc
  · rw [List.getElem?_set_ne hij] at hi
    rw [pk_un (by omega)]
    exact h i r hi k hk
theorem c_X7_set {l : Launch} {G : mm_G} {h : mm_H} {t v n : Nat} {L : List tt_R} (hT : tt_T h t v n L) (htv : ¬ t = v) (j : Nat) (hj : j < L.length) (jv : Int32) (hjv : jv = nI j) (c : Nat) (cv : Int32) (hcv : cv = nI c) (hc : c < 4) (x : Int32) :
    mm_Ct l G mX7_set [.ref t, .int jv, .int cv, .int x] h (mm_qv (fun h' => ∃ f', h' = mm_set h v (.inl (.int, n, .inl f')) ∧ tt_T h' t v n (L.set j (tt_s (L[j]'hj) c x)))) := by
  subst hcv hjv
  obtain ⟨hT1, hT2, hT3, f, hT4, hT5⟩ := hT
  have hc0 : ¬ nI c < 0 := nI_pos (by omega)
  have hc4 : ¬ (4 : Int32) ≤ nI c := nI_ge (a := c) (b := 4) hc (by decide)
  have e1 : nI j * 4 + nI c = nI (4 * j + c) := tt_ix hj hc (by omega)
  have h35 : ¬ Int32.ofNat n ≤ nI j * 4 + nI c := by rw [e1]; exact nI_ge (by omega) (by omega)
  refine mm_ct (by decide +kernel) (by decide +kernel) rfl (by simp [Value.category]) (Nat.le_of_ble_eq_true rfl) rfl ?_
  refine ex_iload_n dX7_set_0 rfl ?_
  refine ex_iconst (v := 4) dX7_set_1 (by decide) ?_
  refine ex_imul dX7_set_2 ?_
  refine ex_iload_n dX7_set_3 rfl ?_
  refine ex_iadd dX7_set_4 ?_
  refine ex_istore dX7_set_5 (Nat.le_of_ble_eq_true rfl) ?_
  refine ex_iload_n dX7_set_7 rfl ?_
  refine ex_if_lt (tgt := 46) dX7_set_8 (by decide) (fun z => absurd z (nI_pos (by omega))) (fun _ => ?_)
  refine ex_iload_n dX7_set_11 rfl ?_
  refine ex_aload_n dX7_set_12 rfl ?_
  refine ex_getfield dX7_set_13 g_X7_15 hT1 rfl ?_
  refine ex_icmp_ge (tgt := 46) dX7_set_16 (by decide) (fun z => absurd z (nI_ge hj (by omega))) (fun _ => ?_)
  refine ex_iload_n dX7_set_19 rfl ?_
  refine ex_if_lt (tgt := 46) dX7_set_20 (by decide) (fun z => absurd z hc0) (fun _ => ?_)
  refine ex_iload_n dX7_set_23 rfl ?_
  refine ex_iconst (v := 4) dX7_set_24 (by decide) ?_
  refine ex_icmp_ge (tgt := 46) dX7_set_25 (by decide) (fun z => absurd z hc4) (fun _ => ?_)
  refine ex_iload dX7_set_28 rfl ?_
  refine ex_aload_n dX7_set_30 rfl ?_
  refine ex_getfield dX7_set_31 g_X7_11 hT1 rfl ?_
  refine ex_alen dX7_set_34 hT4 (Or.inl rfl) ?_
  refine ex_icmp_ge (tgt := 46) dX7_set_35 (by decide) (fun z => absurd z h35) (fun _ => ?_)
  refine ex_aload_n dX7_set_38 rfl ?_
  refine ex_getfield dX7_set_39 g_X7_11 hT1 rfl ?_
  refine ex_iload dX7_set_42 rfl ?_
  refine ex_iload_n dX7_set_44 rfl ?_
  refine ex_iastore dX7_set_45 hT4 (by rw [e1]; exact vp_in_nI (by omega) (by omega)) ?_
  refine ex_return dX7_set_46 rfl ?_
  refine ⟨rfl, _, rfl, ?_, by rw [List.length_set]; exact hT2, hT3, upd f (4 * j + c) x, ?_, tt_A_set hT5 hj hc⟩
  · rw [List.length_set]; simp only [mm_set, if_neg htv]; exact hT1
  · rw [mm_set_at, e1, nI_clamp (show 4 * j + c < 2 ^ 31 by omega)]
theorem c_X7_clear {l : Launch} {G : mm_G} {h : mm_H} {t v n : Nat} {L : List tt_R} (hT : tt_T h t v n L) (htv : ¬ t = v) :
    mm_Ct l G mX7_clear [.ref t] h (mm_qv (fun h' => ∃ e, h' = mm_set h t e ∧ tt_T h' t v n [])) := by
  obtain ⟨hT1, hT2, hT3, f, hT4, hT5⟩ := hT
  refine mm_ct (by decide +kernel) (by decide +kernel) rfl (by simp [Value.category]) (Nat.le_of_ble_eq_true rfl) rfl ?_
  refine ex_aload_n dX7_clear_0 rfl ?_
  refine ex_iconst (v := 0) dX7_clear_1 (by decide) ?_
  refine ex_put dX7_clear_2 p_X7_15 hT1 (Nat.le_of_ble_eq_true rfl) (fun z => nomatch z) (mm_fi _) ?_
  refine ex_return dX7_clear_5 rfl ?_
  refine ⟨rfl, _, rfl, ?_, Nat.zero_le _, hT3, f, ?_, fun i r hi => by simp at hi⟩
  · exact mm_set_at
  · exact mm_set_ne (Ne.symm htv) hT4
theorem tt_rem {f : Nat → Int32} {L : List tt_R} {j : Nat} (h : tt_A f L) (hj : j < L.length) : tt_A (va_cpy f f (4 * (j + 1)) (4 * j) (4 * L.length - 4 * (j + 1))) (L.eraseIdx j) := by
  intro i r hi k hk
  rw [List.getElem?_eraseIdx] at hi
  by_cases hij : i < j
  · rw [if_pos hij] at hi
    rw [pk_cpy_out (Or.inl (by omega))]
    exact h i r hi k hk
  · rw [if_neg hij] at hi
    have hl := (List.getElem?_eq_some_iff.mp hi).1
    rw [pk_cpy_in (by omega) (by omega), show 4 * (j + 1) + (4 * i + k - 4 * j) = 4 * (i + 1) + k by omega]
    exact h (i + 1) r hi k hk
theorem c_X7_remove {l : Launch} {G : mm_G} {h : mm_H} {t v n : Nat} {L : List tt_R} (hT : tt_T h t v n L) (htv : ¬ t = v) (j : Nat) (hj : j < L.length) (jv : Int32) (hjv : jv = nI j) :
    mm_Ct l G mX7_remove [.ref t, .int jv] h (mm_qv (fun h' => ∃ e e', h' = mm_set (mm_set h v e) t e' ∧ tt_T h' t v n (L.eraseIdx j))) := by
  subst hjv
  obtain ⟨hT1, hT2, hT3, f, hT4, hT5⟩ := hT
  have a1 : nI L.length * 4 = nI (4 * L.length) := by rw [show (4 : Int32) = nI 4 from rfl, pk_mul, Nat.mul_comm]
  have a2 : (nI j + 1) * 4 = nI (4 * (j + 1)) := by rw [nI_1, show (4 : Int32) = nI 4 from rfl, pk_mul, Nat.mul_comm]
  have a3 : (nI j + 1) * 4 - 4 = nI (4 * j) := by rw [a2, show (4 : Int32) = nI 4 from rfl, pk_sub (by omega)]; congr 1
  have a4 : nI L.length * 4 - (nI j + 1) * 4 = nI (4 * L.length - 4 * (j + 1)) := by rw [a1, a2, pk_sub (by omega)]
  have b1 : nI L.length * 4 ≤ Int32.ofNat n := by rw [a1]; exact nI_le (by omega) (by omega)
  refine mm_ct (by decide +kernel) (by decide +kernel) rfl (by simp [Value.category]) (Nat.le_of_ble_eq_true rfl) rfl ?_
  refine ex_aload_n dX7_remove_0 rfl ?_
  refine ex_getfield dX7_remove_1 g_X7_15 hT1 rfl ?_
  refine ex_iconst (v := 4) dX7_remove_4 (by decide) ?_
  refine ex_imul dX7_remove_5 ?_
  refine ex_istore_n dX7_remove_6 (Nat.le_of_ble_eq_true rfl) ?_
  refine ex_iload_n dX7_remove_7 rfl ?_
  refine ex_if_lt (tgt := 28) dX7_remove_8 (by decide) (fun z => absurd z (nI_pos (by omega))) (fun _ => ?_)
  refine ex_iload_n dX7_remove_11 rfl ?_
  refine ex_aload_n dX7_remove_12 rfl ?_
  refine ex_getfield dX7_remove_13 g_X7_15 hT1 rfl ?_
  refine ex_icmp_ge (tgt := 28) dX7_remove_16 (by decide) (fun z => absurd z (nI_ge hj (by omega))) (fun _ => ?_)
  refine ex_iload_n dX7_remove_19 rfl ?_
  refine ex_aload_n dX7_remove_20 rfl ?_
  refine ex_getfield dX7_remove_21 g_X7_11 hT1 rfl ?_
  refine ex_alen dX7_remove_24 hT4 (Or.inl rfl) ?_
  refine ex_icmp_le (tgt := 29) dX7_remove_25 (by decide) (fun _ => ?_) (fun z => absurd b1 z)
  refine ex_iload_n dX7_remove_29 rfl ?_
  refine ex_iconst (v := 1) dX7_remove_30 (by decide) ?_
  refine ex_iadd dX7_remove_31 ?_
  refine ex_iconst (v := 4) dX7_remove_32 (by decide) ?_
  refine ex_imul dX7_remove_33 ?_
  refine ex_istore_n dX7_remove_34 (Nat.le_of_ble_eq_true rfl) ?_
  refine ex_aload_n dX7_remove_35 rfl ?_
  refine ex_getfield dX7_remove_36 g_X7_11 hT1 rfl ?_
  refine ex_iload_n dX7_remove_39 rfl ?_
  refine ex_aload_n dX7_remove_40 rfl ?_
  refine ex_getfield dX7_remove_41 g_X7_11 hT1 rfl ?_
  refine ex_iload_n dX7_remove_44 rfl ?_
  refine ex_iconst (v := 4) dX7_remove_45 (by decide) ?_
  refine ex_isub dX7_remove_46 ?_
  refine ex_iload_n dX7_remove_47 rfl ?_
  refine ex_iload_n dX7_remove_48 rfl ?_
  refine ex_isub dX7_remove_49 ?_
  refine ex_copyI dX7_remove_50 l_X7_30 hT4 hT4 (by rw [a2]; exact nI_pos (by omega)) (by rw [a3]; exact nI_pos (by omega)) (by rw [a4]; exact nI_pos (by omega)) (by rw [a4, a2, nI_clamp (by omega), nI_clamp (by omega)]; omega) (by rw [a4, a3, nI_clamp (by omega), nI_clamp (by omega)]; omega) (Nat.le_of_ble_eq_true rfl) (Nat.le_of_ble_eq_true rfl) ?_
  refine ex_aload_n dX7_remove_53 rfl ?_
  refine ex_dup dX7_remove_54 rfl ?_
  refine ex_getfield dX7_remove_55 g_X7_15 (show (mm_set h v _).1 t = _ by simp only [mm_set, if_neg htv]; exact hT1) rfl ?_
  refine ex_iconst (v := 1) dX7_remove_58 (by decide) ?_
  refine ex_isub dX7_remove_59 ?_
  refine ex_put dX7_remove_60 p_X7_15 (show (mm_set h v _).1 t = _ by simp only [mm_set, if_neg htv]; exact hT1) (Nat.le_of_ble_eq_true rfl) (fun z => nomatch z) (mm_fi _) ?_
  refine ex_return dX7_remove_63 rfl ?_
  refine ⟨rfl, _, _, rfl, ?_, by rw [List.length_eraseIdx_of_lt hj]; omega, hT3, _, ?_, tt_rem hT5 hj⟩
  · rw [List.length_eraseIdx_of_lt hj]
    rw [mm_set_at]
    simp only [List.set]
    rw [show nI L.length - 1 = nI (L.length - 1) from pk_sub (a := L.length) (b := 1) (by omega)]
  · rw [mm_set_ne (Ne.symm htv) mm_set_at, a4, a3, a2, nI_clamp (show 4 * (j + 1) < 2 ^ 31 by omega), nI_clamp (show 4 * j < 2 ^ 31 by omega), nI_clamp (show 4 * L.length - 4 * (j + 1) < 2 ^ 31 by omega)]

