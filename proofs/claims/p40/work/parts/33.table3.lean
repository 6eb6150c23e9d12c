theorem c_J7_copyOf {l : Launch} {G : mm_G} {h : mm_H} {v n N : Nat} {f : Nat → Int32} (hv : h.1 v = some (.inl (.int, n, .inl f))) (hvn : v < h.2.1) (hn : n < N) (hN : N ≤ 1000000) (nv : Int32) (hnv : nv = nI N) :
    mm_Ct l G mJ7_copyOf_59c91 [.ref v, .int nv] h (mm_ri (.ref h.2.1) (mm_set (mm_new h (.inl (.int, N, .inl (fun _ => 0))) N) h.2.1 (.inl (.int, N, .inl (va_cpy f (fun _ => 0) 0 0 n))))) := by
  subst hnv
  have hne : ¬ nI N = Int32.ofNat n := fun z => absurd ((nI_eq (a := N) (b := n) (by omega) (by omega)).mp z) (by omega)
  have hvne : ¬ v = h.2.1 := by omega
  have hmin : (if nI N < Int32.ofNat n then nI N else Int32.ofNat n) = nI n := by
    rw [show Int32.ofNat n = nI n from rfl, if_neg (nI_nlt (by omega) (by omega))]
  refine mm_ct (by decide +kernel) (by decide +kernel) rfl (by simp [Value.category]) (Nat.le_of_ble_eq_true rfl) rfl ?_
  refine ex_iload_n dJ7_copyOf_59c91_0 rfl ?_
  refine ex_aload_n dJ7_copyOf_59c91_1 rfl ?_
  refine ex_alen dJ7_copyOf_59c91_2 hv (Or.inl rfl) ?_
  refine ex_icmp_ne (tgt := 14) dJ7_copyOf_59c91_3 (by decide) (fun _ => ?_) (fun z => absurd z hne)
  refine ex_iload_n dJ7_copyOf_59c91_14 rfl ?_
  refine ex_newI dJ7_copyOf_59c91_15 a_int (nI_pos (by omega)) (nI_clamp (by omega)) (by omega) ?_
  refine ex_astore_n dJ7_copyOf_59c91_17 (Nat.le_of_ble_eq_true rfl) ?_
  refine ex_aload_n dJ7_copyOf_59c91_18 rfl ?_
  refine ex_iconst (v := 0) dJ7_copyOf_59c91_19 (by decide) ?_
  refine ex_aload_n dJ7_copyOf_59c91_20 rfl ?_
  refine ex_iconst (v := 0) dJ7_copyOf_59c91_21 (by decide) ?_
  refine ex_aload_n dJ7_copyOf_59c91_22 rfl ?_
  refine ex_alen dJ7_copyOf_59c91_23 (mm_new_ne hvne hv) (Or.inl rfl) ?_
  refine ex_iload_n dJ7_copyOf_59c91_24 rfl ?_
  refine ex_min dJ7_copyOf_59c91_25 i_J9_min_7cf53 l_J7_304 (Nat.le_of_ble_eq_true rfl) (Nat.le_of_ble_eq_true rfl) ?_
  refine ex_copyI dJ7_copyOf_59c91_28 l_J7_150 (mm_new_ne hvne hv) mm_new_at (by decide) (by decide) (by rw [hmin]; exact nI_pos (by omega)) (by rw [hmin, nI_clamp (by omega)]; show 0 + n ≤ n; omega) (by rw [hmin, nI_clamp (by omega)]; show 0 + n ≤ N; omega) (Nat.le_of_ble_eq_true rfl) (Nat.le_of_ble_eq_true rfl) ?_
  refine ex_aload_n dJ7_copyOf_59c91_31 rfl ?_
  refine ex_areturn dJ7_copyOf_59c91_32 ⟨_, rfl⟩ ?_
  exact ⟨rfl, by rw [hmin, nI_clamp (show n < 2 ^ 31 by omega)]; rfl⟩
theorem tt_ins {f : Nat → Int32} {L : List tt_R} {j : Nat} {r : tt_R} (h : tt_A f L) (hj : j ≤ L.length) : tt_A (upd (upd (upd (upd (va_cpy f f (4 * j) (4 * j + 4) (4 * L.length - 4 * j)) (4 * j) r.1) (4 * j + 1) r.2.1) (4 * j + 2) r.2.2.1) (4 * j + 3) r.2.2.2) (L.take j ++ r :: L.drop j) := by
  intro i q hi k hk
  have hlt : (L.take j).length = j := by rw [List.length_take]; omega
  rcases Nat.lt_trichotomy i j with hij | hij | hij
  · rw [List.getElem?_append_left (by omega), List.getElem?_take_of_lt hij] at hi
    rw [pk_un (by omega), pk_un (by omega), pk_un (by omega), pk_un (by omega), pk_cpy_out (Or.inl (by omega))]
    exact h i q hi k hk
  · subst hij
    rw [List.getElem?_append_right (by omega), hlt, Nat.sub_self] at hi
    cases hi
    rcases (by omega : k = 0 ∨ k = 1 ∨ k = 2 ∨ k = 3) with rfl | rfl | rfl | rfl
    · rw [pk_un (by omega), pk_un (by omega), pk_un (by omega)]; exact pk_us
    · rw [pk_un (by omega), pk_un (by omega), pk_us]; rfl
    · rw [pk_un (by omega), pk_us]; rfl
    · rw [pk_us]; rfl
  · rw [List.getElem?_append_right (by omega), hlt, show i - j = (i - j - 1) + 1 by omega, List.getElem?_cons_succ, List.getElem?_drop] at hi
    have hl := (List.getElem?_eq_some_iff.mp hi).1
    rw [pk_un (by omega), pk_un (by omega), pk_un (by omega), pk_un (by omega), pk_cpy_in (by omega) (by omega), show 4 * j + (4 * i + k - (4 * j + 4)) = 4 * (j + (i - j - 1)) + k by omega]
    exact h _ q hi k hk
theorem x_X7_insert {l : Launch} {G : mm_G} {h : mm_H} {Q : mm_R → mm_H → Prop} {t v n : Nat} {L : List tt_R} (hT : tt_T h t v n L) (htv : ¬ t = v) (hn : 4 * L.length + 4 ≤ n) (j : Nat) (hj : j ≤ L.length) (a b c d x7 : Int32) (ux : Int32) (hux : ux = nI (4 * L.length))
    (q : ∀ h' : mm_H, tt_T h' t v n (L.take j ++ (a, b, c, d) :: L.drop j) → h'.2 = h.2 → (∀ p, ¬ p = t → ¬ p = v → h'.1 p = h.1 p) → Q (.inl none) h') :
    mm_Ex l G mX7_insert Q 59 [.ref t, .int (nI j), .int a, .int b, .int c, .int d, .int ux, .null] [] h := by
  subst hux
  obtain ⟨hT1, hT2, hT3, f, hT4, hT5⟩ := hT
  have a0 : nI j * 4 = nI (4 * j) := by rw [show (4 : Int32) = nI 4 from rfl, pk_mul, Nat.mul_comm]
  have a4 : nI (4 * L.length) - nI j * 4 = nI (4 * L.length - 4 * j) := by rw [a0, pk_sub (by omega)]
  have a1 : nI (4 * j) + 1 = nI (4 * j + 1) := nI_1 _
  have a2 : nI (4 * j) + 2 = nI (4 * j + 2) := nI_add _ 2
  have a3 : nI (4 * j) + 3 = nI (4 * j + 3) := nI_add _ 3
  have a5 : nI (4 * j) + 4 = nI (4 * j + 4) := nI_add _ 4
  refine ex_iload_n dX7_insert_59 rfl ?_
  refine ex_iconst (v := 4) dX7_insert_60 (by decide) ?_
  refine ex_imul dX7_insert_61 ?_
  refine ex_istore dX7_insert_62 (Nat.le_of_ble_eq_true rfl) ?_
  refine ex_aload_n dX7_insert_64 rfl ?_
  refine ex_getfield dX7_insert_65 g_X7_11 (by repeat (first | exact hT1 | refine mm_set_ne htv ?_)) rfl ?_
  refine ex_iload dX7_insert_68 rfl ?_
  refine ex_aload_n dX7_insert_70 rfl ?_
  refine ex_getfield dX7_insert_71 g_X7_11 (by repeat (first | exact hT1 | refine mm_set_ne htv ?_)) rfl ?_
  refine ex_iload dX7_insert_74 rfl ?_
  refine ex_iconst (v := 4) dX7_insert_76 (by decide) ?_
  refine ex_iadd dX7_insert_77 ?_
  refine ex_iload dX7_insert_78 rfl ?_
  refine ex_iload dX7_insert_80 rfl ?_
  refine ex_isub dX7_insert_82 ?_
  refine ex_copyI dX7_insert_83 l_X7_30 hT4 hT4 (by rw [a0]; exact nI_pos (by omega)) (by rw [a0, a5]; exact nI_pos (by omega)) (by rw [a4]; exact nI_pos (by omega)) (by rw [a4, a0, nI_clamp (by omega), nI_clamp (by omega)]; omega) (by rw [a4, a0, a5, nI_clamp (by omega), nI_clamp (by omega)]; omega) (Nat.le_of_ble_eq_true rfl) (Nat.le_of_ble_eq_true rfl) ?_
  refine ex_aload_n dX7_insert_86 rfl ?_
  refine ex_getfield dX7_insert_87 g_X7_11 (by repeat (first | exact hT1 | refine mm_set_ne htv ?_)) rfl ?_
  refine ex_iload dX7_insert_90 rfl ?_
  refine ex_iload_n dX7_insert_92 rfl ?_
  refine ex_iastore dX7_insert_93 mm_set_at (by (first | rw [a0, a1] | rw [a0, a2] | rw [a0, a3] | rw [a0]); exact vp_in_nI (by omega) (by omega)) ?_
  refine ex_aload_n dX7_insert_94 rfl ?_
  refine ex_getfield dX7_insert_95 g_X7_11 (by repeat (first | exact hT1 | refine mm_set_ne htv ?_)) rfl ?_
  refine ex_iload dX7_insert_98 rfl ?_
  refine ex_iconst (v := 1) dX7_insert_100 (by decide) ?_
  refine ex_iadd dX7_insert_101 ?_
  refine ex_iload_n dX7_insert_102 rfl ?_
  refine ex_iastore dX7_insert_103 mm_set_at (by (first | rw [a0, a1] | rw [a0, a2] | rw [a0, a3] | rw [a0]); exact vp_in_nI (by omega) (by omega)) ?_
  refine ex_aload_n dX7_insert_104 rfl ?_
  refine ex_getfield dX7_insert_105 g_X7_11 (by repeat (first | exact hT1 | refine mm_set_ne htv ?_)) rfl ?_
  refine ex_iload dX7_insert_108 rfl ?_
  refine ex_iconst (v := 2) dX7_insert_110 (by decide) ?_
  refine ex_iadd dX7_insert_111 ?_
  refine ex_iload dX7_insert_112 rfl ?_
  refine ex_iastore dX7_insert_114 mm_set_at (by (first | rw [a0, a1] | rw [a0, a2] | rw [a0, a3] | rw [a0]); exact vp_in_nI (by omega) (by omega)) ?_
  refine ex_aload_n dX7_insert_115 rfl ?_
  refine ex_getfield dX7_insert_116 g_X7_11 (by repeat (first | exact hT1 | refine mm_set_ne htv ?_)) rfl ?_
  refine ex_iload dX7_insert_119 rfl ?_
  refine ex_iconst (v := 3) dX7_insert_121 (by decide) ?_
  refine ex_iadd dX7_insert_122 ?_
  refine ex_iload dX7_insert_123 rfl ?_
  refine ex_iastore dX7_insert_125 mm_set_at (by (first | rw [a0, a1] | rw [a0, a2] | rw [a0, a3] | rw [a0]); exact vp_in_nI (by omega) (by omega)) ?_
  refine ex_aload_n dX7_insert_126 rfl ?_
  refine ex_dup dX7_insert_127 rfl ?_
  refine ex_getfield dX7_insert_128 g_X7_15 (by repeat (first | exact hT1 | refine mm_set_ne htv ?_)) rfl ?_
  refine ex_iconst (v := 1) dX7_insert_131 (by decide) ?_
  refine ex_iadd dX7_insert_132 ?_
  refine ex_put dX7_insert_133 p_X7_15 (by repeat (first | exact hT1 | refine mm_set_ne htv ?_)) (Nat.le_of_ble_eq_true rfl) (fun z => nomatch z) (mm_fi _) ?_
  refine ex_return dX7_insert_136 rfl ?_
  refine q _ ⟨?_, ?_, hT3, _, (by repeat (first | exact mm_set_at | refine mm_set_ne (Ne.symm htv) ?_)), ?_⟩ rfl (fun p p1 p2 => ?_)
  · rw [mm_set_at]
    simp only [List.set, List.length_append, List.length_cons, List.length_take, List.length_drop]
    rw [show min j L.length + (L.length - j + 1) = L.length + 1 by omega, nI_1]
  · simp only [List.length_append, List.length_cons, List.length_take, List.length_drop]; omega
  · rw [a4, a0, a1, a2, a3, a5, nI_clamp (show 4 * j < 2 ^ 31 by omega), nI_clamp (show 4 * j + 1 < 2 ^ 31 by omega), nI_clamp (show 4 * j + 2 < 2 ^ 31 by omega), nI_clamp (show 4 * j + 3 < 2 ^ 31 by omega), nI_clamp (show 4 * j + 4 < 2 ^ 31 by omega), nI_clamp (show 4 * L.length - 4 * j < 2 ^ 31 by omega)]
    exact tt_ins (r := (a, b, c, d)) hT5 hj
  · repeat (first | rfl | refine mm_set_ne p1 ?_ | refine mm_set_ne p2 ?_)

