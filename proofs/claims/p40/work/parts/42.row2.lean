/-! THE ROW: what changes it -/
theorem ls_si {L R : List tt_R} {i : Nat} {x y : tt_R} (hi : i < L.length) (hR : L.drop (i + 1) = R) : (L.set i x).take (i + 1) ++ y :: (L.set i x).drop (i + 1) = L.take i ++ x :: y :: R := by
  subst hR
  have e : L.set i x = L.take i ++ x :: L.drop (i + 1) := List.set_eq_take_append_cons_drop .. |>.trans (if_pos hi)
  have hl : (L.take i).length = i := by rw [List.length_take]; omega
  rw [e, List.take_append, List.drop_append, hl, Nat.add_sub_cancel_left, List.take_of_length_le (show (L.take i).length ≤ i + 1 by omega), List.drop_of_length_le (show (L.take i).length ≤ i + 1 by omega)]
  simp
def ro_dv (p : Int32) : List tt_R → Int32 → List tt_R
  | [], _ => []
  | r :: L, s => if p - s ≤ 0 then r :: ro_dv p L (s + r.2.2.2) else if r.2.2.2 ≤ p - s then r :: ro_dv p L (s + r.2.2.2) else (r.1, r.2.1, r.2.2.1, p - s) :: (0, r.2.1, r.2.2.1 + (p - s), r.2.2.2 - (p - s)) :: L
def ro_ct (b e : Int32) : List tt_R → Nat → Int32 → List tt_R → List tt_R × Nat
  | [], n, _, d => (d, n)
  | r :: R, n, pl, d => if r.1 = 1 then (if pl - r.2.2.2 ≤ e then (if r.1 = 2 then (if pl - r.2.2.2 ≤ b then ro_ct b e R n (pl - r.2.2.2) (r :: d) else ro_ct b e R n (pl - r.2.2.2) d) else (if pl - r.2.2.2 < b then ro_ct b e R n (pl - r.2.2.2) (r :: d) else ro_ct b e R n (pl - r.2.2.2) d)) else ro_ct b e R (n + 1) (pl - r.2.2.2) (r :: d))
    else (if pl - r.2.2.2 < e then (if r.1 = 2 then (if pl - r.2.2.2 ≤ b then ro_ct b e R n (pl - r.2.2.2) (r :: d) else ro_ct b e R n (pl - r.2.2.2) d) else (if pl - r.2.2.2 < b then ro_ct b e R n (pl - r.2.2.2) (r :: d) else ro_ct b e R n (pl - r.2.2.2) d)) else ro_ct b e R (n + 1) (pl - r.2.2.2) (r :: d))
theorem ro_ct_le {b e : Int32} : ∀ (R : List tt_R) (n : Nat) (pl : Int32) (d : List tt_R), n ≤ d.length → (ro_ct b e R n pl d).2 ≤ (ro_ct b e R n pl d).1.length ∧ (ro_ct b e R n pl d).1.length ≤ R.length + d.length
  | [], n, pl, d, h => ⟨h, by show d.length ≤ 0 + d.length; omega⟩
  | r :: R, n, pl, d, h => by
    have g1 : ∀ pl', (ro_ct b e R n pl' (r :: d)).2 ≤ (ro_ct b e R n pl' (r :: d)).1.length ∧ (ro_ct b e R n pl' (r :: d)).1.length ≤ (r :: R).length + d.length := fun pl' => by
      have := ro_ct_le (b := b) (e := e) R n pl' (r :: d) (by rw [List.length_cons]; omega)
      rw [List.length_cons] at this ⊢; omega
    have g2 : ∀ pl', (ro_ct b e R n pl' d).2 ≤ (ro_ct b e R n pl' d).1.length ∧ (ro_ct b e R n pl' d).1.length ≤ (r :: R).length + d.length := fun pl' => by
      have := ro_ct_le (b := b) (e := e) R n pl' d h
      rw [List.length_cons]; omega
    have g3 : ∀ pl', (ro_ct b e R (n + 1) pl' (r :: d)).2 ≤ (ro_ct b e R (n + 1) pl' (r :: d)).1.length ∧ (ro_ct b e R (n + 1) pl' (r :: d)).1.length ≤ (r :: R).length + d.length := fun pl' => by
      have := ro_ct_le (b := b) (e := e) R (n + 1) pl' (r :: d) (by rw [List.length_cons]; omega)
      rw [List.length_cons] at this ⊢; omega
    rw [ro_ct]
    split <;> split
    · split <;> split <;> first | exact g1 _ | exact g2 _
    · exact g3 _
    · split <;> split <;> first | exact g1 _ | exact g2 _
    · exact g3 _
theorem ro_dv_len {p : Int32} : ∀ (L : List tt_R) (s : Int32), (ro_dv p L s).length ≤ L.length + 1
  | [], s => by show 0 ≤ _; omega
  | r :: L, s => by
    have := ro_dv_len (p := p) L (s + r.2.2.2)
    rw [ro_dv]
    split
    · rw [List.length_cons, List.length_cons]; omega
    · split
      · rw [List.length_cons, List.length_cons]; omega
      · rw [List.length_cons, List.length_cons, List.length_cons]; omega
def ro_le : List tt_R → Int32 → List tt_R
  | [], _ => []
  | r :: R, m => if r.1 = 0 then (if r.2.2.2 ≤ m then ro_le R (m - r.2.2.2) else R.reverse ++ [(r.1, r.2.1, r.2.2.1, r.2.2.2 - m)]) else ro_le R (m - r.2.2.2)
def ro_xs : List tt_R → List tt_R
  | [] => []
  | q :: L => (0, q.2.1, q.2.2.1, q.2.2.2) :: (1, -1, -1, 0) :: ro_xs L
def ro_xd : List tt_R → Int32 → List tt_R
  | [], _ => []
  | q :: L, pl => (pl, q.2.1, q.2.2.1, q.2.2.2) :: ro_xd L (pl + q.2.2.2)
section ROW2
variable {l : Launch} {G : mm_G} {h : mm_H} {tb : Nat → List tt_R} {c0 n0 : Nat} {cm : Nat → Int32} {cells metres : Int32}
theorem c_X1_putIn (hT : tt_S h tb c0 n0) (hD : h.1 16 = some (.inr (1, [.ref 17]))) (hL : (tb 3).length ≤ 20000) (a b c d : Int32) : mm_Ct l G mX1_putIn [.ref 16, .int a, .int b, .int c, .int d] h (mm_qv (fun h' => tt_S h' (va_up tb 3 (tb 3 ++ [(a, b, c, d)])) c0 n0 ∧ tt_F h h')) := by
  obtain ⟨v, hv⟩ := tS_row hT 3 (by decide)
  refine mm_ct (by decide +kernel) (by decide +kernel) rfl (by simp [Value.category]) (Nat.le_of_ble_eq_true rfl) rfl ?_
  refine ex_aload_n dX1_putIn_0 rfl ?_
  refine ex_getfield dX1_putIn_1 g_X1_12 hD rfl ?_
  refine ex_iload_n dX1_putIn_4 rfl ?_
  refine ex_iload_n dX1_putIn_5 rfl ?_
  refine ex_iload_n dX1_putIn_6 rfl ?_
  refine ex_iload dX1_putIn_7 rfl ?_
  refine cV_y dX1_putIn_9 (mm_kv i_X7_add l_X1_18) ⟨(Nat.le_of_ble_eq_true rfl), (Nat.le_of_ble_eq_true rfl)⟩ (tS_add hT 3 (by decide) hL _ _ _ _) rfl rfl hv (Nat.le_of_ble_eq_true rfl) rfl ?_
  rintro h1 ⟨q1, q2⟩
  refine ex_return dX1_putIn_12 rfl ?_
  exact ⟨rfl, q1, q2⟩
theorem c_X1_cutOut (hT : tt_S h tb c0 n0) (hD : h.1 16 = some (.inr (1, [.ref 17]))) (hL : (tb 3).length ≤ 20000) (a d : Int32) : mm_Ct l G mX1_cutOut [.ref 16, .int a, .int d] h (mm_qv (fun h' => tt_S h' (va_up tb 3 (tb 3 ++ [(a, -1, -1, d)])) c0 n0 ∧ tt_F h h')) := by
  obtain ⟨v, hv⟩ := tS_row hT 3 (by decide)
  refine mm_ct (by decide +kernel) (by decide +kernel) rfl (by simp [Value.category]) (Nat.le_of_ble_eq_true rfl) rfl ?_
  refine ex_aload_n dX1_cutOut_0 rfl ?_
  refine ex_getfield dX1_cutOut_1 g_X1_12 hD rfl ?_
  refine ex_iload_n dX1_cutOut_4 rfl ?_
  refine ex_iconst (v := (-1)) dX1_cutOut_5 (by decide) ?_
  refine ex_iconst (v := (-1)) dX1_cutOut_6 (by decide) ?_
  refine ex_iload_n dX1_cutOut_7 rfl ?_
  refine cV_y dX1_cutOut_8 (mm_kv i_X7_add l_X1_18) ⟨(Nat.le_of_ble_eq_true rfl), (Nat.le_of_ble_eq_true rfl)⟩ (tS_add hT 3 (by decide) hL _ _ _ _) rfl rfl hv (Nat.le_of_ble_eq_true rfl) rfl ?_
  rintro h1 ⟨q1, q2⟩
  refine ex_return dX1_cutOut_11 rfl ?_
  exact ⟨rfl, q1, q2⟩
theorem c_X5_addBare (hT : tt_S h tb c0 n0) (hO : h.1 13 = some (ro_C cells metres)) (hL : (tb 2).length ≤ 20000) (k : Int32) : mm_Ct l G mX5_addBare [.ref 13, .int k] h (mm_qv (fun h' => tt_S h' (va_up tb 2 (tb 2 ++ [(k, -1, -1, 0)])) c0 n0 ∧ tt_F h h')) := by
  obtain ⟨v, hv⟩ := tS_row hT 2 (by decide)
  refine mm_ct (by decide +kernel) (by decide +kernel) rfl (by simp [Value.category]) (Nat.le_of_ble_eq_true rfl) rfl ?_
  refine ex_aload_n dX5_addBare_0 rfl ?_
  refine ex_getfield dX5_addBare_1 g_X5_12 hO rfl ?_
  refine ex_iload_n dX5_addBare_4 rfl ?_
  refine ex_iconst (v := (-1)) dX5_addBare_5 (by decide) ?_
  refine ex_iconst (v := (-1)) dX5_addBare_6 (by decide) ?_
  refine ex_iconst (v := 0) dX5_addBare_7 (by decide) ?_
  refine cV_y dX5_addBare_8 (mm_kv i_X7_add l_X5_48) ⟨(Nat.le_of_ble_eq_true rfl), (Nat.le_of_ble_eq_true rfl)⟩ (tS_add hT 2 (by decide) hL _ _ _ _) rfl rfl hv (Nat.le_of_ble_eq_true rfl) rfl ?_
  rintro h1 ⟨q1, q2⟩
  refine ex_return dX5_addBare_11 rfl ?_
  exact ⟨rfl, q1, q2⟩
theorem c_X5_goesOn (hT : tt_S h tb c0 n0) (hO : h.1 13 = some (ro_C cells metres)) {i : Nat} {r : tt_R} (hr : (tb 2)[i]? = some r) (iv : Int32) (hiv : iv = nI i) (p f : Int32) : mm_Ct l G mX5_goesOn [.ref 13, .int iv, .int p, .int f] h (mm_ri (.int (bb (r.2.1 = p ∧ r.2.2.1 + r.2.2.2 = f))) h) := by
  obtain ⟨v, hv⟩ := tS_row hT 2 (by decide)
  refine mm_ct (by decide +kernel) (by decide +kernel) rfl (by simp [Value.category]) (Nat.le_of_ble_eq_true rfl) rfl ?_
  refine ex_aload_n dX5_goesOn_0 rfl ?_
  refine ex_getfield dX5_goesOn_1 g_X5_12 hO rfl ?_
  refine ex_iload_n dX5_goesOn_4 rfl ?_
  refine ex_iconst (v := 1) dX5_goesOn_5 (by decide) ?_
  refine cV_f dX5_goesOn_6 (mm_kv i_X7_get l_X5_44) ⟨(Nat.le_of_ble_eq_true rfl), (Nat.le_of_ble_eq_true rfl)⟩ (tS_getr hT 2 (by decide) rfl hr 1 _ rfl (by decide) _ hiv) rfl rfl hv (Nat.le_of_ble_eq_true rfl) rfl ?_
  refine ex_iload_n dX5_goesOn_9 rfl ?_
  refine ex_icmp_ne (tgt := 40) dX5_goesOn_10 (by decide) (fun c_10 => ?_) (fun c_10 => ?_)
  · refine ex_iconst (v := 0) dX5_goesOn_40 (by decide) ?_
    refine ex_ireturn dX5_goesOn_41 ⟨_, rfl, rfl⟩ ?_
    first | exact bq_t ⟨c_10, c_33⟩ | exact bq_f (fun z => c_10 z.1) | exact bq_f (fun z => c_33 z.2)
  · refine ex_aload_n dX5_goesOn_13 rfl ?_
    refine ex_getfield dX5_goesOn_14 g_X5_12 hO rfl ?_
    refine ex_iload_n dX5_goesOn_17 rfl ?_
    refine ex_iconst (v := 2) dX5_goesOn_18 (by decide) ?_
    refine cV_f dX5_goesOn_19 (mm_kv i_X7_get l_X5_44) ⟨(Nat.le_of_ble_eq_true rfl), (Nat.le_of_ble_eq_true rfl)⟩ (tS_getr hT 2 (by decide) rfl hr 2 _ rfl (by decide) _ hiv) rfl rfl hv (Nat.le_of_ble_eq_true rfl) rfl ?_
    refine ex_aload_n dX5_goesOn_22 rfl ?_
    refine ex_getfield dX5_goesOn_23 g_X5_12 hO rfl ?_
    refine ex_iload_n dX5_goesOn_26 rfl ?_
    refine ex_iconst (v := 3) dX5_goesOn_27 (by decide) ?_
    refine cV_f dX5_goesOn_28 (mm_kv i_X7_get l_X5_44) ⟨(Nat.le_of_ble_eq_true rfl), (Nat.le_of_ble_eq_true rfl)⟩ (tS_getr hT 2 (by decide) rfl hr 3 _ rfl (by decide) _ hiv) rfl rfl hv (Nat.le_of_ble_eq_true rfl) rfl ?_
    refine ex_iadd dX5_goesOn_31 ?_
    refine ex_iload_n dX5_goesOn_32 rfl ?_
    refine ex_icmp_ne (tgt := 40) dX5_goesOn_33 (by decide) (fun c_33 => ?_) (fun c_33 => ?_)
    · refine ex_iconst (v := 0) dX5_goesOn_40 (by decide) ?_
      refine ex_ireturn dX5_goesOn_41 ⟨_, rfl, rfl⟩ ?_
      first | exact bq_t ⟨c_10, c_33⟩ | exact bq_f (fun z => c_10 z.1) | exact bq_f (fun z => c_33 z.2)
    · refine ex_iconst (v := 1) dX5_goesOn_36 (by decide) ?_
      refine ex_goto (tgt := 41) dX5_goesOn_37 (by decide) ?_
      refine ex_ireturn dX5_goesOn_41 ⟨_, rfl, rfl⟩ ?_
      first | exact bq_t ⟨c_10, c_33⟩ | exact bq_f (fun z => c_10 z.1) | exact bq_f (fun z => c_33 z.2)
theorem c_X5_divideAt (hT : tt_S h tb c0 n0) (hO : h.1 13 = some (ro_C cells metres)) (hL : (tb 2).length ≤ 20000) (p : Int32) : mm_Ct l G mX5_divideAt [.ref 13, .int p] h (mm_qv (fun h' => tt_S h' (va_up tb 2 (ro_dv p (tb 2) 0)) c0 n0 ∧ tt_F h h')) := by
  obtain ⟨v, hv⟩ := tS_row hT 2 (by decide)
  have hlen := tS_len hT 2 (by decide)
  have key : ∀ (s : Int32) (x4 x5 x6 : Value), mm_Ex l G mX5_divideAt (mm_qv (fun h' => tt_S h' (va_up tb 2 ((tb 2).take 0 ++ ro_dv p (tb 2) s)) c0 n0 ∧ tt_F h h')) 4 [.ref 13, .int p, .int s, .int (nI 0), x4, x5, x6] [] h := by
    refine lp_fwd (tb 2) (fun i R => ∀ (s : Int32) (x4 x5 x6 : Value), mm_Ex l G mX5_divideAt (mm_qv (fun h' => tt_S h' (va_up tb 2 ((tb 2).take i ++ ro_dv p R s)) c0 n0 ∧ tt_F h h')) 4 [.ref 13, .int p, .int s, .int (nI i), x4, x5, x6] [] h) ?_ ?_
    · intro s x4 x5 x6
      refine ex_iload_n dX5_divideAt_4 rfl ?_
      refine ex_aload_n dX5_divideAt_5 rfl ?_
      refine ex_getfield dX5_divideAt_6 g_X5_12 hO rfl ?_
      refine ex_getfield dX5_divideAt_9 g_X5_41 hv rfl ?_
      refine ex_icmp_ge (tgt := 107) dX5_divideAt_12 (by decide) (fun _ => ?_) (fun z => absurd (Int32.le_refl _) z)
      refine ex_return dX5_divideAt_107 rfl ?_
      exact ⟨rfl, by rw [ro_dv, List.append_nil, List.take_length, va_id]; exact hT, tt_F.refl h⟩
    · intro i r R hr hR hi ih s x4 x5 x6
      have tk : (tb 2).take i ++ [r] = (tb 2).take (i + 1) := by rw [List.take_succ, hr]; rfl
      refine ex_iload_n dX5_divideAt_4 rfl ?_
      refine ex_aload_n dX5_divideAt_5 rfl ?_
      refine ex_getfield dX5_divideAt_6 g_X5_12 hO rfl ?_
      refine ex_getfield dX5_divideAt_9 g_X5_41 hv rfl ?_
      refine ex_icmp_ge (tgt := 107) dX5_divideAt_12 (by decide) (fun z => absurd z (nI_ge hi (by omega))) (fun _ => ?_)
      refine ex_aload_n dX5_divideAt_15 rfl ?_
      refine ex_getfield dX5_divideAt_16 g_X5_12 hO rfl ?_
      refine ex_iload_n dX5_divideAt_19 rfl ?_
      refine ex_iconst (v := 3) dX5_divideAt_20 (by decide) ?_
      refine cV_f dX5_divideAt_21 (mm_kv i_X7_get l_X5_44) ⟨(Nat.le_of_ble_eq_true rfl), (Nat.le_of_ble_eq_true rfl)⟩ (tS_getr hT 2 (by decide) rfl hr 3 _ rfl (by decide) _ rfl) rfl rfl hv (Nat.le_of_ble_eq_true rfl) rfl ?_
      refine ex_istore dX5_divideAt_24 (Nat.le_of_ble_eq_true rfl) ?_
      refine ex_iload_n dX5_divideAt_26 rfl ?_
      refine ex_iload_n dX5_divideAt_27 rfl ?_
      refine ex_isub dX5_divideAt_28 ?_
      refine ex_istore dX5_divideAt_29 (Nat.le_of_ble_eq_true rfl) ?_
      refine ex_iload dX5_divideAt_31 rfl ?_
      refine ex_if_le (tgt := 96) dX5_divideAt_33 (by decide) (fun c_33 => ?_) (fun c_33 => ?_)
      · refine ex_iload_n dX5_divideAt_96 rfl ?_
        refine ex_iload dX5_divideAt_97 rfl ?_
        refine ex_iadd dX5_divideAt_99 ?_
        refine ex_istore_n dX5_divideAt_100 (Nat.le_of_ble_eq_true rfl) ?_
        refine ex_iinc (d := 1) dX5_divideAt_101 rfl (by decide) ?_
        refine ex_goto (tgt := 4) dX5_divideAt_104 (by decide) ?_
        rw [nI_1, ro_dv]; first | (rw [if_pos c_33, List.append_cons, tk]; exact ih _ _ _ _) | (rw [if_neg c_33, if_pos (show r.2.2.2 ≤ p - s from c_40), List.append_cons, tk]; exact ih _ _ _ _)
      · refine ex_iload dX5_divideAt_36 rfl ?_
        refine ex_iload dX5_divideAt_38 rfl ?_
        refine ex_icmp_ge (tgt := 96) dX5_divideAt_40 (by decide) (fun c_40 => ?_) (fun c_40 => ?_)
        · refine ex_iload_n dX5_divideAt_96 rfl ?_
          refine ex_iload dX5_divideAt_97 rfl ?_
          refine ex_iadd dX5_divideAt_99 ?_
          refine ex_istore_n dX5_divideAt_100 (Nat.le_of_ble_eq_true rfl) ?_
          refine ex_iinc (d := 1) dX5_divideAt_101 rfl (by decide) ?_
          refine ex_goto (tgt := 4) dX5_divideAt_104 (by decide) ?_
          rw [nI_1, ro_dv]; first | (rw [if_pos c_33, List.append_cons, tk]; exact ih _ _ _ _) | (rw [if_neg c_33, if_pos (show r.2.2.2 ≤ p - s from c_40), List.append_cons, tk]; exact ih _ _ _ _)
        · refine ex_aload_n dX5_divideAt_43 rfl ?_
          refine ex_getfield dX5_divideAt_44 g_X5_12 hO rfl ?_
          refine ex_iload_n dX5_divideAt_47 rfl ?_
          refine ex_iconst (v := 2) dX5_divideAt_48 (by decide) ?_
          refine cV_f dX5_divideAt_49 (mm_kv i_X7_get l_X5_44) ⟨(Nat.le_of_ble_eq_true rfl), (Nat.le_of_ble_eq_true rfl)⟩ (tS_getr hT 2 (by decide) rfl hr 2 _ rfl (by decide) _ rfl) rfl rfl hv (Nat.le_of_ble_eq_true rfl) rfl ?_
          refine ex_istore dX5_divideAt_52 (Nat.le_of_ble_eq_true rfl) ?_
          refine ex_aload_n dX5_divideAt_54 rfl ?_
          refine ex_getfield dX5_divideAt_55 g_X5_12 hO rfl ?_
          refine ex_iload_n dX5_divideAt_58 rfl ?_
          refine ex_iconst (v := 3) dX5_divideAt_59 (by decide) ?_
          refine ex_iload dX5_divideAt_60 rfl ?_
          refine cV_y dX5_divideAt_62 (mm_kv i_X7_set l_X5_66) ⟨(Nat.le_of_ble_eq_true rfl), (Nat.le_of_ble_eq_true rfl)⟩ (tS_set hT 2 (by decide) i r hr _ rfl 3 _ rfl (by decide) _) rfl rfl hv (Nat.le_of_ble_eq_true rfl) rfl ?_
          rintro h1 ⟨q1, q2⟩
          obtain ⟨w, hw⟩ := tS_row q1 2 (by decide)
          have hr1 : (va_up tb 2 ((tb 2).set i (r.1, r.2.1, r.2.2.1, p - s)) 2)[i]? = some (r.1, r.2.1, r.2.2.1, p - s) := List.getElem?_set_self hi
          refine ex_aload_n dX5_divideAt_65 rfl ?_
          refine ex_getfield dX5_divideAt_66 g_X5_12 ((q2 13 rfl).trans hO) rfl ?_
          refine ex_iload_n dX5_divideAt_69 rfl ?_
          refine ex_iconst (v := 1) dX5_divideAt_70 (by decide) ?_
          refine ex_iadd dX5_divideAt_71 ?_
          refine ex_iconst (v := 0) dX5_divideAt_72 (by decide) ?_
          refine ex_aload_n dX5_divideAt_73 rfl ?_
          refine ex_getfield dX5_divideAt_74 g_X5_12 ((q2 13 rfl).trans hO) rfl ?_
          refine ex_iload_n dX5_divideAt_77 rfl ?_
          refine ex_iconst (v := 1) dX5_divideAt_78 (by decide) ?_
          refine cV_f dX5_divideAt_79 (mm_kv i_X7_get l_X5_44) ⟨(Nat.le_of_ble_eq_true rfl), (Nat.le_of_ble_eq_true rfl)⟩ (tS_getr q1 2 (by decide) (L := (tb 2).set i (r.1, r.2.1, r.2.2.1, p - s)) rfl hr1 1 _ rfl (by decide) _ rfl) rfl rfl hw (Nat.le_of_ble_eq_true rfl) rfl ?_
          refine ex_iload dX5_divideAt_82 rfl ?_
          refine ex_iload dX5_divideAt_84 rfl ?_
          refine ex_iadd dX5_divideAt_86 ?_
          refine ex_iload dX5_divideAt_87 rfl ?_
          refine ex_iload dX5_divideAt_89 rfl ?_
          refine ex_isub dX5_divideAt_91 ?_
          refine cV_y dX5_divideAt_92 (mm_kv i_X7_insert l_X5_90) ⟨(Nat.le_of_ble_eq_true rfl), (Nat.le_of_ble_eq_true rfl)⟩ (tS_insert q1 2 (by decide) (by show ((tb 2).set i _).length ≤ 20000; rw [List.length_set]; exact hL) (i + 1) (by show i + 1 ≤ ((tb 2).set i _).length; rw [List.length_set]; omega) _ (nI_1 i) _ _ _ _) rfl rfl hw (Nat.le_of_ble_eq_true rfl) rfl ?_
          rintro h2 ⟨q3, q4⟩
          rw [va_uu] at q3
          refine ex_return dX5_divideAt_95 rfl ?_
          rw [ro_dv, if_neg c_33, if_neg (show ¬ r.2.2.2 ≤ p - s from c_40)]; exact ⟨rfl, by rw [← ls_si hi hR]; exact q3, q2.trans q4⟩
  refine mm_ct (by decide +kernel) (by decide +kernel) rfl (by simp [Value.category]) (Nat.le_of_ble_eq_true rfl) rfl ?_
  refine ex_iconst (v := 0) dX5_divideAt_0 (by decide) ?_
  refine ex_istore_n dX5_divideAt_1 (Nat.le_of_ble_eq_true rfl) ?_
  refine ex_iconst (v := 0) dX5_divideAt_2 (by decide) ?_
  refine ex_istore_n dX5_divideAt_3 (Nat.le_of_ble_eq_true rfl) ?_
  exact key 0 _ _ _
end ROW2
