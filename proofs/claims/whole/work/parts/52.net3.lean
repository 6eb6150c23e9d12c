def ne_off (d : Int32) (r : tt_R) : tt_R := if r.2.2.2 &&& d = 0 then r else (r.1, r.2.1, r.2.2.1, 0)
def ne_cd (L : List tt_R) (d : Int32) : List tt_R → List tt_R → (Nat → Int32) → Int32 → List tt_R × (Nat → Int32) × Int32
  | [], P, st, n => (P, st, n)
  | q :: R, P, st, n => if q.2.2.2 = 0 then ne_cd L d R (P ++ [(q.1, q.2.1, q.2.2.1, ne_w L (P ++ q :: R) st d q)]) (ne_cs L st q.2.1 (ne_us (P ++ q :: R) q.2.2.1 d L 0 0)) (if ne_w L (P ++ q :: R) st d q = 0 then n + 1 else n) else ne_cd L d R (P ++ [q]) st n
section NET3
variable {l : Launch} {G : mm_G} {h : mm_H} {tb : Nat → List tt_R} {c0 n0 : Nat} {st : Nat → Int32}
theorem c_X4_bestWay (hT : tt_S h tb c0 n0) (nO : h.1 23 = some (.inr (4, [.ref 24, .ref 26, .ref 28]))) (sO : h.1 28 = some (.inl (.int, 4, .inl st))) (b u : Int32) : mm_Ct l G mX4_bestWay [.ref 23, .int b, .int u] h (mm_ri (.int (ne_bs (tb 5) u st b)) h) := by
  have hlen := tS_len hT 5 (by decide)
  obtain ⟨v, hv⟩ := tS_row hT 5 (by decide)
  have hex : ∀ (Q : mm_R → mm_H → Prop) (i : Nat) (f s lf nx : Int32) (x8 : Value), ¬ nx = -1 → (∀ x7, mm_Ex l G mX4_bestWay Q 103 [.ref 23, .int b, .int u, .int f, .int s, .int lf, .int nx, x7, x8] [] h) → mm_Ex l G mX4_bestWay Q 29 [.ref 23, .int b, .int u, .int f, .int s, .int lf, .int nx, .int (nI i), x8] [] h := by
    intro Q i f s lf nx x8 hnx hk
    refine ex_iload dX4_bestWay_29 rfl ?_
    refine ex_aload_n dX4_bestWay_31 rfl ?_
    refine ex_getfield dX4_bestWay_32 g_X4_12 nO rfl ?_
    refine ex_getfield dX4_bestWay_35 g_X4_33 hv rfl ?_
    refine ex_icmp_ge (tgt := 103) dX4_bestWay_38 (by decide) (fun c_38 => ?_) (fun c_38 => ?_)
    · exact hk _
    · refine ex_iload dX4_bestWay_41 rfl ?_
      refine ex_iconst (v := (-1)) dX4_bestWay_43 (by decide) ?_
      refine ex_icmp_ne (tgt := 103) dX4_bestWay_44 (by decide) (fun _ => ?_) (fun z => absurd z hnx)
      exact hk _
  have inner : ∀ (Q : mm_R → mm_H → Prop) (s lf f : Int32) (x8 : Value), (∀ x7 x8, mm_Ex l G mX4_bestWay Q 103 [.ref 23, .int b, .int u, .int (ne_bi u s st lf (tb 5) 0 f).2, .int s, .int lf, .int (ne_bi u s st lf (tb 5) 0 f).1, x7, x8] [] h) → mm_Ex l G mX4_bestWay Q 29 [.ref 23, .int b, .int u, .int f, .int s, .int lf, .int (-1), .int (nI 0), x8] [] h := by
    intro Q s lf
    refine lp_fwd (tb 5) (fun i R => ∀ (f : Int32) (x8 : Value), (∀ x7 x8, mm_Ex l G mX4_bestWay Q 103 [.ref 23, .int b, .int u, .int (ne_bi u s st lf R i f).2, .int s, .int lf, .int (ne_bi u s st lf R i f).1, x7, x8] [] h) → mm_Ex l G mX4_bestWay Q 29 [.ref 23, .int b, .int u, .int f, .int s, .int lf, .int (-1), .int (nI i), x8] [] h) ?_ ?_
    · intro f x8 hk
      refine ex_iload dX4_bestWay_29 rfl ?_
      refine ex_aload_n dX4_bestWay_31 rfl ?_
      refine ex_getfield dX4_bestWay_32 g_X4_12 nO rfl ?_
      refine ex_getfield dX4_bestWay_35 g_X4_33 hv rfl ?_
      refine ex_icmp_ge (tgt := 103) dX4_bestWay_38 (by decide) (fun _ => ?_) (fun z => absurd (Int32.le_refl _) z)
      exact hk _ _
    · intro i r R hr hR hi ih f x8 hk
      refine ex_iload dX4_bestWay_29 rfl ?_
      refine ex_aload_n dX4_bestWay_31 rfl ?_
      refine ex_getfield dX4_bestWay_32 g_X4_12 nO rfl ?_
      refine ex_getfield dX4_bestWay_35 g_X4_33 hv rfl ?_
      refine ex_icmp_ge (tgt := 103) dX4_bestWay_38 (by decide) (fun z => absurd z (nI_ge hi (by omega))) (fun _ => ?_)
      refine ex_iload dX4_bestWay_41 rfl ?_
      refine ex_iconst (v := (-1)) dX4_bestWay_43 (by decide) ?_
      refine ex_icmp_ne (tgt := 103) dX4_bestWay_44 (by decide) (fun z => absurd rfl z) (fun _ => ?_)
      refine ex_aload_n dX4_bestWay_47 rfl ?_
      refine ex_iload dX4_bestWay_48 rfl ?_
      refine ex_iload dX4_bestWay_50 rfl ?_
      refine cV_f dX4_bestWay_52 (mm_kv i_X4_otherEnd l_X4_73) ⟨(Nat.le_of_ble_eq_true rfl), (Nat.le_of_ble_eq_true rfl)⟩ (c_X4_otherEnd hT nO hr _) rfl rfl nO (Nat.le_of_ble_eq_true rfl) rfl ?_
      refine ex_istore dX4_bestWay_55 (Nat.le_of_ble_eq_true rfl) ?_
      refine ex_iload_n dX4_bestWay_57 rfl ?_
      refine ex_iload dX4_bestWay_58 rfl ?_
      refine ex_ishr dX4_bestWay_60 ?_
      refine ex_iconst (v := 1) dX4_bestWay_61 (by decide) ?_
      refine ex_iand dX4_bestWay_62 ?_
      refine ex_iconst (v := 1) dX4_bestWay_63 (by decide) ?_
      refine ex_icmp_ne (tgt := 97) dX4_bestWay_64 (by decide) (fun c_64 => ?_) (fun c_64 => ?_)
      · refine ex_iinc (d := 1) dX4_bestWay_97 rfl (by decide) ?_
        refine ex_goto (tgt := 29) dX4_bestWay_100 (by decide) ?_
        rw [nI_1]; first | exact ih _ _ (fun x7 x8 => by have := hk x7 x8; rw [ne_bi, if_neg (show ¬ ne_b u i = 1 from c_64)] at this; exact this) | exact ih _ _ (fun x7 x8 => by have := hk x7 x8; rw [ne_bi, if_pos (show ne_b u i = 1 from c_64), if_pos c_70] at this; exact this) | exact ih _ _ (fun x7 x8 => by have := hk x7 x8; rw [ne_bi, if_pos (show ne_b u i = 1 from c_64), if_neg c_70, if_neg c_83] at this; exact this) | exact hex Q _ _ _ _ _ _ c_70 (fun x7 => by have := hk x7 (.int (ne_oe r s)); rw [ne_bi, if_pos (show ne_b u i = 1 from c_64), if_neg c_70, if_pos c_83] at this; exact this)
      · refine ex_iload dX4_bestWay_67 rfl ?_
        refine ex_iconst (v := (-1)) dX4_bestWay_69 (by decide) ?_
        refine ex_icmp_eq (tgt := 97) dX4_bestWay_70 (by decide) (fun c_70 => ?_) (fun c_70 => ?_)
        · refine ex_iinc (d := 1) dX4_bestWay_97 rfl (by decide) ?_
          refine ex_goto (tgt := 29) dX4_bestWay_100 (by decide) ?_
          rw [nI_1]; first | exact ih _ _ (fun x7 x8 => by have := hk x7 x8; rw [ne_bi, if_neg (show ¬ ne_b u i = 1 from c_64)] at this; exact this) | exact ih _ _ (fun x7 x8 => by have := hk x7 x8; rw [ne_bi, if_pos (show ne_b u i = 1 from c_64), if_pos c_70] at this; exact this) | exact ih _ _ (fun x7 x8 => by have := hk x7 x8; rw [ne_bi, if_pos (show ne_b u i = 1 from c_64), if_neg c_70, if_neg c_83] at this; exact this) | exact hex Q _ _ _ _ _ _ c_70 (fun x7 => by have := hk x7 (.int (ne_oe r s)); rw [ne_bi, if_pos (show ne_b u i = 1 from c_64), if_neg c_70, if_pos c_83] at this; exact this)
        · refine ex_aload_n dX4_bestWay_73 rfl ?_
          refine ex_iload dX4_bestWay_74 rfl ?_
          refine cV_f dX4_bestWay_76 (mm_kv i_X4_stepsFrom l_X4_70) ⟨(Nat.le_of_ble_eq_true rfl), (Nat.le_of_ble_eq_true rfl)⟩ (c_X4_stepsFrom nO sO _) rfl rfl nO (Nat.le_of_ble_eq_true rfl) rfl ?_
          refine ex_iload dX4_bestWay_79 rfl ?_
          refine ex_iconst (v := 1) dX4_bestWay_81 (by decide) ?_
          refine ex_isub dX4_bestWay_82 ?_
          refine ex_icmp_ne (tgt := 97) dX4_bestWay_83 (by decide) (fun c_83 => ?_) (fun c_83 => ?_)
          · refine ex_iinc (d := 1) dX4_bestWay_97 rfl (by decide) ?_
            refine ex_goto (tgt := 29) dX4_bestWay_100 (by decide) ?_
            rw [nI_1]; first | exact ih _ _ (fun x7 x8 => by have := hk x7 x8; rw [ne_bi, if_neg (show ¬ ne_b u i = 1 from c_64)] at this; exact this) | exact ih _ _ (fun x7 x8 => by have := hk x7 x8; rw [ne_bi, if_pos (show ne_b u i = 1 from c_64), if_pos c_70] at this; exact this) | exact ih _ _ (fun x7 x8 => by have := hk x7 x8; rw [ne_bi, if_pos (show ne_b u i = 1 from c_64), if_neg c_70, if_neg c_83] at this; exact this) | exact hex Q _ _ _ _ _ _ c_70 (fun x7 => by have := hk x7 (.int (ne_oe r s)); rw [ne_bi, if_pos (show ne_b u i = 1 from c_64), if_neg c_70, if_pos c_83] at this; exact this)
          · refine ex_iload dX4_bestWay_86 rfl ?_
            refine ex_istore dX4_bestWay_88 (Nat.le_of_ble_eq_true rfl) ?_
            refine ex_iload_n dX4_bestWay_90 rfl ?_
            refine ex_iconst (v := 1) dX4_bestWay_91 (by decide) ?_
            refine ex_iload dX4_bestWay_92 rfl ?_
            refine ex_ishl dX4_bestWay_94 ?_
            refine ex_ior dX4_bestWay_95 ?_
            refine ex_istore_n dX4_bestWay_96 (Nat.le_of_ble_eq_true rfl) ?_
            refine ex_iinc (d := 1) dX4_bestWay_97 rfl (by decide) ?_
            refine ex_goto (tgt := 29) dX4_bestWay_100 (by decide) ?_
            rw [nI_1]; first | exact ih _ _ (fun x7 x8 => by have := hk x7 x8; rw [ne_bi, if_neg (show ¬ ne_b u i = 1 from c_64)] at this; exact this) | exact ih _ _ (fun x7 x8 => by have := hk x7 x8; rw [ne_bi, if_pos (show ne_b u i = 1 from c_64), if_pos c_70] at this; exact this) | exact ih _ _ (fun x7 x8 => by have := hk x7 x8; rw [ne_bi, if_pos (show ne_b u i = 1 from c_64), if_neg c_70, if_neg c_83] at this; exact this) | exact hex Q _ _ _ _ _ _ c_70 (fun x7 => by have := hk x7 (.int (ne_oe r s)); rw [ne_bi, if_pos (show ne_b u i = 1 from c_64), if_neg c_70, if_pos c_83] at this; exact this)
  have outer : ∀ (k : Nat) (s f : Int32) (x6 x7 x8 : Value), k ≤ 3 → mm_Ex l G mX4_bestWay (mm_ri (.int (ne_bw (tb 5) u st k s f)) h) 12 [.ref 23, .int b, .int u, .int f, .int s, .int (nI k), x6, x7, x8] [] h := by
    intro k
    induction k with
    | zero =>
      intro s f x6 x7 x8 hk
      refine ex_iload dX4_bestWay_12 rfl ?_
      refine ex_if_le (tgt := 113) dX4_bestWay_14 (by decide) (fun _ => ?_) (fun z => absurd (Int32.le_refl _) z)
      refine ex_iload_n dX4_bestWay_113 rfl ?_
      refine ex_ireturn dX4_bestWay_114 ⟨_, rfl, rfl⟩ ?_
      exact ⟨rfl, rfl⟩
    | succ k ih =>
      intro s f x6 x7 x8 hk
      refine ex_iload dX4_bestWay_12 rfl ?_
      refine ex_if_le (tgt := 113) dX4_bestWay_14 (by decide) (fun z => absurd z (nI_nle (by omega) (by omega))) (fun _ => ?_)
      refine ex_iload dX4_bestWay_17 rfl ?_
      refine ex_iconst (v := 4) dX4_bestWay_19 (by decide) ?_
      refine ex_icmp_ge (tgt := 113) dX4_bestWay_20 (by decide) (fun z => absurd z (nI_ge (b := 4) (by omega) (by decide))) (fun _ => ?_)
      refine ex_iconst (v := (-1)) dX4_bestWay_23 (by decide) ?_
      refine ex_istore dX4_bestWay_24 (Nat.le_of_ble_eq_true rfl) ?_
      refine ex_iconst (v := 0) dX4_bestWay_26 (by decide) ?_
      refine ex_istore dX4_bestWay_27 (Nat.le_of_ble_eq_true rfl) ?_
      refine inner _ _ _ _ _ (fun x7 x8 => ?_)
      refine ex_iload dX4_bestWay_103 rfl ?_
      refine ex_istore dX4_bestWay_105 (Nat.le_of_ble_eq_true rfl) ?_
      refine ex_iinc (d := (-1)) dX4_bestWay_107 rfl (by decide) ?_
      refine ex_goto (tgt := 12) dX4_bestWay_110 (by decide) ?_
      rw [nI_m2, nI_m1]; exact ih _ _ _ _ _ (by omega)
  refine mm_ct (by decide +kernel) (by decide +kernel) rfl (by simp [Value.category]) (Nat.le_of_ble_eq_true rfl) rfl ?_
  refine ex_iconst (v := 0) dX4_bestWay_0 (by decide) ?_
  refine ex_istore_n dX4_bestWay_1 (Nat.le_of_ble_eq_true rfl) ?_
  refine ex_iload_n dX4_bestWay_2 rfl ?_
  refine ex_istore dX4_bestWay_3 (Nat.le_of_ble_eq_true rfl) ?_
  refine ex_aload_n dX4_bestWay_5 rfl ?_
  refine ex_iload_n dX4_bestWay_6 rfl ?_
  refine cV_f dX4_bestWay_7 (mm_kv i_X4_stepsFrom l_X4_70) ⟨(Nat.le_of_ble_eq_true rfl), (Nat.le_of_ble_eq_true rfl)⟩ (c_X4_stepsFrom nO sO _) rfl rfl nO (Nat.le_of_ble_eq_true rfl) rfl ?_
  refine ex_istore dX4_bestWay_10 (Nat.le_of_ble_eq_true rfl) ?_
  skip
  unfold ne_bs
  by_cases hz : ne_sf st b ≤ 0
  · rw [if_pos hz]
    refine ex_iload dX4_bestWay_12 rfl ?_
    refine ex_if_le (tgt := 113) dX4_bestWay_14 (by decide) (fun _ => ?_) (fun z => absurd hz z)
    refine ex_iload_n dX4_bestWay_113 rfl ?_
    refine ex_ireturn dX4_bestWay_114 ⟨_, rfl, rfl⟩ ?_
    exact ⟨rfl, rfl⟩
  by_cases h4 : 4 ≤ ne_sf st b
  · rw [if_neg hz, if_pos h4]
    refine ex_iload dX4_bestWay_12 rfl ?_
    refine ex_if_le (tgt := 113) dX4_bestWay_14 (by decide) (fun z => absurd z hz) (fun _ => ?_)
    refine ex_iload dX4_bestWay_17 rfl ?_
    refine ex_iconst (v := 4) dX4_bestWay_19 (by decide) ?_
    refine ex_icmp_ge (tgt := 113) dX4_bestWay_20 (by decide) (fun _ => ?_) (fun z => absurd h4 z)
    refine ex_iload_n dX4_bestWay_113 rfl ?_
    refine ex_ireturn dX4_bestWay_114 ⟨_, rfl, rfl⟩ ?_
    exact ⟨rfl, rfl⟩
  rw [if_neg hz, if_neg h4]
  obtain ⟨k, hk, he⟩ := nI_of (x := ne_sf st b) (fun z => hz (Int32.le_of_lt z))
  rw [he] at h4 ⊢
  rw [nI_clamp hk]
  exact outer k _ _ _ _ _ (by have := (nI_ltI hk (by decide : (4 : Nat) < 2 ^ 31)).mp (Int32.not_le.mp h4); omega)
theorem c_X4_carry {S : se_T} {c : ca_T} {ho ro : (Nat → Int32) × Int32 × Int32} {ow : Int32 × Int32 × Int32 × Int32 × Int32 × Int32} (hP : cl_P h tb (S, c, ho, ro, st, ow) c0 n0) {j : Nat} {q : tt_R} (hq : (tb 6)[j]? = some q) (d : Int32) : mm_Ct l G mX4_carry [.ref 23, .int (nI j), .int d] h (mm_qv (fun h' => cl_P h' (va_up tb 6 ((tb 6).set j (q.1, q.2.1, q.2.2.1, ne_w (tb 5) (tb 6) st d q))) (S, c, ho, ro, ne_cs (tb 5) st q.2.1 (ne_us (tb 6) q.2.2.1 d (tb 5) 0 0), ow) c0 n0 ∧ cl_F h h')) := by
  obtain ⟨v, hv⟩ := tS_row hP.1 6 (by decide)
  have w1 := cs_28 hP (ne_cs (tb 5) st q.2.1 (ne_us (tb 6) q.2.2.1 d (tb 5) 0 0))
  obtain ⟨w, hw⟩ := tS_row w1.1.1 6 (by decide)
  refine mm_ct (by decide +kernel) (by decide +kernel) rfl (by simp [Value.category]) (Nat.le_of_ble_eq_true rfl) rfl ?_
  refine ex_aload_n dX4_carry_0 rfl ?_
  refine ex_aload_n dX4_carry_1 rfl ?_
  refine ex_getfield dX4_carry_2 g_X4_18 (cP_nw hP) rfl ?_
  refine ex_iload_n dX4_carry_5 rfl ?_
  refine ex_iconst (v := 2) dX4_carry_6 (by decide) ?_
  refine cV_f dX4_carry_7 (mm_kv i_X7_get l_X4_29) ⟨(Nat.le_of_ble_eq_true rfl), (Nat.le_of_ble_eq_true rfl)⟩ (tS_getr hP.1 6 (by decide) rfl hq 2 _ rfl (by decide) _ rfl) rfl rfl hv (Nat.le_of_ble_eq_true rfl) rfl ?_
  refine ex_iload_n dX4_carry_10 rfl ?_
  refine cV_f dX4_carry_11 (mm_kv i_X4_usableLinks l_X4_49) ⟨(Nat.le_of_ble_eq_true rfl), (Nat.le_of_ble_eq_true rfl)⟩ (c_X4_usableLinks hP.1 (cP_nw hP) _ _) rfl rfl (cP_nw hP) (Nat.le_of_ble_eq_true rfl) rfl ?_
  refine ex_istore_n dX4_carry_14 (Nat.le_of_ble_eq_true rfl) ?_
  refine ex_aload_n dX4_carry_15 rfl ?_
  refine ex_aload_n dX4_carry_16 rfl ?_
  refine ex_getfield dX4_carry_17 g_X4_18 (cP_nw hP) rfl ?_
  refine ex_iload_n dX4_carry_20 rfl ?_
  refine ex_iconst (v := 1) dX4_carry_21 (by decide) ?_
  refine cV_f dX4_carry_22 (mm_kv i_X7_get l_X4_29) ⟨(Nat.le_of_ble_eq_true rfl), (Nat.le_of_ble_eq_true rfl)⟩ (tS_getr hP.1 6 (by decide) rfl hq 1 _ rfl (by decide) _ rfl) rfl rfl hv (Nat.le_of_ble_eq_true rfl) rfl ?_
  refine ex_iload_n dX4_carry_25 rfl ?_
  refine cV_v dX4_carry_26 (mm_kv i_X4_countSteps l_X4_52) ⟨(Nat.le_of_ble_eq_true rfl), (Nat.le_of_ble_eq_true rfl)⟩ (c_X4_countSteps hP.1 (cP_nw hP) (cP_st hP) _ _) rfl rfl (cP_nw hP) (Nat.le_of_ble_eq_true rfl) rfl ?_
  refine ex_aload_n dX4_carry_29 rfl ?_
  refine ex_getfield dX4_carry_30 g_X4_18 (cP_nw w1.1) rfl ?_
  refine ex_iload_n dX4_carry_33 rfl ?_
  refine ex_iconst (v := 3) dX4_carry_34 (by decide) ?_
  refine ex_aload_n dX4_carry_35 rfl ?_
  refine ex_aload_n dX4_carry_36 rfl ?_
  refine ex_getfield dX4_carry_37 g_X4_18 (cP_nw w1.1) rfl ?_
  refine ex_iload_n dX4_carry_40 rfl ?_
  refine ex_iconst (v := 0) dX4_carry_41 (by decide) ?_
  refine cV_f dX4_carry_42 (mm_kv i_X7_get l_X4_29) ⟨(Nat.le_of_ble_eq_true rfl), (Nat.le_of_ble_eq_true rfl)⟩ (tS_getr w1.1.1 6 (by decide) rfl hq 0 _ rfl (by decide) _ rfl) rfl rfl hw (Nat.le_of_ble_eq_true rfl) rfl ?_
  refine ex_iload_n dX4_carry_45 rfl ?_
  refine cV_f dX4_carry_46 (mm_kv i_X4_bestWay l_X4_55) ⟨(Nat.le_of_ble_eq_true rfl), (Nat.le_of_ble_eq_true rfl)⟩ (c_X4_bestWay w1.1.1 (cP_nw w1.1) (cP_st w1.1) _ _) rfl rfl (cP_nw w1.1) (Nat.le_of_ble_eq_true rfl) rfl ?_
  refine cV_y dX4_carry_49 (mm_kv i_X7_set l_X4_41) ⟨(Nat.le_of_ble_eq_true rfl), (Nat.le_of_ble_eq_true rfl)⟩ (tS_set w1.1.1 6 (by decide) j q hq _ rfl 3 _ rfl (by decide) _) rfl rfl hw (Nat.le_of_ble_eq_true rfl) rfl ?_
  rintro h2 ⟨q2, f2⟩
  refine ex_return dX4_carry_52 rfl ?_
  exact ⟨rfl, cP_tab w1.1 q2 f2, w1.2.trans (cl_Ft f2)⟩
theorem c_X4_takeOff (hT : tt_S h tb c0 n0) (nO : h.1 23 = some (.inr (4, [.ref 24, .ref 26, .ref 28]))) (d : Int32) : mm_Ct l G mX4_takeOff [.ref 23, .int d] h (mm_qv (fun h' => tt_S h' (va_up tb 6 ((tb 6).map (ne_off d))) c0 n0 ∧ tt_F h h')) := by
  have key : ∀ (R D : List tt_R) (h1 : mm_H), tt_S h1 (va_up tb 6 (D ++ R)) c0 n0 → tt_F h h1 → mm_Ex l G mX4_takeOff (mm_qv (fun h' => tt_S h' (va_up tb 6 (D ++ R.map (ne_off d))) c0 n0 ∧ tt_F h h')) 2 [.ref 23, .int d, .int (nI D.length)] [] h1 := by
    intro R
    induction R with
    | nil =>
      intro D h1 q1 f1
      obtain ⟨v, hv⟩ := tS_row q1 6 (by decide)
      replace hv : h1.1 (tp 6) = some (.inr (7, [.ref v, .int (nI (D ++ []).length)])) := hv
      refine ex_iload_n dX4_takeOff_2 rfl ?_
      refine ex_aload_n dX4_takeOff_3 rfl ?_
      refine ex_getfield dX4_takeOff_4 g_X4_18 ((f1 23 rfl).trans nO) rfl ?_
      refine ex_getfield dX4_takeOff_7 g_X4_33 hv rfl ?_
      refine ex_icmp_ge (tgt := 39) dX4_takeOff_10 (by decide) (fun _ => ?_) (fun z => absurd (by rw [List.append_nil]; exact Int32.le_refl _) z)
      refine ex_return dX4_takeOff_39 rfl ?_
      exact ⟨rfl, q1, f1⟩
    | cons r R ih =>
      intro D h1 q1 f1
      obtain ⟨v, hv⟩ := tS_row q1 6 (by decide)
      have hl : (D ++ r :: R).length < 2 ^ 31 := Nat.lt_of_le_of_lt (tS_len q1 6 (by decide)) (by decide)
      replace hv : h1.1 (tp 6) = some (.inr (7, [.ref v, .int (nI (D ++ r :: R).length)])) := hv
      have hgv : tt_g (va_up tb 6 (D ++ r :: R) 6) (nI D.length) 3 = r.2.2.2 := tt_g_nI (show (D ++ r :: R)[D.length]? = some r from ls_mg) (by rw [List.length_append, List.length_cons] at hl; omega)
      refine ex_iload_n dX4_takeOff_2 rfl ?_
      refine ex_aload_n dX4_takeOff_3 rfl ?_
      refine ex_getfield dX4_takeOff_4 g_X4_18 ((f1 23 rfl).trans nO) rfl ?_
      refine ex_getfield dX4_takeOff_7 g_X4_33 hv rfl ?_
      refine ex_icmp_ge (tgt := 39) dX4_takeOff_10 (by decide) (fun z => absurd z (nI_ge (by rw [List.length_append, List.length_cons]; omega) hl)) (fun _ => ?_)
      refine ex_aload_n dX4_takeOff_13 rfl ?_
      refine ex_iload_n dX4_takeOff_14 rfl ?_
      refine cV_f dX4_takeOff_15 (mm_kv i_X4_wayOf l_X4_37) ⟨(Nat.le_of_ble_eq_true rfl), (Nat.le_of_ble_eq_true rfl)⟩ (c_X4_wayOf q1 ((f1 23 rfl).trans nO) _) rfl rfl ((f1 23 rfl).trans nO) (Nat.le_of_ble_eq_true rfl) rfl ?_
      rw [hgv]
      refine ex_iload_n dX4_takeOff_18 rfl ?_
      refine ex_iand dX4_takeOff_19 ?_
      refine ex_if_eq (tgt := 33) dX4_takeOff_20 (by decide) (fun c_20 => ?_) (fun c_20 => ?_)
      · refine ex_iinc (d := 1) dX4_takeOff_33 rfl (by decide) ?_
        refine ex_goto (tgt := 2) dX4_takeOff_36 (by decide) ?_
        rw [nI_1, List.map_cons, List.append_cons]; first | (rw [show ne_off d r = r from if_pos c_20, show D.length + 1 = (D ++ [r]).length by simp]; exact ih _ _ (by rw [List.append_assoc]; exact q1) f1) | (rw [show ne_off d r = (r.1, r.2.1, r.2.2.1, 0) from if_neg c_20, show D.length + 1 = (D ++ [(r.1, r.2.1, r.2.2.1, (0 : Int32))]).length by simp]; exact ih _ _ (by rw [List.append_assoc]; exact q2) (f1.trans f2))
      · refine ex_aload_n dX4_takeOff_23 rfl ?_
        refine ex_getfield dX4_takeOff_24 g_X4_18 ((f1 23 rfl).trans nO) rfl ?_
        refine ex_iload_n dX4_takeOff_27 rfl ?_
        refine ex_iconst (v := 3) dX4_takeOff_28 (by decide) ?_
        refine ex_iconst (v := 0) dX4_takeOff_29 (by decide) ?_
        refine cV_y dX4_takeOff_30 (mm_kv i_X7_set l_X4_41) ⟨(Nat.le_of_ble_eq_true rfl), (Nat.le_of_ble_eq_true rfl)⟩ (tS_set q1 6 (by decide) D.length r ls_mg _ rfl 3 _ rfl (by decide) _) rfl rfl hv (Nat.le_of_ble_eq_true rfl) rfl ?_
        rintro h2 ⟨q2, f2⟩
        rw [va_uu, show ∀ x, (va_up tb 6 (D ++ r :: R) 6).set D.length x = D ++ x :: R from fun x => ls_ms] at q2
        refine ex_iinc (d := 1) dX4_takeOff_33 rfl (by decide) ?_
        refine ex_goto (tgt := 2) dX4_takeOff_36 (by decide) ?_
        rw [nI_1, List.map_cons, List.append_cons]; first | (rw [show ne_off d r = r from if_pos c_20, show D.length + 1 = (D ++ [r]).length by simp]; exact ih _ _ (by rw [List.append_assoc]; exact q1) f1) | (rw [show ne_off d r = (r.1, r.2.1, r.2.2.1, 0) from if_neg c_20, show D.length + 1 = (D ++ [(r.1, r.2.1, r.2.2.1, (0 : Int32))]).length by simp]; exact ih _ _ (by rw [List.append_assoc]; exact q2) (f1.trans f2))
  refine mm_ct (by decide +kernel) (by decide +kernel) rfl (by simp [Value.category]) (Nat.le_of_ble_eq_true rfl) rfl ?_
  refine ex_iconst (v := 0) dX4_takeOff_0 (by decide) ?_
  refine ex_istore_n dX4_takeOff_1 (Nat.le_of_ble_eq_true rfl) ?_
  exact key (tb 6) [] h (by rw [List.nil_append, va_id]; exact hT) (tt_F.refl _)
end NET3
