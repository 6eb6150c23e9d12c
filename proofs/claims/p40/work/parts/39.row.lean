theorem mm_rw {l : Launch} {G : mm_G} {M : mm_M} {pc : Nat} {ls st : List Value} {h h1 : mm_H} {x y : Int32} (e : y = x) (k : mm_Ex l G M (mm_ri (.int x) h) pc ls st h1) : mm_Ex l G M (mm_ri (.int y) h) pc ls st h1 := by rw [e]; exact k
/-! THE ROW: what reads it -/
theorem lp_nat (N : Nat) (P : Nat → Prop) (h0 : P N) (hs : ∀ i, i < N → P (i + 1) → P i) : P 0 := by
  have key : ∀ k i : Nat, i + k = N → P i := by
    intro k
    induction k with
    | zero => intro i hi; rw [Nat.add_zero] at hi; subst hi; exact h0
    | succ k ih => intro i hi; exact hs i (by omega) (ih (i + 1) (by omega))
  exact key N 0 (by omega)
def ro_C (cells metres : Int32) : mm_E := .inr (5, [.ref 14, .ref 16, .ref 19, .int cells, .int metres])
def ro_mi (cm : Nat → Int32) (i : Int32) : Int32 := if ii i 0 99 then cm i.toNatClampNeg else 0
def ro_bs (cm : Nat → Int32) : Nat → Int32
  | 0 => 0
  | n + 1 => ro_bs cm n + cm n
def ro_n (kind : Int32) : List tt_R → Int32 → Int32
  | [], s => s
  | r :: L, s => ro_n kind L (if r.1 = kind then s + 1 else s)
def ro_lk (L : List tt_R) : Int32 := tt_g L (nI L.length - 1) 0
def ro_ma (p : Int32) : List tt_R → Int32 → Int32
  | [], _ => -1
  | r :: L, s => if p < s then ro_ma p L (s + r.2.2.2) else if s + r.2.2.2 ≤ p then ro_ma p L (s + r.2.2.2) else 100000 * r.2.1 + r.2.2.1 + p - s
def ro_pa (p : Int32) (L : List tt_R) : Int32 := if ro_ma p L 0 = -1 then -1 else ro_ma p L 0 / 100000
def de_m : List tt_R → Int32 → Int32
  | [], _ => -1
  | r :: R, a => if a - r.1 < 0 then (if a - r.1 < r.2.2.2 then (if a - r.1 < 0 then de_m R a else 100000 * r.2.1 + r.2.2.1 + (a - r.1)) else de_m R (a - r.2.2.2)) else if r.2.1 = -1 then de_m R (a + r.2.2.2) else (if a - r.1 < r.2.2.2 then (if a - r.1 < 0 then de_m R a else 100000 * r.2.1 + r.2.2.1 + (a - r.1)) else de_m R (a - r.2.2.2))
section ROW
variable {l : Launch} {G : mm_G} {h : mm_H} {tb : Nat → List tt_R} {c0 n0 : Nat} {cm : Nat → Int32} {cells metres : Int32}
theorem c_X5_metresIn (hO : h.1 13 = some (ro_C cells metres)) (hM : h.1 19 = some (.inl (.int, 100, .inl cm))) (i : Int32) : mm_Ct l G mX5_metresIn [.ref 13, .int i] h (mm_ri (.int (ro_mi cm i)) h) := by
  refine mm_ct (by decide +kernel) (by decide +kernel) rfl (by simp [Value.category]) (Nat.le_of_ble_eq_true rfl) rfl ?_
  refine ex_iload_n dX5_metresIn_0 rfl ?_
  refine cSN_f dX5_metresIn_1 (mm_ksn i_X8_isCell l_X5_37) ⟨(Nat.le_of_ble_eq_true rfl), (Nat.le_of_ble_eq_true rfl)⟩ (c_X8_isCell _) rfl rfl (Nat.le_of_ble_eq_true rfl) rfl ?_
  refine ex_if_eq (tgt := 16) dX5_metresIn_4 (by decide) (fun c_4 => ?_) (fun c_4 => ?_)
  · refine ex_iconst (v := 0) dX5_metresIn_16 (by decide) ?_
    refine ex_ireturn dX5_metresIn_17 ⟨_, rfl, rfl⟩ ?_
    first | exact mm_rq (if_neg (bb_0.mp c_4)) | exact mm_rq (if_pos (bb_n.mp c_4))
  · refine ex_aload_n dX5_metresIn_7 rfl ?_
    refine ex_getfield dX5_metresIn_8 g_X5_25 hO rfl ?_
    refine ex_iload_n dX5_metresIn_11 rfl ?_
    refine ex_iaload dX5_metresIn_12 hM (ii_99 (bb_n.mp c_4)) ?_
    refine ex_goto (tgt := 17) dX5_metresIn_13 (by decide) ?_
    refine ex_ireturn dX5_metresIn_17 ⟨_, rfl, rfl⟩ ?_
    first | exact mm_rq (if_neg (bb_0.mp c_4)) | exact mm_rq (if_pos (bb_n.mp c_4))
theorem ro_mi_nI {i : Nat} (h : i < 100) : ro_mi cm (nI i) = cm i := by
  rw [ro_mi, if_pos ⟨nI_pos' (by omega), nI_le (b := 99) (by omega) (by decide)⟩, nI_clamp (by omega)]
theorem c_X5_beginOf (hM : h.1 19 = some (.inl (.int, 100, .inl cm))) {c k : Nat} (hO : h.1 13 = some (ro_C (nI k) metres)) (hk : k ≤ 100) (hc : c < 2 ^ 31) : mm_Ct l G mX5_beginOf [.ref 13, .int (nI c)] h (mm_ri (.int (ro_bs cm (min c k))) h) := by
  have key : mm_Ex l G mX5_beginOf (mm_ri (.int (ro_bs cm (min c k))) h) 4 [.ref 13, .int (nI c), .int (ro_bs cm 0), .int (nI 0)] [] h := by
    refine lp_nat (min c k) (fun i => mm_Ex l G mX5_beginOf (mm_ri (.int (ro_bs cm (min c k))) h) 4 [.ref 13, .int (nI c), .int (ro_bs cm i), .int (nI i)] [] h) ?_ ?_
    · rcases Nat.le_total c k with hck | hck
      · skip
        refine ex_iload_n dX5_beginOf_4 rfl ?_
        refine ex_iload_n dX5_beginOf_5 rfl ?_
        refine ex_icmp_ge (tgt := 31) dX5_beginOf_6 (by decide) (fun _ => ?_) (fun z => absurd (by rw [Nat.min_eq_left hck]; exact Int32.le_refl _) z)
        refine ex_iload_n dX5_beginOf_31 rfl ?_
        refine ex_ireturn dX5_beginOf_32 ⟨_, rfl, rfl⟩ ?_
        exact ⟨rfl, rfl⟩
      · by_cases z6 : nI c ≤ nI (min c k)
        · skip
          refine ex_iload_n dX5_beginOf_4 rfl ?_
          refine ex_iload_n dX5_beginOf_5 rfl ?_
          refine ex_icmp_ge (tgt := 31) dX5_beginOf_6 (by decide) (fun _ => ?_) (fun z => absurd z6 z)
          refine ex_iload_n dX5_beginOf_31 rfl ?_
          refine ex_ireturn dX5_beginOf_32 ⟨_, rfl, rfl⟩ ?_
          exact ⟨rfl, rfl⟩
        · skip
          refine ex_iload_n dX5_beginOf_4 rfl ?_
          refine ex_iload_n dX5_beginOf_5 rfl ?_
          refine ex_icmp_ge (tgt := 31) dX5_beginOf_6 (by decide) (fun z => absurd z z6) (fun _ => ?_)
          refine ex_iload_n dX5_beginOf_9 rfl ?_
          refine ex_aload_n dX5_beginOf_10 rfl ?_
          refine ex_getfield dX5_beginOf_11 g_X5_29 hO rfl ?_
          refine ex_icmp_ge (tgt := 31) dX5_beginOf_14 (by decide) (fun _ => ?_) (fun z => absurd (by rw [Nat.min_eq_right hck]; exact Int32.le_refl _) z)
          refine ex_iload_n dX5_beginOf_31 rfl ?_
          refine ex_ireturn dX5_beginOf_32 ⟨_, rfl, rfl⟩ ?_
          exact ⟨rfl, rfl⟩
    · intro i hi ih
      refine ex_iload_n dX5_beginOf_4 rfl ?_
      refine ex_iload_n dX5_beginOf_5 rfl ?_
      refine ex_icmp_ge (tgt := 31) dX5_beginOf_6 (by decide) (fun z => absurd z (nI_ge (by omega) hc)) (fun _ => ?_)
      refine ex_iload_n dX5_beginOf_9 rfl ?_
      refine ex_aload_n dX5_beginOf_10 rfl ?_
      refine ex_getfield dX5_beginOf_11 g_X5_29 hO rfl ?_
      refine ex_icmp_ge (tgt := 31) dX5_beginOf_14 (by decide) (fun z => absurd z (nI_ge (by omega) (by omega))) (fun _ => ?_)
      refine ex_iload_n dX5_beginOf_17 rfl ?_
      refine ex_aload_n dX5_beginOf_18 rfl ?_
      refine ex_iload_n dX5_beginOf_19 rfl ?_
      refine cV_f dX5_beginOf_20 (mm_kv i_X5_metresIn l_X5_33) ⟨(Nat.le_of_ble_eq_true rfl), (Nat.le_of_ble_eq_true rfl)⟩ (c_X5_metresIn hO hM _) rfl rfl hO (Nat.le_of_ble_eq_true rfl) rfl ?_
      refine ex_iadd dX5_beginOf_23 ?_
      refine ex_istore_n dX5_beginOf_24 (Nat.le_of_ble_eq_true rfl) ?_
      refine ex_iinc (d := 1) dX5_beginOf_25 rfl (by decide) ?_
      refine ex_goto (tgt := 4) dX5_beginOf_28 (by decide) ?_
      rw [nI_1, ro_mi_nI (by omega)]; exact ih
  refine mm_ct (by decide +kernel) (by decide +kernel) rfl (by simp [Value.category]) (Nat.le_of_ble_eq_true rfl) rfl ?_
  refine ex_iconst (v := 0) dX5_beginOf_0 (by decide) ?_
  refine ex_istore_n dX5_beginOf_1 (Nat.le_of_ble_eq_true rfl) ?_
  refine ex_iconst (v := 0) dX5_beginOf_2 (by decide) ?_
  refine ex_istore_n dX5_beginOf_3 (Nat.le_of_ble_eq_true rfl) ?_
  exact key
theorem c_X5_lastKind (hT : tt_S h tb c0 n0) (hO : h.1 13 = some (ro_C cells metres)) : mm_Ct l G mX5_lastKind [.ref 13] h (mm_ri (.int (ro_lk (tb 2))) h) := by
  obtain ⟨v, hv⟩ := tS_row hT 2 (by decide)
  refine mm_ct (by decide +kernel) (by decide +kernel) rfl (by simp [Value.category]) (Nat.le_of_ble_eq_true rfl) rfl ?_
  refine ex_aload_n dX5_lastKind_0 rfl ?_
  refine ex_getfield dX5_lastKind_1 g_X5_12 hO rfl ?_
  refine ex_aload_n dX5_lastKind_4 rfl ?_
  refine ex_getfield dX5_lastKind_5 g_X5_12 hO rfl ?_
  refine ex_getfield dX5_lastKind_8 g_X5_41 hv rfl ?_
  refine ex_iconst (v := 1) dX5_lastKind_11 (by decide) ?_
  refine ex_isub dX5_lastKind_12 ?_
  refine ex_iconst (v := 0) dX5_lastKind_13 (by decide) ?_
  refine cV_f dX5_lastKind_14 (mm_kv i_X7_get l_X5_44) ⟨(Nat.le_of_ble_eq_true rfl), (Nat.le_of_ble_eq_true rfl)⟩ (tS_get hT 2 (by decide) _ 0 _ rfl (by decide)) rfl rfl hv (Nat.le_of_ble_eq_true rfl) rfl ?_
  refine ex_ireturn dX5_lastKind_17 ⟨_, rfl, rfl⟩ ?_
  exact ⟨rfl, rfl⟩
theorem c_X5_count (hT : tt_S h tb c0 n0) (hO : h.1 13 = some (ro_C cells metres)) (kind : Int32) : mm_Ct l G mX5_count [.ref 13, .int kind] h (mm_ri (.int (ro_n kind (tb 2) 0)) h) := by
  obtain ⟨v, hv⟩ := tS_row hT 2 (by decide)
  have hlen := tS_len hT 2 (by decide)
  have key : ∀ s : Int32, mm_Ex l G mX5_count (mm_ri (.int (ro_n kind (tb 2) s)) h) 4 [.ref 13, .int kind, .int s, .int (nI 0)] [] h := by
    refine lp_fwd (tb 2) (fun i R => ∀ s, mm_Ex l G mX5_count (mm_ri (.int (ro_n kind R s)) h) 4 [.ref 13, .int kind, .int s, .int (nI i)] [] h) ?_ ?_
    · intro s
      refine ex_iload_n dX5_count_4 rfl ?_
      refine ex_aload_n dX5_count_5 rfl ?_
      refine ex_getfield dX5_count_6 g_X5_12 hO rfl ?_
      refine ex_getfield dX5_count_9 g_X5_41 hv rfl ?_
      refine ex_icmp_ge (tgt := 37) dX5_count_12 (by decide) (fun _ => ?_) (fun z => absurd (Int32.le_refl _) z)
      refine ex_iload_n dX5_count_37 rfl ?_
      refine ex_ireturn dX5_count_38 ⟨_, rfl, rfl⟩ ?_
      exact ⟨rfl, rfl⟩
    · intro i r R hr hR hi ih s
      refine ex_iload_n dX5_count_4 rfl ?_
      refine ex_aload_n dX5_count_5 rfl ?_
      refine ex_getfield dX5_count_6 g_X5_12 hO rfl ?_
      refine ex_getfield dX5_count_9 g_X5_41 hv rfl ?_
      refine ex_icmp_ge (tgt := 37) dX5_count_12 (by decide) (fun z => absurd z (nI_ge hi (by omega))) (fun _ => ?_)
      refine ex_aload_n dX5_count_15 rfl ?_
      refine ex_getfield dX5_count_16 g_X5_12 hO rfl ?_
      refine ex_iload_n dX5_count_19 rfl ?_
      refine ex_iconst (v := 0) dX5_count_20 (by decide) ?_
      refine cV_f dX5_count_21 (mm_kv i_X7_get l_X5_44) ⟨(Nat.le_of_ble_eq_true rfl), (Nat.le_of_ble_eq_true rfl)⟩ (tS_getr hT 2 (by decide) rfl hr 0 _ rfl (by decide) _ rfl) rfl rfl hv (Nat.le_of_ble_eq_true rfl) rfl ?_
      refine ex_iload_n dX5_count_24 rfl ?_
      refine ex_icmp_ne (tgt := 31) dX5_count_25 (by decide) (fun c_25 => ?_) (fun c_25 => ?_)
      · refine ex_iinc (d := 1) dX5_count_31 rfl (by decide) ?_
        refine ex_goto (tgt := 4) dX5_count_34 (by decide) ?_
        rw [nI_1, ro_n]; first | (rw [if_neg (show ¬ r.1 = kind from c_25)]; exact ih _) | (rw [if_pos (show r.1 = kind from c_25)]; exact ih _)
      · refine ex_iinc (d := 1) dX5_count_28 rfl (by decide) ?_
        refine ex_iinc (d := 1) dX5_count_31 rfl (by decide) ?_
        refine ex_goto (tgt := 4) dX5_count_34 (by decide) ?_
        rw [nI_1, ro_n]; first | (rw [if_neg (show ¬ r.1 = kind from c_25)]; exact ih _) | (rw [if_pos (show r.1 = kind from c_25)]; exact ih _)
  refine mm_ct (by decide +kernel) (by decide +kernel) rfl (by simp [Value.category]) (Nat.le_of_ble_eq_true rfl) rfl ?_
  refine ex_iconst (v := 0) dX5_count_0 (by decide) ?_
  refine ex_istore_n dX5_count_1 (Nat.le_of_ble_eq_true rfl) ?_
  refine ex_iconst (v := 0) dX5_count_2 (by decide) ?_
  refine ex_istore_n dX5_count_3 (Nat.le_of_ble_eq_true rfl) ?_
  exact key 0
theorem c_X5_metreAt (hT : tt_S h tb c0 n0) (hO : h.1 13 = some (ro_C cells metres)) (p : Int32) : mm_Ct l G mX5_metreAt [.ref 13, .int p] h (mm_ri (.int (ro_ma p (tb 2) 0)) h) := by
  obtain ⟨v, hv⟩ := tS_row hT 2 (by decide)
  have hlen := tS_len hT 2 (by decide)
  have key : ∀ (s : Int32) (x4 : Value), mm_Ex l G mX5_metreAt (mm_ri (.int (ro_ma p (tb 2) s)) h) 4 [.ref 13, .int p, .int s, .int (nI 0), x4] [] h := by
    refine lp_fwd (tb 2) (fun i R => ∀ (s : Int32) (x4 : Value), mm_Ex l G mX5_metreAt (mm_ri (.int (ro_ma p R s)) h) 4 [.ref 13, .int p, .int s, .int (nI i), x4] [] h) ?_ ?_
    · intro s x4
      refine ex_iload_n dX5_metreAt_4 rfl ?_
      refine ex_aload_n dX5_metreAt_5 rfl ?_
      refine ex_getfield dX5_metreAt_6 g_X5_12 hO rfl ?_
      refine ex_getfield dX5_metreAt_9 g_X5_41 hv rfl ?_
      refine ex_icmp_ge (tgt := 77) dX5_metreAt_12 (by decide) (fun _ => ?_) (fun z => absurd (Int32.le_refl _) z)
      refine ex_iconst (v := (-1)) dX5_metreAt_77 (by decide) ?_
      refine ex_ireturn dX5_metreAt_78 ⟨_, rfl, rfl⟩ ?_
      exact ⟨rfl, rfl⟩
    · intro i r R hr hR hi ih s x4
      refine ex_iload_n dX5_metreAt_4 rfl ?_
      refine ex_aload_n dX5_metreAt_5 rfl ?_
      refine ex_getfield dX5_metreAt_6 g_X5_12 hO rfl ?_
      refine ex_getfield dX5_metreAt_9 g_X5_41 hv rfl ?_
      refine ex_icmp_ge (tgt := 77) dX5_metreAt_12 (by decide) (fun z => absurd z (nI_ge hi (by omega))) (fun _ => ?_)
      refine ex_aload_n dX5_metreAt_15 rfl ?_
      refine ex_getfield dX5_metreAt_16 g_X5_12 hO rfl ?_
      refine ex_iload_n dX5_metreAt_19 rfl ?_
      refine ex_iconst (v := 3) dX5_metreAt_20 (by decide) ?_
      refine cV_f dX5_metreAt_21 (mm_kv i_X7_get l_X5_44) ⟨(Nat.le_of_ble_eq_true rfl), (Nat.le_of_ble_eq_true rfl)⟩ (tS_getr hT 2 (by decide) rfl hr 3 _ rfl (by decide) _ rfl) rfl rfl hv (Nat.le_of_ble_eq_true rfl) rfl ?_
      refine ex_istore dX5_metreAt_24 (Nat.le_of_ble_eq_true rfl) ?_
      refine ex_iload_n dX5_metreAt_26 rfl ?_
      refine ex_iload_n dX5_metreAt_27 rfl ?_
      refine ex_icmp_lt (tgt := 66) dX5_metreAt_28 (by decide) (fun c_28 => ?_) (fun c_28 => ?_)
      · refine ex_iload_n dX5_metreAt_66 rfl ?_
        refine ex_iload dX5_metreAt_67 rfl ?_
        refine ex_iadd dX5_metreAt_69 ?_
        refine ex_istore_n dX5_metreAt_70 (Nat.le_of_ble_eq_true rfl) ?_
        refine ex_iinc (d := 1) dX5_metreAt_71 rfl (by decide) ?_
        refine ex_goto (tgt := 4) dX5_metreAt_74 (by decide) ?_
        rw [nI_1]; first | exact mm_rw (if_pos c_28) (ih _ _) | exact mm_rw ((if_neg c_28).trans (if_pos c_36)) (ih _ _)
      · refine ex_iload_n dX5_metreAt_31 rfl ?_
        refine ex_iload_n dX5_metreAt_32 rfl ?_
        refine ex_iload dX5_metreAt_33 rfl ?_
        refine ex_iadd dX5_metreAt_35 ?_
        refine ex_icmp_ge (tgt := 66) dX5_metreAt_36 (by decide) (fun c_36 => ?_) (fun c_36 => ?_)
        · refine ex_iload_n dX5_metreAt_66 rfl ?_
          refine ex_iload dX5_metreAt_67 rfl ?_
          refine ex_iadd dX5_metreAt_69 ?_
          refine ex_istore_n dX5_metreAt_70 (Nat.le_of_ble_eq_true rfl) ?_
          refine ex_iinc (d := 1) dX5_metreAt_71 rfl (by decide) ?_
          refine ex_goto (tgt := 4) dX5_metreAt_74 (by decide) ?_
          rw [nI_1]; first | exact mm_rw (if_pos c_28) (ih _ _) | exact mm_rw ((if_neg c_28).trans (if_pos c_36)) (ih _ _)
        · refine ex_ldc dX5_metreAt_39 k_X5_97 ?_
          refine ex_aload_n dX5_metreAt_41 rfl ?_
          refine ex_getfield dX5_metreAt_42 g_X5_12 hO rfl ?_
          refine ex_iload_n dX5_metreAt_45 rfl ?_
          refine ex_iconst (v := 1) dX5_metreAt_46 (by decide) ?_
          refine cV_f dX5_metreAt_47 (mm_kv i_X7_get l_X5_44) ⟨(Nat.le_of_ble_eq_true rfl), (Nat.le_of_ble_eq_true rfl)⟩ (tS_getr hT 2 (by decide) rfl hr 1 _ rfl (by decide) _ rfl) rfl rfl hv (Nat.le_of_ble_eq_true rfl) rfl ?_
          refine ex_imul dX5_metreAt_50 ?_
          refine ex_aload_n dX5_metreAt_51 rfl ?_
          refine ex_getfield dX5_metreAt_52 g_X5_12 hO rfl ?_
          refine ex_iload_n dX5_metreAt_55 rfl ?_
          refine ex_iconst (v := 2) dX5_metreAt_56 (by decide) ?_
          refine cV_f dX5_metreAt_57 (mm_kv i_X7_get l_X5_44) ⟨(Nat.le_of_ble_eq_true rfl), (Nat.le_of_ble_eq_true rfl)⟩ (tS_getr hT 2 (by decide) rfl hr 2 _ rfl (by decide) _ rfl) rfl rfl hv (Nat.le_of_ble_eq_true rfl) rfl ?_
          refine ex_iadd dX5_metreAt_60 ?_
          refine ex_iload_n dX5_metreAt_61 rfl ?_
          refine ex_iadd dX5_metreAt_62 ?_
          refine ex_iload_n dX5_metreAt_63 rfl ?_
          refine ex_isub dX5_metreAt_64 ?_
          refine ex_ireturn dX5_metreAt_65 ⟨_, rfl, rfl⟩ ?_
          exact mm_rq ((if_neg c_28).trans (if_neg c_36))
  refine mm_ct (by decide +kernel) (by decide +kernel) rfl (by simp [Value.category]) (Nat.le_of_ble_eq_true rfl) rfl ?_
  refine ex_iconst (v := 0) dX5_metreAt_0 (by decide) ?_
  refine ex_istore_n dX5_metreAt_1 (Nat.le_of_ble_eq_true rfl) ?_
  refine ex_iconst (v := 0) dX5_metreAt_2 (by decide) ?_
  refine ex_istore_n dX5_metreAt_3 (Nat.le_of_ble_eq_true rfl) ?_
  exact key 0 _
theorem c_X5_pieceAt (hT : tt_S h tb c0 n0) (hO : h.1 13 = some (ro_C cells metres)) (p : Int32) : mm_Ct l G mX5_pieceAt [.ref 13, .int p] h (mm_ri (.int (ro_pa p (tb 2))) h) := by
  refine mm_ct (by decide +kernel) (by decide +kernel) rfl (by simp [Value.category]) (Nat.le_of_ble_eq_true rfl) rfl ?_
  refine ex_aload_n dX5_pieceAt_0 rfl ?_
  refine ex_iload_n dX5_pieceAt_1 rfl ?_
  refine cV_f dX5_pieceAt_2 (mm_kv i_X5_metreAt l_X5_101) ⟨(Nat.le_of_ble_eq_true rfl), (Nat.le_of_ble_eq_true rfl)⟩ (c_X5_metreAt hT hO _) rfl rfl hO (Nat.le_of_ble_eq_true rfl) rfl ?_
  refine ex_istore_n dX5_pieceAt_5 (Nat.le_of_ble_eq_true rfl) ?_
  refine ex_iload_n dX5_pieceAt_6 rfl ?_
  refine ex_iconst (v := (-1)) dX5_pieceAt_7 (by decide) ?_
  refine ex_icmp_ne (tgt := 15) dX5_pieceAt_8 (by decide) (fun c_8 => ?_) (fun c_8 => ?_)
  · refine ex_iload_n dX5_pieceAt_15 rfl ?_
    refine ex_ldc dX5_pieceAt_16 k_X5_97 ?_
    refine ex_idiv dX5_pieceAt_18 (by decide) ?_
    refine ex_ireturn dX5_pieceAt_19 ⟨_, rfl, rfl⟩ ?_
    first | exact mm_rq (if_neg c_8) | exact mm_rq (if_pos c_8)
  · refine ex_iconst (v := (-1)) dX5_pieceAt_11 (by decide) ?_
    refine ex_goto (tgt := 19) dX5_pieceAt_12 (by decide) ?_
    refine ex_ireturn dX5_pieceAt_19 ⟨_, rfl, rfl⟩ ?_
    first | exact mm_rq (if_neg c_8) | exact mm_rq (if_pos c_8)
theorem c_X1_metreAt (hT : tt_S h tb c0 n0) (hO : h.1 16 = some (.inr (1, [.ref 17]))) (p : Int32) : mm_Ct l G mX1_metreAt [.ref 16, .int p] h (mm_ri (.int (de_m (tb 3).reverse p)) h) := by
  obtain ⟨v, hv⟩ := tS_row hT 3 (by decide)
  have hlen := tS_len hT 3 (by decide)
  have key : ∀ (a : Int32) (x4 x5 x6 : Value), mm_Ex l G mX1_metreAt (mm_ri (.int (de_m (tb 3).reverse a)) h) 12 [.ref 16, .int p, .int a, .int (nI (tb 3).length - 1), x4, x5, x6] [] h := by
    refine lp_bwd (tb 3) (fun i R => ∀ (a : Int32) (x4 x5 x6 : Value), mm_Ex l G mX1_metreAt (mm_ri (.int (de_m R a)) h) 12 [.ref 16, .int p, .int a, .int (nI i - 1), x4, x5, x6] [] h) ?_ ?_
    · intro a x4 x5 x6
      refine ex_iload_n dX1_metreAt_12 rfl ?_
      refine ex_if_lt (tgt := 115) dX1_metreAt_13 (by decide) (fun _ => ?_) (fun z => absurd nI_neg1 z)
      refine ex_iconst (v := (-1)) dX1_metreAt_115 (by decide) ?_
      refine ex_ireturn dX1_metreAt_116 ⟨_, rfl, rfl⟩ ?_
      exact ⟨rfl, rfl⟩
    · intro i r R hr hR hi ih a x4 x5 x6
      rw [nI_m1]
      refine ex_iload_n dX1_metreAt_12 rfl ?_
      refine ex_if_lt (tgt := 115) dX1_metreAt_13 (by decide) (fun z => absurd z (nI_pos (by omega))) (fun _ => ?_)
      refine ex_aload_n dX1_metreAt_16 rfl ?_
      refine ex_getfield dX1_metreAt_17 g_X1_12 hO rfl ?_
      refine ex_iload_n dX1_metreAt_20 rfl ?_
      refine ex_iconst (v := 1) dX1_metreAt_21 (by decide) ?_
      refine cV_f dX1_metreAt_22 (mm_kv i_X7_get l_X1_26) ⟨(Nat.le_of_ble_eq_true rfl), (Nat.le_of_ble_eq_true rfl)⟩ (tS_getr hT 3 (by decide) rfl hr 1 _ rfl (by decide) _ rfl) rfl rfl hv (Nat.le_of_ble_eq_true rfl) rfl ?_
      refine ex_istore dX1_metreAt_25 (Nat.le_of_ble_eq_true rfl) ?_
      refine ex_aload_n dX1_metreAt_27 rfl ?_
      refine ex_getfield dX1_metreAt_28 g_X1_12 hO rfl ?_
      refine ex_iload_n dX1_metreAt_31 rfl ?_
      refine ex_iconst (v := 3) dX1_metreAt_32 (by decide) ?_
      refine cV_f dX1_metreAt_33 (mm_kv i_X7_get l_X1_26) ⟨(Nat.le_of_ble_eq_true rfl), (Nat.le_of_ble_eq_true rfl)⟩ (tS_getr hT 3 (by decide) rfl hr 3 _ rfl (by decide) _ rfl) rfl rfl hv (Nat.le_of_ble_eq_true rfl) rfl ?_
      refine ex_istore dX1_metreAt_36 (Nat.le_of_ble_eq_true rfl) ?_
      refine ex_iload_n dX1_metreAt_38 rfl ?_
      refine ex_aload_n dX1_metreAt_39 rfl ?_
      refine ex_getfield dX1_metreAt_40 g_X1_12 hO rfl ?_
      refine ex_iload_n dX1_metreAt_43 rfl ?_
      refine ex_iconst (v := 0) dX1_metreAt_44 (by decide) ?_
      refine cV_f dX1_metreAt_45 (mm_kv i_X7_get l_X1_26) ⟨(Nat.le_of_ble_eq_true rfl), (Nat.le_of_ble_eq_true rfl)⟩ (tS_getr hT 3 (by decide) rfl hr 0 _ rfl (by decide) _ rfl) rfl rfl hv (Nat.le_of_ble_eq_true rfl) rfl ?_
      refine ex_isub dX1_metreAt_48 ?_
      refine ex_istore dX1_metreAt_49 (Nat.le_of_ble_eq_true rfl) ?_
      refine ex_iload dX1_metreAt_51 rfl ?_
      refine ex_if_lt (tgt := 70) dX1_metreAt_53 (by decide) (fun c_53 => ?_) (fun c_53 => ?_)
      · refine ex_iload dX1_metreAt_70 rfl ?_
        refine ex_iload dX1_metreAt_72 rfl ?_
        refine ex_icmp_lt (tgt := 85) dX1_metreAt_74 (by decide) (fun c_74 => ?_) (fun c_74 => ?_)
        · refine ex_iload dX1_metreAt_85 rfl ?_
          refine ex_if_lt (tgt := 109) dX1_metreAt_87 (by decide) (fun c_87 => ?_) (fun c_87 => ?_)
          · refine ex_iinc (d := (-1)) dX1_metreAt_109 rfl (by decide) ?_
            refine ex_goto (tgt := 12) dX1_metreAt_112 (by decide) ?_
            rw [nI_m2]; first | exact mm_rw ((if_neg c_53).trans (if_pos c_59)) (ih _ _ _ _) | exact mm_rw ((if_pos c_53).trans (if_neg c_74)) (ih _ _ _ _) | exact mm_rw (((if_pos c_53).trans (if_pos c_74)).trans (if_pos c_87)) (ih _ _ _ _) | exact mm_rw (((if_neg c_53).trans (if_neg c_59)).trans (if_neg c_74)) (ih _ _ _ _) | exact mm_rw ((((if_neg c_53).trans (if_neg c_59)).trans (if_pos c_74)).trans (if_pos c_87)) (ih _ _ _ _)
          · refine ex_ldc dX1_metreAt_90 k_X1_30 ?_
            refine ex_iload dX1_metreAt_92 rfl ?_
            refine ex_imul dX1_metreAt_94 ?_
            refine ex_aload_n dX1_metreAt_95 rfl ?_
            refine ex_getfield dX1_metreAt_96 g_X1_12 hO rfl ?_
            refine ex_iload_n dX1_metreAt_99 rfl ?_
            refine ex_iconst (v := 2) dX1_metreAt_100 (by decide) ?_
            refine cV_f dX1_metreAt_101 (mm_kv i_X7_get l_X1_26) ⟨(Nat.le_of_ble_eq_true rfl), (Nat.le_of_ble_eq_true rfl)⟩ (tS_getr hT 3 (by decide) rfl hr 2 _ rfl (by decide) _ rfl) rfl rfl hv (Nat.le_of_ble_eq_true rfl) rfl ?_
            refine ex_iadd dX1_metreAt_104 ?_
            refine ex_iload dX1_metreAt_105 rfl ?_
            refine ex_iadd dX1_metreAt_107 ?_
            refine ex_ireturn dX1_metreAt_108 ⟨_, rfl, rfl⟩ ?_
            first | exact absurd c_53 c_87 | exact mm_rq ((((if_neg c_53).trans (if_neg c_59)).trans (if_pos c_74)).trans (if_neg c_87))
        · refine ex_iload_n dX1_metreAt_77 rfl ?_
          refine ex_iload dX1_metreAt_78 rfl ?_
          refine ex_isub dX1_metreAt_80 ?_
          refine ex_istore_n dX1_metreAt_81 (Nat.le_of_ble_eq_true rfl) ?_
          refine ex_goto (tgt := 109) dX1_metreAt_82 (by decide) ?_
          refine ex_iinc (d := (-1)) dX1_metreAt_109 rfl (by decide) ?_
          refine ex_goto (tgt := 12) dX1_metreAt_112 (by decide) ?_
          rw [nI_m2]; first | exact mm_rw ((if_neg c_53).trans (if_pos c_59)) (ih _ _ _ _) | exact mm_rw ((if_pos c_53).trans (if_neg c_74)) (ih _ _ _ _) | exact mm_rw (((if_pos c_53).trans (if_pos c_74)).trans (if_pos c_87)) (ih _ _ _ _) | exact mm_rw (((if_neg c_53).trans (if_neg c_59)).trans (if_neg c_74)) (ih _ _ _ _) | exact mm_rw ((((if_neg c_53).trans (if_neg c_59)).trans (if_pos c_74)).trans (if_pos c_87)) (ih _ _ _ _)
      · refine ex_iload dX1_metreAt_56 rfl ?_
        refine ex_iconst (v := (-1)) dX1_metreAt_58 (by decide) ?_
        refine ex_icmp_ne (tgt := 70) dX1_metreAt_59 (by decide) (fun c_59 => ?_) (fun c_59 => ?_)
        · refine ex_iload dX1_metreAt_70 rfl ?_
          refine ex_iload dX1_metreAt_72 rfl ?_
          refine ex_icmp_lt (tgt := 85) dX1_metreAt_74 (by decide) (fun c_74 => ?_) (fun c_74 => ?_)
          · refine ex_iload dX1_metreAt_85 rfl ?_
            refine ex_if_lt (tgt := 109) dX1_metreAt_87 (by decide) (fun c_87 => ?_) (fun c_87 => ?_)
            · refine ex_iinc (d := (-1)) dX1_metreAt_109 rfl (by decide) ?_
              refine ex_goto (tgt := 12) dX1_metreAt_112 (by decide) ?_
              rw [nI_m2]; first | exact mm_rw ((if_neg c_53).trans (if_pos c_59)) (ih _ _ _ _) | exact mm_rw ((if_pos c_53).trans (if_neg c_74)) (ih _ _ _ _) | exact mm_rw (((if_pos c_53).trans (if_pos c_74)).trans (if_pos c_87)) (ih _ _ _ _) | exact mm_rw (((if_neg c_53).trans (if_neg c_59)).trans (if_neg c_74)) (ih _ _ _ _) | exact mm_rw ((((if_neg c_53).trans (if_neg c_59)).trans (if_pos c_74)).trans (if_pos c_87)) (ih _ _ _ _)
            · refine ex_ldc dX1_metreAt_90 k_X1_30 ?_
              refine ex_iload dX1_metreAt_92 rfl ?_
              refine ex_imul dX1_metreAt_94 ?_
              refine ex_aload_n dX1_metreAt_95 rfl ?_
              refine ex_getfield dX1_metreAt_96 g_X1_12 hO rfl ?_
              refine ex_iload_n dX1_metreAt_99 rfl ?_
              refine ex_iconst (v := 2) dX1_metreAt_100 (by decide) ?_
              refine cV_f dX1_metreAt_101 (mm_kv i_X7_get l_X1_26) ⟨(Nat.le_of_ble_eq_true rfl), (Nat.le_of_ble_eq_true rfl)⟩ (tS_getr hT 3 (by decide) rfl hr 2 _ rfl (by decide) _ rfl) rfl rfl hv (Nat.le_of_ble_eq_true rfl) rfl ?_
              refine ex_iadd dX1_metreAt_104 ?_
              refine ex_iload dX1_metreAt_105 rfl ?_
              refine ex_iadd dX1_metreAt_107 ?_
              refine ex_ireturn dX1_metreAt_108 ⟨_, rfl, rfl⟩ ?_
              first | exact absurd c_53 c_87 | exact mm_rq ((((if_neg c_53).trans (if_neg c_59)).trans (if_pos c_74)).trans (if_neg c_87))
          · refine ex_iload_n dX1_metreAt_77 rfl ?_
            refine ex_iload dX1_metreAt_78 rfl ?_
            refine ex_isub dX1_metreAt_80 ?_
            refine ex_istore_n dX1_metreAt_81 (Nat.le_of_ble_eq_true rfl) ?_
            refine ex_goto (tgt := 109) dX1_metreAt_82 (by decide) ?_
            refine ex_iinc (d := (-1)) dX1_metreAt_109 rfl (by decide) ?_
            refine ex_goto (tgt := 12) dX1_metreAt_112 (by decide) ?_
            rw [nI_m2]; first | exact mm_rw ((if_neg c_53).trans (if_pos c_59)) (ih _ _ _ _) | exact mm_rw ((if_pos c_53).trans (if_neg c_74)) (ih _ _ _ _) | exact mm_rw (((if_pos c_53).trans (if_pos c_74)).trans (if_pos c_87)) (ih _ _ _ _) | exact mm_rw (((if_neg c_53).trans (if_neg c_59)).trans (if_neg c_74)) (ih _ _ _ _) | exact mm_rw ((((if_neg c_53).trans (if_neg c_59)).trans (if_pos c_74)).trans (if_pos c_87)) (ih _ _ _ _)
        · refine ex_iload_n dX1_metreAt_62 rfl ?_
          refine ex_iload dX1_metreAt_63 rfl ?_
          refine ex_iadd dX1_metreAt_65 ?_
          refine ex_istore_n dX1_metreAt_66 (Nat.le_of_ble_eq_true rfl) ?_
          refine ex_goto (tgt := 109) dX1_metreAt_67 (by decide) ?_
          refine ex_iinc (d := (-1)) dX1_metreAt_109 rfl (by decide) ?_
          refine ex_goto (tgt := 12) dX1_metreAt_112 (by decide) ?_
          rw [nI_m2]; first | exact mm_rw ((if_neg c_53).trans (if_pos c_59)) (ih _ _ _ _) | exact mm_rw ((if_pos c_53).trans (if_neg c_74)) (ih _ _ _ _) | exact mm_rw (((if_pos c_53).trans (if_pos c_74)).trans (if_pos c_87)) (ih _ _ _ _) | exact mm_rw (((if_neg c_53).trans (if_neg c_59)).trans (if_neg c_74)) (ih _ _ _ _) | exact mm_rw ((((if_neg c_53).trans (if_neg c_59)).trans (if_pos c_74)).trans (if_pos c_87)) (ih _ _ _ _)
  refine mm_ct (by decide +kernel) (by decide +kernel) rfl (by simp [Value.category]) (Nat.le_of_ble_eq_true rfl) rfl ?_
  refine ex_iload_n dX1_metreAt_0 rfl ?_
  refine ex_istore_n dX1_metreAt_1 (Nat.le_of_ble_eq_true rfl) ?_
  refine ex_aload_n dX1_metreAt_2 rfl ?_
  refine ex_getfield dX1_metreAt_3 g_X1_12 hO rfl ?_
  refine ex_getfield dX1_metreAt_6 g_X1_22 hv rfl ?_
  refine ex_iconst (v := 1) dX1_metreAt_9 (by decide) ?_
  refine ex_isub dX1_metreAt_10 ?_
  refine ex_istore_n dX1_metreAt_11 (Nat.le_of_ble_eq_true rfl) ?_
  exact key p _ _ _
theorem c_X5_metreByDeeds (hT : tt_S h tb c0 n0) (hO : h.1 13 = some (ro_C cells metres)) (hD : h.1 16 = some (.inr (1, [.ref 17]))) (p : Int32) : mm_Ct l G mX5_metreByDeeds [.ref 13, .int p] h (mm_ri (.int (de_m (tb 3).reverse p)) h) := by
  refine mm_ct (by decide +kernel) (by decide +kernel) rfl (by simp [Value.category]) (Nat.le_of_ble_eq_true rfl) rfl ?_
  refine ex_aload_n dX5_metreByDeeds_0 rfl ?_
  refine ex_getfield dX5_metreByDeeds_1 g_X5_21 hO rfl ?_
  refine ex_iload_n dX5_metreByDeeds_4 rfl ?_
  refine cV_f dX5_metreByDeeds_5 (mm_kv i_X1_metreAt l_X5_98) ⟨(Nat.le_of_ble_eq_true rfl), (Nat.le_of_ble_eq_true rfl)⟩ (c_X1_metreAt hT hD _) rfl rfl hD (Nat.le_of_ble_eq_true rfl) rfl ?_
  refine ex_ireturn dX5_metreByDeeds_8 ⟨_, rfl, rfl⟩ ?_
  exact ⟨rfl, rfl⟩
end ROW
