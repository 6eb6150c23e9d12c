/-! THE MODEL: questions of the line -/
theorem ix_eq {i : Int32} {L : Nat} (h : L < 2 ^ 31) : ii i 0 (nI L - 1) ↔ 0 ≤ i ∧ i < nI L := by
  constructor
  · intro z
    refine ⟨z.1, ?_⟩
    obtain ⟨j, hj, rfl⟩ := nI_of (x := i) (Int32.not_lt.mpr z.1)
    rcases Nat.eq_zero_or_pos L with e | e
    · subst e
      exact absurd (Int32.le_trans z.1 z.2) (by decide)
    · have := z.2
      rw [show nI L - 1 = nI (L - 1) from pk_sub (a := L) (b := 1) e] at this
      have := (nI_leI hj (by omega)).mp this
      exact nI_lt (by omega) h
  · intro z
    obtain ⟨j, hj, rfl⟩ := nI_of (x := i) (Int32.not_lt.mpr z.1)
    have := (nI_ltI hj h).mp z.2
    refine ⟨z.1, ?_⟩
    rw [show nI L - 1 = nI (L - 1) from pk_sub (a := L) (b := 1) (by omega)]
    exact nI_le (by omega) (by omega)
theorem ln_m0 {T : List tt_R} (h : ln_W T) : ln_m T 0 = nI (ln_N T) := by
  have := ln_m_N T 0 h
  rwa [Nat.zero_add] at this
theorem ln_c_some {kp : Nat} (hkp : kp ≤ 30) : ∀ (T : List tt_R) (q : Nat), (∀ r ∈ T, ln_k kp r) → q < ln_N T → ∃ p f o : Nat, p < kp ∧ f + o < 90000 ∧ ln_c T q = nI (100000 * p + f + o) ∧ ∀ types, ln_ta types T q = types p
  | [], q, _, hq => absurd hq (Nat.not_lt_zero q)
  | r :: T, q, h, hq => by
    have hr := (h r List.mem_cons_self).ln
    rw [ln_N] at hq
    by_cases e : q < rl r
    · have hk : r.1 = 0 := by
        rcases Decidable.em (r.1 = 0) with z | z
        · exact z
        · have := hr.2.2.2 z; omega
      obtain ⟨b1, p, f, b2, b3, b4, b5⟩ := hr.2.2.1 hk
      refine ⟨p, f, q, b2, by omega, ?_, fun types => ?_⟩
      · rw [ln_c, if_pos e, b3, b4, show (100000 : Int32) = nI 100000 from rfl, pk_mul, nI_add, nI_add]
      · rw [ln_ta, if_pos e, b3]
        rw [nI_clamp (by omega)]
    · obtain ⟨p, f, o, c1, c2, c3, c4⟩ := ln_c_some hkp T (q - rl r) (fun x hx => h x (List.mem_cons_of_mem _ hx)) (by omega)
      refine ⟨p, f, o, c1, c2, ?_, fun types => ?_⟩
      · rw [ln_c, if_neg e, c3]
      · rw [ln_ta, if_neg e, c4]
theorem ln_c_none : ∀ (T : List tt_R) (q : Nat), ln_N T ≤ q → ln_c T q = -1 ∧ ∀ types, ln_ta types T q = -1
  | [], q, _ => ⟨rfl, fun _ => rfl⟩
  | r :: T, q, h => by
    rw [ln_N] at h
    obtain ⟨a, b⟩ := ln_c_none T (q - rl r) (by omega)
    exact ⟨by rw [ln_c, if_neg (by omega), a], fun types => by rw [ln_ta, if_neg (by omega), b]⟩
section TYA
variable {n k kp lo wa mk : Nat} {s : cl_S} {c : Nat → Nat}
/-- the type at a place, by class and by model -/
theorem tyAt_ta (h : ivx n s k kp lo wa mk c) {q : Nat} (hq : q < 2 ^ 31) : cl_tyAt s (nI q) = ln_ta s.2.2.2.1.1 (s.1 2) q := by
  have hN := h.N
  have hk := h.2.1
  have ht := h.2.2.2.1.1
  unfold cl_tyAt ro_pa
  rw [show ro_ma (nI q) (s.1 2) 0 = ln_c (s.1 2) q from ro_ma_c (s.1 2) q 0 ht (Nat.zero_le _) (by omega) hq]
  by_cases e : q < ln_N (s.1 2)
  · obtain ⟨p, f, o, c1, c2, c3, c4⟩ := ln_c_some hk.2.1 (s.1 2) q ht e
    rw [c3, c4, if_neg (fun z => absurd (show nI (100000 * p + f + o) < 0 by rw [z]; decide) (nI_pos (by have := hk.2.1; omega))), show (100000 : Int32) = nI 100000 from rfl, pk_div (by have := hk.2.1; omega) (by decide) (by decide), show (100000 * p + f + o) / 100000 = p by omega, hk.1]
    exact ho_ty_at hk.2.1 c1
  · obtain ⟨c1, c2⟩ := ln_c_none (s.1 2) q (by omega)
    rw [c1, c2, if_pos rfl]
    exact if_neg (fun z => absurd z.1 (by decide))
theorem tyAt_m1 (h : ivx n s k kp lo wa mk c) : cl_tyAt s (-1) = -1 := by
  have key : ∀ (T : List tt_R) (a : Nat), (∀ r ∈ T, ln_k kp r) → a + ln_N T < 2 ^ 31 → ro_ma (-1) T (nI a) = -1 := by
    intro T
    induction T with
    | nil => intro a _ _; rfl
    | cons r T ih =>
      intro a hT hN
      rw [ln_N] at hN
      rw [ro_ma, if_pos (Int32.lt_of_lt_of_le (by decide : (-1 : Int32) < 0) (nI_pos' (by omega))), (hT r List.mem_cons_self).ln.1, nI_add]
      exact ih _ (fun x hx => hT x (List.mem_cons_of_mem _ hx)) (by omega)
  have hN := h.N
  unfold cl_tyAt ro_pa
  rw [show ro_ma (-1) (s.1 2) 0 = -1 from key (s.1 2) 0 h.2.2.2.1.1 (by omega), if_pos rfl]
  exact if_neg (fun z => absurd z.1 (by decide))
theorem ta_sm (h : ivx n s k kp lo wa mk c) (q : Nat) : ln_ta s.2.2.2.1.1 (s.1 2) q = -1 ∨ sm (ln_ta s.2.2.2.1.1 (s.1 2) q) := by
  by_cases e : q < ln_N (s.1 2)
  · obtain ⟨p, f, o, c1, c2, c3, c4⟩ := ln_c_some h.2.1.2.1 (s.1 2) q h.2.2.2.1.1 e
    rw [c4]; exact Or.inr (h.2.1.2.2 p c1)
  · exact Or.inl ((ln_c_none (s.1 2) q (by omega)).2 _)
theorem bs_cs (h : ivx n s k kp lo wa mk c) : ∀ i, i ≤ k → ro_bs s.2.2.2.2.1.1 i = nI (cs c i)
  | 0, _ => rfl
  | i + 1, hi => by
    rw [ro_bs, bs_cs h i (by omega), h.2.2.2.2.1.1 i (by omega), nI_add]; rfl
theorem cs_mono {c : Nat → Nat} : ∀ (i j : Nat), i ≤ j → cs c i ≤ cs c j
  | i, 0, h => by rw [show i = 0 by omega]; exact Nat.le_refl _
  | i, j + 1, h => by
    by_cases e : i = j + 1
    · rw [e]; exact Nat.le_refl _
    · exact Nat.le_trans (cs_mono i j (by omega)) (Nat.le_add_right _ _)
theorem cs_le (h : ivx n s k kp lo wa mk c) {i : Nat} (hi : i < k) : cs c i + c i ≤ ln_N (s.1 2) := by
  have := cs_mono (c := c) (i + 1) k hi
  rw [← h.2.2.2.2.1.2.1]; exact this
end TYA
section MOK
variable {l : Launch} {G : mm_G} {h0 h : mm_H} {m : mo_S} {s : cl_S} {n : Nat} {T : List tt_R}
theorem c_X9_metreAt (p : mo_P h0 h m) (hl : r_line m T) (hw : ln_W T) (hN : ln_N T < 2 ^ 31) {q : Nat} (hq : q < 2 ^ 31) (qv : Int32) (hqv : qv = nI q) : mm_Ct l G mX9_metreAt [.ref 29, .int qv] h (mm_ri (.int (ln_c T q)) h) := by
  subst hqv
  have hL := hw.1
  have key : ∀ (a : Nat) (x4 : Value), a ≤ q → a + ln_N T < 2 ^ 31 → mm_Ex l G mX9_metreAt (mm_ri (.int (ln_c T (q - a))) h) 4 [.ref 29, .int (nI q), .int (nI a), .int (nI 0), x4] [] h := by
    refine lp_fwd T (fun i R => ∀ (a : Nat) (x4 : Value), a ≤ q → a + ln_N R < 2 ^ 31 → mm_Ex l G mX9_metreAt (mm_ri (.int (ln_c R (q - a))) h) 4 [.ref 29, .int (nI q), .int (nI a), .int (nI i), x4] [] h) ?_ ?_
    · intro a x4 _ _
      refine ex_iload_n dX9_metreAt_4 rfl ?_
      refine ex_aload_n dX9_metreAt_5 rfl ?_
      refine ex_getfield (v := .int (nI T.length)) dX9_metreAt_6 g_X9_171 (mP_o p) (congrArg (fun z => some (Value.int z)) (hl.1)) ?_
      refine ex_icmp_ge (tgt := 60) dX9_metreAt_9 (by decide) (fun _ => ?_) (fun z => absurd (Int32.le_refl _) z)
      refine ex_iconst (v := (-1)) dX9_metreAt_60 (by decide) ?_
      refine ex_ireturn dX9_metreAt_61 ⟨_, rfl, rfl⟩ ?_
      exact ⟨rfl, rfl⟩
    · intro i r R hr hR hi ih a x4 ha hs
      obtain ⟨w1, w2, w3, w4⟩ := (hw.2 i r hr).ln
      obtain ⟨d1, d2, d3, d4⟩ := hl.2 i r hr
      rw [ln_N] at hs
      refine ex_iload_n dX9_metreAt_4 rfl ?_
      refine ex_aload_n dX9_metreAt_5 rfl ?_
      refine ex_getfield (v := .int (nI T.length)) dX9_metreAt_6 g_X9_171 (mP_o p) (congrArg (fun z => some (Value.int z)) (hl.1)) ?_
      refine ex_icmp_ge (tgt := 60) dX9_metreAt_9 (by decide) (fun z => absurd z (nI_ge hi (by omega))) (fun _ => ?_)
      refine ex_aload_n dX9_metreAt_12 rfl ?_
      refine ex_iload_n dX9_metreAt_13 rfl ?_
      refine cV_f dX9_metreAt_14 (mm_kv i_X9_lengthOf l_X9_174) ⟨(Nat.le_of_ble_eq_true rfl), (Nat.le_of_ble_eq_true rfl)⟩ (c_X9_lengthOf p hl hw hr _ rfl) rfl rfl (mP_o p) (Nat.le_of_ble_eq_true rfl) rfl ?_
      rw [w1]
      refine ex_istore dX9_metreAt_17 (Nat.le_of_ble_eq_true rfl) ?_
      refine ex_iload_n dX9_metreAt_19 rfl ?_
      refine ex_iload dX9_metreAt_20 rfl ?_
      refine ex_iadd dX9_metreAt_22 ?_
      rw [nI_add]
      refine ex_iload_n dX9_metreAt_23 rfl ?_
      skip
      rw [ln_c]
      by_cases hc : q - a < rl r
      · skip
        refine ex_icmp_le (tgt := 49) dX9_metreAt_24 (by decide) (fun z => absurd z (nI_ge (show q < a + rl r by omega) (by omega))) (fun _ => ?_)
        refine ex_ldcw dX9_metreAt_27 k_X9_310 ?_
        refine ex_aload_n dX9_metreAt_30 rfl ?_
        refine ex_getfield dX9_metreAt_31 g_X9_53 (mP_o p) rfl ?_
        refine ex_iload_n dX9_metreAt_34 rfl ?_
        refine ex_ialoadv (v := r.2.1) dX9_metreAt_35 (mA_23 p) (by first | assumption | exact vp_in_nI (by omega) (by decide)) (mo_av d2 rfl (by omega)) ?_
        refine ex_imul dX9_metreAt_36 ?_
        refine ex_aload_n dX9_metreAt_37 rfl ?_
        refine ex_getfield dX9_metreAt_38 g_X9_56 (mP_o p) rfl ?_
        refine ex_iload_n dX9_metreAt_41 rfl ?_
        refine ex_ialoadv (v := r.2.2.1) dX9_metreAt_42 (mA_24 p) (by first | assumption | exact vp_in_nI (by omega) (by decide)) (mo_av d3 rfl (by omega)) ?_
        refine ex_iadd dX9_metreAt_43 ?_
        refine ex_iload_n dX9_metreAt_44 rfl ?_
        refine ex_iadd dX9_metreAt_45 ?_
        refine ex_iload_n dX9_metreAt_46 rfl ?_
        refine ex_isub dX9_metreAt_47 ?_
        refine ex_ireturn dX9_metreAt_48 ⟨_, rfl, rfl⟩ ?_
        exact mm_rq (by rw [if_pos hc, ← nI_sub ha]; grind)
      · rw [if_neg hc]
        refine ex_icmp_le (tgt := 49) dX9_metreAt_24 (by decide) (fun _ => ?_) (fun z => absurd (nI_le (show a + rl r ≤ q by omega) hq) z)
        refine ex_iload_n dX9_metreAt_49 rfl ?_
        refine ex_iload dX9_metreAt_50 rfl ?_
        refine ex_iadd dX9_metreAt_52 ?_
        rw [nI_add]
        refine ex_istore_n dX9_metreAt_53 (Nat.le_of_ble_eq_true rfl) ?_
        refine ex_iinc (d := 1) dX9_metreAt_54 rfl (by decide) ?_
        refine ex_goto (tgt := 4) dX9_metreAt_57 (by decide) ?_
        rw [nI_1, show q - a - rl r = q - (a + rl r) by omega]; exact ih _ _ (by omega) (by omega)
  refine mm_ct (by decide +kernel) (by decide +kernel) rfl (by simp [Value.category]) (Nat.le_of_ble_eq_true rfl) rfl ?_
  refine ex_iconst (v := 0) dX9_metreAt_0 (by decide) ?_
  refine ex_istore_n dX9_metreAt_1 (Nat.le_of_ble_eq_true rfl) ?_
  refine ex_iconst (v := 0) dX9_metreAt_2 (by decide) ?_
  refine ex_istore_n dX9_metreAt_3 (Nat.le_of_ble_eq_true rfl) ?_
  exact key 0 _ (Nat.zero_le _) (by omega)
theorem c_X9_metre (p : mo_P h0 h m) (r : r_all s m) (hi : iv n s) (hn : n ≤ 513) (q : Int32) : mm_Ct l G mX9_metre [.ref 29, .int q] h (mo_Z h0 cx_i cx_s (cm_metre s q)) := by
  obtain ⟨k, kp, lo, wa, mk, c, hx⟩ := hi
  have hW := hx.W hn
  have hN := hx.N
  have hm : cl_me s = nI (ln_N (s.1 2)) := hx.2.2.2.2.2.2.2.1
  refine mm_ct (by decide +kernel) (by decide +kernel) rfl (by simp [Value.category]) (Nat.le_of_ble_eq_true rfl) rfl ?_
  refine mm_viaJ (if 0 ≤ q ∧ q < cl_me s then 0 else 1) (pc' := 20) (ls' := [.ref 29, .int q]) (st := [.ref 29]) ?_ (fun k => ?_)
  · skip
    refine ex_put dX9_metre_20 p_X9_120 (mP_o p) (Nat.le_of_ble_eq_true rfl) (fun z => nomatch z) (mm_fi _) ?_
    refine mk_0 p (fun h20 p20 => ?_)
    skip
    unfold cm_metre
    by_cases h1 : 0 ≤ q ∧ q < cl_me s
    rotate_left
    · rw [if_neg h1] at p20
      rw [if_neg h1]
      refine ex_aload_n dX9_metre_23 rfl ?_
      refine ex_getfield (v := .int (1)) dX9_metre_24 g_X9_120 (mP_o p20) (congrArg (fun z => some (Value.int z)) (rfl)) ?_
      refine ex_if_le (tgt := 34) dX9_metre_27 (by decide) (fun z => absurd z (by decide)) (fun _ => ?_)
      refine ex_iconst (v := 0) dX9_metre_30 (by decide) ?_
      refine ex_goto (tgt := 39) dX9_metre_31 (by decide) ?_
      refine ex_ireturn dX9_metre_39 ⟨_, rfl, rfl⟩ ?_
      exact ⟨_, rfl, _, p20, r, ⟨Or.inl ⟨rfl, rfl⟩, _, rfl⟩⟩
    rw [if_pos h1] at p20
    rw [if_pos h1]
    obtain ⟨j, hj, rfl⟩ := nI_of (x := q) (Int32.not_lt.mpr h1.1)
    refine ex_aload_n dX9_metre_23 rfl ?_
    refine ex_getfield (v := .int (0)) dX9_metre_24 g_X9_120 (mP_o p20) (congrArg (fun z => some (Value.int z)) (rfl)) ?_
    refine ex_if_le (tgt := 34) dX9_metre_27 (by decide) (fun _ => ?_) (fun z => absurd (by decide) z)
    refine ex_aload_n dX9_metre_34 rfl ?_
    refine ex_iload_n dX9_metre_35 rfl ?_
    refine cV_f dX9_metre_36 (mm_kv i_X9_metreAt l_X9_311) ⟨(Nat.le_of_ble_eq_true rfl), (Nat.le_of_ble_eq_true rfl)⟩ (c_X9_metreAt p20 (T := s.1 2) r.2.2.2.2.1 hW (by omega) hj _ rfl) rfl rfl (mP_o p20) (Nat.le_of_ble_eq_true rfl) rfl ?_
    refine ex_ireturn dX9_metre_39 ⟨_, rfl, rfl⟩ ?_
    exact ⟨_, rfl, _, p20, r, rfl, by rw [show ro_ma (nI j) (s.1 2) 0 = ln_c (s.1 2) j from ro_ma_c (s.1 2) j 0 hx.2.2.2.1.1 (Nat.zero_le _) (by omega) hj]⟩
  · skip
    refine ex_aload_n dX9_metre_0 rfl ?_
    refine ex_iload_n dX9_metre_1 rfl ?_
    refine ex_iconst (v := 0) dX9_metre_2 (by decide) ?_
    refine ex_aload_n dX9_metre_3 rfl ?_
    refine cV_f dX9_metre_4 (mm_kv i_X9_metres l_X9_160) ⟨(Nat.le_of_ble_eq_true rfl), (Nat.le_of_ble_eq_true rfl)⟩ (c_X9_metres p r.2.2.2.2.1 hW) rfl rfl (mP_o p) (Nat.le_of_ble_eq_true rfl) rfl ?_
    refine ex_iconst (v := 1) dX9_metre_7 (by decide) ?_
    rw [ln_m0 hW]
    refine ex_isub dX9_metre_8 ?_
    refine cS_f dX9_metre_9 (mm_ks i_X9_isIn l_X9_123) ⟨(Nat.le_of_ble_eq_true rfl), (Nat.le_of_ble_eq_true rfl)⟩ (c_X9_isIn _ _ _) rfl rfl (Nat.le_of_ble_eq_true rfl) rfl ?_
    refine ex_if_eq (tgt := 19) dX9_metre_12 (by decide) (fun c_12 => ?_) (fun c_12 => ?_)
    · refine ex_iconst (v := 1) dX9_metre_19 (by decide) ?_
      exact k _ (if_neg (fun z => bb_0.mp c_12 ((ix_eq (by omega)).mpr (by rw [← hm]; exact z)))).symm
    · refine ex_iconst (v := 0) dX9_metre_15 (by decide) ?_
      refine ex_goto (tgt := 20) dX9_metre_16 (by decide) ?_
      exact k _ (if_pos (by rw [hm]; exact (ix_eq (by omega)).mp (bb_n.mp c_12))).symm
theorem c_X9_metreAnew (p : mo_P h0 h m) (r : r_all s m) (hi : iv n s) (hn : n ≤ 513) (q : Int32) : mm_Ct l G mX9_metreAnew [.ref 29, .int q] h (mo_Z h0 cx_i cx_s (cm_metreAnew s q)) := by
  obtain ⟨k, kp, lo, wa, mk, c, hx⟩ := hi
  have hW := hx.W hn
  have hN := hx.N
  have hm : cl_me s = nI (ln_N (s.1 2)) := hx.2.2.2.2.2.2.2.1
  refine mm_ct (by decide +kernel) (by decide +kernel) rfl (by simp [Value.category]) (Nat.le_of_ble_eq_true rfl) rfl ?_
  refine mm_viaJ (if 0 ≤ q ∧ q < cl_me s then 0 else 1) (pc' := 20) (ls' := [.ref 29, .int q]) (st := [.ref 29]) ?_ (fun k => ?_)
  · skip
    refine ex_put dX9_metreAnew_20 p_X9_120 (mP_o p) (Nat.le_of_ble_eq_true rfl) (fun z => nomatch z) (mm_fi _) ?_
    refine mk_0 p (fun h20 p20 => ?_)
    skip
    unfold cm_metreAnew
    by_cases h1 : 0 ≤ q ∧ q < cl_me s
    rotate_left
    · rw [if_neg h1] at p20
      rw [if_neg h1]
      refine ex_aload_n dX9_metreAnew_23 rfl ?_
      refine ex_getfield (v := .int (1)) dX9_metreAnew_24 g_X9_120 (mP_o p20) (congrArg (fun z => some (Value.int z)) (rfl)) ?_
      refine ex_if_le (tgt := 34) dX9_metreAnew_27 (by decide) (fun z => absurd z (by decide)) (fun _ => ?_)
      refine ex_iconst (v := 0) dX9_metreAnew_30 (by decide) ?_
      refine ex_goto (tgt := 39) dX9_metreAnew_31 (by decide) ?_
      refine ex_ireturn dX9_metreAnew_39 ⟨_, rfl, rfl⟩ ?_
      exact ⟨_, rfl, _, p20, r, ⟨Or.inl ⟨rfl, rfl⟩, _, rfl⟩⟩
    rw [if_pos h1] at p20
    rw [if_pos h1]
    obtain ⟨j, hj, rfl⟩ := nI_of (x := q) (Int32.not_lt.mpr h1.1)
    have hjN : j < ln_N (s.1 2) := (nI_ltI hj (by omega)).mp (hm ▸ h1.2)
    refine ex_aload_n dX9_metreAnew_23 rfl ?_
    refine ex_getfield (v := .int (0)) dX9_metreAnew_24 g_X9_120 (mP_o p20) (congrArg (fun z => some (Value.int z)) (rfl)) ?_
    refine ex_if_le (tgt := 34) dX9_metreAnew_27 (by decide) (fun _ => ?_) (fun z => absurd (by decide) z)
    refine ex_aload_n dX9_metreAnew_34 rfl ?_
    refine ex_iload_n dX9_metreAnew_35 rfl ?_
    refine cV_f dX9_metreAnew_36 (mm_kv i_X9_metreAt l_X9_311) ⟨(Nat.le_of_ble_eq_true rfl), (Nat.le_of_ble_eq_true rfl)⟩ (c_X9_metreAt p20 (T := s.1 2) r.2.2.2.2.1 hW (by omega) hj _ rfl) rfl rfl (mP_o p20) (Nat.le_of_ble_eq_true rfl) rfl ?_
    refine ex_ireturn dX9_metreAnew_39 ⟨_, rfl, rfl⟩ ?_
    exact ⟨_, rfl, _, p20, r, rfl, by rw [hx.2.2.2.2.2.2.2.2.1.1 j hjN]⟩
  · skip
    refine ex_aload_n dX9_metreAnew_0 rfl ?_
    refine ex_iload_n dX9_metreAnew_1 rfl ?_
    refine ex_iconst (v := 0) dX9_metreAnew_2 (by decide) ?_
    refine ex_aload_n dX9_metreAnew_3 rfl ?_
    refine cV_f dX9_metreAnew_4 (mm_kv i_X9_metres l_X9_160) ⟨(Nat.le_of_ble_eq_true rfl), (Nat.le_of_ble_eq_true rfl)⟩ (c_X9_metres p r.2.2.2.2.1 hW) rfl rfl (mP_o p) (Nat.le_of_ble_eq_true rfl) rfl ?_
    refine ex_iconst (v := 1) dX9_metreAnew_7 (by decide) ?_
    rw [ln_m0 hW]
    refine ex_isub dX9_metreAnew_8 ?_
    refine cS_f dX9_metreAnew_9 (mm_ks i_X9_isIn l_X9_123) ⟨(Nat.le_of_ble_eq_true rfl), (Nat.le_of_ble_eq_true rfl)⟩ (c_X9_isIn _ _ _) rfl rfl (Nat.le_of_ble_eq_true rfl) rfl ?_
    refine ex_if_eq (tgt := 19) dX9_metreAnew_12 (by decide) (fun c_12 => ?_) (fun c_12 => ?_)
    · refine ex_iconst (v := 1) dX9_metreAnew_19 (by decide) ?_
      exact k _ (if_neg (fun z => bb_0.mp c_12 ((ix_eq (by omega)).mpr (by rw [← hm]; exact z)))).symm
    · refine ex_iconst (v := 0) dX9_metreAnew_15 (by decide) ?_
      refine ex_goto (tgt := 20) dX9_metreAnew_16 (by decide) ?_
      exact k _ (if_pos (by rw [hm]; exact (ix_eq (by omega)).mp (bb_n.mp c_12))).symm
theorem mn_3000 {x : Int32} : (if 3000 < x then (3000 : Int32) else x) = mn 3000 x := by
  unfold mn
  by_cases h : x < 3000
  · rw [if_pos h, if_neg (fun z => Int32.not_lt.mpr (Int32.le_of_lt h) z)]
  · rw [if_neg h]
    by_cases h2 : 3000 < x
    · rw [if_pos h2]
    · rw [if_neg h2]; exact Int32.le_antisymm (Int32.not_lt.mp h2) (Int32.not_lt.mp h)
theorem c_X9_marginOf (p : mo_P h0 h m) (r : r_all s m) (hW : ln_W (s.1 2)) : mm_Ct l G mX9_marginOf [.ref 29] h (mm_ri (.int (cl_mg s)) h) := by
  have hL := hW.1
  have hl := r.2.2.2.2.1
  have key : ∀ (g a : Int32), mm_Ex l G mX9_marginOf (mm_ri (.int (ro_ls (s.2.2.1.1 / 365) (s.1 2) a g - 1500)) h) 10 [.ref 29, .int g, .int a, .int (nI 0)] [] h := by
    refine lp_fwd (s.1 2) (fun i R => ∀ (g a : Int32), mm_Ex l G mX9_marginOf (mm_ri (.int (ro_ls (s.2.2.1.1 / 365) R a g - 1500)) h) 10 [.ref 29, .int g, .int a, .int (nI i)] [] h) ?_ ?_
    · intro g a
      refine ex_iload_n dX9_marginOf_10 rfl ?_
      refine ex_aload_n dX9_marginOf_11 rfl ?_
      refine ex_getfield (v := .int (nI (s.1 2).length)) dX9_marginOf_12 g_X9_171 (mP_o p) (congrArg (fun z => some (Value.int z)) (hl.1)) ?_
      refine ex_icmp_ge (tgt := 109) dX9_marginOf_15 (by decide) (fun _ => ?_) (fun z => absurd (Int32.le_refl _) z)
      refine ex_iload_n dX9_marginOf_109 rfl ?_
      refine ex_iload_n dX9_marginOf_110 rfl ?_
      refine ex_icmp_ge (tgt := 118) dX9_marginOf_111 (by decide) (fun c_111 => ?_) (fun c_111 => ?_)
      · refine ex_iload_n dX9_marginOf_118 rfl ?_
        refine ex_sipush (v := 1500) dX9_marginOf_119 (by decide) ?_
        refine ex_isub dX9_marginOf_122 ?_
        refine ex_ireturn dX9_marginOf_123 ⟨_, rfl, rfl⟩ ?_
        exact mm_rq (by rw [ro_ls, mn, if_neg (Int32.not_lt.mpr c_111)])
      · refine ex_iload_n dX9_marginOf_114 rfl ?_
        refine ex_goto (tgt := 119) dX9_marginOf_115 (by decide) ?_
        refine ex_sipush (v := 1500) dX9_marginOf_119 (by decide) ?_
        refine ex_isub dX9_marginOf_122 ?_
        refine ex_ireturn dX9_marginOf_123 ⟨_, rfl, rfl⟩ ?_
        exact mm_rq (by rw [ro_ls, mn, if_pos (Int32.not_le.mp c_111)])
    · intro i q R hq hR hi ih g a
      obtain ⟨d1, d2, d3, d4⟩ := hl.2 i q hq
      have hk : q.1 = 0 ∨ q.1 = 1 ∨ q.1 = 2 := by
        rcases hW.2 i q hq with ⟨z, -⟩ | ⟨z, -⟩
        · exact Or.inl z
        · exact Or.inr z
      refine ex_iload_n dX9_marginOf_10 rfl ?_
      refine ex_aload_n dX9_marginOf_11 rfl ?_
      refine ex_getfield (v := .int (nI (s.1 2).length)) dX9_marginOf_12 g_X9_171 (mP_o p) (congrArg (fun z => some (Value.int z)) (hl.1)) ?_
      refine ex_icmp_ge (tgt := 109) dX9_marginOf_15 (by decide) (fun z => absurd z (nI_ge hi (by omega))) (fun _ => ?_)
      refine ex_aload_n dX9_marginOf_18 rfl ?_
      refine ex_getfield dX9_marginOf_19 g_X9_50 (mP_o p) rfl ?_
      refine ex_iload_n dX9_marginOf_22 rfl ?_
      refine ex_ialoadv (v := q.1) dX9_marginOf_23 (mA_22 p) (by first | assumption | exact vp_in_nI (by omega) (by decide)) (mo_av d1 rfl (by omega)) ?_
      refine ex_iconst (v := 2) dX9_marginOf_24 (by decide) ?_
      skip
      by_cases h2 : q.1 = 2
      · have e0 : ro_ls (s.2.2.1.1 / 365) (q :: R) a g = ro_ls (s.2.2.1.1 / 365) R (mn a g) (mn 3000 (g + 1200)) := by rw [ro_ls, if_neg (by rw [h2]; decide), if_neg (by rw [h2]; decide)]
        rw [e0]
        refine ex_icmp_ne (tgt := 65) dX9_marginOf_25 (by decide) (fun z => absurd h2 z) (fun _ => ?_)
        skip
        refine mm_viaJ (mn a g) (pc' := 38) (ls' := [.ref 29, .int g, .int a, .int (nI i)]) (st := []) ?_ (fun k => ?_)
        · skip
          refine ex_istore_n dX9_marginOf_38 (Nat.le_of_ble_eq_true rfl) ?_
          skip
          refine mm_viaJ (mn 3000 (g + 1200)) (pc' := 61) (ls' := [.ref 29, .int g, .int (mn a g), .int (nI i)]) (st := []) ?_ (fun k => ?_)
          · skip
            refine ex_istore_n dX9_marginOf_61 (Nat.le_of_ble_eq_true rfl) ?_
            refine ex_goto (tgt := 103) dX9_marginOf_62 (by decide) ?_
            refine ex_iinc (d := 1) dX9_marginOf_103 rfl (by decide) ?_
            refine ex_goto (tgt := 10) dX9_marginOf_106 (by decide) ?_
            rw [nI_1]; exact ih _ _
          · skip
            refine ex_iload_n dX9_marginOf_39 rfl ?_
            refine ex_sipush (v := 1200) dX9_marginOf_40 (by decide) ?_
            refine ex_iadd dX9_marginOf_43 ?_
            refine ex_sipush (v := 3000) dX9_marginOf_44 (by decide) ?_
            refine ex_icmp_le (tgt := 56) dX9_marginOf_47 (by decide) (fun c_47 => ?_) (fun c_47 => ?_)
            · refine ex_iload_n dX9_marginOf_56 rfl ?_
              refine ex_sipush (v := 1200) dX9_marginOf_57 (by decide) ?_
              refine ex_iadd dX9_marginOf_60 ?_
              exact k _ (by rw [← mn_3000, if_neg (Int32.not_lt.mpr c_47)])
            · refine ex_sipush (v := 3000) dX9_marginOf_50 (by decide) ?_
              refine ex_goto (tgt := 61) dX9_marginOf_53 (by decide) ?_
              exact k _ (by rw [← mn_3000, if_pos (Int32.not_le.mp c_47)])
        · skip
          refine ex_iload_n dX9_marginOf_28 rfl ?_
          refine ex_iload_n dX9_marginOf_29 rfl ?_
          refine ex_icmp_ge (tgt := 37) dX9_marginOf_30 (by decide) (fun c_30 => ?_) (fun c_30 => ?_)
          · refine ex_iload_n dX9_marginOf_37 rfl ?_
            exact k _ (by rw [mn, if_neg (Int32.not_lt.mpr c_30)])
          · refine ex_iload_n dX9_marginOf_33 rfl ?_
            refine ex_goto (tgt := 38) dX9_marginOf_34 (by decide) ?_
            exact k _ (by rw [mn, if_pos (Int32.not_le.mp c_30)])
      · by_cases h1 : q.1 = 1
        · skip
          refine ex_icmp_ne (tgt := 65) dX9_marginOf_25 (by decide) (fun _ => ?_) (fun z => absurd z h2)
          refine ex_iload_n dX9_marginOf_65 rfl ?_
          refine ex_aload_n dX9_marginOf_66 rfl ?_
          refine ex_getfield dX9_marginOf_67 g_X9_50 (mP_o p) rfl ?_
          refine ex_iload_n dX9_marginOf_70 rfl ?_
          refine ex_ialoadv (v := q.1) dX9_marginOf_71 (mA_22 p) (by first | assumption | exact vp_in_nI (by omega) (by decide)) (mo_av d1 rfl (by omega)) ?_
          refine ex_iconst (v := 1) dX9_marginOf_72 (by decide) ?_
          refine ex_icmp_ne (tgt := 80) dX9_marginOf_73 (by decide) (fun z => absurd h1 z) (fun _ => ?_)
          refine ex_iconst (v := 5) dX9_marginOf_76 (by decide) ?_
          refine ex_goto (tgt := 101) dX9_marginOf_77 (by decide) ?_
          refine ex_isub dX9_marginOf_101 ?_
          refine ex_istore_n dX9_marginOf_102 (Nat.le_of_ble_eq_true rfl) ?_
          refine ex_iinc (d := 1) dX9_marginOf_103 rfl (by decide) ?_
          refine ex_goto (tgt := 10) dX9_marginOf_106 (by decide) ?_
          rw [nI_1, ro_ls, if_neg (by rw [h1]; decide), if_pos h1, show g + -5 = g - 5 by grind]; exact ih _ _
        · skip
          refine ex_icmp_ne (tgt := 65) dX9_marginOf_25 (by decide) (fun _ => ?_) (fun z => absurd z h2)
          refine ex_iload_n dX9_marginOf_65 rfl ?_
          refine ex_aload_n dX9_marginOf_66 rfl ?_
          refine ex_getfield dX9_marginOf_67 g_X9_50 (mP_o p) rfl ?_
          refine ex_iload_n dX9_marginOf_70 rfl ?_
          refine ex_ialoadv (v := q.1) dX9_marginOf_71 (mA_22 p) (by first | assumption | exact vp_in_nI (by omega) (by decide)) (mo_av d1 rfl (by omega)) ?_
          refine ex_iconst (v := 1) dX9_marginOf_72 (by decide) ?_
          refine ex_icmp_ne (tgt := 80) dX9_marginOf_73 (by decide) (fun _ => ?_) (fun z => absurd z h1)
          refine ex_aload_n dX9_marginOf_80 rfl ?_
          refine ex_iload_n dX9_marginOf_81 rfl ?_
          refine cV_f dX9_marginOf_82 (mm_kv i_X9_lengthOf l_X9_174) ⟨(Nat.le_of_ble_eq_true rfl), (Nat.le_of_ble_eq_true rfl)⟩ (c_X9_lengthOf p hl hW hq _ rfl) rfl rfl (mP_o p) (Nat.le_of_ble_eq_true rfl) rfl ?_
          refine ex_bipush (v := 100) dX9_marginOf_85 (by decide) ?_
          refine ex_aload_n dX9_marginOf_87 rfl ?_
          refine ex_getfield (v := .int (s.2.2.1.1)) dX9_marginOf_88 g_X9_139 (mP_o p) (congrArg (fun z => some (Value.int z)) (r.2.1.1)) ?_
          refine ex_sipush (v := 365) dX9_marginOf_91 (by decide) ?_
          refine ex_idiv dX9_marginOf_94 (by decide) ?_
          refine ex_iadd dX9_marginOf_95 ?_
          refine ex_imul dX9_marginOf_96 ?_
          refine ex_sipush (v := 5000) dX9_marginOf_97 (by decide) ?_
          refine ex_idiv dX9_marginOf_100 (by decide) ?_
          refine ex_isub dX9_marginOf_101 ?_
          refine ex_istore_n dX9_marginOf_102 (Nat.le_of_ble_eq_true rfl) ?_
          refine ex_iinc (d := 1) dX9_marginOf_103 rfl (by decide) ?_
          refine ex_goto (tgt := 10) dX9_marginOf_106 (by decide) ?_
          rw [nI_1, ro_ls, if_pos (show q.1 = 0 by rcases hk with z | z | z; exact z; exact absurd z h1; exact absurd z h2)]; exact ih _ _
  refine mm_ct (by decide +kernel) (by decide +kernel) rfl (by simp [Value.category]) (Nat.le_of_ble_eq_true rfl) rfl ?_
  refine ex_sipush (v := 3000) dX9_marginOf_0 (by decide) ?_
  refine ex_istore_n dX9_marginOf_3 (Nat.le_of_ble_eq_true rfl) ?_
  refine ex_sipush (v := 3000) dX9_marginOf_4 (by decide) ?_
  refine ex_istore_n dX9_marginOf_7 (Nat.le_of_ble_eq_true rfl) ?_
  refine ex_iconst (v := 0) dX9_marginOf_8 (by decide) ?_
  refine ex_istore_n dX9_marginOf_9 (Nat.le_of_ble_eq_true rfl) ?_
  exact key 3000 3000
theorem c_X9_margin (p : mo_P h0 h m) (r : r_all s m) (hW : ln_W (s.1 2)) : mm_Ct l G mX9_margin [.ref 29] h (mo_Zq h0 (cl_mg s) s) := by
  refine mm_ct (by decide +kernel) (by decide +kernel) rfl (by simp [Value.category]) (Nat.le_of_ble_eq_true rfl) rfl ?_
  refine ex_aload_n dX9_margin_0 rfl ?_
  refine ex_iconst (v := 0) dX9_margin_1 (by decide) ?_
  refine ex_put dX9_margin_2 p_X9_120 (mP_o p) (Nat.le_of_ble_eq_true rfl) (fun z => nomatch z) (mm_fi _) ?_
  refine mk_0 p (fun h2 p2 => ?_)
  refine ex_aload_n dX9_margin_5 rfl ?_
  refine cV_f dX9_margin_6 (mm_kv i_X9_marginOf l_X9_256) ⟨(Nat.le_of_ble_eq_true rfl), (Nat.le_of_ble_eq_true rfl)⟩ (c_X9_marginOf p2 (s := s) r hW) rfl rfl (mP_o p2) (Nat.le_of_ble_eq_true rfl) rfl ?_
  refine ex_ireturn dX9_margin_9 ⟨_, rfl, rfl⟩ ?_
  exact ⟨_, rfl, _, p2, r, rfl⟩
end MOK
