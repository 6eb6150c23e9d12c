section MOE
variable {l : Launch} {G : mm_G} {h0 h : mm_H} {s : mo_S} {S : se_T} {T W g : List tt_R}
theorem c_X9_typeAt (p : mo_P h0 h s) (hl : r_line s T) (hw : ln_W T) {types : Nat → Int32} (ht : s.2.2 11 = types) (hN : ln_N T < 2 ^ 31) {q : Nat} (hq : q < 2 ^ 31) (qv : Int32) (hqv : qv = nI q) : mm_Ct l G mX9_typeAt [.ref 29, .int qv] h (mm_ri (.int (ln_ta types T q)) h) := by
  subst hqv
  have hL := hw.1
  have key : ∀ a : Nat, a ≤ q → a + ln_N T < 2 ^ 31 → mm_Ex l G mX9_typeAt (mm_ri (.int (ln_ta types T (q - a))) h) 4 [.ref 29, .int (nI q), .int (nI a), .int (nI 0)] [] h := by
    refine lp_fwd T (fun i R => ∀ a : Nat, a ≤ q → a + ln_N R < 2 ^ 31 → mm_Ex l G mX9_typeAt (mm_ri (.int (ln_ta types R (q - a))) h) 4 [.ref 29, .int (nI q), .int (nI a), .int (nI i)] [] h) ?_ ?_
    · intro a _ _
      refine ex_iload_n dX9_typeAt_4 rfl ?_
      refine ex_aload_n dX9_typeAt_5 rfl ?_
      refine ex_getfield (v := .int (nI T.length)) dX9_typeAt_6 g_X9_171 (mP_o p) (congrArg (fun z => some (Value.int z)) (hl.1)) ?_
      refine ex_icmp_ge (tgt := 43) dX9_typeAt_9 (by decide) (fun _ => ?_) (fun z => absurd (Int32.le_refl _) z)
      refine ex_iconst (v := (-1)) dX9_typeAt_43 (by decide) ?_
      refine ex_ireturn dX9_typeAt_44 ⟨_, rfl, rfl⟩ ?_
      exact ⟨rfl, rfl⟩
    · intro i r R hr hR hi ih a ha hs
      obtain ⟨w1, w2, w3, w4⟩ := (hw.2 i r hr).ln
      rw [ln_N] at hs
      refine ex_iload_n dX9_typeAt_4 rfl ?_
      refine ex_aload_n dX9_typeAt_5 rfl ?_
      refine ex_getfield (v := .int (nI T.length)) dX9_typeAt_6 g_X9_171 (mP_o p) (congrArg (fun z => some (Value.int z)) (hl.1)) ?_
      refine ex_icmp_ge (tgt := 43) dX9_typeAt_9 (by decide) (fun z => absurd z (nI_ge hi (by omega))) (fun _ => ?_)
      refine ex_iload_n dX9_typeAt_12 rfl ?_
      refine ex_aload_n dX9_typeAt_13 rfl ?_
      refine ex_iload_n dX9_typeAt_14 rfl ?_
      refine cV_f dX9_typeAt_15 (mm_kv i_X9_lengthOf l_X9_174) ⟨(Nat.le_of_ble_eq_true rfl), (Nat.le_of_ble_eq_true rfl)⟩ (c_X9_lengthOf p hl hw hr _ rfl) rfl rfl (mP_o p) (Nat.le_of_ble_eq_true rfl) rfl ?_
      refine ex_iadd dX9_typeAt_18 ?_
      rw [w1, nI_add]
      refine ex_istore_n dX9_typeAt_19 (Nat.le_of_ble_eq_true rfl) ?_
      refine ex_iload_n dX9_typeAt_20 rfl ?_
      refine ex_iload_n dX9_typeAt_21 rfl ?_
      skip
      rw [ln_ta]
      by_cases hc : q - a < rl r
      · have hk : r.1 = 0 := by
          rcases Decidable.em (r.1 = 0) with z | z
          · exact z
          · have := w4 z; omega
        obtain ⟨-, x, hx1, hx2⟩ := w3 hk
        refine ex_icmp_le (tgt := 37) dX9_typeAt_22 (by decide) (fun z => absurd z (nI_ge (show q < a + rl r by omega) (by omega))) (fun _ => ?_)
        refine ex_aload_n dX9_typeAt_25 rfl ?_
        refine ex_getfield dX9_typeAt_26 g_X9_26 (mP_o p) rfl ?_
        refine ex_aload_n dX9_typeAt_29 rfl ?_
        refine ex_getfield dX9_typeAt_30 g_X9_53 (mP_o p) rfl ?_
        refine ex_iload_n dX9_typeAt_33 rfl ?_
        refine ex_ialoadv (v := nI x) dX9_typeAt_34 (mA_23 p) (by first | assumption | exact vp_in_nI (by omega) (by decide)) ((mo_av (hl.2 i r hr).2.1 rfl (by omega)).trans hx2) ?_
        refine ex_ialoadv (v := types x) dX9_typeAt_35 (mA_11 p) (by first | assumption | exact vp_in_nI (by omega) (by decide)) (by rw [ht]; exact mo_av rfl rfl (by omega)) ?_
        refine ex_ireturn dX9_typeAt_36 ⟨_, rfl, rfl⟩ ?_
        exact mm_rq (by rw [if_pos hc, hx2, nI_clamp (by omega)])
      · rw [if_neg hc]
        refine ex_icmp_le (tgt := 37) dX9_typeAt_22 (by decide) (fun _ => ?_) (fun z => absurd (nI_le (show a + rl r ≤ q by omega) hq) z)
        refine ex_iinc (d := 1) dX9_typeAt_37 rfl (by decide) ?_
        refine ex_goto (tgt := 4) dX9_typeAt_40 (by decide) ?_
        rw [nI_1, show q - a - rl r = q - (a + rl r) by omega]; exact ih _ (by omega) (by omega)
  refine mm_ct (by decide +kernel) (by decide +kernel) rfl (by simp [Value.category]) (Nat.le_of_ble_eq_true rfl) rfl ?_
  refine ex_iconst (v := 0) dX9_typeAt_0 (by decide) ?_
  refine ex_istore_n dX9_typeAt_1 (Nat.le_of_ble_eq_true rfl) ?_
  refine ex_iconst (v := 0) dX9_typeAt_2 (by decide) ?_
  refine ex_istore_n dX9_typeAt_3 (Nat.le_of_ble_eq_true rfl) ?_
  exact key 0 (Nat.zero_le _) (by omega)
theorem c_X9_lastType (p : mo_P h0 h s) (hl : r_line s T) (hw : ln_W T) {types : Nat → Int32} (ht : s.2.2 11 = types) (hN : ln_N T < 2 ^ 31) : mm_Ct l G mX9_lastType [.ref 29] h (mm_ri (.int (if ln_N T = 0 then -1 else ln_ta types T (ln_N T - 1))) h) := by
  refine mm_ct (by decide +kernel) (by decide +kernel) rfl (by simp [Value.category]) (Nat.le_of_ble_eq_true rfl) rfl ?_
  have e : ln_m T 0 = nI (ln_N T) := by have := ln_m_N T 0 hw; rw [Nat.zero_add] at this; exact this
  refine ex_aload_n dX9_lastType_0 rfl ?_
  refine cV_f dX9_lastType_1 (mm_kv i_X9_metres l_X9_160) ⟨(Nat.le_of_ble_eq_true rfl), (Nat.le_of_ble_eq_true rfl)⟩ (c_X9_metres p hl hw) rfl rfl (mP_o p) (Nat.le_of_ble_eq_true rfl) rfl ?_
  rw [e]
  refine ex_istore_n dX9_lastType_4 (Nat.le_of_ble_eq_true rfl) ?_
  refine ex_iload_n dX9_lastType_5 rfl ?_
  skip
  by_cases hz : ln_N T = 0
  · skip
    refine ex_if_ne (tgt := 13) dX9_lastType_6 (by decide) (fun z => absurd (by rw [hz]; rfl) z) (fun _ => ?_)
    refine ex_iconst (v := (-1)) dX9_lastType_9 (by decide) ?_
    refine ex_goto (tgt := 20) dX9_lastType_10 (by decide) ?_
    refine ex_ireturn dX9_lastType_20 ⟨_, rfl, rfl⟩ ?_
    exact mm_rq (if_pos hz)
  · skip
    refine ex_if_ne (tgt := 13) dX9_lastType_6 (by decide) (fun _ => ?_) (fun z => absurd z (nI_ne0 (by omega) hN))
    refine ex_aload_n dX9_lastType_13 rfl ?_
    refine ex_iload_n dX9_lastType_14 rfl ?_
    refine ex_iconst (v := 1) dX9_lastType_15 (by decide) ?_
    refine ex_isub dX9_lastType_16 ?_
    rw [show nI (ln_N T) - 1 = nI (ln_N T - 1) from pk_sub (a := ln_N T) (b := 1) (by omega)]
    refine cV_f dX9_lastType_17 (mm_kv i_X9_typeAt l_X9_200) ⟨(Nat.le_of_ble_eq_true rfl), (Nat.le_of_ble_eq_true rfl)⟩ (c_X9_typeAt p hl hw ht hN (show ln_N T - 1 < 2 ^ 31 by omega) _ rfl) rfl rfl (mP_o p) (Nat.le_of_ble_eq_true rfl) rfl ?_
    refine ex_ireturn dX9_lastType_20 ⟨_, rfl, rfl⟩ ?_
    exact mm_rq (if_neg hz)
theorem c_X9_puts (p : mo_P h0 h s) {n : Nat} (e : s.1 21 = nI n) (hn : n < 8192) (k x f t : Int32) : mm_Ct l G mX9_puts [.ref 29, .int k, .int x, .int f, .int t] h (mm_qv (fun h' => mo_P h0 h' (mo_pu s n k x f t))) := by
  refine mm_ct (by decide +kernel) (by decide +kernel) rfl (by simp [Value.category]) (Nat.le_of_ble_eq_true rfl) rfl ?_
  refine ex_aload_n dX9_puts_0 rfl ?_
  refine ex_getfield dX9_puts_1 g_X9_50 (mP_o p) rfl ?_
  refine ex_aload_n dX9_puts_4 rfl ?_
  refine ex_getfield (v := .int (nI n)) dX9_puts_5 g_X9_171 (mP_o p) (congrArg (fun z => some (Value.int z)) (e)) ?_
  refine ex_iload_n dX9_puts_8 rfl ?_
  refine ex_iastore dX9_puts_9 (mA_22 p) (by first | assumption | exact vp_in_nI (by omega) (by decide)) ?_
  refine mq_22 p (fun h9 p9 => ?_)
  refine ex_aload_n dX9_puts_10 rfl ?_
  refine ex_getfield dX9_puts_11 g_X9_53 (mP_o p9) rfl ?_
  refine ex_aload_n dX9_puts_14 rfl ?_
  refine ex_getfield (v := .int (nI n)) dX9_puts_15 g_X9_171 (mP_o p9) (congrArg (fun z => some (Value.int z)) (e)) ?_
  refine ex_iload_n dX9_puts_18 rfl ?_
  refine ex_iastore dX9_puts_19 (mA_23 p9) (by first | assumption | exact vp_in_nI (by omega) (by decide)) ?_
  refine mq_23 p9 (fun h19 p19 => ?_)
  refine ex_aload_n dX9_puts_20 rfl ?_
  refine ex_getfield dX9_puts_21 g_X9_56 (mP_o p19) rfl ?_
  refine ex_aload_n dX9_puts_24 rfl ?_
  refine ex_getfield (v := .int (nI n)) dX9_puts_25 g_X9_171 (mP_o p19) (congrArg (fun z => some (Value.int z)) (e)) ?_
  refine ex_iload_n dX9_puts_28 rfl ?_
  refine ex_iastore dX9_puts_29 (mA_24 p19) (by first | assumption | exact vp_in_nI (by omega) (by decide)) ?_
  refine mq_24 p19 (fun h29 p29 => ?_)
  refine ex_aload_n dX9_puts_30 rfl ?_
  refine ex_getfield dX9_puts_31 g_X9_59 (mP_o p29) rfl ?_
  refine ex_aload_n dX9_puts_34 rfl ?_
  refine ex_getfield (v := .int (nI n)) dX9_puts_35 g_X9_171 (mP_o p29) (congrArg (fun z => some (Value.int z)) (e)) ?_
  refine ex_iload dX9_puts_38 rfl ?_
  refine ex_iastore dX9_puts_40 (mA_25 p29) (by first | assumption | exact vp_in_nI (by omega) (by decide)) ?_
  refine mq_25 p29 (fun h40 p40 => ?_)
  refine ex_aload_n dX9_puts_41 rfl ?_
  refine ex_dup dX9_puts_42 rfl ?_
  refine ex_getfield (v := .int (nI n)) dX9_puts_43 g_X9_171 (mP_o p40) (congrArg (fun z => some (Value.int z)) (e)) ?_
  refine ex_iconst (v := 1) dX9_puts_46 (by decide) ?_
  refine ex_iadd dX9_puts_47 ?_
  rw [nI_1]
  refine ex_put dX9_puts_48 p_X9_171 (mP_o p40) (Nat.le_of_ble_eq_true rfl) (fun z => nomatch z) (mm_fi _) ?_
  refine mk_21 p40 (fun h48 p48 => ?_)
  refine ex_return dX9_puts_51 rfl ?_
  rw [nI_clamp (show n < 2 ^ 31 by omega)] at p48; exact ⟨rfl, p48⟩
theorem c_X9_appends (p : mo_P h0 h s) (hl : r_line s T) (ho : r_out s g) (hg0 : g.length ≤ 30) (hg : T.length + 2 * g.length ≤ 8190) : mm_Ct l G mX9_appends [.ref 29] h (mm_qv (fun h' => ∃ s', mo_P h0 h' s' ∧ mo_F [21, 22, 23, 24, 25] s s' ∧ r_line s' (ap_l g T))) := by
  have key : ∀ (T1 : List tt_R) (s1 : mo_S) (h1 : mm_H) (x2 : Value), mo_P h0 h1 s1 → mo_F [21, 22, 23, 24, 25] s s1 → r_line s1 T1 → T1.length + 2 * g.length ≤ 8190 → mm_Ex l G mX9_appends (mm_qv (fun h' => ∃ s', mo_P h0 h' s' ∧ mo_F [21, 22, 23, 24, 25] s s' ∧ r_line s' (ap_l g T1))) 2 [.ref 29, .int (nI 0), x2] [] h1 := by
    refine lp_fwd g (fun i g' => ∀ (T1 : List tt_R) (s1 : mo_S) (h1 : mm_H) (x2 : Value), mo_P h0 h1 s1 → mo_F [21, 22, 23, 24, 25] s s1 → r_line s1 T1 → T1.length + 2 * g'.length ≤ 8190 → mm_Ex l G mX9_appends (mm_qv (fun h' => ∃ s', mo_P h0 h' s' ∧ mo_F [21, 22, 23, 24, 25] s s' ∧ r_line s' (ap_l g' T1))) 2 [.ref 29, .int (nI i), x2] [] h1) ?_ ?_
    · intro T1 s1 h1 x2 p1 f1 l1 hn
      refine ex_iload_n dX9_appends_2 rfl ?_
      refine ex_aload_n dX9_appends_3 rfl ?_
      refine ex_getfield (v := .int (nI g.length)) dX9_appends_4 g_X9_193 (mP_o p1) (congrArg (fun z => some (Value.int z)) (f1.g ho.1)) ?_
      refine ex_icmp_ge (tgt := 144) dX9_appends_7 (by decide) (fun _ => ?_) (fun z => absurd (Int32.le_refl _) z)
      refine ex_return dX9_appends_144 rfl ?_
      exact ⟨rfl, s1, p1, f1, l1⟩
    · intro i q g' hr hR hi ih T1 s1 h1 x2 p1 f1 l1 hn
      rw [List.length_cons] at hn
      refine ex_iload_n dX9_appends_2 rfl ?_
      refine ex_aload_n dX9_appends_3 rfl ?_
      refine ex_getfield (v := .int (nI g.length)) dX9_appends_4 g_X9_193 (mP_o p1) (congrArg (fun z => some (Value.int z)) (f1.g ho.1)) ?_
      refine ex_icmp_ge (tgt := 144) dX9_appends_7 (by decide) (fun z => absurd z (nI_ge hi (by omega))) (fun _ => ?_)
      skip
      obtain ⟨o1, o2, o3⟩ := ho.2 i q hr
      have hput : ∀ (T2 : List tt_R) (s2 : mo_S) (h2 : mm_H) (x2 : Value), mo_P h0 h2 s2 → mo_F [21, 22, 23, 24, 25] s s2 → r_line s2 T2 → T2.length ≤ 8189 → ro_ap q.2.1 q.2.2.1 q.2.2.2 T1 = T2 ++ [(0, q.2.1, q.2.2.1, q.2.2.2)] → mm_Ex l G mX9_appends (mm_qv (fun h' => ∃ s', mo_P h0 h' s' ∧ mo_F [21, 22, 23, 24, 25] s s' ∧ r_line s' (ap_l (q :: g') T1))) 115 [.ref 29, .int (nI i), x2] [] h2 := by
        intro T2 s2 h2 x2 p2 f2 l2 hT2 e2
        rw [ap_l, e2]
        refine ex_aload_n dX9_appends_115 rfl ?_
        refine ex_iconst (v := 0) dX9_appends_116 (by decide) ?_
        refine ex_aload_n dX9_appends_117 rfl ?_
        refine ex_getfield dX9_appends_118 g_X9_41 (mP_o p2) rfl ?_
        refine ex_iload_n dX9_appends_121 rfl ?_
        refine ex_ialoadv (v := q.2.1) dX9_appends_122 (mA_18 p2) (by first | assumption | exact vp_in_nI (by omega) (by decide)) (f2.v o1 rfl (by omega)) ?_
        refine ex_aload_n dX9_appends_123 rfl ?_
        refine ex_getfield dX9_appends_124 g_X9_44 (mP_o p2) rfl ?_
        refine ex_iload_n dX9_appends_127 rfl ?_
        refine ex_ialoadv (v := q.2.2.1) dX9_appends_128 (mA_19 p2) (by first | assumption | exact vp_in_nI (by omega) (by decide)) (f2.v o2 rfl (by omega)) ?_
        refine ex_aload_n dX9_appends_129 rfl ?_
        refine ex_getfield dX9_appends_130 g_X9_47 (mP_o p2) rfl ?_
        refine ex_iload_n dX9_appends_133 rfl ?_
        refine ex_ialoadv (v := q.2.2.1 + q.2.2.2 - 1) dX9_appends_134 (mA_20 p2) (by first | assumption | exact vp_in_nI (by omega) (by decide)) (f2.v o3 rfl (by omega)) ?_
        refine cV_y dX9_appends_135 (mm_kv i_X9_puts l_X9_203) ⟨(Nat.le_of_ble_eq_true rfl), (Nat.le_of_ble_eq_true rfl)⟩ (c_X9_puts p2 l2.1 (by omega) _ _ _ _) rfl rfl (mP_o p2) (Nat.le_of_ble_eq_true rfl) rfl ?_
        rintro h135 p135
        refine ex_iinc (d := 1) dX9_appends_138 rfl (by decide) ?_
        refine ex_goto (tgt := 2) dX9_appends_141 (by decide) ?_
        rw [nI_1]; exact ih _ _ _ _ p135 (f2.pu _ _ _ _ _) (l2.pu (0, q.2.1, q.2.2.1, q.2.2.2)) (by rw [← e2]; have := ro_ap_len (p := q.2.1) (f := q.2.2.1) (n := q.2.2.2) (L := T1); omega)
      rcases List.eq_nil_or_concat T1 with hz | ⟨L0, r, hz⟩
      · subst hz
        refine ex_aload_n dX9_appends_10 rfl ?_
        refine ex_getfield (v := .int (_)) dX9_appends_11 g_X9_171 (mP_o p1) (congrArg (fun z => some (Value.int z)) (l1.1)) ?_
        refine ex_if_le (tgt := 35) dX9_appends_14 (by decide) (fun _ => ?_) (fun z => absurd (by decide) z)
        refine ex_iconst (v := 0) dX9_appends_35 (by decide) ?_
        refine ex_istore_n dX9_appends_36 (Nat.le_of_ble_eq_true rfl) ?_
        refine ex_iload_n dX9_appends_37 rfl ?_
        refine ex_if_eq (tgt := 103) dX9_appends_38 (by decide) (fun _ => ?_) (fun z => absurd rfl z)
        refine ex_iload_n dX9_appends_103 rfl ?_
        refine ex_if_eq (tgt := 115) dX9_appends_104 (by decide) (fun _ => ?_) (fun z => absurd rfl z)
        exact hput [] _ _ _ p1 f1 l1 (by decide) ro_ap_nil
      rw [List.concat_eq_append] at hz
      subst hz
      rw [List.length_append, List.length_cons, List.length_nil] at hn
      obtain ⟨d1, d2, d3, d4⟩ := l1.2 _ _ (ls_snoc_get (L := L0) (r := r))
      refine ex_aload_n dX9_appends_10 rfl ?_
      refine ex_getfield (v := .int (nI (L0.length + 1))) dX9_appends_11 g_X9_171 (mP_o p1) (congrArg (fun z => some (Value.int z)) (by rw [l1.1, List.length_append]; rfl)) ?_
      refine ex_if_le (tgt := 35) dX9_appends_14 (by decide) (fun z => absurd z (nI_nle (by omega) (by omega))) (fun _ => ?_)
      refine ex_aload_n dX9_appends_17 rfl ?_
      refine ex_getfield dX9_appends_18 g_X9_50 (mP_o p1) rfl ?_
      refine ex_aload_n dX9_appends_21 rfl ?_
      refine ex_getfield (v := .int (nI (L0.length + 1))) dX9_appends_22 g_X9_171 (mP_o p1) (congrArg (fun z => some (Value.int z)) (by rw [l1.1, List.length_append]; rfl)) ?_
      refine ex_iconst (v := 1) dX9_appends_25 (by decide) ?_
      refine ex_isub dX9_appends_26 ?_
      rw [nI_m1]
      refine ex_ialoadv (v := r.1) dX9_appends_27 (mA_22 p1) (by first | assumption | exact vp_in_nI (by omega) (by decide)) (mo_av d1 rfl (by omega)) ?_
      skip
      by_cases hk : r.1 = 0
      · skip
        refine ex_if_ne (tgt := 35) dX9_appends_28 (by decide) (fun z => absurd hk z) (fun _ => ?_)
        refine ex_iconst (v := 1) dX9_appends_31 (by decide) ?_
        refine ex_goto (tgt := 36) dX9_appends_32 (by decide) ?_
        refine ex_istore_n dX9_appends_36 (Nat.le_of_ble_eq_true rfl) ?_
        refine ex_iload_n dX9_appends_37 rfl ?_
        refine ex_if_eq (tgt := 103) dX9_appends_38 (by decide) (fun z => absurd z (by decide)) (fun _ => ?_)
        refine ex_aload_n dX9_appends_41 rfl ?_
        refine ex_getfield dX9_appends_42 g_X9_53 (mP_o p1) rfl ?_
        refine ex_aload_n dX9_appends_45 rfl ?_
        refine ex_getfield (v := .int (nI (L0.length + 1))) dX9_appends_46 g_X9_171 (mP_o p1) (congrArg (fun z => some (Value.int z)) (by rw [l1.1, List.length_append]; rfl)) ?_
        refine ex_iconst (v := 1) dX9_appends_49 (by decide) ?_
        refine ex_isub dX9_appends_50 ?_
        rw [nI_m1]
        refine ex_ialoadv (v := r.2.1) dX9_appends_51 (mA_23 p1) (by first | assumption | exact vp_in_nI (by omega) (by decide)) (mo_av d2 rfl (by omega)) ?_
        refine ex_aload_n dX9_appends_52 rfl ?_
        refine ex_getfield dX9_appends_53 g_X9_41 (mP_o p1) rfl ?_
        refine ex_iload_n dX9_appends_56 rfl ?_
        refine ex_ialoadv (v := q.2.1) dX9_appends_57 (mA_18 p1) (by first | assumption | exact vp_in_nI (by omega) (by decide)) (f1.v o1 rfl (by omega)) ?_
        skip
        by_cases e1 : r.2.1 = q.2.1
        · skip
          refine ex_icmp_ne (tgt := 103) dX9_appends_58 (by decide) (fun z => absurd e1 z) (fun _ => ?_)
          refine ex_aload_n dX9_appends_61 rfl ?_
          refine ex_getfield dX9_appends_62 g_X9_59 (mP_o p1) rfl ?_
          refine ex_aload_n dX9_appends_65 rfl ?_
          refine ex_getfield (v := .int (nI (L0.length + 1))) dX9_appends_66 g_X9_171 (mP_o p1) (congrArg (fun z => some (Value.int z)) (by rw [l1.1, List.length_append]; rfl)) ?_
          refine ex_iconst (v := 1) dX9_appends_69 (by decide) ?_
          refine ex_isub dX9_appends_70 ?_
          rw [nI_m1]
          refine ex_ialoadv (v := r.2.2.1 + r.2.2.2 - 1) dX9_appends_71 (mA_25 p1) (by first | assumption | exact vp_in_nI (by omega) (by decide)) ((mo_av d4 rfl (by omega)).trans (by rw [ln_to, if_pos hk])) ?_
          refine ex_iconst (v := 1) dX9_appends_72 (by decide) ?_
          refine ex_iadd dX9_appends_73 ?_
          rw [show r.2.2.1 + r.2.2.2 - 1 + 1 = r.2.2.1 + r.2.2.2 by grind]
          refine ex_aload_n dX9_appends_74 rfl ?_
          refine ex_getfield dX9_appends_75 g_X9_44 (mP_o p1) rfl ?_
          refine ex_iload_n dX9_appends_78 rfl ?_
          refine ex_ialoadv (v := q.2.2.1) dX9_appends_79 (mA_19 p1) (by first | assumption | exact vp_in_nI (by omega) (by decide)) (f1.v o2 rfl (by omega)) ?_
          skip
          by_cases e2 : r.2.2.1 + r.2.2.2 = q.2.2.1
          · skip
            refine ex_icmp_ne (tgt := 103) dX9_appends_80 (by decide) (fun z => absurd e2 z) (fun _ => ?_)
            refine ex_aload_n dX9_appends_83 rfl ?_
            refine ex_getfield dX9_appends_84 g_X9_59 (mP_o p1) rfl ?_
            refine ex_aload_n dX9_appends_87 rfl ?_
            refine ex_getfield (v := .int (nI (L0.length + 1))) dX9_appends_88 g_X9_171 (mP_o p1) (congrArg (fun z => some (Value.int z)) (by rw [l1.1, List.length_append]; rfl)) ?_
            refine ex_iconst (v := 1) dX9_appends_91 (by decide) ?_
            refine ex_isub dX9_appends_92 ?_
            rw [nI_m1]
            refine ex_aload_n dX9_appends_93 rfl ?_
            refine ex_getfield dX9_appends_94 g_X9_47 (mP_o p1) rfl ?_
            refine ex_iload_n dX9_appends_97 rfl ?_
            refine ex_ialoadv (v := q.2.2.1 + q.2.2.2 - 1) dX9_appends_98 (mA_20 p1) (by first | assumption | exact vp_in_nI (by omega) (by decide)) (f1.v o3 rfl (by omega)) ?_
            refine ex_iastore dX9_appends_99 (mA_25 p1) (by first | assumption | exact vp_in_nI (by omega) (by decide)) ?_
            refine mq_25 p1 (fun h99 p99 => ?_)
            refine ex_goto (tgt := 138) dX9_appends_100 (by decide) ?_
            skip
            rw [nI_clamp (show L0.length < 2 ^ 31 by omega)] at p99
            have l2 : r_line (mo_sa s1 25 L0.length (q.2.2.1 + q.2.2.2 - 1)) (L0 ++ [(r.1, r.2.1, r.2.2.1, r.2.2.2 + q.2.2.2)]) := by
              refine ⟨by rw [List.length_append]; exact (by rw [l1.1, List.length_append]; rfl : s1.1 21 = nI (L0.length + 1)), fun j y hy => ?_⟩
              have hj := (List.getElem?_eq_some_iff.mp hy).1
              rw [List.length_append, List.length_cons, List.length_nil] at hj
              by_cases hjl : j < L0.length
              · rw [List.getElem?_append_left hjl] at hy
                have := l1.2 j y (by rw [List.getElem?_append_left hjl]; exact hy)
                exact ⟨this.1, this.2.1, this.2.2.1, (pk_un (by omega)).trans this.2.2.2⟩
              · obtain rfl : j = L0.length := by omega
                rw [ls_snoc_get] at hy
                cases hy
                refine ⟨d1, d2, d3, ?_⟩
                refine pk_us.trans ?_
                rw [ln_to, if_pos hk]
                grind
            refine ex_iinc (d := 1) dX9_appends_138 rfl (by decide) ?_
            refine ex_goto (tgt := 2) dX9_appends_141 (by decide) ?_
            rw [nI_1, ap_l, ro_ap_1 hk ⟨e1, e2⟩]; exact ih _ _ _ _ p99 (f1.a 25 rfl) l2 (by rw [List.length_append, List.length_cons, List.length_nil]; omega)
          have e3 : ¬ (r.2.1 = q.2.1 ∧ r.2.2.1 + r.2.2.2 = q.2.2.1) := fun z => e2 z.2
          · skip
            refine ex_icmp_ne (tgt := 103) dX9_appends_80 (by decide) (fun _ => ?_) (fun z => absurd z e2)
            refine ex_iload_n dX9_appends_103 rfl ?_
            refine ex_if_eq (tgt := 115) dX9_appends_104 (by decide) (fun z => absurd z (by decide)) (fun _ => ?_)
            refine ex_aload_n dX9_appends_107 rfl ?_
            refine ex_iconst (v := 1) dX9_appends_108 (by decide) ?_
            refine ex_iconst (v := (-1)) dX9_appends_109 (by decide) ?_
            refine ex_iconst (v := (-1)) dX9_appends_110 (by decide) ?_
            refine ex_iconst (v := (-1)) dX9_appends_111 (by decide) ?_
            refine cV_y dX9_appends_112 (mm_kv i_X9_puts l_X9_203) ⟨(Nat.le_of_ble_eq_true rfl), (Nat.le_of_ble_eq_true rfl)⟩ (c_X9_puts p1 (n := L0.length + 1) (by rw [l1.1, List.length_append]; rfl) (by omega) _ _ _ _) rfl rfl (mP_o p1) (Nat.le_of_ble_eq_true rfl) rfl ?_
            rintro h112 p112
            exact hput _ _ _ _ p112 (f1.pu _ _ _ _ _) (by have := l1.pu (1, -1, -1, 0); rw [List.length_append] at this; exact this) (by rw [List.length_append, List.length_append, List.length_cons, List.length_nil, List.length_cons, List.length_nil]; omega) (ro_ap_2 hk e3)
        have e3 : ¬ (r.2.1 = q.2.1 ∧ r.2.2.1 + r.2.2.2 = q.2.2.1) := fun z => e1 z.1
        · skip
          refine ex_icmp_ne (tgt := 103) dX9_appends_58 (by decide) (fun _ => ?_) (fun z => absurd z e1)
          refine ex_iload_n dX9_appends_103 rfl ?_
          refine ex_if_eq (tgt := 115) dX9_appends_104 (by decide) (fun z => absurd z (by decide)) (fun _ => ?_)
          refine ex_aload_n dX9_appends_107 rfl ?_
          refine ex_iconst (v := 1) dX9_appends_108 (by decide) ?_
          refine ex_iconst (v := (-1)) dX9_appends_109 (by decide) ?_
          refine ex_iconst (v := (-1)) dX9_appends_110 (by decide) ?_
          refine ex_iconst (v := (-1)) dX9_appends_111 (by decide) ?_
          refine cV_y dX9_appends_112 (mm_kv i_X9_puts l_X9_203) ⟨(Nat.le_of_ble_eq_true rfl), (Nat.le_of_ble_eq_true rfl)⟩ (c_X9_puts p1 (n := L0.length + 1) (by rw [l1.1, List.length_append]; rfl) (by omega) _ _ _ _) rfl rfl (mP_o p1) (Nat.le_of_ble_eq_true rfl) rfl ?_
          rintro h112 p112
          exact hput _ _ _ _ p112 (f1.pu _ _ _ _ _) (by have := l1.pu (1, -1, -1, 0); rw [List.length_append] at this; exact this) (by rw [List.length_append, List.length_append, List.length_cons, List.length_nil, List.length_cons, List.length_nil]; omega) (ro_ap_2 hk e3)
      · skip
        refine ex_if_ne (tgt := 35) dX9_appends_28 (by decide) (fun _ => ?_) (fun z => absurd z hk)
        refine ex_iconst (v := 0) dX9_appends_35 (by decide) ?_
        refine ex_istore_n dX9_appends_36 (Nat.le_of_ble_eq_true rfl) ?_
        refine ex_iload_n dX9_appends_37 rfl ?_
        refine ex_if_eq (tgt := 103) dX9_appends_38 (by decide) (fun _ => ?_) (fun z => absurd rfl z)
        refine ex_iload_n dX9_appends_103 rfl ?_
        refine ex_if_eq (tgt := 115) dX9_appends_104 (by decide) (fun _ => ?_) (fun z => absurd rfl z)
        exact hput _ _ _ _ p1 f1 l1 (by rw [List.length_append, List.length_cons, List.length_nil]; omega) (ro_ap_3 hk)
  refine mm_ct (by decide +kernel) (by decide +kernel) rfl (by simp [Value.category]) (Nat.le_of_ble_eq_true rfl) rfl ?_
  refine ex_iconst (v := 0) dX9_appends_0 (by decide) ?_
  refine ex_istore_n dX9_appends_1 (Nat.le_of_ble_eq_true rfl) ?_
  exact key T s h _ p (mo_F.refl _ s) hl hg
end MOE
