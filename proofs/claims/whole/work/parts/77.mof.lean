/-! THE MODEL: faults, a buoyed line -/
def r_fau (s : mo_S) (L : List tt_R) : Prop := s.1 38 = nI L.length ∧ r_rows (s.2.2 39) (s.2.2 40) (s.2.2 41) (s.2.2 42) L
theorem r_fau.fr {K : List Nat} {s s' : mo_S} {T : List tt_R} (h : r_fau s T) (f : mo_F K s s') (h1 : K.elem 38 = false := by rfl) (h2 : K.elem 39 = false := by rfl) (h3 : K.elem 40 = false := by rfl) (h4 : K.elem 41 = false := by rfl) (h5 : K.elem 42 = false := by rfl) : r_fau s' T := by
  unfold r_fau
  rw [f.1 38 h1, f.2.2 39 h2, f.2.2 40 h3, f.2.2 41 h4, f.2.2 42 h5]
  exact h
def fa_an (me : Int32) (r : tt_R) : tt_R := (r.1, r.2.1, 0, me)
/-- the first many kinds and places of the faults are those of L -/
def r_fk (s : mo_S) (L : List tt_R) : Prop := ∀ (i : Nat) (r : tt_R), L[i]? = some r → s.2.2 39 i = r.1 ∧ s.2.2 40 i = r.2.1
theorem ls_up0 {f : Nat → Int32} {L : List tt_R} {c : tt_R → Int32} {x : tt_R} (h : ∀ (i : Nat) (r : tt_R), L[i]? = some r → f i = c r) : ∀ (i : Nat) (r : tt_R), (L ++ [x])[i]? = some r → upd f L.length (c x) i = c r := fun i r hr => by
  have := ls_up (f := f) (c := c) (b := 0) (x := x) (k := L.length) (fun i r hr => by rw [Nat.zero_add]; exact h i r hr) (by omega) i r hr
  rw [Nat.zero_add] at this; exact this
theorem fa_k_f {p : Int32} : ∀ (R d : List tt_R), fa_k p R d = R.reverse.filter (fun r => decide (r.2.1 < p)) ++ d
  | [], d => rfl
  | r :: R, d => by
    rw [fa_k, List.reverse_cons, List.filter_append]
    by_cases e : r.2.1 < p
    · rw [if_pos e, fa_k_f R, List.filter_cons, if_pos (decide_eq_true e)]; simp
    · rw [if_neg e, fa_k_f R, List.filter_cons, if_neg (fun z => e (of_decide_eq_true z))]; simp
section MOF
variable {l : Launch} {G : mm_G} {h0 h : mm_H} {s : mo_S} {S : se_T} {T W g L : List tt_R}
theorem c_X9_doubts (p : mo_P h0 h s) (hl : r_line s T) (hw : ln_W T) {n : Nat} (hn : s.1 38 = nI n) (hn4 : n ≤ 4) (L : List tt_R) (hL : L.length = n) (hf : r_fk s L) : mm_Ct l G mX9_doubts [.ref 29] h (mm_qv (fun h' => ∃ s', mo_P h0 h' s' ∧ mo_F [41, 42] s s' ∧ r_fau s' (L.map (fa_an (ln_m T 0))))) := by
  have key : ∀ (s1 : mo_S) (h1 : mm_H), mo_P h0 h1 s1 → mo_F [41, 42] s s1 → (∀ (i : Nat), i < 0 → s1.2.2 41 i = 0 ∧ s1.2.2 42 i = ln_m T 0) → mm_Ex l G mX9_doubts (mm_qv (fun h' => ∃ s', mo_P h0 h' s' ∧ mo_F [41, 42] s s' ∧ ∀ (i : Nat), i < n → s'.2.2 41 i = 0 ∧ s'.2.2 42 i = ln_m T 0)) 2 [.ref 29, .int (nI 0)] [] h1 := by
    refine lp_nat n (fun i => ∀ (s1 : mo_S) (h1 : mm_H), mo_P h0 h1 s1 → mo_F [41, 42] s s1 → (∀ (j : Nat), j < i → s1.2.2 41 j = 0 ∧ s1.2.2 42 j = ln_m T 0) → mm_Ex l G mX9_doubts (mm_qv (fun h' => ∃ s', mo_P h0 h' s' ∧ mo_F [41, 42] s s' ∧ ∀ (i : Nat), i < n → s'.2.2 41 i = 0 ∧ s'.2.2 42 i = ln_m T 0)) 2 [.ref 29, .int (nI i)] [] h1) ?_ ?_
    · intro s1 h1 p1 f1 q1
      refine ex_iload_n dX9_doubts_2 rfl ?_
      refine ex_aload_n dX9_doubts_3 rfl ?_
      refine ex_getfield (v := .int (nI n)) dX9_doubts_4 g_X9_177 (mP_o p1) (congrArg (fun z => some (Value.int z)) (f1.g hn)) ?_
      refine ex_icmp_ge (tgt := 33) dX9_doubts_7 (by decide) (fun _ => ?_) (fun z => absurd (Int32.le_refl _) z)
      refine ex_return dX9_doubts_33 rfl ?_
      exact ⟨rfl, s1, p1, f1, q1⟩
    · intro i hi ih s1 h1 p1 f1 q1
      have q2 : ∀ (j : Nat), j < i + 1 → (mo_sa (mo_sa s1 41 i 0) 42 i (ln_m T 0)).2.2 41 j = 0 ∧ (mo_sa (mo_sa s1 41 i 0) 42 i (ln_m T 0)).2.2 42 j = ln_m T 0 := by
        intro j hj
        by_cases e : j = i
        · subst e; exact ⟨pk_us, pk_us⟩
        · have := q1 j (by omega)
          exact ⟨(pk_un e).trans this.1, (pk_un e).trans this.2⟩
      refine ex_iload_n dX9_doubts_2 rfl ?_
      refine ex_aload_n dX9_doubts_3 rfl ?_
      refine ex_getfield (v := .int (nI n)) dX9_doubts_4 g_X9_177 (mP_o p1) (congrArg (fun z => some (Value.int z)) (f1.g hn)) ?_
      refine ex_icmp_ge (tgt := 33) dX9_doubts_7 (by decide) (fun z => absurd z (nI_ge hi (by omega))) (fun _ => ?_)
      refine ex_aload_n dX9_doubts_10 rfl ?_
      refine ex_getfield dX9_doubts_11 g_X9_83 (mP_o p1) rfl ?_
      refine ex_iload_n dX9_doubts_14 rfl ?_
      refine ex_iconst (v := 0) dX9_doubts_15 (by decide) ?_
      refine ex_iastore dX9_doubts_16 (mA_41 p1) (by first | assumption | exact vp_in_nI (by omega) (by decide)) ?_
      refine mq_41 p1 (fun h16 p16 => ?_)
      refine ex_aload_n dX9_doubts_17 rfl ?_
      refine ex_getfield dX9_doubts_18 g_X9_86 (mP_o p16) rfl ?_
      refine ex_iload_n dX9_doubts_21 rfl ?_
      refine ex_aload_n dX9_doubts_22 rfl ?_
      refine cV_f dX9_doubts_23 (mm_kv i_X9_metres l_X9_160) ⟨(Nat.le_of_ble_eq_true rfl), (Nat.le_of_ble_eq_true rfl)⟩ (c_X9_metres p16 (hl.fr (f1.a 41 rfl)) hw) rfl rfl (mP_o p16) (Nat.le_of_ble_eq_true rfl) rfl ?_
      refine ex_iastore dX9_doubts_26 (mA_42 p16) (by first | assumption | exact vp_in_nI (by omega) (by decide)) ?_
      refine mq_42 p16 (fun h26 p26 => ?_)
      skip
      rw [nI_clamp (show i < 2 ^ 31 by omega)] at p26
      refine ex_iinc (d := 1) dX9_doubts_27 rfl (by decide) ?_
      refine ex_goto (tgt := 2) dX9_doubts_30 (by decide) ?_
      rw [nI_1]; exact ih _ _ p26 ((f1.a 41 rfl).a 42 rfl) q2
  have fin : mm_Ct l G mX9_doubts [.ref 29] h (mm_qv (fun h' => ∃ s', mo_P h0 h' s' ∧ mo_F [41, 42] s s' ∧ ∀ (i : Nat), i < n → s'.2.2 41 i = 0 ∧ s'.2.2 42 i = ln_m T 0)) := by
    refine mm_ct (by decide +kernel) (by decide +kernel) rfl (by simp [Value.category]) (Nat.le_of_ble_eq_true rfl) rfl ?_
    refine ex_iconst (v := 0) dX9_doubts_0 (by decide) ?_
    refine ex_istore_n dX9_doubts_1 (Nat.le_of_ble_eq_true rfl) ?_
    exact key s h p (mo_F.refl _ s) (fun i hi => absurd hi (Nat.not_lt_zero i))
  refine mm_ct_mono fin (fun r9 h9 ⟨q0, s', q1, q2, q3⟩ => ⟨q0, s', q1, q2, ?_, fun i r hr => ?_⟩)
  · rw [q2.1 38 rfl, hn, List.length_map, hL]
  · rw [List.getElem?_map] at hr
    cases hq : L[i]? with
    | none => rw [hq] at hr; cases hr
    | some q =>
      rw [hq] at hr
      cases hr
      have hi := (List.getElem?_eq_some_iff.mp hq).1
      rw [q2.2.2 39 rfl, q2.2.2 40 rfl]
      exact ⟨(hf i q hq).1, (hf i q hq).2, (q3 i (by omega)).1, (q3 i (by omega)).2⟩
theorem r_line.pop {r : tt_R} {R : List tt_R} (h : r_line s (r :: R).reverse) : r_line (mo_sf s 21 (nI R.length)) R.reverse := by
  refine ⟨by rw [List.length_reverse]; show upd s.1 21 (nI R.length) 21 = _; exact pk_us, fun i q hq => ?_⟩
  exact h.2 i q (by rw [List.reverse_cons, List.getElem?_append_left (List.getElem?_eq_some_iff.mp hq).1]; exact hq)
theorem ln_W_rev {r : tt_R} {R : List tt_R} (h : ln_W (r :: R).reverse) : ln_w r ∧ ln_W R.reverse := by
  have hl := h.1
  rw [List.length_reverse, List.length_cons] at hl
  refine ⟨h.2 R.length r (by rw [List.reverse_cons, List.getElem?_append_right (by rw [List.length_reverse]; exact Nat.le_refl _), List.length_reverse, Nat.sub_self]; rfl), by rw [List.length_reverse]; omega, fun i q hq => ?_⟩
  exact h.2 i q (by rw [List.reverse_cons, List.getElem?_append_left (List.getElem?_eq_some_iff.mp hq).1]; exact hq)
/-- the loop that takes the lost metres off -/
theorem x_X9_lose {Q : mm_R → mm_H → Prop} : ∀ (R : List tt_R) (m : Nat) (s : mo_S) (h : mm_H) (x2 : Value), m ≤ 200 → mo_P h0 h s → r_line s R.reverse → ln_W R.reverse → (∀ (s2 : mo_S) (h2 : mm_H) (x1 x2 : Value), mo_P h0 h2 s2 → mo_F [21, 25] s s2 → r_line s2 (ro_le R (nI m)) → mm_Ex l G mX9_buoys Q 146 [.ref 29, x1, x2, .null] [] h2) → mm_Ex l G mX9_buoys Q 68 [.ref 29, .int (nI m), x2, .null] [] h := by
  intro R
  induction R with
  | nil =>
    intro m s h x2 hm p hl hw k
    refine ex_aload_n dX9_buoys_68 rfl ?_
    refine ex_getfield (v := .int (_)) dX9_buoys_69 g_X9_171 (mP_o p) (congrArg (fun z => some (Value.int z)) (hl.1)) ?_
    refine ex_if_le (tgt := 146) dX9_buoys_72 (by decide) (fun _ => ?_) (fun z => absurd (by decide) z)
    exact k s h _ _ p (mo_F.refl _ s) hl
  | cons r R ih =>
    intro m s h x2 hm p hl hw k
    obtain ⟨w0, w1⟩ := ln_W_rev hw
    obtain ⟨e1, e2, e3, e4⟩ := w0.ln
    have hRl : (r :: R).reverse.length = R.length + 1 := by rw [List.length_reverse, List.length_cons]
    have hR8 := hw.1
    rw [hRl] at hR8
    have hg : (r :: R).reverse[R.length]? = some r := by rw [List.reverse_cons, List.getElem?_append_right (by rw [List.length_reverse]; exact Nat.le_refl _), List.length_reverse, Nat.sub_self]; rfl
    obtain ⟨d1, d2, d3, d4⟩ := hl.2 _ _ hg
    have hl1 : s.1 21 = nI (R.length + 1) := by rw [hl.1, hRl]
    refine ex_aload_n dX9_buoys_68 rfl ?_
    refine ex_getfield (v := .int (nI (R.length + 1))) dX9_buoys_69 g_X9_171 (mP_o p) (congrArg (fun z => some (Value.int z)) (hl1)) ?_
    refine ex_if_le (tgt := 146) dX9_buoys_72 (by decide) (fun z => absurd z (nI_nle (by omega) (by omega))) (fun _ => ?_)
    skip
    have hgo : (0 < m ∨ ¬ r.1 = 0) → mm_Ex l G mX9_buoys Q 93 [.ref 29, .int (nI m), x2, .null] [] h := by
      intro hor
      refine ex_aload_n dX9_buoys_93 rfl ?_
      refine ex_aload_n dX9_buoys_94 rfl ?_
      refine ex_getfield (v := .int (nI (R.length + 1))) dX9_buoys_95 g_X9_171 (mP_o p) (congrArg (fun z => some (Value.int z)) (hl1)) ?_
      refine ex_iconst (v := 1) dX9_buoys_98 (by decide) ?_
      refine ex_isub dX9_buoys_99 ?_
      refine cV_f dX9_buoys_100 (mm_kv i_X9_lengthOf l_X9_174) ⟨(Nat.le_of_ble_eq_true rfl), (Nat.le_of_ble_eq_true rfl)⟩ (c_X9_lengthOf p hl hw hg _ (nI_m1 _)) rfl rfl (mP_o p) (Nat.le_of_ble_eq_true rfl) rfl ?_
      rw [e1]
      refine ex_istore_n dX9_buoys_103 (Nat.le_of_ble_eq_true rfl) ?_
      refine ex_iload_n dX9_buoys_104 rfl ?_
      refine ex_iload_n dX9_buoys_105 rfl ?_
      skip
      by_cases hc : rl r ≤ m
      · have hro : ro_le (r :: R) (nI m) = ro_le R (nI (m - rl r)) := by
          rw [ro_le, e1, nI_sub hc]
          by_cases hk : r.1 = 0
          · rw [if_pos hk, if_pos (nI_le hc (by omega))]
          · rw [if_neg hk]
        rw [hro] at k
        refine ex_icmp_gt (tgt := 126) dX9_buoys_106 (by decide) (fun z => absurd z (nI_nlt hc (by omega))) (fun _ => ?_)
        refine ex_aload_n dX9_buoys_109 rfl ?_
        refine ex_dup dX9_buoys_110 rfl ?_
        refine ex_getfield (v := .int (nI (R.length + 1))) dX9_buoys_111 g_X9_171 (mP_o p) (congrArg (fun z => some (Value.int z)) (hl1)) ?_
        refine ex_iconst (v := 1) dX9_buoys_114 (by decide) ?_
        refine ex_isub dX9_buoys_115 ?_
        rw [nI_m1]
        refine ex_put dX9_buoys_116 p_X9_171 (mP_o p) (Nat.le_of_ble_eq_true rfl) (fun z => nomatch z) (mm_fi _) ?_
        refine mk_21 p (fun h116 p116 => ?_)
        refine ex_iload_n dX9_buoys_119 rfl ?_
        refine ex_iload_n dX9_buoys_120 rfl ?_
        refine ex_isub dX9_buoys_121 ?_
        rw [nI_sub hc]
        refine ex_istore_n dX9_buoys_122 (Nat.le_of_ble_eq_true rfl) ?_
        refine ex_goto (tgt := 143) dX9_buoys_123 (by decide) ?_
        refine ex_goto (tgt := 68) dX9_buoys_143 (by decide) ?_
        exact ih _ _ _ _ (by omega) p116 hl.pop w1 (fun s2 h2 x1 x2 z1 z2 z3 => k s2 h2 x1 x2 z1 (((mo_F.refl _ s).f 21 rfl).trans z2) z3)
      · have hk : r.1 = 0 := by
          rcases Decidable.em (r.1 = 0) with z | z
          · exact z
          · have := e4 z; omega
        have hro : ro_le (r :: R) (nI m) = R.reverse ++ [(r.1, r.2.1, r.2.2.1, r.2.2.2 - nI m)] := by
          rw [ro_le, if_pos hk, e1, if_neg (nI_ge (by omega) (by omega))]
        rw [hro] at k
        refine ex_icmp_gt (tgt := 126) dX9_buoys_106 (by decide) (fun _ => ?_) (fun z => absurd (nI_lt (by omega) (by omega)) z)
        refine ex_aload_n dX9_buoys_126 rfl ?_
        refine ex_getfield dX9_buoys_127 g_X9_59 (mP_o p) rfl ?_
        refine ex_aload_n dX9_buoys_130 rfl ?_
        refine ex_getfield (v := .int (nI (R.length + 1))) dX9_buoys_131 g_X9_171 (mP_o p) (congrArg (fun z => some (Value.int z)) (hl1)) ?_
        refine ex_iconst (v := 1) dX9_buoys_134 (by decide) ?_
        refine ex_isub dX9_buoys_135 ?_
        rw [nI_m1]
        refine ex_dup2 dX9_buoys_136 rfl rfl ?_
        refine ex_ialoadv (v := r.2.2.1 + r.2.2.2 - 1) dX9_buoys_137 (mA_25 p) (by first | assumption | exact vp_in_nI (by omega) (by decide)) ((mo_av d4 rfl (by omega)).trans (by rw [ln_to, if_pos hk])) ?_
        refine ex_iload_n dX9_buoys_138 rfl ?_
        refine ex_isub dX9_buoys_139 ?_
        refine ex_iastore dX9_buoys_140 (mA_25 p) (by first | assumption | exact vp_in_nI (by omega) (by decide)) ?_
        refine mq_25 p (fun h140 p140 => ?_)
        refine ex_iconst (v := 0) dX9_buoys_141 (by decide) ?_
        refine ex_istore_n dX9_buoys_142 (Nat.le_of_ble_eq_true rfl) ?_
        skip
        rw [nI_clamp (show R.length < 2 ^ 31 by omega)] at p140
        have l2 : r_line (mo_sa s 25 R.length (r.2.2.1 + r.2.2.2 - 1 - nI m)) (R.reverse ++ [(r.1, r.2.1, r.2.2.1, r.2.2.2 - nI m)]) := by
          refine ⟨by rw [List.length_append, List.length_reverse]; exact hl1, fun j y hy => ?_⟩
          have hj := (List.getElem?_eq_some_iff.mp hy).1
          rw [List.length_append, List.length_cons, List.length_nil, List.length_reverse] at hj
          by_cases hjl : j < R.length
          · rw [List.getElem?_append_left (by rw [List.length_reverse]; exact hjl)] at hy
            have := hl.2 j y (by rw [List.reverse_cons, List.getElem?_append_left (by rw [List.length_reverse]; exact hjl)]; exact hy)
            exact ⟨this.1, this.2.1, this.2.2.1, (pk_un (by omega)).trans this.2.2.2⟩
          · obtain rfl : j = R.length := by omega
            rw [List.getElem?_append_right (by rw [List.length_reverse]; exact Nat.le_refl _), List.length_reverse, Nat.sub_self] at hy
            cases hy
            refine ⟨d1, d2, d3, ?_⟩
            refine pk_us.trans ?_
            rw [ln_to, if_pos hk]
            grind
        have hl2 : (mo_sa s 25 R.length (r.2.2.1 + r.2.2.2 - 1 - nI m)).1 21 = nI (R.length + 1) := hl1
        refine ex_goto (tgt := 68) dX9_buoys_143 (by decide) ?_
        refine ex_aload_n dX9_buoys_68 rfl ?_
        refine ex_getfield (v := .int (nI (R.length + 1))) dX9_buoys_69 g_X9_171 (mP_o p140) (congrArg (fun z => some (Value.int z)) (hl2)) ?_
        refine ex_if_le (tgt := 146) dX9_buoys_72 (by decide) (fun z => absurd z (nI_nle (by omega) (by omega))) (fun _ => ?_)
        refine ex_iload_n dX9_buoys_75 rfl ?_
        refine ex_if_gt (tgt := 93) dX9_buoys_76 (by decide) (fun z => absurd z (by decide)) (fun _ => ?_)
        refine ex_aload_n dX9_buoys_79 rfl ?_
        refine ex_getfield dX9_buoys_80 g_X9_50 (mP_o p140) rfl ?_
        refine ex_aload_n dX9_buoys_83 rfl ?_
        refine ex_getfield (v := .int (nI (R.length + 1))) dX9_buoys_84 g_X9_171 (mP_o p140) (congrArg (fun z => some (Value.int z)) (hl2)) ?_
        refine ex_iconst (v := 1) dX9_buoys_87 (by decide) ?_
        refine ex_isub dX9_buoys_88 ?_
        rw [nI_m1]
        refine ex_ialoadv (v := 0) dX9_buoys_89 (mA_22 p140) (by first | assumption | exact vp_in_nI (by omega) (by decide)) ((mo_av (show (mo_sa s 25 R.length (r.2.2.1 + r.2.2.2 - 1 - nI m)).2.2 22 R.length = r.1 from d1) rfl (by omega)).trans hk) ?_
        refine ex_if_eq (tgt := 146) dX9_buoys_90 (by decide) (fun _ => ?_) (fun z => absurd rfl z)
        exact k _ _ _ _ p140 ((mo_F.refl _ s).a 25 rfl) l2
    have hst : ¬ 0 < nI m → r.1 = 0 → ro_le (r :: R) (nI m) = (r :: R).reverse := by
      intro z1 z2
      have hm0 : m = 0 := by
        rcases Nat.eq_zero_or_pos m with z | z
        · exact z
        · exact absurd (nI_lt z (by omega)) z1
      rw [hm0, ro_le, if_pos z2, if_neg (by rw [e1]; exact nI_ge (by have := e3 z2; omega) (by omega)), List.reverse_cons, show r.2.2.2 - nI 0 = r.2.2.2 by rw [nI_0]; grind]
    refine ex_iload_n dX9_buoys_75 rfl ?_
    refine ex_if_gt (tgt := 93) dX9_buoys_76 (by decide) (fun c_76 => ?_) (fun c_76 => ?_)
    · exact hgo (Or.inl (by rcases Nat.eq_zero_or_pos m with z | z; rw [z] at c_76; exact absurd c_76 (by decide); exact z))
    · refine ex_aload_n dX9_buoys_79 rfl ?_
      refine ex_getfield dX9_buoys_80 g_X9_50 (mP_o p) rfl ?_
      refine ex_aload_n dX9_buoys_83 rfl ?_
      refine ex_getfield (v := .int (nI (R.length + 1))) dX9_buoys_84 g_X9_171 (mP_o p) (congrArg (fun z => some (Value.int z)) (hl1)) ?_
      refine ex_iconst (v := 1) dX9_buoys_87 (by decide) ?_
      refine ex_isub dX9_buoys_88 ?_
      rw [nI_m1]
      refine ex_ialoadv (v := r.1) dX9_buoys_89 (mA_22 p) (by first | assumption | exact vp_in_nI (by omega) (by decide)) (mo_av d1 rfl (by omega)) ?_
      refine ex_if_eq (tgt := 146) dX9_buoys_90 (by decide) (fun c_90 => ?_) (fun c_90 => ?_)
      · refine k s h _ _ p (mo_F.refl _ s) ?_; rw [hst c_76 c_90]; exact hl
      · exact hgo (Or.inr c_90)
end MOF
