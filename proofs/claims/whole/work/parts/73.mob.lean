/-! THE MODEL: tanks, and what goes out of them -/
theorem tk_ix (t i : Nat) : (30 : Int32) * nI t + nI i = nI (30 * t + i) := by rw [show (30 : Int32) = nI 30 from rfl, pk_mul, nI_add]
theorem ho_m_tf {t : Int32} : ∀ (W : List tt_R) (a : Int32), ho_m t W a = ln_m (tf t W) a
  | [], a => rfl
  | r :: W, a => by
    unfold tf
    rw [ho_m, List.filter_cons]
    by_cases e : r.1 = t
    · rw [if_pos e, if_pos (decide_eq_true e), ln_m]; exact ho_m_tf W _
    · rw [if_neg e, if_neg (by simp [e])]; exact ho_m_tf W _
theorem ho_p_tf {t : Int32} : ∀ (W : List tt_R) (a : Int32), ho_p t W a = a + nI (tf t W).length
  | [], a => by show a = a + 0; grind
  | r :: W, a => by
    unfold tf
    rw [ho_p, List.filter_cons]
    by_cases e : r.1 = t
    · rw [if_pos e, if_pos (decide_eq_true e), List.length_cons, ← nI_1]
      have := ho_p_tf (t := t) W (a + 1)
      unfold tf at this
      rw [this]; grind
    · rw [if_neg e, if_neg (by simp [e])]; exact ho_p_tf W _
theorem ho_ga_0 {t : Int32} {R : List tt_R} {m : Int32} {g : List tt_R} (hm : m ≤ 0) : ho_ga t R m g = (g, m) := by
  cases R with
  | nil => rfl
  | cons q R => rw [ho_ga, if_pos hm]
theorem ho_ga_tf {t : Int32} : ∀ (R : List tt_R) (m : Int32) (g : List tt_R), ho_ga t R m g = ho_ga t (tf t R) m g
  | [], m, g => rfl
  | r :: R, m, g => by
    by_cases hm : m ≤ 0
    · rw [ho_ga_0 hm, ho_ga_0 hm]
    unfold tf
    rw [ho_ga, if_neg hm, List.filter_cons]
    by_cases e : r.1 = t
    · rw [if_pos e, if_pos (decide_eq_true e), ho_ga, if_neg hm, if_pos e]
      exact ho_ga_tf R _ _
    · rw [if_neg e, if_neg (fun z => e (of_decide_eq_true z))]
      exact ho_ga_tf R _ _
theorem tf_rev {t : Int32} (W : List tt_R) : tf t W.reverse = (tf t W).reverse := by unfold tf; rw [List.filter_reverse]
theorem tf_mem {t : Int32} {W : List tt_R} {i : Nat} {r : tt_R} (h : (tf t W)[i]? = some r) : r.1 = t := of_decide_eq_true (List.mem_filter.mp (List.mem_of_getElem? h)).2
theorem ls_up {f : Nat → Int32} {L : List tt_R} {c : tt_R → Int32} {b : Nat} {x : tt_R} (h : ∀ (i : Nat) (r : tt_R), L[i]? = some r → f (b + i) = c r) {k : Nat} (hk : k = b + L.length) : ∀ (i : Nat) (r : tt_R), (L ++ [x])[i]? = some r → upd f k (c x) (b + i) = c r := fun i r hr => by
  subst hk
  rcases Nat.lt_trichotomy i L.length with z | z | z
  · rw [List.getElem?_append_left z] at hr
    rw [pk_un (by omega)]; exact h i r hr
  · subst z
    rw [List.getElem?_append_right (Nat.le_refl _), Nat.sub_self] at hr
    cases hr; exact pk_us
  · rw [List.getElem?_eq_none (by rw [List.length_append, List.length_cons, List.length_nil]; omega)] at hr; cases hr
theorem r_out.snoc {s : mo_S} {g : List tt_R} (h : r_out s g) (x : tt_R) : r_out (mo_sf (mo_sa (mo_sa (mo_sa s 18 g.length x.2.1) 19 g.length x.2.2.1) 20 g.length (x.2.2.1 + x.2.2.2 - 1)) 17 (nI (g.length + 1))) (g ++ [x]) := by
  obtain ⟨h1, h2⟩ := h
  refine ⟨by rw [List.length_append]; rfl, fun i r hr => ⟨?_, ?_, ?_⟩⟩
  · have := ls_up (f := s.2.2 18) (c := fun r => r.2.1) (b := 0) (x := x) (k := g.length) (fun i r hr => by rw [Nat.zero_add]; exact (h2 i r hr).1) (by omega) i r hr
    rw [Nat.zero_add] at this; exact this
  · have := ls_up (f := s.2.2 19) (c := fun r => r.2.2.1) (b := 0) (x := x) (k := g.length) (fun i r hr => by rw [Nat.zero_add]; exact (h2 i r hr).2.1) (by omega) i r hr
    rw [Nat.zero_add] at this; exact this
  · have := ls_up (f := s.2.2 20) (c := fun r => r.2.2.1 + r.2.2.2 - 1) (b := 0) (x := x) (k := g.length) (fun i r hr => by rw [Nat.zero_add]; exact (h2 i r hr).2.2) (by omega) i r hr
    rw [Nat.zero_add] at this; exact this
section MOB
variable {l : Launch} {G : mm_G} {h0 h : mm_H} {s : mo_S} {S : se_T} {T W : List tt_R}
theorem c_X9_inTank (p : mo_P h0 h s) (ht : r_tank s W) {t : Nat} (h3 : t < 3) (tv : Int32) (htv : tv = nI t) : mm_Ct l G mX9_inTank [.ref 29, .int tv] h (mm_ri (.int (ho_m tv W 0)) h) := by
  subst htv
  rw [ho_m_tf]
  obtain ⟨t1, t2, t3⟩ := ht t h3
  have key : ∀ a : Int32, mm_Ex l G mX9_inTank (mm_ri (.int (ln_m (tf (nI t) W) a)) h) 4 [.ref 29, .int (nI t), .int a, .int (nI 0)] [] h := by
    refine lp_fwd (tf (nI t) W) (fun i R => ∀ a : Int32, mm_Ex l G mX9_inTank (mm_ri (.int (ln_m R a)) h) 4 [.ref 29, .int (nI t), .int a, .int (nI i)] [] h) ?_ ?_
    · intro a
      refine ex_iload_n dX9_inTank_4 rfl ?_
      refine ex_aload_n dX9_inTank_5 rfl ?_
      refine ex_getfield dX9_inTank_6 g_X9_29 (mP_o p) rfl ?_
      refine ex_iload_n dX9_inTank_9 rfl ?_
      refine ex_iaload dX9_inTank_10 (mA_13 p) (by first | assumption | exact vp_in_nI (by omega) (by decide)) ?_
      rw [nI_clamp (show t < 2 ^ 31 by omega), t1]
      refine ex_icmp_ge (tgt := 48) dX9_inTank_11 (by decide) (fun _ => ?_) (fun z => absurd (Int32.le_refl _) z)
      refine ex_iload_n dX9_inTank_48 rfl ?_
      refine ex_ireturn dX9_inTank_49 ⟨_, rfl, rfl⟩ ?_
      exact ⟨rfl, rfl⟩
    · intro i r R hr hR hi ih a
      refine ex_iload_n dX9_inTank_4 rfl ?_
      refine ex_aload_n dX9_inTank_5 rfl ?_
      refine ex_getfield dX9_inTank_6 g_X9_29 (mP_o p) rfl ?_
      refine ex_iload_n dX9_inTank_9 rfl ?_
      refine ex_iaload dX9_inTank_10 (mA_13 p) (by first | assumption | exact vp_in_nI (by omega) (by decide)) ?_
      rw [nI_clamp (show t < 2 ^ 31 by omega), t1]
      refine ex_icmp_ge (tgt := 48) dX9_inTank_11 (by decide) (fun z => absurd z (nI_ge hi (by omega))) (fun _ => ?_)
      refine ex_iload_n dX9_inTank_14 rfl ?_
      refine ex_aload_n dX9_inTank_15 rfl ?_
      refine ex_getfield dX9_inTank_16 g_X9_38 (mP_o p) rfl ?_
      refine ex_bipush (v := 30) dX9_inTank_19 (by decide) ?_
      refine ex_iload_n dX9_inTank_21 rfl ?_
      refine ex_imul dX9_inTank_22 ?_
      refine ex_iload_n dX9_inTank_23 rfl ?_
      refine ex_iadd dX9_inTank_24 ?_
      refine ex_iaload dX9_inTank_25 (mA_16 p) (by rw [tk_ix]; exact vp_in_nI (by omega) (by decide)) ?_
      rw [tk_ix, nI_clamp (show 30 * t + i < 2 ^ 31 by omega), (t3 i r hr).2.2]
      refine ex_aload_n dX9_inTank_26 rfl ?_
      refine ex_getfield dX9_inTank_27 g_X9_35 (mP_o p) rfl ?_
      refine ex_bipush (v := 30) dX9_inTank_30 (by decide) ?_
      refine ex_iload_n dX9_inTank_32 rfl ?_
      refine ex_imul dX9_inTank_33 ?_
      refine ex_iload_n dX9_inTank_34 rfl ?_
      refine ex_iadd dX9_inTank_35 ?_
      refine ex_iaload dX9_inTank_36 (mA_15 p) (by rw [tk_ix]; exact vp_in_nI (by omega) (by decide)) ?_
      rw [tk_ix, nI_clamp (show 30 * t + i < 2 ^ 31 by omega), (t3 i r hr).2.1]
      refine ex_isub dX9_inTank_37 ?_
      refine ex_iconst (v := 1) dX9_inTank_38 (by decide) ?_
      refine ex_iadd dX9_inTank_39 ?_
      refine ex_iadd dX9_inTank_40 ?_
      refine ex_istore_n dX9_inTank_41 (Nat.le_of_ble_eq_true rfl) ?_
      refine ex_iinc (d := 1) dX9_inTank_42 rfl (by decide) ?_
      refine ex_goto (tgt := 4) dX9_inTank_45 (by decide) ?_
      rw [nI_1, show a + (r.2.2.1 + r.2.2.2 - 1 - r.2.2.1 + 1) = a + r.2.2.2 by grind]; exact ih _
  refine mm_ct (by decide +kernel) (by decide +kernel) rfl (by simp [Value.category]) (Nat.le_of_ble_eq_true rfl) rfl ?_
  refine ex_iconst (v := 0) dX9_inTank_0 (by decide) ?_
  refine ex_istore_n dX9_inTank_1 (Nat.le_of_ble_eq_true rfl) ?_
  refine ex_iconst (v := 0) dX9_inTank_2 (by decide) ?_
  refine ex_istore_n dX9_inTank_3 (Nat.le_of_ble_eq_true rfl) ?_
  exact key 0
theorem c_X9_wouldGo (p : mo_P h0 h s) (ht : r_tank s W) {t : Nat} (h3 : t < 3) (tv : Int32) (htv : tv = nI t) (m : Int32) : mm_Ct l G mX9_wouldGo [.ref 29, .int tv, .int m] h (mm_qi (fun v h' => v = .int (bb ((ho_ga tv W.reverse m []).2 = 0)) ∧ ∃ s', mo_P h0 h' s' ∧ mo_F [17, 18, 19, 20] s s' ∧ r_out s' (ho_ga tv W.reverse m []).1)) := by
  subst htv
  rw [ho_ga_tf, tf_rev]
  obtain ⟨t1, t2, t3⟩ := ht t h3
  have hme : ∀ (i : Nat) (r : tt_R), (tf (nI t) W)[i]? = some r → r.1 = nI t := fun i r hr => tf_mem hr
  generalize tf (nI t) W = L at t1 t2 t3 hme
  have key : ∀ (m1 : Int32) (g : List tt_R) (s1 : mo_S) (h1 : mm_H) (x5 x6 x7 : Value), mo_P h0 h1 s1 → mo_F [17, 18, 19, 20] s s1 → r_out s1 g → g.length + L.length ≤ 30 → mm_Ex l G mX9_wouldGo (mm_qi (fun v h' => v = .int (bb ((ho_ga (nI t) L.reverse m1 g).2 = 0)) ∧ ∃ s', mo_P h0 h' s' ∧ mo_F [17, 18, 19, 20] s s' ∧ r_out s' (ho_ga (nI t) L.reverse m1 g).1)) 17 [.ref 29, .int (nI t), .int m, .int m1, .int (nI L.length - 1), x5, x6, x7] [] h1 := by
    refine lp_bwd L (fun i R => ∀ (m1 : Int32) (g : List tt_R) (s1 : mo_S) (h1 : mm_H) (x5 x6 x7 : Value), mo_P h0 h1 s1 → mo_F [17, 18, 19, 20] s s1 → r_out s1 g → g.length + i ≤ 30 → mm_Ex l G mX9_wouldGo (mm_qi (fun v h' => v = .int (bb ((ho_ga (nI t) R m1 g).2 = 0)) ∧ ∃ s', mo_P h0 h' s' ∧ mo_F [17, 18, 19, 20] s s' ∧ r_out s' (ho_ga (nI t) R m1 g).1)) 17 [.ref 29, .int (nI t), .int m, .int m1, .int (nI i - 1), x5, x6, x7] [] h1) ?_ ?_
    · intro m1 g s1 h1 x5 x6 x7 p1 f1 o1 hg
      refine ex_iload dX9_wouldGo_17 rfl ?_
      refine ex_if_lt (tgt := 142) dX9_wouldGo_19 (by decide) (fun _ => ?_) (fun z => absurd nI_neg1 z)
      refine ex_iload_n dX9_wouldGo_142 rfl ?_
      refine ex_if_ne (tgt := 150) dX9_wouldGo_143 (by decide) (fun c_143 => ?_) (fun c_143 => ?_)
      · refine ex_iconst (v := 0) dX9_wouldGo_150 (by decide) ?_
        refine ex_ireturn dX9_wouldGo_151 ⟨_, rfl, (by first | rfl | exact bb_r)⟩ ?_
        first | exact ⟨_, rfl, congrArg Value.int (bb_t c_143).symm, s1, p1, f1, o1⟩ | exact ⟨_, rfl, congrArg Value.int (bb_f c_143).symm, s1, p1, f1, o1⟩
      · refine ex_iconst (v := 1) dX9_wouldGo_146 (by decide) ?_
        refine ex_goto (tgt := 151) dX9_wouldGo_147 (by decide) ?_
        refine ex_ireturn dX9_wouldGo_151 ⟨_, rfl, (by first | rfl | exact bb_r)⟩ ?_
        first | exact ⟨_, rfl, congrArg Value.int (bb_t c_143).symm, s1, p1, f1, o1⟩ | exact ⟨_, rfl, congrArg Value.int (bb_f c_143).symm, s1, p1, f1, o1⟩
    · intro i r R hr hR hi ih m1 g s1 h1 x5 x6 x7 p1 f1 o1 hg
      rw [nI_m1]
      have hgo : ¬ m1 ≤ 0 → mm_Ex l G mX9_wouldGo (mm_qi (fun v h' => v = .int (bb ((ho_ga (nI t) (r :: R) m1 g).2 = 0)) ∧ ∃ s', mo_P h0 h' s' ∧ mo_F [17, 18, 19, 20] s s' ∧ r_out s' (ho_ga (nI t) (r :: R) m1 g).1)) 26 [.ref 29, .int (nI t), .int m, .int m1, .int (nI i), x5, x6, x7] [] h1 := by
        intro hm
        rw [ho_ga, if_neg hm, if_pos (hme i r hr)]
        refine ex_bipush (v := 30) dX9_wouldGo_26 (by decide) ?_
        refine ex_iload_n dX9_wouldGo_28 rfl ?_
        refine ex_imul dX9_wouldGo_29 ?_
        refine ex_iload dX9_wouldGo_30 rfl ?_
        refine ex_iadd dX9_wouldGo_32 ?_
        rw [tk_ix]
        refine ex_istore dX9_wouldGo_33 (Nat.le_of_ble_eq_true rfl) ?_
        refine ex_aload_n dX9_wouldGo_35 rfl ?_
        refine ex_getfield dX9_wouldGo_36 g_X9_38 (mP_o p1) rfl ?_
        refine ex_iload dX9_wouldGo_39 rfl ?_
        refine ex_ialoadv (v := r.2.2.1 + r.2.2.2 - 1) dX9_wouldGo_41 (mA_16 p1) (by first | assumption | exact vp_in_nI (by omega) (by decide)) (f1.v (t3 i r hr).2.2 rfl (by omega)) ?_
        refine ex_aload_n dX9_wouldGo_42 rfl ?_
        refine ex_getfield dX9_wouldGo_43 g_X9_35 (mP_o p1) rfl ?_
        refine ex_iload dX9_wouldGo_46 rfl ?_
        refine ex_ialoadv (v := r.2.2.1) dX9_wouldGo_48 (mA_15 p1) (by first | assumption | exact vp_in_nI (by omega) (by decide)) (f1.v (t3 i r hr).2.1 rfl (by omega)) ?_
        refine ex_isub dX9_wouldGo_49 ?_
        refine ex_iconst (v := 1) dX9_wouldGo_50 (by decide) ?_
        refine ex_iadd dX9_wouldGo_51 ?_
        rw [show r.2.2.1 + r.2.2.2 - 1 - r.2.2.1 + 1 = r.2.2.2 by grind]
        refine ex_istore dX9_wouldGo_52 (Nat.le_of_ble_eq_true rfl) ?_
        skip
        refine mm_viaJ (mn m1 r.2.2.2) (pc' := 66) (ls' := [.ref 29, .int (nI t), .int m, .int m1, .int (nI i), .int (nI (30 * t + i)), .int r.2.2.2, x7]) (st := []) ?_ (fun k => ?_)
        · skip
          refine ex_istore dX9_wouldGo_66 (Nat.le_of_ble_eq_true rfl) ?_
          refine ex_aload_n dX9_wouldGo_68 rfl ?_
          refine ex_getfield dX9_wouldGo_69 g_X9_41 (mP_o p1) rfl ?_
          refine ex_aload_n dX9_wouldGo_72 rfl ?_
          refine ex_getfield (v := .int (nI g.length)) dX9_wouldGo_73 g_X9_193 (mP_o p1) (congrArg (fun z => some (Value.int z)) (o1.1)) ?_
          refine ex_aload_n dX9_wouldGo_76 rfl ?_
          refine ex_getfield dX9_wouldGo_77 g_X9_32 (mP_o p1) rfl ?_
          refine ex_iload dX9_wouldGo_80 rfl ?_
          refine ex_ialoadv (v := r.2.1) dX9_wouldGo_82 (mA_14 p1) (by first | assumption | exact vp_in_nI (by omega) (by decide)) (f1.v (t3 i r hr).1 rfl (by omega)) ?_
          refine ex_iastore dX9_wouldGo_83 (mA_18 p1) (by first | assumption | exact vp_in_nI (by omega) (by decide)) ?_
          refine mq_18 p1 (fun h83 p83 => ?_)
          refine ex_aload_n dX9_wouldGo_84 rfl ?_
          refine ex_getfield dX9_wouldGo_85 g_X9_44 (mP_o p83) rfl ?_
          refine ex_aload_n dX9_wouldGo_88 rfl ?_
          refine ex_getfield (v := .int (nI g.length)) dX9_wouldGo_89 g_X9_193 (mP_o p83) (congrArg (fun z => some (Value.int z)) (o1.1)) ?_
          refine ex_aload_n dX9_wouldGo_92 rfl ?_
          refine ex_getfield dX9_wouldGo_93 g_X9_35 (mP_o p83) rfl ?_
          refine ex_iload dX9_wouldGo_96 rfl ?_
          refine ex_ialoadv (v := r.2.2.1) dX9_wouldGo_98 (mA_15 p83) (by first | assumption | exact vp_in_nI (by omega) (by decide)) (f1.v (t3 i r hr).2.1 rfl (by omega)) ?_
          refine ex_iastore dX9_wouldGo_99 (mA_19 p83) (by first | assumption | exact vp_in_nI (by omega) (by decide)) ?_
          refine mq_19 p83 (fun h99 p99 => ?_)
          refine ex_aload_n dX9_wouldGo_100 rfl ?_
          refine ex_getfield dX9_wouldGo_101 g_X9_47 (mP_o p99) rfl ?_
          refine ex_aload_n dX9_wouldGo_104 rfl ?_
          refine ex_getfield (v := .int (nI g.length)) dX9_wouldGo_105 g_X9_193 (mP_o p99) (congrArg (fun z => some (Value.int z)) (o1.1)) ?_
          refine ex_aload_n dX9_wouldGo_108 rfl ?_
          refine ex_getfield dX9_wouldGo_109 g_X9_35 (mP_o p99) rfl ?_
          refine ex_iload dX9_wouldGo_112 rfl ?_
          refine ex_ialoadv (v := r.2.2.1) dX9_wouldGo_114 (mA_15 p99) (by first | assumption | exact vp_in_nI (by omega) (by decide)) (f1.v (t3 i r hr).2.1 rfl (by omega)) ?_
          refine ex_iload dX9_wouldGo_115 rfl ?_
          refine ex_iadd dX9_wouldGo_117 ?_
          refine ex_iconst (v := 1) dX9_wouldGo_118 (by decide) ?_
          refine ex_isub dX9_wouldGo_119 ?_
          refine ex_iastore dX9_wouldGo_120 (mA_20 p99) (by first | assumption | exact vp_in_nI (by omega) (by decide)) ?_
          refine mq_20 p99 (fun h120 p120 => ?_)
          refine ex_aload_n dX9_wouldGo_121 rfl ?_
          refine ex_dup dX9_wouldGo_122 rfl ?_
          refine ex_getfield (v := .int (nI g.length)) dX9_wouldGo_123 g_X9_193 (mP_o p120) (congrArg (fun z => some (Value.int z)) (o1.1)) ?_
          refine ex_iconst (v := 1) dX9_wouldGo_126 (by decide) ?_
          refine ex_iadd dX9_wouldGo_127 ?_
          rw [nI_1]
          refine ex_put dX9_wouldGo_128 p_X9_193 (mP_o p120) (Nat.le_of_ble_eq_true rfl) (fun z => nomatch z) (mm_fi _) ?_
          refine mk_17 p120 (fun h128 p128 => ?_)
          refine ex_iload_n dX9_wouldGo_131 rfl ?_
          refine ex_iload dX9_wouldGo_132 rfl ?_
          refine ex_isub dX9_wouldGo_134 ?_
          refine ex_istore_n dX9_wouldGo_135 (Nat.le_of_ble_eq_true rfl) ?_
          skip
          have hO := o1.snoc (nI t, r.2.1, r.2.2.1, mn m1 r.2.2.2)
          rw [nI_clamp (show g.length < 2 ^ 31 by omega)] at p128
          refine ex_iinc (d := (-1)) dX9_wouldGo_136 rfl (by decide) ?_
          refine ex_goto (tgt := 17) dX9_wouldGo_139 (by decide) ?_
          rw [nI_m2]; exact ih _ _ _ _ _ _ _ p128 ((((f1.a 18 rfl).a 19 rfl).a 20 rfl).f 17 rfl) hO (by rw [List.length_append, List.length_cons, List.length_nil]; omega)
        · skip
          refine ex_iload dX9_wouldGo_54 rfl ?_
          refine ex_iload_n dX9_wouldGo_56 rfl ?_
          refine ex_icmp_ge (tgt := 65) dX9_wouldGo_57 (by decide) (fun c_57 => ?_) (fun c_57 => ?_)
          · refine ex_iload_n dX9_wouldGo_65 rfl ?_
            first | exact k _ (if_neg (Int32.not_lt.mpr c_57)).symm | exact k _ (if_pos (Int32.not_le.mp c_57)).symm
          · refine ex_iload dX9_wouldGo_60 rfl ?_
            refine ex_goto (tgt := 66) dX9_wouldGo_62 (by decide) ?_
            first | exact k _ (if_neg (Int32.not_lt.mpr c_57)).symm | exact k _ (if_pos (Int32.not_le.mp c_57)).symm
      refine ex_iload dX9_wouldGo_17 rfl ?_
      refine ex_if_lt (tgt := 142) dX9_wouldGo_19 (by decide) (fun z => absurd z (nI_pos (by omega))) (fun _ => ?_)
      refine ex_iload_n dX9_wouldGo_22 rfl ?_
      refine ex_if_le (tgt := 142) dX9_wouldGo_23 (by decide) (fun c_23 => ?_) (fun c_23 => ?_)
      · refine ex_iload_n dX9_wouldGo_142 rfl ?_
        refine ex_if_ne (tgt := 150) dX9_wouldGo_143 (by decide) (fun c_143 => ?_) (fun c_143 => ?_)
        · refine ex_iconst (v := 0) dX9_wouldGo_150 (by decide) ?_
          refine ex_ireturn dX9_wouldGo_151 ⟨_, rfl, (by first | rfl | exact bb_r)⟩ ?_
          rw [ho_ga, if_pos c_23]; first | exact ⟨_, rfl, congrArg Value.int (bb_t c_143).symm, s1, p1, f1, o1⟩ | exact ⟨_, rfl, congrArg Value.int (bb_f c_143).symm, s1, p1, f1, o1⟩
        · refine ex_iconst (v := 1) dX9_wouldGo_146 (by decide) ?_
          refine ex_goto (tgt := 151) dX9_wouldGo_147 (by decide) ?_
          refine ex_ireturn dX9_wouldGo_151 ⟨_, rfl, (by first | rfl | exact bb_r)⟩ ?_
          rw [ho_ga, if_pos c_23]; first | exact ⟨_, rfl, congrArg Value.int (bb_t c_143).symm, s1, p1, f1, o1⟩ | exact ⟨_, rfl, congrArg Value.int (bb_f c_143).symm, s1, p1, f1, o1⟩
      · exact hgo c_23
  refine mm_ct (by decide +kernel) (by decide +kernel) rfl (by simp [Value.category]) (Nat.le_of_ble_eq_true rfl) rfl ?_
  refine ex_aload_n dX9_wouldGo_0 rfl ?_
  refine ex_iconst (v := 0) dX9_wouldGo_1 (by decide) ?_
  refine ex_put dX9_wouldGo_2 p_X9_193 (mP_o p) (Nat.le_of_ble_eq_true rfl) (fun z => nomatch z) (mm_fi _) ?_
  refine mk_17 p (fun h2 p2 => ?_)
  refine ex_iload_n dX9_wouldGo_5 rfl ?_
  refine ex_istore_n dX9_wouldGo_6 (Nat.le_of_ble_eq_true rfl) ?_
  refine ex_aload_n dX9_wouldGo_7 rfl ?_
  refine ex_getfield dX9_wouldGo_8 g_X9_29 (mP_o p2) rfl ?_
  refine ex_iload_n dX9_wouldGo_11 rfl ?_
  refine ex_ialoadv (v := nI L.length) dX9_wouldGo_12 (mA_13 p2) (by first | assumption | exact vp_in_nI (by omega) (by decide)) (mo_av t1 rfl (by omega)) ?_
  refine ex_iconst (v := 1) dX9_wouldGo_13 (by decide) ?_
  refine ex_isub dX9_wouldGo_14 ?_
  refine ex_istore dX9_wouldGo_15 (Nat.le_of_ble_eq_true rfl) ?_
  exact key m [] _ _ _ _ _ p2 ((mo_F.refl _ s).f 17 rfl) ⟨rfl, fun i r hr => by simp at hr⟩ (by show 0 + L.length ≤ 30; omega)
end MOB
