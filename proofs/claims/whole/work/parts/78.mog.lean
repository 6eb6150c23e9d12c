def mm0 (T : List tt_R) : Nat := min (ln_N T) 200
theorem mn_200 {N : Nat} (h : N < 2 ^ 31) : mn 200 (nI N) = nI (min N 200) := by
  unfold mn
  by_cases e : N < 200
  · rw [if_pos (show nI N < 200 from nI_lt (b := 200) e (by decide)), Nat.min_eq_left (by omega)]
  · rw [if_neg (show ¬ nI N < 200 from nI_nlt (b := 200) (by omega) (by omega)), Nat.min_eq_right (by omega)]; rfl
def bu_T (T : List tt_R) : List tt_R := ro_le T.reverse (nI (mm0 T))
def bu_L (T L : List tt_R) : List tt_R := (L.filter (fun r => decide (r.2.1 < ln_m (bu_T T) 0))).map (fa_an (ln_m (bu_T T) 0))
section MOG
variable {l : Launch} {G : mm_G} {h0 h : mm_H} {s : mo_S} {S : se_T} {T W g L : List tt_R}
theorem mo_F.g1 {K : List Nat} {s s1 : mo_S} {x : Int64} (h : mo_F K s s1) : mo_F K (mo_g2 s x) (mo_g2 s1 x) := ⟨h.1, by show (s1.2.1.1, x) = (s.2.1.1, x); rw [h.2.1], h.2.2⟩
theorem mo_F.sub {K K' : List Nat} {s s' : mo_S} (h : mo_F K s s') (hs : K.all (fun k => K'.elem k) = true := by rfl) : mo_F K' s s' := h.mono (fun k hk => by
  cases e : K.elem k with
  | false => rfl
  | true =>
    have := List.all_eq_true.mp hs k (List.elem_iff.mp e)
    rw [hk] at this; cases this)
/-- the loop that keeps the faults that are left -/
theorem x_X9_kept {Q : mm_R → mm_H → Prop} (hl : r_line s T) (hw : ln_W T) (hn : s.1 38 = nI L.length) (hL4 : L.length ≤ 4) (x1 : Value) : ∀ (D : List tt_R) (s1 : mo_S) (h1 : mm_H), D.length ≤ 0 → mo_P h0 h1 s1 → mo_F [39, 40] s s1 → r_fk s1 D → (∀ (j : Nat) (r : tt_R), L[j]? = some r → s1.2.2 39 (0 + j) = r.1 ∧ s1.2.2 40 (0 + j) = r.2.1) → (∀ (s2 : mo_S) (h2 : mm_H), mo_P h0 h2 s2 → mo_F [39, 40] s s2 → r_fk s2 (D ++ L.filter (fun r => decide (r.2.1 < ln_m T 0))) → mm_Ex l G mX9_buoys Q 204 [.ref 29, x1, .int (nI (D ++ L.filter (fun r => decide (r.2.1 < ln_m T 0))).length), .int (nI L.length)] [] h2) → mm_Ex l G mX9_buoys Q 150 [.ref 29, x1, .int (nI D.length), .int (nI 0)] [] h1 := by
  refine lp_fwd L (fun i R => ∀ (D : List tt_R) (s1 : mo_S) (h1 : mm_H), D.length ≤ i → mo_P h0 h1 s1 → mo_F [39, 40] s s1 → r_fk s1 D → (∀ (j : Nat) (r : tt_R), R[j]? = some r → s1.2.2 39 (i + j) = r.1 ∧ s1.2.2 40 (i + j) = r.2.1) → (∀ (s2 : mo_S) (h2 : mm_H), mo_P h0 h2 s2 → mo_F [39, 40] s s2 → r_fk s2 (D ++ R.filter (fun r => decide (r.2.1 < ln_m T 0))) → mm_Ex l G mX9_buoys Q 204 [.ref 29, x1, .int (nI (D ++ R.filter (fun r => decide (r.2.1 < ln_m T 0))).length), .int (nI L.length)] [] h2) → mm_Ex l G mX9_buoys Q 150 [.ref 29, x1, .int (nI D.length), .int (nI i)] [] h1) ?_ ?_
  · intro D s1 h1 hD p1 f1 d1 e1 k
    refine ex_iload_n dX9_buoys_150 rfl ?_
    refine ex_aload_n dX9_buoys_151 rfl ?_
    refine ex_getfield (v := .int (nI L.length)) dX9_buoys_152 g_X9_177 (mP_o p1) (congrArg (fun z => some (Value.int z)) (f1.g hn)) ?_
    refine ex_icmp_ge (tgt := 204) dX9_buoys_155 (by decide) (fun _ => ?_) (fun z => absurd (Int32.le_refl _) z)
    have := k s1 h1 p1 f1 (by rw [List.filter_nil, List.append_nil]; exact d1); rw [List.filter_nil, List.append_nil] at this; exact this
  · intro i r R hr hR hi ih D s1 h1 hD p1 f1 d1 e1 k
    obtain ⟨q1, q2⟩ := e1 0 r rfl
    rw [Nat.add_zero] at q1 q2
    rw [List.filter_cons] at k
    have e2 : ∀ (j : Nat) (r : tt_R), R[j]? = some r → s1.2.2 39 (i + 1 + j) = r.1 ∧ s1.2.2 40 (i + 1 + j) = r.2.1 := fun j q hq => by
      rw [show i + 1 + j = i + (j + 1) by omega]; exact e1 (j + 1) q hq
    refine ex_iload_n dX9_buoys_150 rfl ?_
    refine ex_aload_n dX9_buoys_151 rfl ?_
    refine ex_getfield (v := .int (nI L.length)) dX9_buoys_152 g_X9_177 (mP_o p1) (congrArg (fun z => some (Value.int z)) (f1.g hn)) ?_
    refine ex_icmp_ge (tgt := 204) dX9_buoys_155 (by decide) (fun z => absurd z (nI_ge hi (by omega))) (fun _ => ?_)
    refine ex_aload_n dX9_buoys_158 rfl ?_
    refine ex_getfield dX9_buoys_159 g_X9_80 (mP_o p1) rfl ?_
    refine ex_iload_n dX9_buoys_162 rfl ?_
    refine ex_ialoadv (v := r.2.1) dX9_buoys_163 (mA_40 p1) (by first | assumption | exact vp_in_nI (by omega) (by decide)) (mo_av q2 rfl (by omega)) ?_
    refine ex_aload_n dX9_buoys_164 rfl ?_
    refine cV_f dX9_buoys_165 (mm_kv i_X9_metres l_X9_160) ⟨(Nat.le_of_ble_eq_true rfl), (Nat.le_of_ble_eq_true rfl)⟩ (c_X9_metres p1 (hl.fr f1) hw) rfl rfl (mP_o p1) (Nat.le_of_ble_eq_true rfl) rfl ?_
    skip
    by_cases hc : r.2.1 < ln_m T 0
    · rw [if_pos (decide_eq_true hc), List.append_cons] at k
      refine ex_icmp_ge (tgt := 198) dX9_buoys_168 (by decide) (fun z => absurd z (Int32.not_le.mpr hc)) (fun _ => ?_)
      refine ex_aload_n dX9_buoys_171 rfl ?_
      refine ex_getfield dX9_buoys_172 g_X9_77 (mP_o p1) rfl ?_
      refine ex_iload_n dX9_buoys_175 rfl ?_
      refine ex_aload_n dX9_buoys_176 rfl ?_
      refine ex_getfield dX9_buoys_177 g_X9_77 (mP_o p1) rfl ?_
      refine ex_iload_n dX9_buoys_180 rfl ?_
      refine ex_ialoadv (v := r.1) dX9_buoys_181 (mA_39 p1) (by first | assumption | exact vp_in_nI (by omega) (by decide)) (mo_av q1 rfl (by omega)) ?_
      refine ex_iastore dX9_buoys_182 (mA_39 p1) (by first | assumption | exact vp_in_nI (by omega) (by decide)) ?_
      refine mq_39 p1 (fun h182 p182 => ?_)
      refine ex_aload_n dX9_buoys_183 rfl ?_
      refine ex_getfield dX9_buoys_184 g_X9_80 (mP_o p182) rfl ?_
      refine ex_iload_n dX9_buoys_187 rfl ?_
      refine ex_aload_n dX9_buoys_188 rfl ?_
      refine ex_getfield dX9_buoys_189 g_X9_80 (mP_o p182) rfl ?_
      refine ex_iload_n dX9_buoys_192 rfl ?_
      refine ex_ialoadv (v := r.2.1) dX9_buoys_193 (mA_40 p182) (by first | assumption | exact vp_in_nI (by omega) (by decide)) (mo_av (show (mo_sa s1 39 (nI D.length).toNatClampNeg r.1).2.2 40 i = r.2.1 from q2) rfl (by omega)) ?_
      refine ex_iastore dX9_buoys_194 (mA_40 p182) (by first | assumption | exact vp_in_nI (by omega) (by decide)) ?_
      refine mq_40 p182 (fun h194 p194 => ?_)
      refine ex_iinc (d := 1) dX9_buoys_195 rfl (by decide) ?_
      skip
      rw [nI_clamp (show D.length < 2 ^ 31 by omega)] at p194
      have d2 : r_fk (mo_sa (mo_sa s1 39 D.length r.1) 40 D.length r.2.1) (D ++ [r]) := fun j q hq => ⟨ls_up0 (f := s1.2.2 39) (c := fun r => r.1) (x := r) (fun i r hr => (d1 i r hr).1) j q hq, ls_up0 (f := s1.2.2 40) (c := fun r => r.2.1) (x := r) (fun i r hr => (d1 i r hr).2) j q hq⟩
      have e3 : ∀ (j : Nat) (q : tt_R), R[j]? = some q → (mo_sa (mo_sa s1 39 D.length r.1) 40 D.length r.2.1).2.2 39 (i + 1 + j) = q.1 ∧ (mo_sa (mo_sa s1 39 D.length r.1) 40 D.length r.2.1).2.2 40 (i + 1 + j) = q.2.1 := fun j q hq => ⟨(pk_un (by omega)).trans (e2 j q hq).1, (pk_un (by omega)).trans (e2 j q hq).2⟩
      refine ex_iinc (d := 1) dX9_buoys_198 rfl (by decide) ?_
      refine ex_goto (tgt := 150) dX9_buoys_201 (by decide) ?_
      rw [nI_1, nI_1, show D.length + 1 = (D ++ [r]).length by simp]; exact ih (D ++ [r]) _ _ (by simp; omega) p194 ((f1.a 39 rfl).a 40 rfl) d2 e3 k
    · rw [if_neg (fun z => hc (of_decide_eq_true z))] at k
      refine ex_icmp_ge (tgt := 198) dX9_buoys_168 (by decide) (fun _ => ?_) (fun z => absurd (Int32.not_lt.mp hc) z)
      refine ex_iinc (d := 1) dX9_buoys_198 rfl (by decide) ?_
      refine ex_goto (tgt := 150) dX9_buoys_201 (by decide) ?_
      rw [nI_1]; exact ih D _ _ (by omega) p1 f1 d1 e2 k
theorem c_X9_buoys (p : mo_P h0 h s) (hl : r_line s T) (hw : ln_W T) (hw2 : ln_W (bu_T T)) (hN : ln_N T < 2 ^ 31) {k : Nat} (hk : s.1 31 = nI k) (hk2 : k ≤ 100) (hf : r_fau s L) (hL4 : L.length ≤ 4) : mm_Ct l G mX9_buoys [.ref 29] h (mm_qv (fun h' => ∃ s', mo_P h0 h' s' ∧ mo_F [21, 25, 32, 34, 35, 38, 39, 40, 41, 42] (mo_g2 s (s.2.1.2 + (nI (mm0 T)).toInt64)) s' ∧ s'.1 34 = 1 ∧ s'.1 35 = nI (mm0 T) ∧ s'.2.2 32 = upd (s.2.2 32) (k - 1) (s.2.2 32 (k - 1) - nI (mm0 T)) ∧ r_line s' (bu_T T) ∧ r_fau s' (bu_L T L))) := by
  have e : ln_m T 0 = nI (ln_N T) := by have := ln_m_N T 0 hw; rw [Nat.zero_add] at this; exact this
  have hm0 : mn 200 (ln_m T 0) = nI (mm0 T) := by rw [e]; exact mn_200 hN
  have hm1 : mm0 T ≤ 200 := Nat.min_le_right _ _
  refine mm_ct (by decide +kernel) (by decide +kernel) rfl (by simp [Value.category]) (Nat.le_of_ble_eq_true rfl) rfl ?_
  refine ex_aload_n dX9_buoys_0 rfl ?_
  refine ex_iconst (v := 1) dX9_buoys_1 (by decide) ?_
  refine ex_put dX9_buoys_2 p_X9_153 (mP_o p) (Nat.le_of_ble_eq_true rfl) (fun z => nomatch z) (mm_fz (by first | assumption | exact Or.inl rfl | exact Or.inr rfl)) ?_
  refine mk_34 p (fun h2 p2 => ?_)
  skip
  refine mm_viaJ (nI (mm0 T)) (pc' := 25) (ls' := [.ref 29, .null, .null, .null]) (st := []) ?_ (fun kk => ?_)
  · skip
    refine ex_istore_n dX9_buoys_25 (Nat.le_of_ble_eq_true rfl) ?_
    refine ex_aload_n dX9_buoys_26 rfl ?_
    refine ex_iload_n dX9_buoys_27 rfl ?_
    refine ex_put dX9_buoys_28 p_X9_164 (mP_o p2) (Nat.le_of_ble_eq_true rfl) (fun z => nomatch z) (mm_fi _) ?_
    refine mk_35 p2 (fun h28 p28 => ?_)
    refine ex_aload_n dX9_buoys_31 rfl ?_
    refine ex_dup dX9_buoys_32 rfl ?_
    refine ex_getfield dX9_buoys_33 g_X9_167 (mP_o p28) rfl ?_
    refine ex_iload_n dX9_buoys_36 rfl ?_
    refine ex_i2l dX9_buoys_37 ?_
    refine ex_ladd dX9_buoys_38 ?_
    refine ex_put dX9_buoys_39 p_X9_167 (mP_o p28) (Nat.le_of_ble_eq_true rfl) (fun z => nomatch z) (mm_fl _) ?_
    refine mk_33 p28 (fun h39 p39 => ?_)
    refine ex_aload_n dX9_buoys_42 rfl ?_
    refine ex_getfield dX9_buoys_43 g_X9_74 (mP_o p39) rfl ?_
    skip
    refine mm_viaJ (nI (k - 1)) (pc' := 63) (ls' := [.ref 29, .int (nI (mm0 T)), .null, .null]) (st := [.ref 51]) ?_ (fun kk => ?_)
    · skip
      refine ex_dup2 dX9_buoys_63 rfl rfl ?_
      refine ex_ialoadv (v := s.2.2 32 (k - 1)) dX9_buoys_64 (mA_32 p39) (by first | assumption | exact vp_in_nI (by omega) (by decide)) (mo_av (show (mo_g2 (mo_sf (mo_sf s 34 1) 35 (nI (mm0 T))) (s.2.1.2 + (nI (mm0 T)).toInt64)).2.2 32 (k - 1) = _ from rfl) rfl (by omega)) ?_
      refine ex_iload_n dX9_buoys_65 rfl ?_
      refine ex_isub dX9_buoys_66 ?_
      refine ex_iastore dX9_buoys_67 (mA_32 p39) (by first | assumption | exact vp_in_nI (by omega) (by decide)) ?_
      refine mq_32 p39 (fun h67 p67 => ?_)
      skip
      rw [nI_clamp (show k - 1 < 2 ^ 31 by omega)] at p67
      have f67 : mo_F [32, 34, 35] (mo_g2 s (s.2.1.2 + (nI (mm0 T)).toInt64)) (mo_sa (mo_g2 (mo_sf (mo_sf s 34 1) 35 (nI (mm0 T))) (s.2.1.2 + (nI (mm0 T)).toInt64)) 32 (k - 1) (s.2.2 32 (k - 1) - nI (mm0 T))) := ((((mo_F.refl [32, 34, 35] s).f 34 rfl).f 35 rfl).g1).a 32 rfl
      have l67 : r_line (mo_sa (mo_g2 (mo_sf (mo_sf s 34 1) 35 (nI (mm0 T))) (s.2.1.2 + (nI (mm0 T)).toInt64)) 32 (k - 1) (s.2.2 32 (k - 1) - nI (mm0 T))) T := hl
      have fa67 : r_fau (mo_sa (mo_g2 (mo_sf (mo_sf s 34 1) 35 (nI (mm0 T))) (s.2.1.2 + (nI (mm0 T)).toInt64)) 32 (k - 1) (s.2.2 32 (k - 1) - nI (mm0 T))) L := hf
      have a67 : (mo_sa (mo_g2 (mo_sf (mo_sf s 34 1) 35 (nI (mm0 T))) (s.2.1.2 + (nI (mm0 T)).toInt64)) 32 (k - 1) (s.2.2 32 (k - 1) - nI (mm0 T))).1 34 = 1 ∧ (mo_sa (mo_g2 (mo_sf (mo_sf s 34 1) 35 (nI (mm0 T))) (s.2.1.2 + (nI (mm0 T)).toInt64)) 32 (k - 1) (s.2.2 32 (k - 1) - nI (mm0 T))).1 35 = nI (mm0 T) ∧ (mo_sa (mo_g2 (mo_sf (mo_sf s 34 1) 35 (nI (mm0 T))) (s.2.1.2 + (nI (mm0 T)).toInt64)) 32 (k - 1) (s.2.2 32 (k - 1) - nI (mm0 T))).2.2 32 = upd (s.2.2 32) (k - 1) (s.2.2 32 (k - 1) - nI (mm0 T)) := ⟨rfl, rfl, rfl⟩
      have p67' : mo_P h0 h67 (mo_sa (mo_g2 (mo_sf (mo_sf s 34 1) 35 (nI (mm0 T))) (s.2.1.2 + (nI (mm0 T)).toInt64)) 32 (k - 1) (s.2.2 32 (k - 1) - nI (mm0 T))) := p67
      clear p67
      generalize mo_sa (mo_g2 (mo_sf (mo_sf s 34 1) 35 (nI (mm0 T))) (s.2.1.2 + (nI (mm0 T)).toInt64)) 32 (k - 1) (s.2.2 32 (k - 1) - nI (mm0 T)) = s67 at p67' f67 l67 fa67 a67
      refine x_X9_lose T.reverse (mm0 T) s67 h67 _ hm1 p67' (by rw [List.reverse_reverse]; exact l67) (by rw [List.reverse_reverse]; exact hw) (fun s2 h2 x1 x2 p2' f2 l2 => ?_)
      have fa2 := fa67.fr f2
      refine ex_iconst (v := 0) dX9_buoys_146 (by decide) ?_
      refine ex_istore_n dX9_buoys_147 (Nat.le_of_ble_eq_true rfl) ?_
      refine ex_iconst (v := 0) dX9_buoys_148 (by decide) ?_
      refine ex_istore_n dX9_buoys_149 (Nat.le_of_ble_eq_true rfl) ?_
      skip
      refine x_X9_kept (L := L) l2 hw2 fa2.1 hL4 x1 [] s2 h2 (Nat.le_refl _) p2' (mo_F.refl _ s2) (fun i r hr => by simp at hr) (fun j r hr => by rw [Nat.zero_add]; exact ⟨(fa2.2 j r hr).1, (fa2.2 j r hr).2.1⟩) (fun s3 h3 p3 f3 d3 => ?_)
      rw [List.nil_append] at d3 ⊢
      have hfl : (L.filter (fun r => decide (r.2.1 < ln_m (bu_T T) 0))).length ≤ 4 := Nat.le_trans (List.length_filter_le _ _) hL4
      refine ex_aload_n dX9_buoys_204 rfl ?_
      refine ex_iload_n dX9_buoys_205 rfl ?_
      refine ex_put dX9_buoys_206 p_X9_177 (mP_o p3) (Nat.le_of_ble_eq_true rfl) (fun z => nomatch z) (mm_fi _) ?_
      refine mk_38 p3 (fun h206 p206 => ?_)
      refine ex_aload_n dX9_buoys_209 rfl ?_
      refine cV_y dX9_buoys_210 (mm_kv i_X9_doubts l_X9_180) ⟨(Nat.le_of_ble_eq_true rfl), (Nat.le_of_ble_eq_true rfl)⟩ (c_X9_doubts p206 ((l2.fr f3).fr ((mo_F.refl [38] s3).f 38 rfl)) hw2 (show (mo_sf s3 38 _).1 38 = _ from rfl) hfl _ rfl d3) rfl rfl (mP_o p206) (Nat.le_of_ble_eq_true rfl) rfl ?_
      rintro h9 ⟨s9, p9, f9, q9⟩
      refine ex_return dX9_buoys_213 rfl ?_
      have fA : mo_F [21, 25, 38, 39, 40, 41, 42] s67 s9 := ((f2.sub.trans f3.sub).f 38 rfl).trans f9.sub; exact ⟨rfl, s9, p9, f67.sub.trans fA.sub, (fA.1 34 rfl).trans a67.1, (fA.1 35 rfl).trans a67.2.1, (fA.2.2 32 rfl).trans a67.2.2, ((l2.fr f3).fr ((mo_F.refl [38] s3).f 38 rfl)).fr f9, q9⟩
    · rcases Nat.eq_zero_or_pos k with hz | hz
      · subst hz
        refine ex_aload_n dX9_buoys_46 rfl ?_
        refine ex_getfield (v := .int (_)) dX9_buoys_47 g_X9_135 (mP_o p39) (congrArg (fun z => some (Value.int z)) (hk)) ?_
        refine ex_if_le (tgt := 62) dX9_buoys_50 (by decide) (fun _ => ?_) (fun z => absurd (by decide) z)
        refine ex_iconst (v := 0) dX9_buoys_62 (by decide) ?_
        exact kk _ rfl
      · skip
        refine ex_aload_n dX9_buoys_46 rfl ?_
        refine ex_getfield (v := .int (_)) dX9_buoys_47 g_X9_135 (mP_o p39) (congrArg (fun z => some (Value.int z)) (hk)) ?_
        refine ex_if_le (tgt := 62) dX9_buoys_50 (by decide) (fun z => absurd z (nI_nle hz (by omega))) (fun _ => ?_)
        refine ex_aload_n dX9_buoys_53 rfl ?_
        refine ex_getfield (v := .int (_)) dX9_buoys_54 g_X9_135 (mP_o p39) (congrArg (fun z => some (Value.int z)) (hk)) ?_
        refine ex_iconst (v := 1) dX9_buoys_57 (by decide) ?_
        refine ex_isub dX9_buoys_58 ?_
        refine ex_goto (tgt := 63) dX9_buoys_59 (by decide) ?_
        exact kk _ (pk_sub (a := k) (b := 1) (by omega))
  · skip
    refine ex_aload_n dX9_buoys_5 rfl ?_
    refine cV_f dX9_buoys_6 (mm_kv i_X9_metres l_X9_160) ⟨(Nat.le_of_ble_eq_true rfl), (Nat.le_of_ble_eq_true rfl)⟩ (c_X9_metres p2 (hl.fr ((mo_F.refl [34] s).f 34 rfl)) hw) rfl rfl (mP_o p2) (Nat.le_of_ble_eq_true rfl) rfl ?_
    refine ex_sipush (v := 200) dX9_buoys_9 (by decide) ?_
    refine ex_icmp_ge (tgt := 22) dX9_buoys_12 (by decide) (fun c_12 => ?_) (fun c_12 => ?_)
    · refine ex_sipush (v := 200) dX9_buoys_22 (by decide) ?_
      exact kk _ (by rw [← hm0, mn, if_neg (Int32.not_lt.mpr c_12)])
    · refine ex_aload_n dX9_buoys_15 rfl ?_
      refine cV_f dX9_buoys_16 (mm_kv i_X9_metres l_X9_160) ⟨(Nat.le_of_ble_eq_true rfl), (Nat.le_of_ble_eq_true rfl)⟩ (c_X9_metres p2 (hl.fr ((mo_F.refl [34] s).f 34 rfl)) hw) rfl rfl (mP_o p2) (Nat.le_of_ble_eq_true rfl) rfl ?_
      refine ex_goto (tgt := 25) dX9_buoys_19 (by decide) ?_
      exact kk _ (by rw [← hm0, mn, if_pos (Int32.not_le.mp c_12)])
end MOG
