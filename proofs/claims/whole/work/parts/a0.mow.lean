/-! THE MODEL: mending: its loops -/
section MOW
variable {l : Launch} {G : mm_G} {h0 h : mm_H} {m s : mo_S} {T L g : List tt_R}
theorem x_X9_mk {Q : mm_R → mm_H → Prop} (hn : s.1 38 = nI L.length) (hL4 : L.length ≤ 4) (b e d : Int32) (hbe : b ≤ e) : ∀ (D : List tt_R) (s1 : mo_S) (h1 : mm_H), D.length ≤ 0 → mo_P h0 h1 s1 → mo_F [39, 40] s s1 → r_fk s1 D → (∀ (j : Nat) (r : tt_R), L[j]? = some r → s1.2.2 39 (0 + j) = r.1 ∧ s1.2.2 40 (0 + j) = r.2.1) → (∀ (s2 : mo_S) (h2 : mm_H), mo_P h0 h2 s2 → mo_F [39, 40] s s2 → r_fk s2 (D ++ md_L b e d L) → mm_Ex l G mX9_mendsFaults Q 91 [.ref 29, .int b, .int e, .int d, .int (nI (D ++ md_L b e d L).length), .int (nI L.length)] [] h2) → mm_Ex l G mX9_mendsFaults Q 6 [.ref 29, .int b, .int e, .int d, .int (nI D.length), .int (nI 0)] [] h1 := by
  refine lp_fwd L (fun i R => ∀ (D : List tt_R) (s1 : mo_S) (h1 : mm_H), D.length ≤ i → mo_P h0 h1 s1 → mo_F [39, 40] s s1 → r_fk s1 D → (∀ (j : Nat) (r : tt_R), R[j]? = some r → s1.2.2 39 (i + j) = r.1 ∧ s1.2.2 40 (i + j) = r.2.1) → (∀ (s2 : mo_S) (h2 : mm_H), mo_P h0 h2 s2 → mo_F [39, 40] s s2 → r_fk s2 (D ++ md_L b e d R) → mm_Ex l G mX9_mendsFaults Q 91 [.ref 29, .int b, .int e, .int d, .int (nI (D ++ md_L b e d R).length), .int (nI L.length)] [] h2) → mm_Ex l G mX9_mendsFaults Q 6 [.ref 29, .int b, .int e, .int d, .int (nI D.length), .int (nI i)] [] h1) ?_ ?_
  · intro D s1 h1 hD p1 f1 d1 e1 k
    refine ex_iload dX9_mendsFaults_6 rfl ?_
    refine ex_aload_n dX9_mendsFaults_8 rfl ?_
    refine ex_getfield (v := .int (nI L.length)) dX9_mendsFaults_9 g_X9_177 (mP_o p1) (congrArg (fun z => some (Value.int z)) (f1.g hn)) ?_
    refine ex_icmp_ge (tgt := 91) dX9_mendsFaults_12 (by decide) (fun _ => ?_) (fun z => absurd (Int32.le_refl _) z)
    have := k s1 h1 p1 f1 (by rw [md_L, List.append_nil]; exact d1); rw [md_L, List.append_nil] at this; exact this
  · intro i r R hr hR hi ih D s1 h1 hD p1 f1 d1 e1 k
    obtain ⟨q1, q2⟩ := e1 0 r rfl
    rw [Nat.add_zero] at q1 q2
    have e2 : ∀ (j : Nat) (r : tt_R), R[j]? = some r → s1.2.2 39 (i + 1 + j) = r.1 ∧ s1.2.2 40 (i + 1 + j) = r.2.1 := fun j q hq => by
      rw [show i + 1 + j = i + (j + 1) by omega]; exact e1 (j + 1) q hq
    have hput : ∀ (x : tt_R), x.1 = r.1 → (∀ (s2 : mo_S) (h2 : mm_H), mo_P h0 h2 s2 → mo_F [39, 40] s s2 → r_fk s2 (D ++ [x] ++ md_L b e d R) → mm_Ex l G mX9_mendsFaults Q 91 [.ref 29, .int b, .int e, .int d, .int (nI (D ++ [x] ++ md_L b e d R).length), .int (nI L.length)] [] h2) → ∀ h2, mo_P h0 h2 (mo_sa (mo_sa s1 39 D.length r.1) 40 D.length x.2.1) → mm_Ex l G mX9_mendsFaults Q 82 [.ref 29, .int b, .int e, .int d, .int (nI D.length), .int (nI i)] [] h2 := by
      intro x hx1 k2 h2 p2
      have d2 : r_fk (mo_sa (mo_sa s1 39 D.length r.1) 40 D.length x.2.1) (D ++ [x]) := fun j q hq => ⟨by rw [← hx1]; exact ls_up0 (f := s1.2.2 39) (c := fun r => r.1) (x := x) (fun i r hr => (d1 i r hr).1) j q hq, ls_up0 (f := s1.2.2 40) (c := fun r => r.2.1) (x := x) (fun i r hr => (d1 i r hr).2) j q hq⟩
      have e3 : ∀ (j : Nat) (q : tt_R), R[j]? = some q → (mo_sa (mo_sa s1 39 D.length r.1) 40 D.length x.2.1).2.2 39 (i + 1 + j) = q.1 ∧ (mo_sa (mo_sa s1 39 D.length r.1) 40 D.length x.2.1).2.2 40 (i + 1 + j) = q.2.1 := fun j q hq => ⟨(pk_un (by omega)).trans (e2 j q hq).1, (pk_un (by omega)).trans (e2 j q hq).2⟩
      refine ex_iinc (d := 1) dX9_mendsFaults_82 rfl (by decide) ?_
      refine ex_iinc (d := 1) dX9_mendsFaults_85 rfl (by decide) ?_
      refine ex_goto (tgt := 6) dX9_mendsFaults_88 (by decide) ?_
      rw [nI_1, nI_1, show D.length + 1 = (D ++ [x]).length by simp]; exact ih (D ++ [x]) _ _ (by simp; omega) p2 ((f1.a 39 rfl).a 40 rfl) d2 e3 k2
    by_cases z1 : r.2.1 < b
    · have z2 : r.2.1 < e := Int32.lt_of_lt_of_le z1 hbe
      rw [md_L, if_pos z2, if_pos z1, List.append_cons] at k
      refine ex_iload dX9_mendsFaults_6 rfl ?_
      refine ex_aload_n dX9_mendsFaults_8 rfl ?_
      refine ex_getfield (v := .int (nI L.length)) dX9_mendsFaults_9 g_X9_177 (mP_o p1) (congrArg (fun z => some (Value.int z)) (f1.g hn)) ?_
      refine ex_icmp_ge (tgt := 91) dX9_mendsFaults_12 (by decide) (fun z => absurd z (nI_ge hi (by omega))) (fun _ => ?_)
      refine ex_aload_n dX9_mendsFaults_15 rfl ?_
      refine ex_getfield dX9_mendsFaults_16 g_X9_80 (mP_o p1) rfl ?_
      refine ex_iload dX9_mendsFaults_19 rfl ?_
      refine ex_ialoadv (v := r.2.1) dX9_mendsFaults_21 (mA_40 p1) (by first | assumption | exact vp_in_nI (by omega) (by decide)) (mo_av q2 rfl (by omega)) ?_
      refine ex_iload_n dX9_mendsFaults_22 rfl ?_
      refine ex_icmp_lt (tgt := 37) dX9_mendsFaults_23 (by decide) (fun _ => ?_) (fun z => absurd z1 z)
      refine ex_aload_n dX9_mendsFaults_37 rfl ?_
      refine ex_getfield dX9_mendsFaults_38 g_X9_77 (mP_o p1) rfl ?_
      refine ex_iload dX9_mendsFaults_41 rfl ?_
      refine ex_aload_n dX9_mendsFaults_43 rfl ?_
      refine ex_getfield dX9_mendsFaults_44 g_X9_77 (mP_o p1) rfl ?_
      refine ex_iload dX9_mendsFaults_47 rfl ?_
      refine ex_ialoadv (v := r.1) dX9_mendsFaults_49 (mA_39 p1) (by first | assumption | exact vp_in_nI (by omega) (by decide)) (mo_av q1 rfl (by omega)) ?_
      refine ex_iastore dX9_mendsFaults_50 (mA_39 p1) (by first | assumption | exact vp_in_nI (by omega) (by decide)) ?_
      refine mq_39 p1 (fun h50 p50 => ?_)
      refine ex_aload_n dX9_mendsFaults_51 rfl ?_
      refine ex_getfield dX9_mendsFaults_52 g_X9_80 (mP_o p50) rfl ?_
      refine ex_iload dX9_mendsFaults_55 rfl ?_
      refine ex_aload_n dX9_mendsFaults_57 rfl ?_
      refine ex_getfield dX9_mendsFaults_58 g_X9_80 (mP_o p50) rfl ?_
      refine ex_iload dX9_mendsFaults_61 rfl ?_
      refine ex_ialoadv (v := r.2.1) dX9_mendsFaults_63 (mA_40 p50) (by first | assumption | exact vp_in_nI (by omega) (by decide)) (mo_av (show (mo_sa s1 39 (nI D.length).toNatClampNeg r.1).2.2 40 i = r.2.1 from q2) rfl (by omega)) ?_
      refine ex_aload_n dX9_mendsFaults_64 rfl ?_
      refine ex_getfield dX9_mendsFaults_65 g_X9_80 (mP_o p50) rfl ?_
      refine ex_iload dX9_mendsFaults_68 rfl ?_
      refine ex_ialoadv (v := r.2.1) dX9_mendsFaults_70 (mA_40 p50) (by first | assumption | exact vp_in_nI (by omega) (by decide)) (mo_av (show (mo_sa s1 39 (nI D.length).toNatClampNeg r.1).2.2 40 i = r.2.1 from q2) rfl (by omega)) ?_
      refine ex_iload_n dX9_mendsFaults_71 rfl ?_
      refine ex_icmp_lt (tgt := 79) dX9_mendsFaults_72 (by decide) (fun _ => ?_) (fun z => absurd z2 z)
      refine ex_iconst (v := 0) dX9_mendsFaults_79 (by decide) ?_
      refine ex_iadd dX9_mendsFaults_80 ?_
      refine ex_iastore dX9_mendsFaults_81 (mA_40 p50) (by first | assumption | exact vp_in_nI (by omega) (by decide)) ?_
      refine mq_40 p50 (fun h81 p81 => ?_)
      rw [nI_clamp (show D.length < 2 ^ 31 by omega), show r.2.1 + 0 = r.2.1 by grind] at p81; exact hput r rfl k _ p81
    · by_cases z2 : r.2.1 < e
      · rw [md_L, if_pos z2, if_neg z1] at k
        refine ex_iload dX9_mendsFaults_6 rfl ?_
        refine ex_aload_n dX9_mendsFaults_8 rfl ?_
        refine ex_getfield (v := .int (nI L.length)) dX9_mendsFaults_9 g_X9_177 (mP_o p1) (congrArg (fun z => some (Value.int z)) (f1.g hn)) ?_
        refine ex_icmp_ge (tgt := 91) dX9_mendsFaults_12 (by decide) (fun z => absurd z (nI_ge hi (by omega))) (fun _ => ?_)
        refine ex_aload_n dX9_mendsFaults_15 rfl ?_
        refine ex_getfield dX9_mendsFaults_16 g_X9_80 (mP_o p1) rfl ?_
        refine ex_iload dX9_mendsFaults_19 rfl ?_
        refine ex_ialoadv (v := r.2.1) dX9_mendsFaults_21 (mA_40 p1) (by first | assumption | exact vp_in_nI (by omega) (by decide)) (mo_av q2 rfl (by omega)) ?_
        refine ex_iload_n dX9_mendsFaults_22 rfl ?_
        refine ex_icmp_lt (tgt := 37) dX9_mendsFaults_23 (by decide) (fun z => absurd z z1) (fun _ => ?_)
        refine ex_aload_n dX9_mendsFaults_26 rfl ?_
        refine ex_getfield dX9_mendsFaults_27 g_X9_80 (mP_o p1) rfl ?_
        refine ex_iload dX9_mendsFaults_30 rfl ?_
        refine ex_ialoadv (v := r.2.1) dX9_mendsFaults_32 (mA_40 p1) (by first | assumption | exact vp_in_nI (by omega) (by decide)) (mo_av q2 rfl (by omega)) ?_
        refine ex_iload_n dX9_mendsFaults_33 rfl ?_
        refine ex_icmp_lt (tgt := 85) dX9_mendsFaults_34 (by decide) (fun _ => ?_) (fun z => absurd z2 z)
        refine ex_iinc (d := 1) dX9_mendsFaults_85 rfl (by decide) ?_
        refine ex_goto (tgt := 6) dX9_mendsFaults_88 (by decide) ?_
        rw [nI_1]; exact ih D _ _ (by omega) p1 f1 d1 e2 k
      · rw [md_L, if_neg z2, List.append_cons] at k
        refine ex_iload dX9_mendsFaults_6 rfl ?_
        refine ex_aload_n dX9_mendsFaults_8 rfl ?_
        refine ex_getfield (v := .int (nI L.length)) dX9_mendsFaults_9 g_X9_177 (mP_o p1) (congrArg (fun z => some (Value.int z)) (f1.g hn)) ?_
        refine ex_icmp_ge (tgt := 91) dX9_mendsFaults_12 (by decide) (fun z => absurd z (nI_ge hi (by omega))) (fun _ => ?_)
        refine ex_aload_n dX9_mendsFaults_15 rfl ?_
        refine ex_getfield dX9_mendsFaults_16 g_X9_80 (mP_o p1) rfl ?_
        refine ex_iload dX9_mendsFaults_19 rfl ?_
        refine ex_ialoadv (v := r.2.1) dX9_mendsFaults_21 (mA_40 p1) (by first | assumption | exact vp_in_nI (by omega) (by decide)) (mo_av q2 rfl (by omega)) ?_
        refine ex_iload_n dX9_mendsFaults_22 rfl ?_
        refine ex_icmp_lt (tgt := 37) dX9_mendsFaults_23 (by decide) (fun z => absurd z z1) (fun _ => ?_)
        refine ex_aload_n dX9_mendsFaults_26 rfl ?_
        refine ex_getfield dX9_mendsFaults_27 g_X9_80 (mP_o p1) rfl ?_
        refine ex_iload dX9_mendsFaults_30 rfl ?_
        refine ex_ialoadv (v := r.2.1) dX9_mendsFaults_32 (mA_40 p1) (by first | assumption | exact vp_in_nI (by omega) (by decide)) (mo_av q2 rfl (by omega)) ?_
        refine ex_iload_n dX9_mendsFaults_33 rfl ?_
        refine ex_icmp_lt (tgt := 85) dX9_mendsFaults_34 (by decide) (fun z => absurd z z2) (fun _ => ?_)
        refine ex_aload_n dX9_mendsFaults_37 rfl ?_
        refine ex_getfield dX9_mendsFaults_38 g_X9_77 (mP_o p1) rfl ?_
        refine ex_iload dX9_mendsFaults_41 rfl ?_
        refine ex_aload_n dX9_mendsFaults_43 rfl ?_
        refine ex_getfield dX9_mendsFaults_44 g_X9_77 (mP_o p1) rfl ?_
        refine ex_iload dX9_mendsFaults_47 rfl ?_
        refine ex_ialoadv (v := r.1) dX9_mendsFaults_49 (mA_39 p1) (by first | assumption | exact vp_in_nI (by omega) (by decide)) (mo_av q1 rfl (by omega)) ?_
        refine ex_iastore dX9_mendsFaults_50 (mA_39 p1) (by first | assumption | exact vp_in_nI (by omega) (by decide)) ?_
        refine mq_39 p1 (fun h50 p50 => ?_)
        refine ex_aload_n dX9_mendsFaults_51 rfl ?_
        refine ex_getfield dX9_mendsFaults_52 g_X9_80 (mP_o p50) rfl ?_
        refine ex_iload dX9_mendsFaults_55 rfl ?_
        refine ex_aload_n dX9_mendsFaults_57 rfl ?_
        refine ex_getfield dX9_mendsFaults_58 g_X9_80 (mP_o p50) rfl ?_
        refine ex_iload dX9_mendsFaults_61 rfl ?_
        refine ex_ialoadv (v := r.2.1) dX9_mendsFaults_63 (mA_40 p50) (by first | assumption | exact vp_in_nI (by omega) (by decide)) (mo_av (show (mo_sa s1 39 (nI D.length).toNatClampNeg r.1).2.2 40 i = r.2.1 from q2) rfl (by omega)) ?_
        refine ex_aload_n dX9_mendsFaults_64 rfl ?_
        refine ex_getfield dX9_mendsFaults_65 g_X9_80 (mP_o p50) rfl ?_
        refine ex_iload dX9_mendsFaults_68 rfl ?_
        refine ex_ialoadv (v := r.2.1) dX9_mendsFaults_70 (mA_40 p50) (by first | assumption | exact vp_in_nI (by omega) (by decide)) (mo_av (show (mo_sa s1 39 (nI D.length).toNatClampNeg r.1).2.2 40 i = r.2.1 from q2) rfl (by omega)) ?_
        refine ex_iload_n dX9_mendsFaults_71 rfl ?_
        refine ex_icmp_lt (tgt := 79) dX9_mendsFaults_72 (by decide) (fun z => absurd z z2) (fun _ => ?_)
        refine ex_iload_n dX9_mendsFaults_75 rfl ?_
        refine ex_goto (tgt := 80) dX9_mendsFaults_76 (by decide) ?_
        refine ex_iadd dX9_mendsFaults_80 ?_
        refine ex_iastore dX9_mendsFaults_81 (mA_40 p50) (by first | assumption | exact vp_in_nI (by omega) (by decide)) ?_
        refine mq_40 p50 (fun h81 p81 => ?_)
        rw [nI_clamp (show D.length < 2 ^ 31 by omega)] at p81; exact hput (r.1, r.2.1 + d, r.2.2.1, r.2.2.2) rfl k _ p81
theorem c_X9_mendsFaults (p : mo_P h0 h s) (hl : r_line s T) (hw : ln_W T) (hf : r_fau s L) (hL4 : L.length ≤ 4) (b e d : Int32) (hbe : b ≤ e) : mm_Ct l G mX9_mendsFaults [.ref 29, .int b, .int e, .int d] h (mm_qi (fun v h' => v = .int (nI (L.length - (md_L b e d L).length)) ∧ ∃ s', mo_P h0 h' s' ∧ mo_F [38, 39, 40, 41, 42] s s' ∧ r_fau s' ((md_L b e d L).map (fa_an (ln_m T 0))))) := by
  have hlen := md_L_len (b := b) (e := e) (d := d) L
  refine mm_ct (by decide +kernel) (by decide +kernel) rfl (by simp [Value.category]) (Nat.le_of_ble_eq_true rfl) rfl ?_
  refine ex_iconst (v := 0) dX9_mendsFaults_0 (by decide) ?_
  refine ex_istore dX9_mendsFaults_1 (Nat.le_of_ble_eq_true rfl) ?_
  refine ex_iconst (v := 0) dX9_mendsFaults_3 (by decide) ?_
  refine ex_istore dX9_mendsFaults_4 (Nat.le_of_ble_eq_true rfl) ?_
  skip
  refine x_X9_mk hf.1 hL4 b e d hbe [] s h (Nat.le_refl _) p (mo_F.refl _ s) (fun i r hr => by simp at hr) (fun j r hr => by rw [Nat.zero_add]; exact ⟨(hf.2 j r hr).1, (hf.2 j r hr).2.1⟩) (fun s2 h2 p2 f2 d2 => ?_)
  rw [List.nil_append] at d2 ⊢
  refine ex_aload_n dX9_mendsFaults_91 rfl ?_
  refine ex_getfield (v := .int (nI L.length)) dX9_mendsFaults_92 g_X9_177 (mP_o p2) (congrArg (fun z => some (Value.int z)) (f2.g hf.1)) ?_
  refine ex_iload dX9_mendsFaults_95 rfl ?_
  refine ex_isub dX9_mendsFaults_97 ?_
  refine ex_istore dX9_mendsFaults_98 (Nat.le_of_ble_eq_true rfl) ?_
  refine ex_aload_n dX9_mendsFaults_100 rfl ?_
  refine ex_iload dX9_mendsFaults_101 rfl ?_
  refine ex_put dX9_mendsFaults_103 p_X9_177 (mP_o p2) (Nat.le_of_ble_eq_true rfl) (fun z => nomatch z) (mm_fi _) ?_
  refine mk_38 p2 (fun h103 p103 => ?_)
  refine ex_aload_n dX9_mendsFaults_106 rfl ?_
  refine cV_y dX9_mendsFaults_107 (mm_kv i_X9_doubts l_X9_180) ⟨(Nat.le_of_ble_eq_true rfl), (Nat.le_of_ble_eq_true rfl)⟩ (c_X9_doubts p103 ((hl.fr f2).fr ((mo_F.refl [38] s2).f 38 rfl)) hw (show (mo_sf s2 38 _).1 38 = _ from rfl) (by omega) _ rfl d2) rfl rfl (mP_o p103) (Nat.le_of_ble_eq_true rfl) rfl ?_
  rintro h9 ⟨s9, p9, f9, q9⟩
  refine ex_iload dX9_mendsFaults_110 rfl ?_
  refine ex_ireturn dX9_mendsFaults_112 ⟨_, rfl, rfl⟩ ?_
  exact ⟨_, rfl, by rw [nI_sub hlen], s9, p9, ((f2.sub (K' := [38, 39, 40, 41, 42])).f 38 rfl).trans f9.sub, q9⟩
theorem x_X9_pcs {Q : mm_R → mm_H → Prop} (ho : r_out s g) (hg : g.length ≤ 30) (x1 x2 x3 x4 x5 x6 x7 : Value) : ∀ (D : List tt_R) (s1 : mo_S) (h1 : mm_H), mo_P h0 h1 s1 → mo_F [26, 27, 28, 29, 30] s s1 → r_new s1 D → D.length + 2 * g.length ≤ 8190 → (∀ (s2 : mo_S) (h2 : mm_H), mo_P h0 h2 s2 → mo_F [26, 27, 28, 29, 30] s s2 → r_new s2 (D ++ md_x 0 g) → mm_Ex l G mX9_mend Q 175 [.ref 29, x1, x2, x3, x4, x5, x6, x7, .int (nI g.length)] [] h2) → mm_Ex l G mX9_mend Q 121 [.ref 29, x1, x2, x3, x4, x5, x6, x7, .int (nI 0)] [] h1 := by
  refine lp_fwd g (fun i R => ∀ (D : List tt_R) (s1 : mo_S) (h1 : mm_H), mo_P h0 h1 s1 → mo_F [26, 27, 28, 29, 30] s s1 → r_new s1 D → D.length + 2 * R.length ≤ 8190 → (∀ (s2 : mo_S) (h2 : mm_H), mo_P h0 h2 s2 → mo_F [26, 27, 28, 29, 30] s s2 → r_new s2 (D ++ md_x i R) → mm_Ex l G mX9_mend Q 175 [.ref 29, x1, x2, x3, x4, x5, x6, x7, .int (nI g.length)] [] h2) → mm_Ex l G mX9_mend Q 121 [.ref 29, x1, x2, x3, x4, x5, x6, x7, .int (nI i)] [] h1) ?_ ?_
  · intro D s1 h1 p1 f1 d1 hn k
    refine ex_iload dX9_mend_121 rfl ?_
    refine ex_aload_n dX9_mend_123 rfl ?_
    refine ex_getfield (v := .int (nI g.length)) dX9_mend_124 g_X9_193 (mP_o p1) (congrArg (fun z => some (Value.int z)) (f1.g ho.1)) ?_
    refine ex_icmp_ge (tgt := 175) dX9_mend_127 (by decide) (fun _ => ?_) (fun z => absurd (Int32.le_refl _) z)
    exact k s1 h1 p1 f1 (by rw [md_x, List.append_nil]; exact d1)
  · intro i q R hr hR hi ih D s1 h1 p1 f1 d1 hn k
    rw [List.length_cons] at hn
    have step : ∀ (D2 : List tt_R) (s2 : mo_S) (h2 : mm_H), mo_P h0 h2 s2 → mo_F [26, 27, 28, 29, 30] s s2 → r_new s2 D2 → D2.length ≤ D.length + 1 → D2 ++ (0, q.2.1, q.2.2.1, q.2.2.2) :: md_x (i + 1) R = D ++ md_x i (q :: R) → mm_Ex l G mX9_mend Q 143 [.ref 29, x1, x2, x3, x4, x5, x6, x7, .int (nI i)] [] h2 := by
      intro D2 s2 h2 p2 f2 d2 hD e
      obtain ⟨o1, o2, o3⟩ := ho.2 i q hr
      refine ex_aload_n dX9_mend_143 rfl ?_
      refine ex_iconst (v := 0) dX9_mend_144 (by decide) ?_
      refine ex_aload_n dX9_mend_145 rfl ?_
      refine ex_getfield dX9_mend_146 g_X9_41 (mP_o p2) rfl ?_
      refine ex_iload dX9_mend_149 rfl ?_
      refine ex_ialoadv (v := q.2.1) dX9_mend_151 (mA_18 p2) (by first | assumption | exact vp_in_nI (by omega) (by decide)) (mo_av ((congrFun (f2.2.2 18 rfl) i).trans o1) rfl (by omega)) ?_
      refine ex_aload_n dX9_mend_152 rfl ?_
      refine ex_getfield dX9_mend_153 g_X9_44 (mP_o p2) rfl ?_
      refine ex_iload dX9_mend_156 rfl ?_
      refine ex_ialoadv (v := q.2.2.1) dX9_mend_158 (mA_19 p2) (by first | assumption | exact vp_in_nI (by omega) (by decide)) (mo_av ((congrFun (f2.2.2 19 rfl) i).trans o2) rfl (by omega)) ?_
      refine ex_aload_n dX9_mend_159 rfl ?_
      refine ex_getfield dX9_mend_160 g_X9_47 (mP_o p2) rfl ?_
      refine ex_iload dX9_mend_163 rfl ?_
      refine ex_ialoadv (v := q.2.2.1 + q.2.2.2 - 1) dX9_mend_165 (mA_20 p2) (by first | assumption | exact vp_in_nI (by omega) (by decide)) (mo_av ((congrFun (f2.2.2 20 rfl) i).trans o3) rfl (by omega)) ?_
      refine cV_y dX9_mend_166 (mm_kv i_X9_keeps l_X9_272) ⟨(Nat.le_of_ble_eq_true rfl), (Nat.le_of_ble_eq_true rfl)⟩ (c_X9_keeps p2 d2.1 (by omega) _ _ _ _) rfl rfl (mP_o p2) (Nat.le_of_ble_eq_true rfl) rfl ?_
      rintro h166 p166
      refine ex_iinc (d := 1) dX9_mend_169 rfl (by decide) ?_
      refine ex_goto (tgt := 121) dX9_mend_172 (by decide) ?_
      rw [nI_1]; exact ih (D2 ++ [(0, q.2.1, q.2.2.1, q.2.2.2)]) _ _ p166 (f2.kp _ _ _ _ _) (d2.kp (0, q.2.1, q.2.2.1, q.2.2.2)) (by rw [List.length_append, List.length_cons, List.length_nil]; omega) (by rw [List.append_assoc]; show ∀ s2 h2, mo_P h0 h2 s2 → mo_F [26, 27, 28, 29, 30] s s2 → r_new s2 (D2 ++ (0, q.2.1, q.2.2.1, q.2.2.2) :: md_x (i + 1) R) → _; rw [e]; exact k)
    rcases Nat.eq_zero_or_pos i with z0 | z0
    · skip
      refine ex_iload dX9_mend_121 rfl ?_
      refine ex_aload_n dX9_mend_123 rfl ?_
      refine ex_getfield (v := .int (nI g.length)) dX9_mend_124 g_X9_193 (mP_o p1) (congrArg (fun z => some (Value.int z)) (f1.g ho.1)) ?_
      refine ex_icmp_ge (tgt := 175) dX9_mend_127 (by decide) (fun z => absurd z (nI_ge hi (by omega))) (fun _ => ?_)
      refine ex_iload dX9_mend_130 rfl ?_
      refine ex_if_le (tgt := 143) dX9_mend_132 (by decide) (fun _ => ?_) (fun z => absurd (by rw [z0]; decide) z)
      exact step D s1 h1 p1 f1 d1 (Nat.le_succ _) (by rw [md_x, if_pos z0]; rfl)
    · skip
      refine ex_iload dX9_mend_121 rfl ?_
      refine ex_aload_n dX9_mend_123 rfl ?_
      refine ex_getfield (v := .int (nI g.length)) dX9_mend_124 g_X9_193 (mP_o p1) (congrArg (fun z => some (Value.int z)) (f1.g ho.1)) ?_
      refine ex_icmp_ge (tgt := 175) dX9_mend_127 (by decide) (fun z => absurd z (nI_ge hi (by omega))) (fun _ => ?_)
      refine ex_iload dX9_mend_130 rfl ?_
      refine ex_if_le (tgt := 143) dX9_mend_132 (by decide) (fun z => absurd z (nI_nle z0 (by omega))) (fun _ => ?_)
      refine ex_aload_n dX9_mend_135 rfl ?_
      refine ex_iconst (v := 1) dX9_mend_136 (by decide) ?_
      refine ex_iconst (v := (-1)) dX9_mend_137 (by decide) ?_
      refine ex_iconst (v := (-1)) dX9_mend_138 (by decide) ?_
      refine ex_iconst (v := (-1)) dX9_mend_139 (by decide) ?_
      refine cV_y dX9_mend_140 (mm_kv i_X9_keeps l_X9_272) ⟨(Nat.le_of_ble_eq_true rfl), (Nat.le_of_ble_eq_true rfl)⟩ (c_X9_keeps p1 d1.1 (by omega) _ _ _ _) rfl rfl (mP_o p1) (Nat.le_of_ble_eq_true rfl) rfl ?_
      rintro h140 p140
      exact step (D ++ [(1, -1, -1, 0)]) _ _ p140 (f1.kp _ _ _ _ _) (d1.kp (1, -1, -1, 0)) (by rw [List.length_append]; exact Nat.le_refl _) (by rw [md_x, if_neg (by omega), List.append_assoc])
theorem x_X9_copy {Q : mm_R → mm_H → Prop} (hd : r_new s L) (hL : L.length ≤ 8190) (x1 x2 x3 x4 x5 x6 x7 : Value) : ∀ (s1 : mo_S) (h1 : mm_H), mo_P h0 h1 s1 → mo_F [22, 23, 24, 25] s s1 → (∀ (j : Nat) (r : tt_R), j < 0 → L[j]? = some r → s1.2.2 22 j = r.1 ∧ s1.2.2 23 j = r.2.1 ∧ s1.2.2 24 j = r.2.2.1 ∧ s1.2.2 25 j = ln_to r) → (∀ (s2 : mo_S) (h2 : mm_H), mo_P h0 h2 s2 → mo_F [22, 23, 24, 25] s s2 → (∀ (j : Nat) (r : tt_R), L[j]? = some r → s2.2.2 22 j = r.1 ∧ s2.2.2 23 j = r.2.1 ∧ s2.2.2 24 j = r.2.2.1 ∧ s2.2.2 25 j = ln_to r) → mm_Ex l G mX9_mend Q 268 [.ref 29, x1, x2, x3, x4, x5, x6, x7, .int (nI L.length)] [] h2) → mm_Ex l G mX9_mend Q 197 [.ref 29, x1, x2, x3, x4, x5, x6, x7, .int (nI 0)] [] h1 := by
  refine lp_nat L.length (fun i => ∀ (s1 : mo_S) (h1 : mm_H), mo_P h0 h1 s1 → mo_F [22, 23, 24, 25] s s1 → (∀ (j : Nat) (r : tt_R), j < i → L[j]? = some r → s1.2.2 22 j = r.1 ∧ s1.2.2 23 j = r.2.1 ∧ s1.2.2 24 j = r.2.2.1 ∧ s1.2.2 25 j = ln_to r) → (∀ (s2 : mo_S) (h2 : mm_H), mo_P h0 h2 s2 → mo_F [22, 23, 24, 25] s s2 → (∀ (j : Nat) (r : tt_R), L[j]? = some r → s2.2.2 22 j = r.1 ∧ s2.2.2 23 j = r.2.1 ∧ s2.2.2 24 j = r.2.2.1 ∧ s2.2.2 25 j = ln_to r) → mm_Ex l G mX9_mend Q 268 [.ref 29, x1, x2, x3, x4, x5, x6, x7, .int (nI L.length)] [] h2) → mm_Ex l G mX9_mend Q 197 [.ref 29, x1, x2, x3, x4, x5, x6, x7, .int (nI i)] [] h1) ?_ ?_
  · intro s1 h1 p1 f1 q1 k
    refine ex_iload dX9_mend_197 rfl ?_
    refine ex_aload_n dX9_mend_199 rfl ?_
    refine ex_getfield (v := .int (nI L.length)) dX9_mend_200 g_X9_269 (mP_o p1) (congrArg (fun z => some (Value.int z)) (f1.g hd.1)) ?_
    refine ex_icmp_ge (tgt := 268) dX9_mend_203 (by decide) (fun _ => ?_) (fun z => absurd (Int32.le_refl _) z)
    exact k s1 h1 p1 f1 (fun j r hr => q1 j r (List.getElem?_eq_some_iff.mp hr).1 hr)
  · intro i hi ih s1 h1 p1 f1 q1 k
    have hr := List.getElem?_eq_getElem hi
    generalize L[i] = r at hr
    obtain ⟨d1, d2, d3, d4⟩ := hd.2 i r hr
    have q2 : ∀ (j : Nat) (x : tt_R), j < i + 1 → L[j]? = some x → (mo_sa (mo_sa (mo_sa (mo_sa s1 22 i r.1) 23 i r.2.1) 24 i r.2.2.1) 25 i (ln_to r)).2.2 22 j = x.1 ∧ (mo_sa (mo_sa (mo_sa (mo_sa s1 22 i r.1) 23 i r.2.1) 24 i r.2.2.1) 25 i (ln_to r)).2.2 23 j = x.2.1 ∧ (mo_sa (mo_sa (mo_sa (mo_sa s1 22 i r.1) 23 i r.2.1) 24 i r.2.2.1) 25 i (ln_to r)).2.2 24 j = x.2.2.1 ∧ (mo_sa (mo_sa (mo_sa (mo_sa s1 22 i r.1) 23 i r.2.1) 24 i r.2.2.1) 25 i (ln_to r)).2.2 25 j = ln_to x := by
      intro j x hj hx
      by_cases e : j = i
      · subst e
        rw [hr] at hx
        cases hx
        exact ⟨pk_us, pk_us, pk_us, pk_us⟩
      · have := q1 j x (by omega) hx
        exact ⟨(pk_un e).trans this.1, (pk_un e).trans this.2.1, (pk_un e).trans this.2.2.1, (pk_un e).trans this.2.2.2⟩
    refine ex_iload dX9_mend_197 rfl ?_
    refine ex_aload_n dX9_mend_199 rfl ?_
    refine ex_getfield (v := .int (nI L.length)) dX9_mend_200 g_X9_269 (mP_o p1) (congrArg (fun z => some (Value.int z)) (f1.g hd.1)) ?_
    refine ex_icmp_ge (tgt := 268) dX9_mend_203 (by decide) (fun z => absurd z (nI_ge hi (by omega))) (fun _ => ?_)
    refine ex_aload_n dX9_mend_206 rfl ?_
    refine ex_getfield dX9_mend_207 g_X9_50 (mP_o p1) rfl ?_
    refine ex_iload dX9_mend_210 rfl ?_
    refine ex_aload_n dX9_mend_212 rfl ?_
    refine ex_getfield dX9_mend_213 g_X9_62 (mP_o p1) rfl ?_
    refine ex_iload dX9_mend_216 rfl ?_
    refine ex_ialoadv (v := r.1) dX9_mend_218 (mA_27 p1) (by first | assumption | exact vp_in_nI (by omega) (by decide)) (mo_av ((congrFun (f1.2.2 27 rfl) i).trans d1) rfl (by omega)) ?_
    refine ex_iastore dX9_mend_219 (mA_22 p1) (by first | assumption | exact vp_in_nI (by omega) (by decide)) ?_
    refine mq_22 p1 (fun h219 p219 => ?_)
    refine ex_aload_n dX9_mend_220 rfl ?_
    refine ex_getfield dX9_mend_221 g_X9_53 (mP_o p219) rfl ?_
    refine ex_iload dX9_mend_224 rfl ?_
    refine ex_aload_n dX9_mend_226 rfl ?_
    refine ex_getfield dX9_mend_227 g_X9_65 (mP_o p219) rfl ?_
    refine ex_iload dX9_mend_230 rfl ?_
    refine ex_ialoadv (v := r.2.1) dX9_mend_232 (mA_28 p219) (by first | assumption | exact vp_in_nI (by omega) (by decide)) (mo_av ((congrFun (f1.2.2 28 rfl) i).trans d2) rfl (by omega)) ?_
    refine ex_iastore dX9_mend_233 (mA_23 p219) (by first | assumption | exact vp_in_nI (by omega) (by decide)) ?_
    refine mq_23 p219 (fun h233 p233 => ?_)
    refine ex_aload_n dX9_mend_234 rfl ?_
    refine ex_getfield dX9_mend_235 g_X9_56 (mP_o p233) rfl ?_
    refine ex_iload dX9_mend_238 rfl ?_
    refine ex_aload_n dX9_mend_240 rfl ?_
    refine ex_getfield dX9_mend_241 g_X9_68 (mP_o p233) rfl ?_
    refine ex_iload dX9_mend_244 rfl ?_
    refine ex_ialoadv (v := r.2.2.1) dX9_mend_246 (mA_29 p233) (by first | assumption | exact vp_in_nI (by omega) (by decide)) (mo_av ((congrFun (f1.2.2 29 rfl) i).trans d3) rfl (by omega)) ?_
    refine ex_iastore dX9_mend_247 (mA_24 p233) (by first | assumption | exact vp_in_nI (by omega) (by decide)) ?_
    refine mq_24 p233 (fun h247 p247 => ?_)
    refine ex_aload_n dX9_mend_248 rfl ?_
    refine ex_getfield dX9_mend_249 g_X9_59 (mP_o p247) rfl ?_
    refine ex_iload dX9_mend_252 rfl ?_
    refine ex_aload_n dX9_mend_254 rfl ?_
    refine ex_getfield dX9_mend_255 g_X9_71 (mP_o p247) rfl ?_
    refine ex_iload dX9_mend_258 rfl ?_
    refine ex_ialoadv (v := ln_to r) dX9_mend_260 (mA_30 p247) (by first | assumption | exact vp_in_nI (by omega) (by decide)) (mo_av ((congrFun (f1.2.2 30 rfl) i).trans d4) rfl (by omega)) ?_
    refine ex_iastore dX9_mend_261 (mA_25 p247) (by first | assumption | exact vp_in_nI (by omega) (by decide)) ?_
    refine mq_25 p247 (fun h261 p261 => ?_)
    refine ex_iinc (d := 1) dX9_mend_262 rfl (by decide) ?_
    refine ex_goto (tgt := 197) dX9_mend_265 (by decide) ?_
    rw [nI_clamp (show i < 2 ^ 31 by omega)] at p261; rw [nI_1]; exact ih _ _ p261 ((((f1.a 22 rfl).a 23 rfl).a 24 rfl).a 25 rfl) q2 k
end MOW
