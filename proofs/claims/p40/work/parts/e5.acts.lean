/-! P40: THE LAW: taking up, a repeater, mending -/
section E5
variable {l : Launch} {G : mm_G} {h : mm_H} {s : cl_S} {d m t : Nat → Int32} {n y k e turn pcs u td j : Nat}
theorem lb_c {c0 n0 c1 n1 : Nat} (B : lb h s d m t c0 n0) (h1 : c0 = c1) (h2 : n0 = n1) : lb h s d m t c1 n1 := by subst h1; subst h2; exact B
theorem lw_take (hl : l.stackTraces = false) {at0 : Int32} {x9 x10 x11 x13 x14 x15 x16 : Value} (hj : j < 3) (ht : turn < 60) (he : e ≤ turn) (hn : n ≤ turn) (B : lb h s d (c_s s) (t_f s (t_r s)) (70 + e) (80000 + 6 * e)) (hI : p_I n s d y pcs k) (hk : k ≤ 39) (htd : s.2.2.1.1 = nI td) (htd2 : td ≤ 3 * turn) (hb : cl_bu s = 1)
    (K : ∀ (h : mm_H) (x13 x14 x15 x16 : Value), lj y (turn + 1) pcs h → mm_Ex l G mm_law lw_QE 1158 (lv_L 0 (nI y) (nI pcs) at0 (nI turn) u x9 x10 x11 (.int (nI j)) x13 x14 x15 x16) [] h) :
    mm_Ex l G mm_law lw_QE 771 (lv_L 0 (nI y) (nI pcs) at0 (nI turn) u x9 x10 x11 (.int (nI j)) x13 x14 x15 x16) [] h := by
  obtain ⟨hc, hkp, hy, hbb⟩ := p_I_c hI
  obtain ⟨l1, l2⟩ := tk_law hI (show n ≤ 512 by omega) hj hb
  replace B := lb_k hc B
  by_cases hq : cl_wo s ∧ cl_lo s ≤ t_a s j
  · obtain ⟨m1, m2, m3, m4⟩ := l1 hq
    have fin : ∀ (h : mm_H) (x13 x14 x15 x16 : Value), lb h (cm_takeUp s (nI j)).2 d (if k = 0 then c_s s else upd (c_s s) (k - 1) (c_s s (k - 1) + cl_lo s)) (tg (upd (t_a s) j (t_a s j - cl_lo s)) [s.2.2.1.1, s.2.2.1.2.1, cl_la s, nI k, 0, 0, cl_wa s, s.2.2.1.2.2, t_r s, t_l s]) (70 + e + cl_e (cm_takeUp s (nI j)).1) (80000 + 6 * e + 6 * cl_e (cm_takeUp s (nI j)).1) → mm_Ex l G mm_law lw_QE 1158 (lv_L 0 (nI y) (nI pcs) at0 (nI turn) u x9 x10 x11 (.int (nI j)) x13 x14 x15 x16) [] h := by
      intro h x13 x14 x15 x16 B
      refine K h _ _ _ _ ⟨n + 1, _, d, e, k, td, by omega, by omega, ?_, m2, hk, (td_of m3).trans htd, by omega⟩
      rw [m3, m4, hc]
      rw [m1] at B
      exact lb_c B rfl rfl
    rcases Nat.eq_zero_or_pos k with z0 | z0
    · skip
      refine ex_aload dL_law_771 rfl ?_
      refine cS_f dL_law_773 (mm_ks i_L_works l_L_36) ⟨(Nat.le_of_ble_eq_true rfl), (Nat.le_of_ble_eq_true rfl)⟩ (c_L_works B.2.2.2) rfl rfl (Nat.le_of_ble_eq_true rfl) rfl ?_
      refine ex_if_eq (tgt := 796) dL_law_776 (by decide) (fun z => absurd z (fun z => bb_0.mp z (wo_k.mp hq.1))) (fun _ => ?_)
      refine ex_aload dL_law_779 rfl ?_
      refine ex_iload dL_law_781 rfl ?_
      refine ex_ialv (v := ((t_a s)) j) dL_law_783 B.2.2.2 (vp_in_nI (by omega) (by decide)) (tg_k (j := j) (nI_clamp (by omega)) (by omega)) ?_
      refine ex_aload dL_law_784 rfl ?_
      refine ex_bipush (v := 8) dL_law_786 (by decide) ?_
      refine ex_ialv (v := cl_lo s) dL_law_788 B.2.2.2 (by unfold vp_in; decide) (tg_c (j := 8) (by decide) (by decide) rfl) ?_
      refine ex_icmp_lt (tgt := 796) dL_law_789 (by decide) (fun z => absurd z (Int32.not_lt.mpr hq.2)) (fun _ => ?_)
      refine ex_iconst (v := 1) dL_law_792 (by decide) ?_
      refine ex_goto (tgt := 797) dL_law_793 (by decide) ?_
      refine ex_istore dL_law_797 (Nat.le_of_ble_eq_true rfl) ?_
      refine ex_aload_n dL_law_799 rfl ?_
      refine ex_iload dL_law_800 rfl ?_
      refine cH_x dL_law_802 (mm_ksw i_L_taken l_L_99) ⟨(Nat.le_of_ble_eq_true rfl), (Nat.le_of_ble_eq_true rfl)⟩ (lb_w B (v := cl_lo s) (by rw [m1]; rfl) (c_L_taken B.1 _ (k8_takeUp hl B.1 (p_I_iv hI) (by omega) _) (by rw [m1]; exact trivial))) rfl rfl (Nat.le_of_ble_eq_true rfl) rfl ?_
      rintro _ h ⟨rfl, B⟩
      refine ex_istore dL_law_805 (Nat.le_of_ble_eq_true rfl) ?_
      refine ex_iload dL_law_807 rfl ?_
      refine ex_iload dL_law_809 rfl ?_
      refine ex_if_eq (tgt := 822) dL_law_811 (by decide) (fun z => absurd z (by decide)) (fun _ => ?_)
      refine ex_aload dL_law_814 rfl ?_
      refine ex_bipush (v := 8) dL_law_816 (by decide) ?_
      refine ex_ialv (v := cl_lo s) dL_law_818 B.2.2.2 (by unfold vp_in; decide) (tg_c (j := 8) (by decide) (by decide) rfl) ?_
      refine ex_goto (tgt := 823) dL_law_819 (by decide) ?_
      refine ex_icmp_eq (tgt := 828) dL_law_823 (by decide) (fun _ => ?_) (fun z => absurd rfl z)
      refine ex_iload dL_law_828 rfl ?_
      refine ex_if_eq (tgt := 883) dL_law_830 (by decide) (fun z => absurd z (by decide)) (fun _ => ?_)
      refine ex_aload dL_law_833 rfl ?_
      refine ex_bipush (v := 6) dL_law_835 (by decide) ?_
      refine ex_ialv (v := nI k) dL_law_837 B.2.2.2 (by unfold vp_in; decide) (tg_c (j := 6) (by decide) (by decide) rfl) ?_
      refine ex_if_le (tgt := 858) dL_law_838 (by decide) (fun _ => ?_) (fun z => absurd (by rw [z0]; decide) z)
      refine ex_aload dL_law_858 rfl ?_
      refine ex_iload dL_law_860 rfl ?_
      refine ex_dup2 dL_law_862 rfl rfl ?_
      refine ex_ialv (v := ((t_a s)) j) dL_law_863 B.2.2.2 (vp_in_nI (by omega) (by decide)) (tg_k (j := j) (nI_clamp (by omega)) (by omega)) ?_
      refine ex_aload dL_law_864 rfl ?_
      refine ex_bipush (v := 8) dL_law_866 (by decide) ?_
      refine ex_ialv (v := cl_lo s) dL_law_868 B.2.2.2 (by unfold vp_in; decide) (tg_c (j := 8) (by decide) (by decide) rfl) ?_
      refine ex_isub dL_law_869 ?_
      refine ex_iastore dL_law_870 B.2.2.2 (vp_in_nI (by omega) (by decide)) ?_
      refine sx_t B (t' := tg (upd (t_a s) j ((((t_a s)) j) - cl_lo s)) [s.2.2.1.1, s.2.2.1.2.1, cl_la s, nI k, cl_bu s, cl_lo s, cl_wa s, s.2.2.1.2.2, t_r s, t_l s]) (tg_w (j := j) (nI_clamp (by omega)) (by omega)) (fun h B => ?_)
      refine ex_aload dL_law_871 rfl ?_
      refine ex_bipush (v := 8) dL_law_873 (by decide) ?_
      refine ex_iconst (v := 0) dL_law_875 (by decide) ?_
      refine ex_iastore dL_law_876 B.2.2.2 (by unfold vp_in; decide) ?_
      refine sx_t B (t' := tg (upd (t_a s) j ((((t_a s)) j) - cl_lo s)) [s.2.2.1.1, s.2.2.1.2.1, cl_la s, nI k, cl_bu s, 0, cl_wa s, s.2.2.1.2.2, t_r s, t_l s]) (tg_d (j := 8) (by decide) (by decide) (by first | decide | simp) (by first | rfl | skip)) (fun h B => ?_)
      refine ex_aload dL_law_877 rfl ?_
      refine ex_bipush (v := 7) dL_law_879 (by decide) ?_
      refine ex_iconst (v := 0) dL_law_881 (by decide) ?_
      refine ex_iastore dL_law_882 B.2.2.2 (by unfold vp_in; decide) ?_
      refine sx_t B (t' := tg (upd (t_a s) j ((((t_a s)) j) - cl_lo s)) [s.2.2.1.1, s.2.2.1.2.1, cl_la s, nI k, 0, 0, cl_wa s, s.2.2.1.2.2, t_r s, t_l s]) (tg_d (j := 7) (by decide) (by decide) (by first | decide | simp) (by first | rfl | skip)) (fun h B => ?_)
      refine ex_goto (tgt := 1158) dL_law_883 (by decide) ?_
      rw [if_pos z0] at fin; exact fin h _ _ _ _ B
    · skip
      refine ex_aload dL_law_771 rfl ?_
      refine cS_f dL_law_773 (mm_ks i_L_works l_L_36) ⟨(Nat.le_of_ble_eq_true rfl), (Nat.le_of_ble_eq_true rfl)⟩ (c_L_works B.2.2.2) rfl rfl (Nat.le_of_ble_eq_true rfl) rfl ?_
      refine ex_if_eq (tgt := 796) dL_law_776 (by decide) (fun z => absurd z (fun z => bb_0.mp z (wo_k.mp hq.1))) (fun _ => ?_)
      refine ex_aload dL_law_779 rfl ?_
      refine ex_iload dL_law_781 rfl ?_
      refine ex_ialv (v := ((t_a s)) j) dL_law_783 B.2.2.2 (vp_in_nI (by omega) (by decide)) (tg_k (j := j) (nI_clamp (by omega)) (by omega)) ?_
      refine ex_aload dL_law_784 rfl ?_
      refine ex_bipush (v := 8) dL_law_786 (by decide) ?_
      refine ex_ialv (v := cl_lo s) dL_law_788 B.2.2.2 (by unfold vp_in; decide) (tg_c (j := 8) (by decide) (by decide) rfl) ?_
      refine ex_icmp_lt (tgt := 796) dL_law_789 (by decide) (fun z => absurd z (Int32.not_lt.mpr hq.2)) (fun _ => ?_)
      refine ex_iconst (v := 1) dL_law_792 (by decide) ?_
      refine ex_goto (tgt := 797) dL_law_793 (by decide) ?_
      refine ex_istore dL_law_797 (Nat.le_of_ble_eq_true rfl) ?_
      refine ex_aload_n dL_law_799 rfl ?_
      refine ex_iload dL_law_800 rfl ?_
      refine cH_x dL_law_802 (mm_ksw i_L_taken l_L_99) ⟨(Nat.le_of_ble_eq_true rfl), (Nat.le_of_ble_eq_true rfl)⟩ (lb_w B (v := cl_lo s) (by rw [m1]; rfl) (c_L_taken B.1 _ (k8_takeUp hl B.1 (p_I_iv hI) (by omega) _) (by rw [m1]; exact trivial))) rfl rfl (Nat.le_of_ble_eq_true rfl) rfl ?_
      rintro _ h ⟨rfl, B⟩
      refine ex_istore dL_law_805 (Nat.le_of_ble_eq_true rfl) ?_
      refine ex_iload dL_law_807 rfl ?_
      refine ex_iload dL_law_809 rfl ?_
      refine ex_if_eq (tgt := 822) dL_law_811 (by decide) (fun z => absurd z (by decide)) (fun _ => ?_)
      refine ex_aload dL_law_814 rfl ?_
      refine ex_bipush (v := 8) dL_law_816 (by decide) ?_
      refine ex_ialv (v := cl_lo s) dL_law_818 B.2.2.2 (by unfold vp_in; decide) (tg_c (j := 8) (by decide) (by decide) rfl) ?_
      refine ex_goto (tgt := 823) dL_law_819 (by decide) ?_
      refine ex_icmp_eq (tgt := 828) dL_law_823 (by decide) (fun _ => ?_) (fun z => absurd rfl z)
      refine ex_iload dL_law_828 rfl ?_
      refine ex_if_eq (tgt := 883) dL_law_830 (by decide) (fun z => absurd z (by decide)) (fun _ => ?_)
      refine ex_aload dL_law_833 rfl ?_
      refine ex_bipush (v := 6) dL_law_835 (by decide) ?_
      refine ex_ialv (v := nI k) dL_law_837 B.2.2.2 (by unfold vp_in; decide) (tg_c (j := 6) (by decide) (by decide) rfl) ?_
      refine ex_if_le (tgt := 858) dL_law_838 (by decide) (fun z => absurd z (nI_nle z0 (by omega))) (fun _ => ?_)
      refine ex_aload_n dL_law_841 rfl ?_
      refine ex_aload dL_law_842 rfl ?_
      refine ex_bipush (v := 6) dL_law_844 (by decide) ?_
      refine ex_ialv (v := nI k) dL_law_846 B.2.2.2 (by unfold vp_in; decide) (tg_c (j := 6) (by decide) (by decide) rfl) ?_
      refine ex_iconst (v := 1) dL_law_847 (by decide) ?_
      refine ex_isub dL_law_848 ?_
      refine ex_dup2 dL_law_849 rfl rfl ?_
      refine ex_ialv (v := c_s s (k - 1)) dL_law_850 B.2.2.1 (by rw [show nI k - 1 = nI (k - 1) from pk_sub (a := k) (b := 1) z0]; exact vp_in_nI (by omega) (by decide)) (ff_i (by rw [show nI k - 1 = nI (k - 1) from pk_sub (a := k) (b := 1) z0, nI_clamp (by omega)])) ?_
      refine ex_aload dL_law_851 rfl ?_
      refine ex_bipush (v := 8) dL_law_853 (by decide) ?_
      refine ex_ialv (v := cl_lo s) dL_law_855 B.2.2.2 (by unfold vp_in; decide) (tg_c (j := 8) (by decide) (by decide) rfl) ?_
      refine ex_iadd dL_law_856 ?_
      refine ex_iastore dL_law_857 B.2.2.1 (by rw [show nI k - 1 = nI (k - 1) from pk_sub (a := k) (b := 1) z0]; exact vp_in_nI (by omega) (by decide)) ?_
      refine sx_m B (m' := (upd (c_s s) (k - 1) (c_s s (k - 1) + cl_lo s))) (ff_u (by rw [show nI k - 1 = nI (k - 1) from pk_sub (a := k) (b := 1) z0, nI_clamp (by omega)])) (fun h B => ?_)
      refine ex_aload dL_law_858 rfl ?_
      refine ex_iload dL_law_860 rfl ?_
      refine ex_dup2 dL_law_862 rfl rfl ?_
      refine ex_ialv (v := ((t_a s)) j) dL_law_863 B.2.2.2 (vp_in_nI (by omega) (by decide)) (tg_k (j := j) (nI_clamp (by omega)) (by omega)) ?_
      refine ex_aload dL_law_864 rfl ?_
      refine ex_bipush (v := 8) dL_law_866 (by decide) ?_
      refine ex_ialv (v := cl_lo s) dL_law_868 B.2.2.2 (by unfold vp_in; decide) (tg_c (j := 8) (by decide) (by decide) rfl) ?_
      refine ex_isub dL_law_869 ?_
      refine ex_iastore dL_law_870 B.2.2.2 (vp_in_nI (by omega) (by decide)) ?_
      refine sx_t B (t' := tg (upd (t_a s) j ((((t_a s)) j) - cl_lo s)) [s.2.2.1.1, s.2.2.1.2.1, cl_la s, nI k, cl_bu s, cl_lo s, cl_wa s, s.2.2.1.2.2, t_r s, t_l s]) (tg_w (j := j) (nI_clamp (by omega)) (by omega)) (fun h B => ?_)
      refine ex_aload dL_law_871 rfl ?_
      refine ex_bipush (v := 8) dL_law_873 (by decide) ?_
      refine ex_iconst (v := 0) dL_law_875 (by decide) ?_
      refine ex_iastore dL_law_876 B.2.2.2 (by unfold vp_in; decide) ?_
      refine sx_t B (t' := tg (upd (t_a s) j ((((t_a s)) j) - cl_lo s)) [s.2.2.1.1, s.2.2.1.2.1, cl_la s, nI k, cl_bu s, 0, cl_wa s, s.2.2.1.2.2, t_r s, t_l s]) (tg_d (j := 8) (by decide) (by decide) (by first | decide | simp) (by first | rfl | skip)) (fun h B => ?_)
      refine ex_aload dL_law_877 rfl ?_
      refine ex_bipush (v := 7) dL_law_879 (by decide) ?_
      refine ex_iconst (v := 0) dL_law_881 (by decide) ?_
      refine ex_iastore dL_law_882 B.2.2.2 (by unfold vp_in; decide) ?_
      refine sx_t B (t' := tg (upd (t_a s) j ((((t_a s)) j) - cl_lo s)) [s.2.2.1.1, s.2.2.1.2.1, cl_la s, nI k, 0, 0, cl_wa s, s.2.2.1.2.2, t_r s, t_l s]) (tg_d (j := 7) (by decide) (by decide) (by first | decide | simp) (by first | rfl | skip)) (fun h B => ?_)
      refine ex_goto (tgt := 1158) dL_law_883 (by decide) ?_
      rw [if_neg (by omega)] at fin; exact fin h _ _ _ _ B
  · obtain ⟨m1, m2, m3, m5, m4⟩ := l2 hq
    have K797 : ∀ (h : mm_H), lb h s d (c_s s) (tz_k s k) (70 + e) (80000 + 6 * e) → mm_Ex l G mm_law lw_QE 797 (lv_L 0 (nI y) (nI pcs) at0 (nI turn) u x9 x10 x11 (.int (nI j)) x13 x14 x15 x16) [.int 0] h := by
      intro h B
      refine ex_istore dL_law_797 (Nat.le_of_ble_eq_true rfl) ?_
      refine ex_aload_n dL_law_799 rfl ?_
      refine ex_iload dL_law_800 rfl ?_
      refine cH_x dL_law_802 (mm_ksw i_L_taken l_L_99) ⟨(Nat.le_of_ble_eq_true rfl), (Nat.le_of_ble_eq_true rfl)⟩ (lb_w B (v := -1) (by rw [m1]; rfl) (c_L_taken B.1 _ (k8_takeUp hl B.1 (p_I_iv hI) (by omega) _) (by rw [m1]; exact rfl))) rfl rfl (Nat.le_of_ble_eq_true rfl) rfl ?_
      rintro _ h ⟨rfl, B⟩
      refine ex_istore dL_law_805 (Nat.le_of_ble_eq_true rfl) ?_
      refine ex_iload dL_law_807 rfl ?_
      refine ex_iload dL_law_809 rfl ?_
      refine ex_if_eq (tgt := 822) dL_law_811 (by decide) (fun _ => ?_) (fun z => absurd rfl z)
      refine ex_iconst (v := (-1)) dL_law_822 (by decide) ?_
      refine ex_icmp_eq (tgt := 828) dL_law_823 (by decide) (fun _ => ?_) (fun z => absurd rfl z)
      refine ex_iload dL_law_828 rfl ?_
      refine ex_if_eq (tgt := 883) dL_law_830 (by decide) (fun _ => ?_) (fun z => absurd rfl z)
      refine ex_goto (tgt := 1158) dL_law_883 (by decide) ?_
      skip
      refine K h _ _ _ _ ⟨n + 1, _, d, e + 1, k, td, by omega, by omega, ?_, m2, hk, (td_of (m3 0)).trans htd, by omega⟩
      rw [m3, m4, m5]
      rw [m1] at B
      unfold tz_k at B
      rw [← hc] at B
      exact lb_c B rfl (by show 80000 + 6 * e + 6 * 1 = _; omega)
    refine ex_aload dL_law_771 rfl ?_
    refine cS_f dL_law_773 (mm_ks i_L_works l_L_36) ⟨(Nat.le_of_ble_eq_true rfl), (Nat.le_of_ble_eq_true rfl)⟩ (c_L_works B.2.2.2) rfl rfl (Nat.le_of_ble_eq_true rfl) rfl ?_
    refine ex_if_eq (tgt := 796) dL_law_776 (by decide) (fun c_776 => ?_) (fun c_776 => ?_)
    · refine ex_iconst (v := 0) dL_law_796 (by decide) ?_
      exact K797 h B
    · refine ex_aload dL_law_779 rfl ?_
      refine ex_iload dL_law_781 rfl ?_
      refine ex_ialv (v := ((t_a s)) j) dL_law_783 B.2.2.2 (vp_in_nI (by omega) (by decide)) (tg_k (j := j) (nI_clamp (by omega)) (by omega)) ?_
      refine ex_aload dL_law_784 rfl ?_
      refine ex_bipush (v := 8) dL_law_786 (by decide) ?_
      refine ex_ialv (v := cl_lo s) dL_law_788 B.2.2.2 (by unfold vp_in; decide) (tg_c (j := 8) (by decide) (by decide) rfl) ?_
      refine ex_icmp_lt (tgt := 796) dL_law_789 (by decide) (fun c_789 => ?_) (fun c_789 => ?_)
      · refine ex_iconst (v := 0) dL_law_796 (by decide) ?_
        exact K797 h B
      · exact absurd ⟨wo_k.mpr (Decidable.not_not.mp (fun z => c_776 (bb_f z))), Int32.not_lt.mp c_789⟩ hq
theorem lw_rep (hl : l.stackTraces = false) {at0 : Int32} {x9 x10 x11 x12 x13 x14 x15 x16 : Value} (ht : turn < 60) (he : e ≤ turn) (hn : n ≤ turn) (B : lb h s d (c_s s) (t_f s (t_r s)) (70 + e) (80000 + 6 * e)) (hI : p_I n s d y pcs k) (hk : k ≤ 39) (htd : s.2.2.1.1 = nI td) (htd2 : td ≤ 3 * turn)
    (K : ∀ (h : mm_H) (x13 x14 x15 x16 : Value), lj y (turn + 1) pcs h → mm_Ex l G mm_law lw_QE 1158 (lv_L 0 (nI y) (nI pcs) at0 (nI turn) u x9 x10 x11 x12 x13 x14 x15 x16) [] h) :
    mm_Ex l G mm_law lw_QE 886 (lv_L 0 (nI y) (nI pcs) at0 (nI turn) u x9 x10 x11 x12 x13 x14 x15 x16) [] h := by
  obtain ⟨hc, hkp, hy, hbb⟩ := p_I_c hI
  obtain ⟨l1, l2⟩ := rep_law hI (show n ≤ 512 by omega)
  replace B := lb_k hc B
  by_cases hq : cl_bu s = 0 ∧ 0 < cl_ce s ∧ t_l s = 0
  · obtain ⟨m1, m2, m3, m4⟩ := l1 hq
    refine ex_aload dL_law_886 rfl ?_
    refine ex_bipush (v := 7) dL_law_888 (by decide) ?_
    refine ex_ialv (v := cl_bu s) dL_law_890 B.2.2.2 (by unfold vp_in; decide) (tg_c (j := 7) (by decide) (by decide) rfl) ?_
    refine ex_if_ne (tgt := 914) dL_law_891 (by decide) (fun z => absurd hq.1 z) (fun _ => ?_)
    refine ex_aload dL_law_894 rfl ?_
    refine ex_bipush (v := 6) dL_law_896 (by decide) ?_
    refine ex_ialv (v := nI k) dL_law_898 B.2.2.2 (by unfold vp_in; decide) (tg_c (j := 6) (by decide) (by decide) rfl) ?_
    refine ex_if_le (tgt := 914) dL_law_899 (by decide) (fun z => absurd z (by rw [← hc]; exact Int32.not_le.mpr hq.2.1)) (fun _ => ?_)
    refine ex_aload dL_law_902 rfl ?_
    refine ex_bipush (v := 12) dL_law_904 (by decide) ?_
    refine ex_ialv (v := t_l s) dL_law_906 B.2.2.2 (by unfold vp_in; decide) (tg_c (j := 12) (by decide) (by decide) rfl) ?_
    refine ex_if_ne (tgt := 914) dL_law_907 (by decide) (fun z => absurd hq.2.2 z) (fun _ => ?_)
    refine ex_iconst (v := 1) dL_law_910 (by decide) ?_
    refine ex_goto (tgt := 915) dL_law_911 (by decide) ?_
    refine ex_istore dL_law_915 (Nat.le_of_ble_eq_true rfl) ?_
    refine ex_aload_n dL_law_917 rfl ?_
    refine cH_x dL_law_918 (mm_ksw i_L_repeated l_L_103) ⟨(Nat.le_of_ble_eq_true rfl), (Nat.le_of_ble_eq_true rfl)⟩ (lb_w B (v := t_r s + 1) (by rw [m1]; rfl) (c_L_repeated B.1 (k8_repeater hl B.1 (p_I_iv hI) (by omega)) (by rw [m1]; exact trivial))) rfl rfl (Nat.le_of_ble_eq_true rfl) rfl ?_
    rintro _ h ⟨rfl, B⟩
    refine ex_istore dL_law_921 (Nat.le_of_ble_eq_true rfl) ?_
    refine ex_iload dL_law_923 rfl ?_
    refine ex_iload dL_law_925 rfl ?_
    refine ex_if_eq (tgt := 940) dL_law_927 (by decide) (fun z => absurd z (by decide)) (fun _ => ?_)
    refine ex_aload dL_law_930 rfl ?_
    refine ex_bipush (v := 11) dL_law_932 (by decide) ?_
    refine ex_ialv (v := t_r s) dL_law_934 B.2.2.2 (by unfold vp_in; decide) (tg_c (j := 11) (by decide) (by decide) rfl) ?_
    refine ex_iconst (v := 1) dL_law_935 (by decide) ?_
    refine ex_iadd dL_law_936 ?_
    refine ex_goto (tgt := 941) dL_law_937 (by decide) ?_
    refine ex_icmp_eq (tgt := 946) dL_law_941 (by decide) (fun _ => ?_) (fun z => absurd rfl z)
    refine ex_iload dL_law_946 rfl ?_
    refine ex_if_eq (tgt := 966) dL_law_948 (by decide) (fun z => absurd z (by decide)) (fun _ => ?_)
    refine ex_aload dL_law_951 rfl ?_
    refine ex_bipush (v := 11) dL_law_953 (by decide) ?_
    refine ex_dup2 dL_law_955 rfl rfl ?_
    refine ex_ialv (v := t_r s) dL_law_956 B.2.2.2 (by unfold vp_in; decide) (tg_c (j := 11) (by decide) (by decide) rfl) ?_
    refine ex_iconst (v := 1) dL_law_957 (by decide) ?_
    refine ex_iadd dL_law_958 ?_
    refine ex_iastore dL_law_959 B.2.2.2 (by unfold vp_in; decide) ?_
    refine sx_t B (t' := tg (t_a s) [s.2.2.1.1, s.2.2.1.2.1, cl_la s, nI k, cl_bu s, cl_lo s, cl_wa s, s.2.2.1.2.2, (t_r s + 1), t_l s]) (tg_d (j := 11) (by decide) (by decide) (by first | decide | simp) (by first | rfl | skip)) (fun h B => ?_)
    refine ex_aload dL_law_960 rfl ?_
    refine ex_bipush (v := 12) dL_law_962 (by decide) ?_
    refine ex_iconst (v := 1) dL_law_964 (by decide) ?_
    refine ex_iastore dL_law_965 B.2.2.2 (by unfold vp_in; decide) ?_
    refine sx_t B (t' := tg (t_a s) [s.2.2.1.1, s.2.2.1.2.1, cl_la s, nI k, cl_bu s, cl_lo s, cl_wa s, s.2.2.1.2.2, (t_r s + 1), 1]) (tg_d (j := 12) (by decide) (by decide) (by first | decide | simp) (by first | rfl | skip)) (fun h B => ?_)
    refine ex_goto (tgt := 1158) dL_law_966 (by decide) ?_
    skip
    refine K h _ _ _ _ ⟨n + 1, _, d, e, k, td, by omega, by omega, ?_, m2, hk, (td_of m3).trans htd, by omega⟩
    rw [m3, m4]
    unfold t_L
    rw [hc]
    rw [m1] at B
    exact lb_c B rfl rfl
  · obtain ⟨m1, m2⟩ := l2 hq
    have K915 : ∀ (h : mm_H), lb h s d (c_s s) (tz_k s k) (70 + e) (80000 + 6 * e) → mm_Ex l G mm_law lw_QE 915 (lv_L 0 (nI y) (nI pcs) at0 (nI turn) u x9 x10 x11 x12 x13 x14 x15 x16) [.int 0] h := by
      intro h B
      refine ex_istore dL_law_915 (Nat.le_of_ble_eq_true rfl) ?_
      refine ex_aload_n dL_law_917 rfl ?_
      refine cH_x dL_law_918 (mm_ksw i_L_repeated l_L_103) ⟨(Nat.le_of_ble_eq_true rfl), (Nat.le_of_ble_eq_true rfl)⟩ (lb_w B (v := -1) (by rw [m1]; rfl) (c_L_repeated B.1 (k8_repeater hl B.1 (p_I_iv hI) (by omega)) (by rw [m1]; exact rfl))) rfl rfl (Nat.le_of_ble_eq_true rfl) rfl ?_
      rintro _ h ⟨rfl, B⟩
      refine ex_istore dL_law_921 (Nat.le_of_ble_eq_true rfl) ?_
      refine ex_iload dL_law_923 rfl ?_
      refine ex_iload dL_law_925 rfl ?_
      refine ex_if_eq (tgt := 940) dL_law_927 (by decide) (fun _ => ?_) (fun z => absurd rfl z)
      refine ex_iconst (v := (-1)) dL_law_940 (by decide) ?_
      refine ex_icmp_eq (tgt := 946) dL_law_941 (by decide) (fun _ => ?_) (fun z => absurd rfl z)
      refine ex_iload dL_law_946 rfl ?_
      refine ex_if_eq (tgt := 966) dL_law_948 (by decide) (fun _ => ?_) (fun z => absurd rfl z)
      refine ex_goto (tgt := 1158) dL_law_966 (by decide) ?_
      skip
      rw [m1, m2] at B
      unfold tz_k at B
      rw [← hc] at B
      exact K h _ _ _ _ ⟨n, s, d, e + 1, k, td, by omega, by omega, lb_c B rfl (by show 80000 + 6 * e + 6 * 1 = _; omega), hI, hk, htd, by omega⟩
    refine ex_aload dL_law_886 rfl ?_
    refine ex_bipush (v := 7) dL_law_888 (by decide) ?_
    refine ex_ialv (v := cl_bu s) dL_law_890 B.2.2.2 (by unfold vp_in; decide) (tg_c (j := 7) (by decide) (by decide) rfl) ?_
    refine ex_if_ne (tgt := 914) dL_law_891 (by decide) (fun c_891 => ?_) (fun c_891 => ?_)
    · refine ex_iconst (v := 0) dL_law_914 (by decide) ?_
      exact K915 h B
    · refine ex_aload dL_law_894 rfl ?_
      refine ex_bipush (v := 6) dL_law_896 (by decide) ?_
      refine ex_ialv (v := nI k) dL_law_898 B.2.2.2 (by unfold vp_in; decide) (tg_c (j := 6) (by decide) (by decide) rfl) ?_
      refine ex_if_le (tgt := 914) dL_law_899 (by decide) (fun c_899 => ?_) (fun c_899 => ?_)
      · refine ex_iconst (v := 0) dL_law_914 (by decide) ?_
        exact K915 h B
      · refine ex_aload dL_law_902 rfl ?_
        refine ex_bipush (v := 12) dL_law_904 (by decide) ?_
        refine ex_ialv (v := t_l s) dL_law_906 B.2.2.2 (by unfold vp_in; decide) (tg_c (j := 12) (by decide) (by decide) rfl) ?_
        refine ex_if_ne (tgt := 914) dL_law_907 (by decide) (fun c_907 => ?_) (fun c_907 => ?_)
        · refine ex_iconst (v := 0) dL_law_914 (by decide) ?_
          exact K915 h B
        · exact absurd ⟨c_891, (by rw [hc]; exact Int32.not_le.mp c_899), c_907⟩ hq
theorem lw_mend (hl : l.stackTraces = false) {at0 : Int32} {x9 x11 x13 x14 x15 x16 : Value} {y10 : Int32} (hj : j < 3) (ht : turn < 60) (he : e ≤ turn) (hn : n ≤ turn) (B : lb h s d (c_s s) (t_f s (t_r s)) (70 + e) (80000 + 6 * e)) (hI : p_I n s d y pcs k) (hk : k ≤ 39) (htd : s.2.2.1.1 = nI td) (htd2 : td ≤ 3 * turn)
    (K : ∀ (h : mm_H) (x13 x14 x15 x16 : Value), lj y (turn + 1) pcs h → mm_Ex l G mm_law lw_QE 1158 (lv_L 0 (nI y) (nI pcs) at0 (nI turn) u x9 (.int y10) x11 (.int (nI j)) x13 x14 x15 x16) [] h) :
    mm_Ex l G mm_law lw_QE 969 (lv_L 0 (nI y) (nI pcs) at0 (nI turn) u x9 (.int y10) x11 (.int (nI j)) x13 x14 x15 x16) [] h := by
  obtain ⟨hc, hkp, hy, hbb⟩ := p_I_c hI
  replace B := lb_k hc B
  refine ex_iload dL_law_969 rfl ?_
  refine ex_bipush (v := 40) dL_law_971 (by decide) ?_
  refine cS_x dL_law_973 (mm_ks i_L_low l_L_78) ⟨(Nat.le_of_ble_eq_true rfl), (Nat.le_of_ble_eq_true rfl)⟩ (c_L_low _ 40 (by decide) (by decide) _ rfl) rfl rfl (Nat.le_of_ble_eq_true rfl) rfl ?_
  rintro _ h ⟨⟨i, hi, rfl⟩, rfl⟩
  refine ex_istore dL_law_976 (Nat.le_of_ble_eq_true rfl) ?_
  skip
  obtain ⟨l1, l2⟩ := md_law hI (show n ≤ 512 by omega) (show k < 40 by omega) hj hi
  by_cases hq : cl_wo s ∧ cl_bu s = 1 ∧ nI i < cl_ce s - 1 ∧ c_s s i + 2 * dp d i ≤ t_a s j
  · obtain ⟨m1, m2, m3, m4⟩ := l1 hq
    refine ex_aload dL_law_978 rfl ?_
    refine cS_f dL_law_980 (mm_ks i_L_works l_L_36) ⟨(Nat.le_of_ble_eq_true rfl), (Nat.le_of_ble_eq_true rfl)⟩ (c_L_works B.2.2.2) rfl rfl (Nat.le_of_ble_eq_true rfl) rfl ?_
    refine ex_if_eq (tgt := 1043) dL_law_983 (by decide) (fun z => absurd z (fun z => bb_0.mp z (wo_k.mp hq.1))) (fun _ => ?_)
    refine ex_aload dL_law_986 rfl ?_
    refine ex_bipush (v := 7) dL_law_988 (by decide) ?_
    refine ex_ialv (v := cl_bu s) dL_law_990 B.2.2.2 (by unfold vp_in; decide) (tg_c (j := 7) (by decide) (by decide) rfl) ?_
    refine ex_iconst (v := 1) dL_law_991 (by decide) ?_
    refine ex_icmp_ne (tgt := 1043) dL_law_992 (by decide) (fun z => absurd hq.2.1 z) (fun _ => ?_)
    refine ex_iload dL_law_995 rfl ?_
    refine ex_aload dL_law_997 rfl ?_
    refine ex_bipush (v := 6) dL_law_999 (by decide) ?_
    refine ex_ialv (v := nI k) dL_law_1001 B.2.2.2 (by unfold vp_in; decide) (tg_c (j := 6) (by decide) (by decide) rfl) ?_
    refine ex_iconst (v := 1) dL_law_1002 (by decide) ?_
    refine ex_isub dL_law_1003 ?_
    refine ex_icmp_ge (tgt := 1043) dL_law_1004 (by decide) (fun z => absurd z (by rw [← hc]; exact Int32.not_le.mpr hq.2.2.1)) (fun _ => ?_)
    refine ex_aload dL_law_1007 rfl ?_
    refine ex_iload dL_law_1009 rfl ?_
    refine ex_ialv (v := ((t_a s)) j) dL_law_1011 B.2.2.2 (vp_in_nI (by omega) (by decide)) (tg_k (j := j) (nI_clamp (by omega)) (by omega)) ?_
    refine ex_aload_n dL_law_1012 rfl ?_
    refine ex_iload dL_law_1013 rfl ?_
    refine ex_bipush (v := 40) dL_law_1015 (by decide) ?_
    refine ex_icmp_ge (tgt := 1025) dL_law_1017 (by decide) (fun z => absurd z (nI_ge (b := 40) hi (by decide))) (fun _ => ?_)
    refine ex_iload dL_law_1020 rfl ?_
    refine ex_goto (tgt := 1026) dL_law_1022 (by decide) ?_
    refine ex_ialv (v := (c_s s) i) dL_law_1026 B.2.2.1 (vp_in_nI (by omega) (by decide)) (ff_i (nI_clamp (by omega))) ?_
    refine ex_iconst (v := 2) dL_law_1027 (by decide) ?_
    refine ex_aload_n dL_law_1028 rfl ?_
    refine ex_iload dL_law_1029 rfl ?_
    refine cS_f dL_law_1031 (mm_ks i_L_depth l_L_10) ⟨(Nat.le_of_ble_eq_true rfl), (Nat.le_of_ble_eq_true rfl)⟩ (c_L_depth B.2.1 i (by omega) _ rfl) rfl rfl (Nat.le_of_ble_eq_true rfl) rfl ?_
    refine ex_imul dL_law_1034 ?_
    refine ex_iadd dL_law_1035 ?_
    refine ex_icmp_lt (tgt := 1043) dL_law_1036 (by decide) (fun z => absurd z (Int32.not_lt.mpr hq.2.2.2)) (fun _ => ?_)
    refine ex_iconst (v := 1) dL_law_1039 (by decide) ?_
    refine ex_goto (tgt := 1044) dL_law_1040 (by decide) ?_
    refine ex_istore dL_law_1044 (Nat.le_of_ble_eq_true rfl) ?_
    refine ex_aload_n dL_law_1046 rfl ?_
    refine ex_iload dL_law_1047 rfl ?_
    refine ex_iload dL_law_1049 rfl ?_
    refine cH_x dL_law_1051 (mm_ksw i_L_mended l_L_107) ⟨(Nat.le_of_ble_eq_true rfl), (Nat.le_of_ble_eq_true rfl)⟩ (lb_w B (v := 0) (by rw [m1]; rfl) (c_L_mended B.1 _ _ (k8_mend hl B.1 (p_I_iv hI) (by omega) _ _) (by rw [m1]; exact trivial))) rfl rfl (Nat.le_of_ble_eq_true rfl) rfl ?_
    rintro _ h ⟨rfl, B⟩
    refine ex_istore dL_law_1054 (Nat.le_of_ble_eq_true rfl) ?_
    refine ex_iload dL_law_1056 rfl ?_
    refine ex_iload dL_law_1058 rfl ?_
    refine ex_if_eq (tgt := 1067) dL_law_1060 (by decide) (fun z => absurd z (by decide)) (fun _ => ?_)
    refine ex_iconst (v := 0) dL_law_1063 (by decide) ?_
    refine ex_goto (tgt := 1068) dL_law_1064 (by decide) ?_
    refine ex_icmp_eq (tgt := 1073) dL_law_1068 (by decide) (fun _ => ?_) (fun z => absurd rfl z)
    refine ex_iload dL_law_1073 rfl ?_
    refine ex_if_eq (tgt := 1158) dL_law_1075 (by decide) (fun z => absurd z (by decide)) (fun _ => ?_)
    refine ex_aload dL_law_1078 rfl ?_
    refine ex_iload dL_law_1080 rfl ?_
    refine ex_dup2 dL_law_1082 rfl rfl ?_
    refine ex_ialv (v := ((t_a s)) j) dL_law_1083 B.2.2.2 (vp_in_nI (by omega) (by decide)) (tg_k (j := j) (nI_clamp (by omega)) (by omega)) ?_
    refine ex_aload_n dL_law_1084 rfl ?_
    refine ex_iload dL_law_1085 rfl ?_
    refine ex_ialv (v := (c_s s) i) dL_law_1087 B.2.2.1 (vp_in_nI (by omega) (by decide)) (ff_i (nI_clamp (by omega))) ?_
    refine ex_iconst (v := 2) dL_law_1088 (by decide) ?_
    refine ex_aload_n dL_law_1089 rfl ?_
    refine ex_iload dL_law_1090 rfl ?_
    refine cS_f dL_law_1092 (mm_ks i_L_depth l_L_10) ⟨(Nat.le_of_ble_eq_true rfl), (Nat.le_of_ble_eq_true rfl)⟩ (c_L_depth B.2.1 i (by omega) _ rfl) rfl rfl (Nat.le_of_ble_eq_true rfl) rfl ?_
    refine ex_imul dL_law_1095 ?_
    refine ex_iadd dL_law_1096 ?_
    refine ex_isub dL_law_1097 ?_
    refine ex_iastore dL_law_1098 B.2.2.2 (vp_in_nI (by omega) (by decide)) ?_
    refine sx_t B (t' := tg (upd (t_a s) j ((((t_a s)) j) - (((c_s s) i) + (2 * (dp d i))))) [s.2.2.1.1, s.2.2.1.2.1, cl_la s, nI k, cl_bu s, cl_lo s, cl_wa s, s.2.2.1.2.2, t_r s, t_l s]) (tg_w (j := j) (nI_clamp (by omega)) (by omega)) (fun h B => ?_)
    refine ex_aload dL_law_1099 rfl ?_
    refine ex_bipush (v := 9) dL_law_1101 (by decide) ?_
    refine ex_dup2 dL_law_1103 rfl rfl ?_
    refine ex_ialv (v := cl_wa s) dL_law_1104 B.2.2.2 (by unfold vp_in; decide) (tg_c (j := 9) (by decide) (by decide) rfl) ?_
    refine ex_aload_n dL_law_1105 rfl ?_
    refine ex_iload dL_law_1106 rfl ?_
    refine ex_ialv (v := (c_s s) i) dL_law_1108 B.2.2.1 (vp_in_nI (by omega) (by decide)) (ff_i (nI_clamp (by omega))) ?_
    refine ex_iadd dL_law_1109 ?_
    refine ex_iastore dL_law_1110 B.2.2.2 (by unfold vp_in; decide) ?_
    refine sx_t B (t' := tg (upd (t_a s) j ((((t_a s)) j) - (((c_s s) i) + (2 * (dp d i))))) [s.2.2.1.1, s.2.2.1.2.1, cl_la s, nI k, cl_bu s, cl_lo s, (cl_wa s + ((c_s s) i)), s.2.2.1.2.2, t_r s, t_l s]) (tg_d (j := 9) (by decide) (by decide) (by first | decide | simp) (by first | rfl | skip)) (fun h B => ?_)
    refine ex_aload_n dL_law_1111 rfl ?_
    refine ex_iload dL_law_1112 rfl ?_
    refine ex_dup2 dL_law_1114 rfl rfl ?_
    refine ex_ialv (v := (c_s s) i) dL_law_1115 B.2.2.1 (vp_in_nI (by omega) (by decide)) (ff_i (nI_clamp (by omega))) ?_
    refine ex_iconst (v := 2) dL_law_1116 (by decide) ?_
    refine ex_aload_n dL_law_1117 rfl ?_
    refine ex_iload dL_law_1118 rfl ?_
    refine cS_f dL_law_1120 (mm_ks i_L_depth l_L_10) ⟨(Nat.le_of_ble_eq_true rfl), (Nat.le_of_ble_eq_true rfl)⟩ (c_L_depth B.2.1 i (by omega) _ rfl) rfl rfl (Nat.le_of_ble_eq_true rfl) rfl ?_
    refine ex_imul dL_law_1123 ?_
    refine ex_iadd dL_law_1124 ?_
    refine ex_iastore dL_law_1125 B.2.2.1 (vp_in_nI (by omega) (by decide)) ?_
    refine sx_m B (m' := (upd (c_s s) i (((c_s s) i) + (2 * (dp d i))))) (ff_u (nI_clamp (by omega))) (fun h B => ?_)
    refine ex_aload dL_law_1126 rfl ?_
    refine ex_bipush (v := 10) dL_law_1128 (by decide) ?_
    refine ex_aload dL_law_1130 rfl ?_
    refine ex_iconst (v := 3) dL_law_1132 (by decide) ?_
    refine ex_ialv (v := s.2.2.1.1) dL_law_1133 B.2.2.2 (by unfold vp_in; decide) (tg_c (j := 3) (by decide) (by decide) rfl) ?_
    refine ex_iconst (v := 3) dL_law_1134 (by decide) ?_
    refine ex_iadd dL_law_1135 ?_
    refine ex_aload_n dL_law_1136 rfl ?_
    refine ex_iload dL_law_1137 rfl ?_
    refine cS_f dL_law_1139 (mm_ks i_L_depth l_L_10) ⟨(Nat.le_of_ble_eq_true rfl), (Nat.le_of_ble_eq_true rfl)⟩ (c_L_depth B.2.1 i (by omega) _ rfl) rfl rfl (Nat.le_of_ble_eq_true rfl) rfl ?_
    refine ex_sipush (v := 1000) dL_law_1142 (by decide) ?_
    refine ex_idiv dL_law_1145 (by decide) ?_
    refine ex_iadd dL_law_1146 ?_
    refine ex_iastore dL_law_1147 B.2.2.2 (by unfold vp_in; decide) ?_
    refine sx_t B (t' := tg (upd (t_a s) j ((((t_a s)) j) - (((c_s s) i) + (2 * (dp d i))))) [s.2.2.1.1, s.2.2.1.2.1, cl_la s, nI k, cl_bu s, cl_lo s, (cl_wa s + ((c_s s) i)), ((s.2.2.1.1 + 3) + ((dp d i) / 1000)), t_r s, t_l s]) (tg_d (j := 10) (by decide) (by decide) (by first | decide | simp) (by first | rfl | skip)) (fun h B => ?_)
    refine ex_aload dL_law_1148 rfl ?_
    refine ex_bipush (v := 11) dL_law_1150 (by decide) ?_
    refine ex_aload_n dL_law_1152 rfl ?_
    refine ex_iconst (v := 4) dL_law_1153 (by decide) ?_
    refine cV_x dL_law_1154 (mm_kv i_X8_line l_L_20) ⟨(Nat.le_of_ble_eq_true rfl), (Nat.le_of_ble_eq_true rfl)⟩ (lb_q B ln_v4 (c_X8_line hl B.1 _)) rfl rfl (cP_ow B.1) (Nat.le_of_ble_eq_true rfl) rfl ?_
    rintro _ h ⟨rfl, B⟩
    refine ex_iastore dL_law_1157 B.2.2.2 (by unfold vp_in; decide) ?_
    refine sx_t B (t' := tg (upd (t_a s) j ((((t_a s)) j) - (((c_s s) i) + (2 * (dp d i))))) [s.2.2.1.1, s.2.2.1.2.1, cl_la s, nI k, cl_bu s, cl_lo s, (cl_wa s + ((c_s s) i)), ((s.2.2.1.1 + 3) + ((dp d i) / 1000)), (t_r (cm_mend s (nI i) (nI j)).2), t_l s]) (tg_d (j := 11) (by decide) (by decide) (by first | decide | simp) (by first | rfl | skip)) (fun h B => ?_)
    skip
    refine K h _ _ _ _ ⟨n + 1, _, d, e, k, td, by omega, by omega, ?_, m2, hk, (td_of (m3 0)).trans htd, by omega⟩
    rw [m3, m4, hc]
    have B' := B
    rw [m1] at B'
    exact lb_c B' rfl rfl
  · obtain ⟨m1, m2, m3, m5, m4⟩ := l2 hq
    have K1044 : ∀ (h : mm_H), lb h s d (c_s s) (tz_k s k) (70 + e) (80000 + 6 * e) → mm_Ex l G mm_law lw_QE 1044 (lv_L 0 (nI y) (nI pcs) at0 (nI turn) u x9 (.int y10) x11 (.int (nI j)) (.int (nI i)) x14 x15 x16) [.int 0] h := by
      intro h B
      refine ex_istore dL_law_1044 (Nat.le_of_ble_eq_true rfl) ?_
      refine ex_aload_n dL_law_1046 rfl ?_
      refine ex_iload dL_law_1047 rfl ?_
      refine ex_iload dL_law_1049 rfl ?_
      refine cH_x dL_law_1051 (mm_ksw i_L_mended l_L_107) ⟨(Nat.le_of_ble_eq_true rfl), (Nat.le_of_ble_eq_true rfl)⟩ (lb_w B (v := -1) (by rw [m1]; rfl) (c_L_mended B.1 _ _ (k8_mend hl B.1 (p_I_iv hI) (by omega) _ _) (by rw [m1]; exact rfl))) rfl rfl (Nat.le_of_ble_eq_true rfl) rfl ?_
      rintro _ h ⟨rfl, B⟩
      refine ex_istore dL_law_1054 (Nat.le_of_ble_eq_true rfl) ?_
      refine ex_iload dL_law_1056 rfl ?_
      refine ex_iload dL_law_1058 rfl ?_
      refine ex_if_eq (tgt := 1067) dL_law_1060 (by decide) (fun _ => ?_) (fun z => absurd rfl z)
      refine ex_iconst (v := (-1)) dL_law_1067 (by decide) ?_
      refine ex_icmp_eq (tgt := 1073) dL_law_1068 (by decide) (fun _ => ?_) (fun z => absurd rfl z)
      refine ex_iload dL_law_1073 rfl ?_
      refine ex_if_eq (tgt := 1158) dL_law_1075 (by decide) (fun _ => ?_) (fun z => absurd rfl z)
      skip
      refine K h _ _ _ _ ⟨n + 1, _, d, e + 1, k, td, by omega, by omega, ?_, m2, hk, (td_of (m3 0)).trans htd, by omega⟩
      rw [m3, m4, m5]
      rw [m1] at B
      unfold tz_k at B
      rw [← hc] at B
      exact lb_c B rfl (by show 80000 + 6 * e + 6 * 1 = _; omega)
    refine ex_aload dL_law_978 rfl ?_
    refine cS_f dL_law_980 (mm_ks i_L_works l_L_36) ⟨(Nat.le_of_ble_eq_true rfl), (Nat.le_of_ble_eq_true rfl)⟩ (c_L_works B.2.2.2) rfl rfl (Nat.le_of_ble_eq_true rfl) rfl ?_
    refine ex_if_eq (tgt := 1043) dL_law_983 (by decide) (fun c_983 => ?_) (fun c_983 => ?_)
    · refine ex_iconst (v := 0) dL_law_1043 (by decide) ?_
      exact K1044 h B
    · refine ex_aload dL_law_986 rfl ?_
      refine ex_bipush (v := 7) dL_law_988 (by decide) ?_
      refine ex_ialv (v := cl_bu s) dL_law_990 B.2.2.2 (by unfold vp_in; decide) (tg_c (j := 7) (by decide) (by decide) rfl) ?_
      refine ex_iconst (v := 1) dL_law_991 (by decide) ?_
      refine ex_icmp_ne (tgt := 1043) dL_law_992 (by decide) (fun c_992 => ?_) (fun c_992 => ?_)
      · refine ex_iconst (v := 0) dL_law_1043 (by decide) ?_
        exact K1044 h B
      · refine ex_iload dL_law_995 rfl ?_
        refine ex_aload dL_law_997 rfl ?_
        refine ex_bipush (v := 6) dL_law_999 (by decide) ?_
        refine ex_ialv (v := nI k) dL_law_1001 B.2.2.2 (by unfold vp_in; decide) (tg_c (j := 6) (by decide) (by decide) rfl) ?_
        refine ex_iconst (v := 1) dL_law_1002 (by decide) ?_
        refine ex_isub dL_law_1003 ?_
        refine ex_icmp_ge (tgt := 1043) dL_law_1004 (by decide) (fun c_1004 => ?_) (fun c_1004 => ?_)
        · refine ex_iconst (v := 0) dL_law_1043 (by decide) ?_
          exact K1044 h B
        · refine ex_aload dL_law_1007 rfl ?_
          refine ex_iload dL_law_1009 rfl ?_
          refine ex_ialv (v := ((t_a s)) j) dL_law_1011 B.2.2.2 (vp_in_nI (by omega) (by decide)) (tg_k (j := j) (nI_clamp (by omega)) (by omega)) ?_
          refine ex_aload_n dL_law_1012 rfl ?_
          refine ex_iload dL_law_1013 rfl ?_
          refine ex_bipush (v := 40) dL_law_1015 (by decide) ?_
          refine ex_icmp_ge (tgt := 1025) dL_law_1017 (by decide) (fun z => absurd z (nI_ge (b := 40) hi (by decide))) (fun _ => ?_)
          refine ex_iload dL_law_1020 rfl ?_
          refine ex_goto (tgt := 1026) dL_law_1022 (by decide) ?_
          refine ex_ialv (v := (c_s s) i) dL_law_1026 B.2.2.1 (vp_in_nI (by omega) (by decide)) (ff_i (nI_clamp (by omega))) ?_
          refine ex_iconst (v := 2) dL_law_1027 (by decide) ?_
          refine ex_aload_n dL_law_1028 rfl ?_
          refine ex_iload dL_law_1029 rfl ?_
          refine cS_f dL_law_1031 (mm_ks i_L_depth l_L_10) ⟨(Nat.le_of_ble_eq_true rfl), (Nat.le_of_ble_eq_true rfl)⟩ (c_L_depth B.2.1 i (by omega) _ rfl) rfl rfl (Nat.le_of_ble_eq_true rfl) rfl ?_
          refine ex_imul dL_law_1034 ?_
          refine ex_iadd dL_law_1035 ?_
          refine ex_icmp_lt (tgt := 1043) dL_law_1036 (by decide) (fun c_1036 => ?_) (fun c_1036 => ?_)
          · refine ex_iconst (v := 0) dL_law_1043 (by decide) ?_
            exact K1044 h B
          · exact absurd ⟨wo_k.mpr (Decidable.not_not.mp (fun z => c_983 (bb_f z))), c_992, (by rw [hc]; exact Int32.not_le.mp c_1004), Int32.not_lt.mp c_1036⟩ hq
end E5
