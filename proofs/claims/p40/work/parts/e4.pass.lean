/-! P40: THE LAW: days that pass -/
section E4
variable {l : Launch} {G : mm_G} {h : mm_H} {s sc : cl_S} {d m t : Nat → Int32} {n y k e turn pcs u td days : Nat}
abbrev tz_r (s : cl_S) (k : Nat) (r : Int32) : Nat → Int32 := tg (t_a s) [s.2.2.1.1, s.2.2.1.2.1, cl_la s, nI k, cl_bu s, cl_lo s, cl_wa s, s.2.2.1.2.2, r, t_l s]
theorem lb_kr {h : mm_H} {c0 n0 : Nat} {r : Int32} (hc : cl_ce s = nI k) (B : lb h sc d m (t_f s r) c0 n0) : lb h sc d m (tz_r s k r) c0 n0 := by unfold tz_r; rw [← hc]; exact B
theorem pass_loop {at0 : Int32} {x9 x10 x11 x12 x16 : Value} (hd : days ≤ 3) (hn : n ≤ 512) {c0 n0 : Nat}
    (K : ∀ (h : mm_H) (s : cl_S) (r : Int32) (x14 x15 : Value), s = cl_days days sc → p_I n s d y pcs k → s.2.2.1.1 = nI (td + days) → (r = t_r s ∨ r = -1) → lb h sc d (c_s s) (t_f s r) c0 n0 → mm_Ex l G mm_law lw_QE 710 (lv_L 0 (nI y) (nI pcs) at0 (nI turn) u x9 x10 x11 x12 (.int (nI days)) x14 x15 x16) [] h) :
    ∀ (N i : Nat) (s : cl_S) (r : Int32) (x15 : Value) (h : mm_H), i + N = days → p_I n s d y pcs k → k ≤ 39 → s.2.2.1.1 = nI (td + i) → (r = t_r s ∨ r = -1) → cl_days days sc = cl_days N s → lb h sc d (c_s s) (t_f s r) c0 n0 → mm_Ex l G mm_law lw_QE 562 (lv_L 0 (nI y) (nI pcs) at0 (nI turn) u x9 x10 x11 x12 (.int (nI days)) (.int (nI i)) x15 x16) [] h := by
  intro N
  induction N with
  | zero =>
    intro i s r x15 h hiN hI hk htd hr e9 B
    rw [Nat.add_zero] at hiN
    subst hiN
    refine ex_iload dL_law_562 rfl ?_
    refine ex_iload dL_law_564 rfl ?_
    refine ex_icmp_ge (tgt := 710) dL_law_566 (by decide) (fun _ => ?_) (fun z => absurd (Int32.le_refl _) z)
    exact K h s r _ _ e9.symm hI htd hr B
  | succ N ih =>
    intro i s r x15 h hiN hI hk htd hr e9 B
    obtain ⟨hc, hkp, hy, hbb⟩ := p_I_c hI
    obtain ⟨l1, l2, l3⟩ := day_law hI hn (show k ≤ 40 by omega)
    obtain ⟨⟨lo, wa, mk, c, hi⟩, -⟩ := id hI
    replace B := lb_kr hc B
    have hIH : ∀ (h : mm_H) (r' : Int32) (x15 : Value), (cl_day s).2.2.1.1 = s.2.2.1.1 + 1 → (r' = t_r (cl_day s) ∨ r' = -1) → lb h sc d (c_s (cl_day s)) (t_f (cl_day s) r') c0 n0 → mm_Ex l G mm_law lw_QE 562 (lv_L 0 (nI y) (nI pcs) at0 (nI turn) u x9 x10 x11 x12 (.int (nI days)) (.int (nI i + 1)) x15 x16) [] h := by
      intro h r' x15 h1 h2 B
      rw [nI_1]
      exact ih (i + 1) (cl_day s) r' x15 h (by omega) l1 hk (by rw [h1, htd, nI_1, Nat.add_assoc]) h2 e9 B
    by_cases hb : cl_bu s = 0
    · by_cases h9 : dr_n s - dr_n s / 10 * 10 = 9
      · obtain ⟨m1, m2⟩ := l2 ⟨hb, h9⟩
        have hst : (cl_day s).2.2.1.1 = s.2.2.1.1 + 1 := td_of (m1 0)
        refine ex_iload dL_law_562 rfl ?_
        refine ex_iload dL_law_564 rfl ?_
        refine ex_icmp_ge (tgt := 710) dL_law_566 (by decide) (fun z => absurd z (nI_ge (by omega) (by omega))) (fun _ => ?_)
        refine ex_aload dL_law_569 rfl ?_
        refine ex_iconst (v := 3) dL_law_571 (by decide) ?_
        refine ex_dup2 dL_law_572 rfl rfl ?_
        refine ex_ialv (v := s.2.2.1.1) dL_law_573 B.2.2.2 (by unfold vp_in; decide) (tg_c (j := 3) (by decide) (by decide) rfl) ?_
        refine ex_iconst (v := 1) dL_law_574 (by decide) ?_
        refine ex_iadd dL_law_575 ?_
        refine ex_iastore dL_law_576 B.2.2.2 (by unfold vp_in; decide) ?_
        refine sx_t B (t' := tg (t_a s) [s.2.2.1.1 + 1, s.2.2.1.2.1, cl_la s, nI k, cl_bu s, cl_lo s, cl_wa s, s.2.2.1.2.2, r, t_l s]) (tg_d (j := 3) (by decide) (by decide) (by first | decide | simp) (by first | rfl | skip)) (fun h B => ?_)
        refine ex_aload dL_law_577 rfl ?_
        refine ex_iconst (v := 4) dL_law_579 (by decide) ?_
        refine ex_bipush (v := 75) dL_law_580 (by decide) ?_
        refine ex_aload dL_law_582 rfl ?_
        refine ex_iconst (v := 4) dL_law_584 (by decide) ?_
        refine ex_ialv (v := s.2.2.1.2.1) dL_law_585 B.2.2.2 (by unfold vp_in; decide) (tg_c (j := 4) (by decide) (by decide) rfl) ?_
        refine ex_imul dL_law_586 ?_
        refine ex_bipush (v := 74) dL_law_587 (by decide) ?_
        refine ex_iadd dL_law_589 ?_
        refine ex_ldc dL_law_590 k_L_81 ?_
        refine ex_irem dL_law_592 (by decide) ?_
        refine ex_iastore dL_law_593 B.2.2.2 (by unfold vp_in; decide) ?_
        refine sx_t B (t' := tg (t_a s) [s.2.2.1.1 + 1, dr_n s, cl_la s, nI k, cl_bu s, cl_lo s, cl_wa s, s.2.2.1.2.2, r, t_l s]) (tg_d (j := 4) (by decide) (by decide) (by first | decide | simp) (by first | rfl | skip)) (fun h B => ?_)
        refine ex_aload dL_law_594 rfl ?_
        refine ex_iconst (v := 5) dL_law_596 (by decide) ?_
        refine ex_iconst (v := 0) dL_law_597 (by decide) ?_
        refine ex_iastore dL_law_598 B.2.2.2 (by unfold vp_in; decide) ?_
        refine sx_t B (t' := tg (t_a s) [s.2.2.1.1 + 1, dr_n s, 0, nI k, cl_bu s, cl_lo s, cl_wa s, s.2.2.1.2.2, r, t_l s]) (tg_d (j := 5) (by decide) (by decide) (by first | decide | simp) (by first | rfl | skip)) (fun h B => ?_)
        refine ex_aload dL_law_599 rfl ?_
        refine ex_bipush (v := 7) dL_law_601 (by decide) ?_
        refine ex_ialv (v := cl_bu s) dL_law_603 B.2.2.2 (by unfold vp_in; decide) (tg_c (j := 7) (by decide) (by decide) rfl) ?_
        refine ex_if_ne (tgt := 704) dL_law_604 (by decide) (fun z => absurd hb z) (fun _ => ?_)
        refine ex_aload dL_law_607 rfl ?_
        refine ex_iconst (v := 4) dL_law_609 (by decide) ?_
        refine ex_ialv (v := dr_n s) dL_law_610 B.2.2.2 (by unfold vp_in; decide) (tg_c (j := 4) (by decide) (by decide) rfl) ?_
        refine ex_bipush (v := 10) dL_law_611 (by decide) ?_
        refine ex_irem dL_law_613 (by decide) ?_
        refine ex_bipush (v := 9) dL_law_614 (by decide) ?_
        refine ex_icmp_ne (tgt := 704) dL_law_616 (by decide) (fun z => absurd h9 z) (fun _ => ?_)
        refine ex_aload_n dL_law_619 rfl ?_
        refine ex_aload dL_law_620 rfl ?_
        refine cS_f dL_law_622 (mm_ks i_L_line l_L_16) ⟨(Nat.le_of_ble_eq_true rfl), (Nat.le_of_ble_eq_true rfl)⟩ (c_L_line B.2.2.1 B.2.2.2 (show tg _ _ 6 = nI k from rfl) (by omega)) rfl rfl (Nat.le_of_ble_eq_true rfl) rfl ?_
        refine ex_istore dL_law_625 (Nat.le_of_ble_eq_true rfl) ?_
        refine ex_aload dL_law_627 rfl ?_
        refine ex_bipush (v := 7) dL_law_629 (by decide) ?_
        refine ex_iconst (v := 1) dL_law_631 (by decide) ?_
        refine ex_iastore dL_law_632 B.2.2.2 (by unfold vp_in; decide) ?_
        refine sx_t B (t' := tg (t_a s) [s.2.2.1.1 + 1, dr_n s, 0, nI k, 1, cl_lo s, cl_wa s, s.2.2.1.2.2, r, t_l s]) (tg_d (j := 7) (by decide) (by decide) (by first | decide | simp) (by first | rfl | skip)) (fun h B => ?_)
        skip
        have K653 : ∀ v : Int32, v = st_l s k → mm_Ex l G mm_law lw_QE 653 (lv_L 0 (nI y) (nI pcs) at0 (nI turn) u x9 x10 x11 x12 (.int (nI days)) (.int (nI i)) (.int (ro_bs (c_s s) k)) x16) [.int v, .int 8, .ref 31] h := by
          intro v hv
          subst hv
          rcases Nat.eq_zero_or_pos k with z0 | z0
          · skip
            refine ex_iastore dL_law_653 B.2.2.2 (by unfold vp_in; decide) ?_
            refine sx_t B (t' := tg (t_a s) [s.2.2.1.1 + 1, dr_n s, 0, nI k, 1, st_l s k, cl_wa s, s.2.2.1.2.2, r, t_l s]) (tg_d (j := 8) (by decide) (by decide) (by first | decide | simp) (by first | rfl | skip)) (fun h B => ?_)
            refine ex_aload dL_law_654 rfl ?_
            refine ex_bipush (v := 9) dL_law_656 (by decide) ?_
            refine ex_dup2 dL_law_658 rfl rfl ?_
            refine ex_ialv (v := cl_wa s) dL_law_659 B.2.2.2 (by unfold vp_in; decide) (tg_c (j := 9) (by decide) (by decide) rfl) ?_
            refine ex_aload dL_law_660 rfl ?_
            refine ex_bipush (v := 8) dL_law_662 (by decide) ?_
            refine ex_ialv (v := st_l s k) dL_law_664 B.2.2.2 (by unfold vp_in; decide) (tg_c (j := 8) (by decide) (by decide) rfl) ?_
            refine ex_iadd dL_law_665 ?_
            refine ex_iastore dL_law_666 B.2.2.2 (by unfold vp_in; decide) ?_
            refine sx_t B (t' := tg (t_a s) [s.2.2.1.1 + 1, dr_n s, 0, nI k, 1, st_l s k, cl_wa s + st_l s k, s.2.2.1.2.2, r, t_l s]) (tg_d (j := 9) (by decide) (by decide) (by first | decide | simp) (by first | rfl | skip)) (fun h B => ?_)
            refine ex_aload dL_law_667 rfl ?_
            refine ex_bipush (v := 6) dL_law_669 (by decide) ?_
            refine ex_ialv (v := nI k) dL_law_671 B.2.2.2 (by unfold vp_in; decide) (tg_c (j := 6) (by decide) (by decide) rfl) ?_
            refine ex_if_le (tgt := 692) dL_law_672 (by decide) (fun _ => ?_) (fun z => absurd (by rw [z0]; decide) z)
            refine ex_aload dL_law_692 rfl ?_
            refine ex_bipush (v := 12) dL_law_694 (by decide) ?_
            refine ex_iconst (v := 0) dL_law_696 (by decide) ?_
            refine ex_iastore dL_law_697 B.2.2.2 (by unfold vp_in; decide) ?_
            refine sx_t B (t' := tg (t_a s) [s.2.2.1.1 + 1, dr_n s, 0, nI k, 1, st_l s k, cl_wa s + st_l s k, s.2.2.1.2.2, r, 0]) (tg_d (j := 12) (by decide) (by decide) (by first | decide | simp) (by first | rfl | skip)) (fun h B => ?_)
            refine ex_aload dL_law_698 rfl ?_
            refine ex_bipush (v := 11) dL_law_700 (by decide) ?_
            refine ex_iconst (v := (-1)) dL_law_702 (by decide) ?_
            refine ex_iastore dL_law_703 B.2.2.2 (by unfold vp_in; decide) ?_
            refine sx_t B (t' := tg (t_a s) [s.2.2.1.1 + 1, dr_n s, 0, nI k, 1, st_l s k, cl_wa s + st_l s k, s.2.2.1.2.2, (-1), 0]) (tg_d (j := 11) (by decide) (by decide) (by first | decide | simp) (by first | rfl | skip)) (fun h B => ?_)
            refine ex_iinc (d := 1) dL_law_704 rfl (by decide) ?_
            refine ex_goto (tgt := 562) dL_law_707 (by decide) ?_
            exact hIH h (-1) _ hst (Or.inr rfl) (by rw [m1, m2, hc, if_pos z0]; exact B)
          · skip
            refine ex_iastore dL_law_653 B.2.2.2 (by unfold vp_in; decide) ?_
            refine sx_t B (t' := tg (t_a s) [s.2.2.1.1 + 1, dr_n s, 0, nI k, 1, st_l s k, cl_wa s, s.2.2.1.2.2, r, t_l s]) (tg_d (j := 8) (by decide) (by decide) (by first | decide | simp) (by first | rfl | skip)) (fun h B => ?_)
            refine ex_aload dL_law_654 rfl ?_
            refine ex_bipush (v := 9) dL_law_656 (by decide) ?_
            refine ex_dup2 dL_law_658 rfl rfl ?_
            refine ex_ialv (v := cl_wa s) dL_law_659 B.2.2.2 (by unfold vp_in; decide) (tg_c (j := 9) (by decide) (by decide) rfl) ?_
            refine ex_aload dL_law_660 rfl ?_
            refine ex_bipush (v := 8) dL_law_662 (by decide) ?_
            refine ex_ialv (v := st_l s k) dL_law_664 B.2.2.2 (by unfold vp_in; decide) (tg_c (j := 8) (by decide) (by decide) rfl) ?_
            refine ex_iadd dL_law_665 ?_
            refine ex_iastore dL_law_666 B.2.2.2 (by unfold vp_in; decide) ?_
            refine sx_t B (t' := tg (t_a s) [s.2.2.1.1 + 1, dr_n s, 0, nI k, 1, st_l s k, cl_wa s + st_l s k, s.2.2.1.2.2, r, t_l s]) (tg_d (j := 9) (by decide) (by decide) (by first | decide | simp) (by first | rfl | skip)) (fun h B => ?_)
            refine ex_aload dL_law_667 rfl ?_
            refine ex_bipush (v := 6) dL_law_669 (by decide) ?_
            refine ex_ialv (v := nI k) dL_law_671 B.2.2.2 (by unfold vp_in; decide) (tg_c (j := 6) (by decide) (by decide) rfl) ?_
            refine ex_if_le (tgt := 692) dL_law_672 (by decide) (fun z => absurd z (nI_nle z0 (by omega))) (fun _ => ?_)
            refine ex_aload_n dL_law_675 rfl ?_
            refine ex_aload dL_law_676 rfl ?_
            refine ex_bipush (v := 6) dL_law_678 (by decide) ?_
            refine ex_ialv (v := nI k) dL_law_680 B.2.2.2 (by unfold vp_in; decide) (tg_c (j := 6) (by decide) (by decide) rfl) ?_
            refine ex_iconst (v := 1) dL_law_681 (by decide) ?_
            refine ex_isub dL_law_682 ?_
            refine ex_dup2 dL_law_683 rfl rfl ?_
            refine ex_ialv (v := c_s s (k - 1)) dL_law_684 B.2.2.1 (by rw [show nI k - 1 = nI (k - 1) from pk_sub (a := k) (b := 1) z0]; exact vp_in_nI (by omega) (by decide)) (ff_i (by rw [show nI k - 1 = nI (k - 1) from pk_sub (a := k) (b := 1) z0, nI_clamp (by omega)])) ?_
            refine ex_aload dL_law_685 rfl ?_
            refine ex_bipush (v := 8) dL_law_687 (by decide) ?_
            refine ex_ialv (v := st_l s k) dL_law_689 B.2.2.2 (by unfold vp_in; decide) (tg_c (j := 8) (by decide) (by decide) rfl) ?_
            refine ex_isub dL_law_690 ?_
            refine ex_iastore dL_law_691 B.2.2.1 (by rw [show nI k - 1 = nI (k - 1) from pk_sub (a := k) (b := 1) z0]; exact vp_in_nI (by omega) (by decide)) ?_
            refine sx_m B (m' := (upd (c_s s) (k - 1) (c_s s (k - 1) - st_l s k))) (ff_u (by rw [show nI k - 1 = nI (k - 1) from pk_sub (a := k) (b := 1) z0, nI_clamp (by omega)])) (fun h B => ?_)
            refine ex_aload dL_law_692 rfl ?_
            refine ex_bipush (v := 12) dL_law_694 (by decide) ?_
            refine ex_iconst (v := 0) dL_law_696 (by decide) ?_
            refine ex_iastore dL_law_697 B.2.2.2 (by unfold vp_in; decide) ?_
            refine sx_t B (t' := tg (t_a s) [s.2.2.1.1 + 1, dr_n s, 0, nI k, 1, st_l s k, cl_wa s + st_l s k, s.2.2.1.2.2, r, 0]) (tg_d (j := 12) (by decide) (by decide) (by first | decide | simp) (by first | rfl | skip)) (fun h B => ?_)
            refine ex_aload dL_law_698 rfl ?_
            refine ex_bipush (v := 11) dL_law_700 (by decide) ?_
            refine ex_iconst (v := (-1)) dL_law_702 (by decide) ?_
            refine ex_iastore dL_law_703 B.2.2.2 (by unfold vp_in; decide) ?_
            refine sx_t B (t' := tg (t_a s) [s.2.2.1.1 + 1, dr_n s, 0, nI k, 1, st_l s k, cl_wa s + st_l s k, s.2.2.1.2.2, (-1), 0]) (tg_d (j := 11) (by decide) (by decide) (by first | decide | simp) (by first | rfl | skip)) (fun h B => ?_)
            refine ex_iinc (d := 1) dL_law_704 rfl (by decide) ?_
            refine ex_goto (tgt := 562) dL_law_707 (by decide) ?_
            exact hIH h (-1) _ hst (Or.inr rfl) (by rw [m1, m2, hc, if_neg (by omega)]; exact B)
        by_cases hs2 : ro_bs (c_s s) k < 200
        · skip
          refine ex_aload dL_law_633 rfl ?_
          refine ex_bipush (v := 8) dL_law_635 (by decide) ?_
          refine ex_iload dL_law_637 rfl ?_
          refine ex_sipush (v := 200) dL_law_639 (by decide) ?_
          refine ex_icmp_ge (tgt := 650) dL_law_642 (by decide) (fun z => absurd z (Int32.not_le.mpr hs2)) (fun _ => ?_)
          refine ex_iload dL_law_645 rfl ?_
          refine ex_goto (tgt := 653) dL_law_647 (by decide) ?_
          exact K653 _ (if_pos hs2).symm
        · skip
          refine ex_aload dL_law_633 rfl ?_
          refine ex_bipush (v := 8) dL_law_635 (by decide) ?_
          refine ex_iload dL_law_637 rfl ?_
          refine ex_sipush (v := 200) dL_law_639 (by decide) ?_
          refine ex_icmp_ge (tgt := 650) dL_law_642 (by decide) (fun _ => ?_) (fun z => absurd (Int32.not_lt.mp hs2) z)
          refine ex_sipush (v := 200) dL_law_650 (by decide) ?_
          exact K653 _ (if_neg hs2).symm
      · obtain ⟨m1, m2, m3⟩ := l3 (fun z => h9 z.2)
        refine ex_iload dL_law_562 rfl ?_
        refine ex_iload dL_law_564 rfl ?_
        refine ex_icmp_ge (tgt := 710) dL_law_566 (by decide) (fun z => absurd z (nI_ge (by omega) (by omega))) (fun _ => ?_)
        refine ex_aload dL_law_569 rfl ?_
        refine ex_iconst (v := 3) dL_law_571 (by decide) ?_
        refine ex_dup2 dL_law_572 rfl rfl ?_
        refine ex_ialv (v := s.2.2.1.1) dL_law_573 B.2.2.2 (by unfold vp_in; decide) (tg_c (j := 3) (by decide) (by decide) rfl) ?_
        refine ex_iconst (v := 1) dL_law_574 (by decide) ?_
        refine ex_iadd dL_law_575 ?_
        refine ex_iastore dL_law_576 B.2.2.2 (by unfold vp_in; decide) ?_
        refine sx_t B (t' := tg (t_a s) [s.2.2.1.1 + 1, s.2.2.1.2.1, cl_la s, nI k, cl_bu s, cl_lo s, cl_wa s, s.2.2.1.2.2, r, t_l s]) (tg_d (j := 3) (by decide) (by decide) (by first | decide | simp) (by first | rfl | skip)) (fun h B => ?_)
        refine ex_aload dL_law_577 rfl ?_
        refine ex_iconst (v := 4) dL_law_579 (by decide) ?_
        refine ex_bipush (v := 75) dL_law_580 (by decide) ?_
        refine ex_aload dL_law_582 rfl ?_
        refine ex_iconst (v := 4) dL_law_584 (by decide) ?_
        refine ex_ialv (v := s.2.2.1.2.1) dL_law_585 B.2.2.2 (by unfold vp_in; decide) (tg_c (j := 4) (by decide) (by decide) rfl) ?_
        refine ex_imul dL_law_586 ?_
        refine ex_bipush (v := 74) dL_law_587 (by decide) ?_
        refine ex_iadd dL_law_589 ?_
        refine ex_ldc dL_law_590 k_L_81 ?_
        refine ex_irem dL_law_592 (by decide) ?_
        refine ex_iastore dL_law_593 B.2.2.2 (by unfold vp_in; decide) ?_
        refine sx_t B (t' := tg (t_a s) [s.2.2.1.1 + 1, dr_n s, cl_la s, nI k, cl_bu s, cl_lo s, cl_wa s, s.2.2.1.2.2, r, t_l s]) (tg_d (j := 4) (by decide) (by decide) (by first | decide | simp) (by first | rfl | skip)) (fun h B => ?_)
        refine ex_aload dL_law_594 rfl ?_
        refine ex_iconst (v := 5) dL_law_596 (by decide) ?_
        refine ex_iconst (v := 0) dL_law_597 (by decide) ?_
        refine ex_iastore dL_law_598 B.2.2.2 (by unfold vp_in; decide) ?_
        refine sx_t B (t' := tg (t_a s) [s.2.2.1.1 + 1, dr_n s, 0, nI k, cl_bu s, cl_lo s, cl_wa s, s.2.2.1.2.2, r, t_l s]) (tg_d (j := 5) (by decide) (by decide) (by first | decide | simp) (by first | rfl | skip)) (fun h B => ?_)
        refine ex_aload dL_law_599 rfl ?_
        refine ex_bipush (v := 7) dL_law_601 (by decide) ?_
        refine ex_ialv (v := cl_bu s) dL_law_603 B.2.2.2 (by unfold vp_in; decide) (tg_c (j := 7) (by decide) (by decide) rfl) ?_
        refine ex_if_ne (tgt := 704) dL_law_604 (by decide) (fun z => absurd hb z) (fun _ => ?_)
        refine ex_aload dL_law_607 rfl ?_
        refine ex_iconst (v := 4) dL_law_609 (by decide) ?_
        refine ex_ialv (v := dr_n s) dL_law_610 B.2.2.2 (by unfold vp_in; decide) (tg_c (j := 4) (by decide) (by decide) rfl) ?_
        refine ex_bipush (v := 10) dL_law_611 (by decide) ?_
        refine ex_irem dL_law_613 (by decide) ?_
        refine ex_bipush (v := 9) dL_law_614 (by decide) ?_
        refine ex_icmp_ne (tgt := 704) dL_law_616 (by decide) (fun _ => ?_) (fun z => absurd z h9)
        refine ex_iinc (d := 1) dL_law_704 rfl (by decide) ?_
        refine ex_goto (tgt := 562) dL_law_707 (by decide) ?_
        exact hIH h r _ (td_of (m1 0)) (by rw [m3]; exact hr) (by rw [m1, m2, hc]; exact B)
    · obtain ⟨m1, m2, m3⟩ := l3 (fun z => hb z.1)
      refine ex_iload dL_law_562 rfl ?_
      refine ex_iload dL_law_564 rfl ?_
      refine ex_icmp_ge (tgt := 710) dL_law_566 (by decide) (fun z => absurd z (nI_ge (by omega) (by omega))) (fun _ => ?_)
      refine ex_aload dL_law_569 rfl ?_
      refine ex_iconst (v := 3) dL_law_571 (by decide) ?_
      refine ex_dup2 dL_law_572 rfl rfl ?_
      refine ex_ialv (v := s.2.2.1.1) dL_law_573 B.2.2.2 (by unfold vp_in; decide) (tg_c (j := 3) (by decide) (by decide) rfl) ?_
      refine ex_iconst (v := 1) dL_law_574 (by decide) ?_
      refine ex_iadd dL_law_575 ?_
      refine ex_iastore dL_law_576 B.2.2.2 (by unfold vp_in; decide) ?_
      refine sx_t B (t' := tg (t_a s) [s.2.2.1.1 + 1, s.2.2.1.2.1, cl_la s, nI k, cl_bu s, cl_lo s, cl_wa s, s.2.2.1.2.2, r, t_l s]) (tg_d (j := 3) (by decide) (by decide) (by first | decide | simp) (by first | rfl | skip)) (fun h B => ?_)
      refine ex_aload dL_law_577 rfl ?_
      refine ex_iconst (v := 4) dL_law_579 (by decide) ?_
      refine ex_bipush (v := 75) dL_law_580 (by decide) ?_
      refine ex_aload dL_law_582 rfl ?_
      refine ex_iconst (v := 4) dL_law_584 (by decide) ?_
      refine ex_ialv (v := s.2.2.1.2.1) dL_law_585 B.2.2.2 (by unfold vp_in; decide) (tg_c (j := 4) (by decide) (by decide) rfl) ?_
      refine ex_imul dL_law_586 ?_
      refine ex_bipush (v := 74) dL_law_587 (by decide) ?_
      refine ex_iadd dL_law_589 ?_
      refine ex_ldc dL_law_590 k_L_81 ?_
      refine ex_irem dL_law_592 (by decide) ?_
      refine ex_iastore dL_law_593 B.2.2.2 (by unfold vp_in; decide) ?_
      refine sx_t B (t' := tg (t_a s) [s.2.2.1.1 + 1, dr_n s, cl_la s, nI k, cl_bu s, cl_lo s, cl_wa s, s.2.2.1.2.2, r, t_l s]) (tg_d (j := 4) (by decide) (by decide) (by first | decide | simp) (by first | rfl | skip)) (fun h B => ?_)
      refine ex_aload dL_law_594 rfl ?_
      refine ex_iconst (v := 5) dL_law_596 (by decide) ?_
      refine ex_iconst (v := 0) dL_law_597 (by decide) ?_
      refine ex_iastore dL_law_598 B.2.2.2 (by unfold vp_in; decide) ?_
      refine sx_t B (t' := tg (t_a s) [s.2.2.1.1 + 1, dr_n s, 0, nI k, cl_bu s, cl_lo s, cl_wa s, s.2.2.1.2.2, r, t_l s]) (tg_d (j := 5) (by decide) (by decide) (by first | decide | simp) (by first | rfl | skip)) (fun h B => ?_)
      refine ex_aload dL_law_599 rfl ?_
      refine ex_bipush (v := 7) dL_law_601 (by decide) ?_
      refine ex_ialv (v := cl_bu s) dL_law_603 B.2.2.2 (by unfold vp_in; decide) (tg_c (j := 7) (by decide) (by decide) rfl) ?_
      refine ex_if_ne (tgt := 704) dL_law_604 (by decide) (fun _ => ?_) (fun z => absurd z hb)
      refine ex_iinc (d := 1) dL_law_704 rfl (by decide) ?_
      refine ex_goto (tgt := 562) dL_law_707 (by decide) ?_
      exact hIH h r _ (td_of (m1 0)) (by rw [m3]; exact hr) (by rw [m1, m2, hc]; exact B)
theorem lw_pass (hl : l.stackTraces = false) {at0 : Int32} {x9 x11 x12 x13 x14 x15 x16 : Value} {y10 : Int32} (ht : turn < 60) (hJ : lj y turn pcs h)
    (K : ∀ (h : mm_H) (x13 x14 x15 x16 : Value), lj y (turn + 1) pcs h → mm_Ex l G mm_law lw_QE 1158 (lv_L 0 (nI y) (nI pcs) at0 (nI turn) u x9 (.int y10) x11 x12 x13 x14 x15 x16) [] h) :
    mm_Ex l G mm_law lw_QE 549 (lv_L 0 (nI y) (nI pcs) at0 (nI turn) u x9 (.int y10) x11 x12 x13 x14 x15 x16) [] h := by
  obtain ⟨n, s, d, e, k, td, he, hn, B, hI, hk, htd, htd2⟩ := hJ
  refine ex_iconst (v := 1) dL_law_549 (by decide) ?_
  refine ex_iload dL_law_550 rfl ?_
  refine ex_iconst (v := 3) dL_law_552 (by decide) ?_
  refine cS_x dL_law_553 (mm_ks i_L_low l_L_78) ⟨(Nat.le_of_ble_eq_true rfl), (Nat.le_of_ble_eq_true rfl)⟩ (c_L_low _ 3 (by decide) (by decide) _ rfl) rfl rfl (Nat.le_of_ble_eq_true rfl) rfl ?_
  rintro _ h ⟨⟨q, hq, rfl⟩, rfl⟩
  refine ex_iadd dL_law_556 ?_
  rw [show 1 + nI q = nI (q + 1) from (Int32.add_comm _ _).trans (nI_1 q)]
  refine ex_istore dL_law_557 (Nat.le_of_ble_eq_true rfl) ?_
  refine ex_iconst (v := 0) dL_law_559 (by decide) ?_
  refine ex_istore dL_law_560 (Nat.le_of_ble_eq_true rfl) ?_
  skip
  have hiv := p_I_iv hI
  refine pass_loop (n := n) (d := d) (sc := s) (k := k) (td := td) (days := q + 1) (c0 := 70 + e) (n0 := 80000 + 6 * e) (by omega) (by omega) (fun h s2 r x14 x15 e9 hI2 htd3 hr B => ?_) (q + 1) 0 s (t_r s) _ h (Nat.zero_add _) hI hk htd (Or.inl rfl) rfl B
  have hc2 := (p_I_c hI2).1
  have ex : cm_pass s (nI (q + 1)) = (.inl (some s2.2.2.1.1), s2) := by
    unfold cm_pass
    rw [if_pos ⟨nI_le (a := 1) (by omega) (by omega), nI_le (b := 400) (by omega) (by decide)⟩, htd, nI_add, if_pos (show nI (td + (q + 1)) ≤ 20000 from nI_le (b := 20000) (by omega) (by decide)), nI_clamp (by omega), ← e9]
  replace B := lb_kr hc2 B
  have fin : ∀ (h : mm_H), lb h s2 d (c_s s2) (tz_r s2 k (t_r s2)) (70 + e) (80000 + 6 * e) → ∀ (x13 x14 x15 x16 : Value), mm_Ex l G mm_law lw_QE 1158 (lv_L 0 (nI y) (nI pcs) at0 (nI turn) u x9 (.int y10) x11 x12 x13 x14 x15 x16) [] h := by
    intro h B x13 x14 x15 x16
    refine K h _ _ _ _ ⟨n, s2, d, e, k, td + (q + 1), by omega, by omega, ?_, hI2, hk, htd3, by omega⟩
    unfold tz_r at B
    rw [← hc2] at B
    exact B
  refine ex_aload_n dL_law_710 rfl ?_
  refine ex_iload dL_law_711 rfl ?_
  refine cV_x dL_law_713 (mm_kv i_X8_pass l_L_96) ⟨(Nat.le_of_ble_eq_true rfl), (Nat.le_of_ble_eq_true rfl)⟩ (lb_x B (by rw [ex]) (k8_pass hl B.1 hiv (by omega) _)) rfl rfl (cP_ow B.1) (Nat.le_of_ble_eq_true rfl) rfl ?_
  rintro _ h ⟨rfl, B⟩
  rw [ex] at B
  refine ex_aload dL_law_716 rfl ?_
  refine ex_iconst (v := 3) dL_law_718 (by decide) ?_
  refine ex_ialv (v := s2.2.2.1.1) dL_law_719 B.2.2.2 (by unfold vp_in; decide) (tg_c (j := 3) (by decide) (by decide) rfl) ?_
  refine ex_icmp_eq (tgt := 725) dL_law_720 (by decide) (fun _ => ?_) (fun z => absurd rfl z)
  skip
  rcases hr with hr | hr
  · subst hr
    refine ex_aload dL_law_725 rfl ?_
    refine ex_bipush (v := 11) dL_law_727 (by decide) ?_
    refine ex_ialv (v := t_r s2) dL_law_729 B.2.2.2 (by unfold vp_in; decide) (tg_c (j := 11) (by decide) (by decide) rfl) ?_
    refine ex_if_ge (tgt := 743) dL_law_730 (by decide) (fun c_730 => ?_) (fun c_730 => ?_)
    · refine ex_goto (tgt := 1158) dL_law_743 (by decide) ?_
      exact fin h B _ _ _ _
    · refine ex_aload dL_law_733 rfl ?_
      refine ex_bipush (v := 11) dL_law_735 (by decide) ?_
      refine ex_aload_n dL_law_737 rfl ?_
      refine ex_iconst (v := 4) dL_law_738 (by decide) ?_
      refine cV_x dL_law_739 (mm_kv i_X8_line l_L_20) ⟨(Nat.le_of_ble_eq_true rfl), (Nat.le_of_ble_eq_true rfl)⟩ (lb_q B ln_v4 (c_X8_line hl B.1 _)) rfl rfl (cP_ow B.1) (Nat.le_of_ble_eq_true rfl) rfl ?_
      rintro _ h ⟨rfl, B⟩
      refine ex_iastore dL_law_742 B.2.2.2 (by unfold vp_in; decide) ?_
      refine sx_t B (t' := tg (t_a s2) [s2.2.2.1.1, s2.2.2.1.2.1, cl_la s2, nI k, cl_bu s2, cl_lo s2, cl_wa s2, s2.2.2.1.2.2, (t_r s2), t_l s2]) (tg_d (j := 11) (by decide) (by decide) (by first | decide | simp) (by first | rfl | skip)) (fun h B => ?_)
      refine ex_goto (tgt := 1158) dL_law_743 (by decide) ?_
      exact fin h B _ _ _ _
  · subst hr
    refine ex_aload dL_law_725 rfl ?_
    refine ex_bipush (v := 11) dL_law_727 (by decide) ?_
    refine ex_ialv (v := (-1)) dL_law_729 B.2.2.2 (by unfold vp_in; decide) (tg_c (j := 11) (by decide) (by decide) rfl) ?_
    refine ex_if_ge (tgt := 743) dL_law_730 (by decide) (fun z => absurd z (by decide)) (fun _ => ?_)
    refine ex_aload dL_law_733 rfl ?_
    refine ex_bipush (v := 11) dL_law_735 (by decide) ?_
    refine ex_aload_n dL_law_737 rfl ?_
    refine ex_iconst (v := 4) dL_law_738 (by decide) ?_
    refine cV_x dL_law_739 (mm_kv i_X8_line l_L_20) ⟨(Nat.le_of_ble_eq_true rfl), (Nat.le_of_ble_eq_true rfl)⟩ (lb_q B ln_v4 (c_X8_line hl B.1 _)) rfl rfl (cP_ow B.1) (Nat.le_of_ble_eq_true rfl) rfl ?_
    rintro _ h ⟨rfl, B⟩
    refine ex_iastore dL_law_742 B.2.2.2 (by unfold vp_in; decide) ?_
    refine sx_t B (t' := tg (t_a s2) [s2.2.2.1.1, s2.2.2.1.2.1, cl_la s2, nI k, cl_bu s2, cl_lo s2, cl_wa s2, s2.2.2.1.2.2, (t_r s2), t_l s2]) (tg_d (j := 11) (by decide) (by decide) (by first | decide | simp) (by first | rfl | skip)) (fun h B => ?_)
    refine ex_goto (tgt := 1158) dL_law_743 (by decide) ?_
    exact fin h B _ _ _ _
end E4
