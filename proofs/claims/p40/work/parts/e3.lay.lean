/-! P40: THE LAW: cells that are laid -/
section E3
variable {l : Launch} {G : mm_G} {h : mm_H} {s sc : cl_S} {d m t : Nat → Int32} {n y k e turn pcs u x j td cells : Nat}
theorem wo_k {r q : Int32} : cl_wo s ↔ lwk (tg (t_a s) (t_L s r q)) := by
  have := wk_v (s := s) (r := r) (x := q)
  exact ⟨fun z => Decidable.byContradiction fun w => absurd ((bb_t z).symm.trans (this.trans (bb_f w))) (by decide), fun z => Decidable.byContradiction fun w => absurd ((bb_f w).symm.trans (this.trans (bb_t z))) (by decide)⟩
theorem lb_k {h : mm_H} {c0 n0 : Nat} (hc : cl_ce s = nI k) (B : lb h sc d m (t_f s (t_r s)) c0 n0) : lb h sc d m (tz_k s k) c0 n0 := by unfold tz_k; rw [← hc]; exact B
theorem lay_40 {at0 : Int32} {x9 x10 x11 x12 x13 x14 x15 x16 : Value} (he : e ≤ 60) (hk : k = 40) (B : lb h sc d m (tz_k s k) (70 + e) (80000 + 6 * e)) :
    mm_Ex l G mm_law lw_QE 510 (lv_L 0 (nI y) (nI pcs) at0 (nI turn) u x9 x10 x11 x12 x13 x14 x15 x16) [] h := by
  refine ex_aload dL_law_510 rfl ?_
  refine ex_bipush (v := 6) dL_law_512 (by decide) ?_
  refine ex_ialv (v := nI k) dL_law_514 B.2.2.2 (by unfold vp_in; decide) (tg_c (j := 6) (by decide) (by decide) rfl) ?_
  refine ex_bipush (v := 40) dL_law_515 (by decide) ?_
  refine ex_icmp_ne (tgt := 522) dL_law_517 (by decide) (fun z => absurd (by rw [hk]; rfl) z) (fun _ => ?_)
  refine ex_iconst (v := 1) dL_law_520 (by decide) ?_
  refine ex_ireturn dL_law_521 ⟨_, rfl, rfl⟩ ?_
  exact ⟨rfl, lb_room B he⟩
theorem lay_510 (hl : l.stackTraces = false) {at0 : Int32} {x9 x10 x11 x16 : Value} {i : Nat} (hj : j < 3) (hx : x ≤ 50) (h1 : 1 ≤ cells) (h12 : cells ≤ 12) (h100 : ¬ cl_ce sc = 100) (hiv : iv n sc) (hn : n ≤ 512) (hk : k ≤ 39) (e9 : cl_ly (nI x) (nI j) cells 0 sc = (i, s)) (B : lb h sc d m (tz_k s k) (70 + e) (80000 + 6 * e))
    (K : ∀ (h : mm_H), lb h s d m (tz_k s k) (70 + e) (80000 + 6 * e) → mm_Ex l G mm_law lw_QE 1158 (lv_L 0 (nI y) (nI pcs) at0 (nI turn) u x9 x10 x11 (.int (nI j)) (.int (nI cells)) (.int (nI x)) (.int (nI i)) x16) [] h) :
    mm_Ex l G mm_law lw_QE 510 (lv_L 0 (nI y) (nI pcs) at0 (nI turn) u x9 x10 x11 (.int (nI j)) (.int (nI cells)) (.int (nI x)) (.int (nI i)) x16) [] h := by
  have ex : cm_lay sc (nI cells) (nI x) (nI j) = (.inl (some (nI i)), s) := by
    unfold cm_lay
    rw [if_pos ⟨⟨nI_le (a := 1) (by omega) (by omega), nI_le (b := 12) (by omega) (by decide)⟩, ⟨nI_pos' (by omega), nI_le (b := 50) (by omega) (by decide)⟩, ix_2 hj⟩, if_neg h100, nI_clamp (by omega), e9]
  refine ex_aload dL_law_510 rfl ?_
  refine ex_bipush (v := 6) dL_law_512 (by decide) ?_
  refine ex_ialv (v := nI k) dL_law_514 B.2.2.2 (by unfold vp_in; decide) (tg_c (j := 6) (by decide) (by decide) rfl) ?_
  refine ex_bipush (v := 40) dL_law_515 (by decide) ?_
  refine ex_icmp_ne (tgt := 522) dL_law_517 (by decide) (fun _ => ?_) (fun z => absurd z (fun z => absurd ((nI_eq (b := 40) (by omega) (by decide)).mp z) (by omega)))
  refine ex_aload_n dL_law_522 rfl ?_
  refine ex_iload dL_law_523 rfl ?_
  refine ex_iload dL_law_525 rfl ?_
  refine ex_iload dL_law_527 rfl ?_
  refine cV_x dL_law_529 (mm_kv i_X8_lay l_L_93) ⟨(Nat.le_of_ble_eq_true rfl), (Nat.le_of_ble_eq_true rfl)⟩ (lb_x B (by rw [ex]) (k8_lay hl B.1 hiv hn _ _ _)) rfl rfl (cP_ow B.1) (Nat.le_of_ble_eq_true rfl) rfl ?_
  rintro _ h ⟨rfl, B⟩
  refine ex_iload dL_law_532 rfl ?_
  refine ex_icmp_eq (tgt := 539) dL_law_534 (by decide) (fun _ => ?_) (fun z => absurd rfl z)
  refine ex_goto (tgt := 1158) dL_law_539 (by decide) ?_
  rw [ex] at B; exact K h B
theorem lay_loop (hl : l.stackTraces = false) {at0 : Int32} {x9 x10 x11 : Value} (hj : j < 3) (hx : x ≤ 50) (h1 : 1 ≤ cells) (h12 : cells ≤ 12) (h100 : ¬ cl_ce sc = 100) (hiv : iv n sc) (hn : n ≤ 512) (he : e ≤ 60)
    (K : ∀ (h : mm_H) (s : cl_S) (k : Nat) (x15 : Value), p_I n s d y pcs k → k ≤ 39 → s.2.2.1.1 = nI td → lb h s d (c_s s) (t_f s (t_r s)) (70 + e) (80000 + 6 * e) → mm_Ex l G mm_law lw_QE 1158 (lv_L 0 (nI y) (nI pcs) at0 (nI turn) u x9 x10 x11 (.int (nI j)) (.int (nI cells)) (.int (nI x)) x15 (.int (ho_mp (nI y)))) [] h) :
    ∀ (N i k : Nat) (s : cl_S) (h : mm_H), i + N = cells → p_I n s d y pcs k → k ≤ 40 → s.2.2.1.1 = nI td → cl_ly (nI x) (nI j) cells 0 sc = cl_ly (nI x) (nI j) N i s → lb h sc d (c_s s) (t_f s (t_r s)) (70 + e) (80000 + 6 * e) → mm_Ex l G mm_law lw_QE 352 (lv_L 0 (nI y) (nI pcs) at0 (nI turn) u x9 x10 x11 (.int (nI j)) (.int (nI cells)) (.int (nI x)) (.int (nI i)) (.int (ho_mp (nI y)))) [] h := by
  intro N
  induction N with
  | zero =>
    intro i k s h hiN hI hk htd e9 B
    rw [Nat.add_zero] at hiN
    subst hiN
    have hc := (p_I_c hI).1
    replace B := lb_k hc B
    refine ex_iload dL_law_352 rfl ?_
    refine ex_iload dL_law_354 rfl ?_
    refine ex_icmp_ge (tgt := 510) dL_law_356 (by decide) (fun _ => ?_) (fun z => absurd (Int32.le_refl _) z)
    skip
    by_cases hk40 : k = 40
    · exact lay_40 he hk40 B
    · exact lay_510 hl hj hx h1 h12 h100 hiv hn (by omega) e9 B (fun h B => K h s k _ hI (by omega) htd (by unfold tz_k at B; rw [← hc] at B; exact B))
  | succ N ih =>
    intro i k s h hiN hI hk htd e9 B
    have hc := (p_I_c hI).1
    have hy := (p_I_c hI).2.2.1
    replace B := lb_k hc B
    by_cases hk40 : k = 40
    · skip
      refine ex_iload dL_law_352 rfl ?_
      refine ex_iload dL_law_354 rfl ?_
      refine ex_icmp_ge (tgt := 510) dL_law_356 (by decide) (fun z => absurd z (nI_ge (by omega) (by omega))) (fun _ => ?_)
      refine ex_aload dL_law_359 rfl ?_
      refine ex_bipush (v := 6) dL_law_361 (by decide) ?_
      refine ex_ialv (v := nI k) dL_law_363 B.2.2.2 (by unfold vp_in; decide) (tg_c (j := 6) (by decide) (by decide) rfl) ?_
      refine ex_bipush (v := 50) dL_law_364 (by decide) ?_
      refine ex_icmp_ge (tgt := 510) dL_law_366 (by decide) (fun z => absurd z (nI_ge (b := 50) (by omega) (by decide))) (fun _ => ?_)
      refine ex_aload dL_law_369 rfl ?_
      refine ex_bipush (v := 6) dL_law_371 (by decide) ?_
      refine ex_ialv (v := nI k) dL_law_373 B.2.2.2 (by unfold vp_in; decide) (tg_c (j := 6) (by decide) (by decide) rfl) ?_
      refine ex_bipush (v := 40) dL_law_374 (by decide) ?_
      refine ex_icmp_ge (tgt := 510) dL_law_376 (by decide) (fun _ => ?_) (fun z => absurd (by rw [hk40]; exact Int32.le_refl _) z)
      exact lay_40 he hk40 B
    obtain ⟨l1, l2⟩ := l1_law (x := x) (j := j) hI hn (show k < 40 by omega) hj hx
    by_cases hq : lay_c s d y k x j
    · obtain ⟨z1, z2, z3, z4⟩ := l1 hq
      refine ex_iload dL_law_352 rfl ?_
      refine ex_iload dL_law_354 rfl ?_
      refine ex_icmp_ge (tgt := 510) dL_law_356 (by decide) (fun z => absurd z (nI_ge (by omega) (by omega))) (fun _ => ?_)
      refine ex_aload dL_law_359 rfl ?_
      refine ex_bipush (v := 6) dL_law_361 (by decide) ?_
      refine ex_ialv (v := nI k) dL_law_363 B.2.2.2 (by unfold vp_in; decide) (tg_c (j := 6) (by decide) (by decide) rfl) ?_
      refine ex_bipush (v := 50) dL_law_364 (by decide) ?_
      refine ex_icmp_ge (tgt := 510) dL_law_366 (by decide) (fun z => absurd z (nI_ge (b := 50) (by omega) (by decide))) (fun _ => ?_)
      refine ex_aload dL_law_369 rfl ?_
      refine ex_bipush (v := 6) dL_law_371 (by decide) ?_
      refine ex_ialv (v := nI k) dL_law_373 B.2.2.2 (by unfold vp_in; decide) (tg_c (j := 6) (by decide) (by decide) rfl) ?_
      refine ex_bipush (v := 40) dL_law_374 (by decide) ?_
      refine ex_icmp_ge (tgt := 510) dL_law_376 (by decide) (fun z => absurd z (nI_ge (b := 40) (by omega) (by decide))) (fun _ => ?_)
      refine ex_aload dL_law_379 rfl ?_
      refine cS_f dL_law_381 (mm_ks i_L_works l_L_36) ⟨(Nat.le_of_ble_eq_true rfl), (Nat.le_of_ble_eq_true rfl)⟩ (c_L_works B.2.2.2) rfl rfl (Nat.le_of_ble_eq_true rfl) rfl ?_
      refine ex_if_eq (tgt := 510) dL_law_384 (by decide) (fun z => absurd z (fun z => bb_0.mp z (wo_k.mp hq.1))) (fun _ => ?_)
      refine ex_aload dL_law_387 rfl ?_
      refine ex_iconst (v := 5) dL_law_389 (by decide) ?_
      refine ex_ialv (v := cl_la s) dL_law_390 B.2.2.2 (by unfold vp_in; decide) (tg_c (j := 5) (by decide) (by decide) rfl) ?_
      refine ex_bipush (v := 12) dL_law_391 (by decide) ?_
      refine ex_icmp_ge (tgt := 510) dL_law_393 (by decide) (fun z => absurd z (Int32.not_le.mpr hq.2.1)) (fun _ => ?_)
      refine ex_aload dL_law_396 rfl ?_
      refine ex_bipush (v := 7) dL_law_398 (by decide) ?_
      refine ex_ialv (v := cl_bu s) dL_law_400 B.2.2.2 (by unfold vp_in; decide) (tg_c (j := 7) (by decide) (by decide) rfl) ?_
      refine ex_if_ne (tgt := 510) dL_law_401 (by decide) (fun z => absurd hq.2.2.1 z) (fun _ => ?_)
      refine ex_aload dL_law_404 rfl ?_
      refine ex_iload dL_law_406 rfl ?_
      refine ex_ialv (v := ((t_a s)) j) dL_law_408 B.2.2.2 (vp_in_nI (by omega) (by decide)) (tg_k (j := j) (nI_clamp (by omega)) (by omega)) ?_
      refine ex_aload_n dL_law_409 rfl ?_
      refine ex_aload dL_law_410 rfl ?_
      refine ex_bipush (v := 6) dL_law_412 (by decide) ?_
      refine ex_ialv (v := nI k) dL_law_414 B.2.2.2 (by unfold vp_in; decide) (tg_c (j := 6) (by decide) (by decide) rfl) ?_
      refine ex_iload dL_law_415 rfl ?_
      refine cS_f dL_law_417 (mm_ks i_L_due l_L_50) ⟨(Nat.le_of_ble_eq_true rfl), (Nat.le_of_ble_eq_true rfl)⟩ (c_L_due B.2.1 k (by omega) _ rfl _) rfl rfl (Nat.le_of_ble_eq_true rfl) rfl ?_
      refine ex_icmp_lt (tgt := 510) dL_law_420 (by decide) (fun z => absurd z (Int32.not_lt.mpr hq.2.2.2.1)) (fun _ => ?_)
      refine ex_bipush (v := 12) dL_law_423 (by decide) ?_
      refine ex_iconst (v := 3) dL_law_425 (by decide) ?_
      refine ex_iload dL_law_426 rfl ?_
      refine ex_imul dL_law_428 ?_
      refine ex_isub dL_law_429 ?_
      refine ex_aload_n dL_law_430 rfl ?_
      refine ex_aload dL_law_431 rfl ?_
      refine ex_bipush (v := 6) dL_law_433 (by decide) ?_
      refine ex_ialv (v := nI k) dL_law_435 B.2.2.2 (by unfold vp_in; decide) (tg_c (j := 6) (by decide) (by decide) rfl) ?_
      refine cS_f dL_law_436 (mm_ks i_L_depth l_L_10) ⟨(Nat.le_of_ble_eq_true rfl), (Nat.le_of_ble_eq_true rfl)⟩ (c_L_depth B.2.1 k (by omega) _ rfl) rfl rfl (Nat.le_of_ble_eq_true rfl) rfl ?_
      refine ex_imul dL_law_439 ?_
      refine ex_bipush (v := 100) dL_law_440 (by decide) ?_
      refine ex_idiv dL_law_442 (by decide) ?_
      refine ex_iload dL_law_443 rfl ?_
      refine ex_icmp_gt (tgt := 510) dL_law_445 (by decide) (fun z => absurd z (Int32.not_lt.mpr hq.2.2.2.2)) (fun _ => ?_)
      refine ex_aload_n dL_law_448 rfl ?_
      refine ex_aload dL_law_449 rfl ?_
      refine ex_bipush (v := 6) dL_law_451 (by decide) ?_
      refine ex_ialv (v := nI k) dL_law_453 B.2.2.2 (by unfold vp_in; decide) (tg_c (j := 6) (by decide) (by decide) rfl) ?_
      refine ex_aload_n dL_law_454 rfl ?_
      refine ex_aload dL_law_455 rfl ?_
      refine ex_bipush (v := 6) dL_law_457 (by decide) ?_
      refine ex_ialv (v := nI k) dL_law_459 B.2.2.2 (by unfold vp_in; decide) (tg_c (j := 6) (by decide) (by decide) rfl) ?_
      refine ex_iload dL_law_460 rfl ?_
      refine cS_f dL_law_462 (mm_ks i_L_due l_L_50) ⟨(Nat.le_of_ble_eq_true rfl), (Nat.le_of_ble_eq_true rfl)⟩ (c_L_due B.2.1 k (by omega) _ rfl _) rfl rfl (Nat.le_of_ble_eq_true rfl) rfl ?_
      refine ex_iastore dL_law_465 B.2.2.1 (vp_in_nI (by omega) (by decide)) ?_
      refine sx_m B (m' := (upd (c_s s) k (du d k (nI x)))) (ff_u (nI_clamp (by omega))) (fun h B => ?_)
      refine ex_aload dL_law_466 rfl ?_
      refine ex_iload dL_law_468 rfl ?_
      refine ex_dup2 dL_law_470 rfl rfl ?_
      refine ex_ialv (v := ((t_a s)) j) dL_law_471 B.2.2.2 (vp_in_nI (by omega) (by decide)) (tg_k (j := j) (nI_clamp (by omega)) (by omega)) ?_
      refine ex_aload_n dL_law_472 rfl ?_
      refine ex_aload dL_law_473 rfl ?_
      refine ex_bipush (v := 6) dL_law_475 (by decide) ?_
      refine ex_ialv (v := nI k) dL_law_477 B.2.2.2 (by unfold vp_in; decide) (tg_c (j := 6) (by decide) (by decide) rfl) ?_
      refine ex_ialv (v := du d k (nI x)) dL_law_478 B.2.2.1 (vp_in_nI (by omega) (by decide)) ((by rw [nI_clamp (by omega)]; exact pk_us)) ?_
      refine ex_isub dL_law_479 ?_
      refine ex_iastore dL_law_480 B.2.2.2 (vp_in_nI (by omega) (by decide)) ?_
      refine sx_t B (t' := tg (upd (t_a s) j ((((t_a s)) j) - (du d k (nI x)))) [s.2.2.1.1, s.2.2.1.2.1, cl_la s, nI k, cl_bu s, cl_lo s, cl_wa s, s.2.2.1.2.2, t_r s, t_l s]) (tg_w (j := j) (nI_clamp (by omega)) (by omega)) (fun h B => ?_)
      refine ex_aload dL_law_481 rfl ?_
      refine ex_bipush (v := 6) dL_law_483 (by decide) ?_
      refine ex_dup2 dL_law_485 rfl rfl ?_
      refine ex_ialv (v := nI k) dL_law_486 B.2.2.2 (by unfold vp_in; decide) (tg_c (j := 6) (by decide) (by decide) rfl) ?_
      refine ex_iconst (v := 1) dL_law_487 (by decide) ?_
      refine ex_iadd dL_law_488 ?_
      refine ex_iastore dL_law_489 B.2.2.2 (by unfold vp_in; decide) ?_
      refine sx_t B (t' := tg (upd (t_a s) j ((((t_a s)) j) - (du d k (nI x)))) [s.2.2.1.1, s.2.2.1.2.1, cl_la s, (nI k + 1), cl_bu s, cl_lo s, cl_wa s, s.2.2.1.2.2, t_r s, t_l s]) (tg_d (j := 6) (by decide) (by decide) (by first | decide | simp) (by first | rfl | skip)) (fun h B => ?_)
      refine ex_aload dL_law_490 rfl ?_
      refine ex_iconst (v := 5) dL_law_492 (by decide) ?_
      refine ex_dup2 dL_law_493 rfl rfl ?_
      refine ex_ialv (v := cl_la s) dL_law_494 B.2.2.2 (by unfold vp_in; decide) (tg_c (j := 5) (by decide) (by decide) rfl) ?_
      refine ex_iconst (v := 1) dL_law_495 (by decide) ?_
      refine ex_iadd dL_law_496 ?_
      refine ex_iastore dL_law_497 B.2.2.2 (by unfold vp_in; decide) ?_
      refine sx_t B (t' := tg (upd (t_a s) j ((((t_a s)) j) - (du d k (nI x)))) [s.2.2.1.1, s.2.2.1.2.1, (cl_la s + 1), (nI k + 1), cl_bu s, cl_lo s, cl_wa s, s.2.2.1.2.2, t_r s, t_l s]) (tg_d (j := 5) (by decide) (by decide) (by first | decide | simp) (by first | rfl | skip)) (fun h B => ?_)
      refine ex_aload dL_law_498 rfl ?_
      refine ex_bipush (v := 12) dL_law_500 (by decide) ?_
      refine ex_iconst (v := 0) dL_law_502 (by decide) ?_
      refine ex_iastore dL_law_503 B.2.2.2 (by unfold vp_in; decide) ?_
      refine sx_t B (t' := tg (upd (t_a s) j ((((t_a s)) j) - (du d k (nI x)))) [s.2.2.1.1, s.2.2.1.2.1, (cl_la s + 1), (nI k + 1), cl_bu s, cl_lo s, cl_wa s, s.2.2.1.2.2, t_r s, 0]) (tg_d (j := 12) (by decide) (by decide) (by first | decide | simp) (by first | rfl | skip)) (fun h B => ?_)
      refine ex_iinc (d := 1) dL_law_504 rfl (by decide) ?_
      refine ex_goto (tgt := 352) dL_law_507 (by decide) ?_
      skip
      rw [nI_1]
      rw [cl_ly, if_pos z1] at e9
      refine ih (i + 1) (k + 1) _ h (by omega) z2 (by omega) ((td_of z3).trans htd) e9 ?_
      rw [z3, z4, hc]; exact B
    · obtain ⟨z1, z2, z3, z4⟩ := l2 hq
      rw [cl_ly, if_neg z1] at e9
      have hc2 := (p_I_c z2).1
      have fin : ∀ (h : mm_H), lb h sc d (c_s s) (tz_k s k) (70 + e) (80000 + 6 * e) → mm_Ex l G mm_law lw_QE 510 (lv_L 0 (nI y) (nI pcs) at0 (nI turn) u x9 x10 x11 (.int (nI j)) (.int (nI cells)) (.int (nI x)) (.int (nI i)) (.int (ho_mp (nI y)))) [] h := by
        intro h B
        have B2 : lb h sc d (c_s s) (t_f s (t_r s)) (70 + e) (80000 + 6 * e) := by unfold tz_k at B; rw [← hc] at B; exact B
        rw [← z3, ← z4] at B2
        exact lay_510 hl hj hx h1 h12 h100 hiv hn (show k ≤ 39 by omega) e9 (lb_k hc2 B2) (fun h B => K h _ k _ z2 (by omega) ((td_of z3).trans htd) (by unfold tz_k at B; rw [← hc2] at B; exact B))
      refine ex_iload dL_law_352 rfl ?_
      refine ex_iload dL_law_354 rfl ?_
      refine ex_icmp_ge (tgt := 510) dL_law_356 (by decide) (fun z => absurd z (nI_ge (by omega) (by omega))) (fun _ => ?_)
      refine ex_aload dL_law_359 rfl ?_
      refine ex_bipush (v := 6) dL_law_361 (by decide) ?_
      refine ex_ialv (v := nI k) dL_law_363 B.2.2.2 (by unfold vp_in; decide) (tg_c (j := 6) (by decide) (by decide) rfl) ?_
      refine ex_bipush (v := 50) dL_law_364 (by decide) ?_
      refine ex_icmp_ge (tgt := 510) dL_law_366 (by decide) (fun z => absurd z (nI_ge (b := 50) (by omega) (by decide))) (fun _ => ?_)
      refine ex_aload dL_law_369 rfl ?_
      refine ex_bipush (v := 6) dL_law_371 (by decide) ?_
      refine ex_ialv (v := nI k) dL_law_373 B.2.2.2 (by unfold vp_in; decide) (tg_c (j := 6) (by decide) (by decide) rfl) ?_
      refine ex_bipush (v := 40) dL_law_374 (by decide) ?_
      refine ex_icmp_ge (tgt := 510) dL_law_376 (by decide) (fun z => absurd z (nI_ge (b := 40) (by omega) (by decide))) (fun _ => ?_)
      refine ex_aload dL_law_379 rfl ?_
      refine cS_f dL_law_381 (mm_ks i_L_works l_L_36) ⟨(Nat.le_of_ble_eq_true rfl), (Nat.le_of_ble_eq_true rfl)⟩ (c_L_works B.2.2.2) rfl rfl (Nat.le_of_ble_eq_true rfl) rfl ?_
      refine ex_if_eq (tgt := 510) dL_law_384 (by decide) (fun c_384 => ?_) (fun c_384 => ?_)
      · exact fin h B
      · refine ex_aload dL_law_387 rfl ?_
        refine ex_iconst (v := 5) dL_law_389 (by decide) ?_
        refine ex_ialv (v := cl_la s) dL_law_390 B.2.2.2 (by unfold vp_in; decide) (tg_c (j := 5) (by decide) (by decide) rfl) ?_
        refine ex_bipush (v := 12) dL_law_391 (by decide) ?_
        refine ex_icmp_ge (tgt := 510) dL_law_393 (by decide) (fun c_393 => ?_) (fun c_393 => ?_)
        · exact fin h B
        · refine ex_aload dL_law_396 rfl ?_
          refine ex_bipush (v := 7) dL_law_398 (by decide) ?_
          refine ex_ialv (v := cl_bu s) dL_law_400 B.2.2.2 (by unfold vp_in; decide) (tg_c (j := 7) (by decide) (by decide) rfl) ?_
          refine ex_if_ne (tgt := 510) dL_law_401 (by decide) (fun c_401 => ?_) (fun c_401 => ?_)
          · exact fin h B
          · refine ex_aload dL_law_404 rfl ?_
            refine ex_iload dL_law_406 rfl ?_
            refine ex_ialv (v := ((t_a s)) j) dL_law_408 B.2.2.2 (vp_in_nI (by omega) (by decide)) (tg_k (j := j) (nI_clamp (by omega)) (by omega)) ?_
            refine ex_aload_n dL_law_409 rfl ?_
            refine ex_aload dL_law_410 rfl ?_
            refine ex_bipush (v := 6) dL_law_412 (by decide) ?_
            refine ex_ialv (v := nI k) dL_law_414 B.2.2.2 (by unfold vp_in; decide) (tg_c (j := 6) (by decide) (by decide) rfl) ?_
            refine ex_iload dL_law_415 rfl ?_
            refine cS_f dL_law_417 (mm_ks i_L_due l_L_50) ⟨(Nat.le_of_ble_eq_true rfl), (Nat.le_of_ble_eq_true rfl)⟩ (c_L_due B.2.1 k (by omega) _ rfl _) rfl rfl (Nat.le_of_ble_eq_true rfl) rfl ?_
            refine ex_icmp_lt (tgt := 510) dL_law_420 (by decide) (fun c_420 => ?_) (fun c_420 => ?_)
            · exact fin h B
            · refine ex_bipush (v := 12) dL_law_423 (by decide) ?_
              refine ex_iconst (v := 3) dL_law_425 (by decide) ?_
              refine ex_iload dL_law_426 rfl ?_
              refine ex_imul dL_law_428 ?_
              refine ex_isub dL_law_429 ?_
              refine ex_aload_n dL_law_430 rfl ?_
              refine ex_aload dL_law_431 rfl ?_
              refine ex_bipush (v := 6) dL_law_433 (by decide) ?_
              refine ex_ialv (v := nI k) dL_law_435 B.2.2.2 (by unfold vp_in; decide) (tg_c (j := 6) (by decide) (by decide) rfl) ?_
              refine cS_f dL_law_436 (mm_ks i_L_depth l_L_10) ⟨(Nat.le_of_ble_eq_true rfl), (Nat.le_of_ble_eq_true rfl)⟩ (c_L_depth B.2.1 k (by omega) _ rfl) rfl rfl (Nat.le_of_ble_eq_true rfl) rfl ?_
              refine ex_imul dL_law_439 ?_
              refine ex_bipush (v := 100) dL_law_440 (by decide) ?_
              refine ex_idiv dL_law_442 (by decide) ?_
              refine ex_iload dL_law_443 rfl ?_
              refine ex_icmp_gt (tgt := 510) dL_law_445 (by decide) (fun c_445 => ?_) (fun c_445 => ?_)
              · exact fin h B
              · exact absurd ⟨wo_k.mpr (Decidable.not_not.mp (fun z => c_384 (bb_f z))), Int32.not_le.mp c_393, c_401, Int32.not_lt.mp c_420, Int32.not_lt.mp c_445⟩ hq
theorem lw_lay (hl : l.stackTraces = false) {at0 : Int32} {x9 x11 x13 x14 x15 x16 : Value} {y10 : Int32} (hj : j < 3) (ht : turn < 60) {n : Nat} {s : cl_S} {d : Nat → Int32} {e k td : Nat} (he : e ≤ turn) (hn : n ≤ turn) (B : lb h s d (c_s s) (t_f s (t_r s)) (70 + e) (80000 + 6 * e)) (hI : p_I n s d y pcs k) (hk : k < 38) (htd : s.2.2.1.1 = nI td) (htd2 : td ≤ 3 * turn)
    (K : ∀ (h : mm_H) (x13 x14 x15 x16 : Value), lj y (turn + 1) pcs h → mm_Ex l G mm_law lw_QE 1158 (lv_L 0 (nI y) (nI pcs) at0 (nI turn) u x9 (.int y10) x11 (.int (nI j)) x13 x14 x15 x16) [] h) :
    mm_Ex l G mm_law lw_QE 289 (lv_L 0 (nI y) (nI pcs) at0 (nI turn) u x9 (.int y10) x11 (.int (nI j)) x13 x14 x15 x16) [] h := by
  obtain ⟨hc, hkp, hy, hbb⟩ := p_I_c hI
  have h100 : ¬ cl_ce s = 100 := by
    rw [hc]; exact fun z => absurd ((nI_eq (b := 100) (by omega) (by decide)).mp z) (by omega)
  refine ex_iconst (v := 1) dL_law_289 (by decide) ?_
  refine ex_iload dL_law_290 rfl ?_
  refine ex_bipush (v := 12) dL_law_292 (by decide) ?_
  refine cS_x dL_law_294 (mm_ks i_L_low l_L_78) ⟨(Nat.le_of_ble_eq_true rfl), (Nat.le_of_ble_eq_true rfl)⟩ (c_L_low _ 12 (by decide) (by decide) _ rfl) rfl rfl (Nat.le_of_ble_eq_true rfl) rfl ?_
  rintro _ h ⟨⟨q, hq, rfl⟩, rfl⟩
  refine ex_iadd dL_law_297 ?_
  rw [show 1 + nI q = nI (q + 1) from (Int32.add_comm _ _).trans (nI_1 q)]
  refine ex_istore dL_law_298 (Nat.le_of_ble_eq_true rfl) ?_
  refine ex_iload dL_law_300 rfl ?_
  refine ex_iconst (v := 4) dL_law_302 (by decide) ?_
  refine ex_ishr dL_law_303 ?_
  refine ex_bipush (v := 51) dL_law_304 (by decide) ?_
  refine cS_x dL_law_306 (mm_ks i_L_low l_L_78) ⟨(Nat.le_of_ble_eq_true rfl), (Nat.le_of_ble_eq_true rfl)⟩ (c_L_low _ 51 (by decide) (by decide) _ rfl) rfl rfl (Nat.le_of_ble_eq_true rfl) rfl ?_
  rintro _ h ⟨⟨x, hx, rfl⟩, rfl⟩
  refine ex_istore dL_law_309 (Nat.le_of_ble_eq_true rfl) ?_
  refine ex_iconst (v := 0) dL_law_311 (by decide) ?_
  refine ex_istore dL_law_312 (Nat.le_of_ble_eq_true rfl) ?_
  skip
  have K350 : ∀ v : Int32, v = ho_mp (nI y) → mm_Ex l G mm_law lw_QE 350 (lv_L 0 (nI y) (nI pcs) at0 (nI turn) u x9 (.int y10) x11 (.int (nI j)) (.int (nI (q + 1))) (.int (nI x)) (.int 0) x16) [.int v] h := by
    intro v hv
    subst hv
    refine ex_istore dL_law_350 (Nat.le_of_ble_eq_true rfl) ?_
    skip
    exact lay_loop hl hj (show x ≤ 50 by omega) (show 1 ≤ q + 1 by omega) (show q + 1 ≤ 12 by omega) h100 (p_I_iv hI) (by omega) (by omega) (fun h s k x15 hI2 hk2 htd3 B => K h _ _ _ _ ⟨n, s, d, e, k, td, by omega, by omega, B, hI2, hk2, htd3, by omega⟩) (q + 1) 0 k s h (Nat.zero_add _) hI (by omega) htd rfl B
  rcases (by omega : y = 0 ∨ y = 1 ∨ y = 2 ∨ y = 3) with hy4 | hy4 | hy4 | hy4
  · skip
    refine ex_iload dL_law_314 rfl ?_
    refine ex_if_ne (tgt := 324) dL_law_316 (by decide) (fun z => absurd (by rw [hy4]; rfl) z) (fun _ => ?_)
    refine ex_bipush (v := 60) dL_law_319 (by decide) ?_
    refine ex_goto (tgt := 350) dL_law_321 (by decide) ?_
    exact K350 _ (by rw [hy4]; decide)
  · skip
    refine ex_iload dL_law_314 rfl ?_
    refine ex_if_ne (tgt := 324) dL_law_316 (by decide) (fun _ => ?_) (fun z => absurd z (by rw [hy4]; decide))
    refine ex_iload dL_law_324 rfl ?_
    refine ex_iconst (v := 1) dL_law_326 (by decide) ?_
    refine ex_icmp_ne (tgt := 335) dL_law_327 (by decide) (fun z => absurd (by rw [hy4]; rfl) z) (fun _ => ?_)
    refine ex_bipush (v := 90) dL_law_330 (by decide) ?_
    refine ex_goto (tgt := 350) dL_law_332 (by decide) ?_
    exact K350 _ (by rw [hy4]; decide)
  · skip
    refine ex_iload dL_law_314 rfl ?_
    refine ex_if_ne (tgt := 324) dL_law_316 (by decide) (fun _ => ?_) (fun z => absurd z (by rw [hy4]; decide))
    refine ex_iload dL_law_324 rfl ?_
    refine ex_iconst (v := 1) dL_law_326 (by decide) ?_
    refine ex_icmp_ne (tgt := 335) dL_law_327 (by decide) (fun _ => ?_) (fun z => absurd z (by rw [hy4]; decide))
    refine ex_iload dL_law_335 rfl ?_
    refine ex_iconst (v := 2) dL_law_337 (by decide) ?_
    refine ex_icmp_ne (tgt := 347) dL_law_338 (by decide) (fun z => absurd (by rw [hy4]; rfl) z) (fun _ => ?_)
    refine ex_sipush (v := 150) dL_law_341 (by decide) ?_
    refine ex_goto (tgt := 350) dL_law_344 (by decide) ?_
    exact K350 _ (by rw [hy4]; decide)
  · skip
    refine ex_iload dL_law_314 rfl ?_
    refine ex_if_ne (tgt := 324) dL_law_316 (by decide) (fun _ => ?_) (fun z => absurd z (by rw [hy4]; decide))
    refine ex_iload dL_law_324 rfl ?_
    refine ex_iconst (v := 1) dL_law_326 (by decide) ?_
    refine ex_icmp_ne (tgt := 335) dL_law_327 (by decide) (fun _ => ?_) (fun z => absurd z (by rw [hy4]; decide))
    refine ex_iload dL_law_335 rfl ?_
    refine ex_iconst (v := 2) dL_law_337 (by decide) ?_
    refine ex_icmp_ne (tgt := 347) dL_law_338 (by decide) (fun _ => ?_) (fun z => absurd z (by rw [hy4]; decide))
    refine ex_sipush (v := 200) dL_law_347 (by decide) ?_
    exact K350 _ (by rw [hy4]; decide)
end E3
