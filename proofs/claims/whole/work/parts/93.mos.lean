/-! THE MODEL: feeding, working -/
theorem fa_b_app {r : tt_R} {L : List tt_R} {F : Bool} : ((F || decide (r.1 = 1)) || fa_b L) = (F || fa_b (r :: L)) := by
  rw [fa_b]
  by_cases e : r.1 = 1
  · rw [if_pos e, decide_eq_true e]; simp
  · rw [if_neg e, decide_eq_false e]; simp
section MOS
variable {l : Launch} {G : mm_G} {h0 h : mm_H} {m : mo_S} {s : cl_S} {n : Nat} {T L : List tt_R}
theorem x_X9_shunts {Q : mm_R → mm_H → Prop} (p : mo_P h0 h m) (hf : r_fau m L) (hL : L.length ≤ 4) (tv : Int32) : ∀ (f g : Int32), (∀ x, mm_Ex l G mX9_feeds Q 88 [.ref 29, .int tv, .int (fa_f L f), .int (fa_l L g), x] [] h) → mm_Ex l G mX9_feeds Q 12 [.ref 29, .int tv, .int f, .int g, .int (nI 0)] [] h := by
  refine lp_fwd L (fun i R => ∀ (f g : Int32), (∀ x, mm_Ex l G mX9_feeds Q 88 [.ref 29, .int tv, .int (fa_f R f), .int (fa_l R g), x] [] h) → mm_Ex l G mX9_feeds Q 12 [.ref 29, .int tv, .int f, .int g, .int (nI i)] [] h) ?_ ?_
  · intro f g k
    refine ex_iload dX9_feeds_12 rfl ?_
    refine ex_aload_n dX9_feeds_14 rfl ?_
    refine ex_getfield (v := .int (nI L.length)) dX9_feeds_15 g_X9_177 (mP_o p) (congrArg (fun z => some (Value.int z)) (hf.1)) ?_
    refine ex_icmp_ge (tgt := 88) dX9_feeds_18 (by decide) (fun _ => ?_) (fun z => absurd (Int32.le_refl _) z)
    exact k _
  · intro i r R hr hR hi ih f g k
    obtain ⟨d1, d2, d3, d4⟩ := hf.2 i r hr
    refine ex_iload dX9_feeds_12 rfl ?_
    refine ex_aload_n dX9_feeds_14 rfl ?_
    refine ex_getfield (v := .int (nI L.length)) dX9_feeds_15 g_X9_177 (mP_o p) (congrArg (fun z => some (Value.int z)) (hf.1)) ?_
    refine ex_icmp_ge (tgt := 88) dX9_feeds_18 (by decide) (fun z => absurd z (nI_ge hi (by omega))) (fun _ => ?_)
    refine ex_aload_n dX9_feeds_21 rfl ?_
    refine ex_getfield dX9_feeds_22 g_X9_77 (mP_o p) rfl ?_
    refine ex_iload dX9_feeds_25 rfl ?_
    refine ex_ialoadv (v := r.1) dX9_feeds_27 (mA_39 p) (by first | assumption | exact vp_in_nI (by omega) (by decide)) (mo_av d1 rfl (by omega)) ?_
    skip
    by_cases e : r.1 = 0
    rotate_left
    · skip
      refine ex_if_ne (tgt := 82) dX9_feeds_28 (by decide) (fun _ => ?_) (fun z => absurd z e)
      refine ex_iinc (d := 1) dX9_feeds_82 rfl (by decide) ?_
      refine ex_goto (tgt := 12) dX9_feeds_85 (by decide) ?_
      rw [nI_1]; exact ih _ _ (fun x => by have := k x; rw [fa_f, fa_l, if_neg e, if_neg e] at this; exact this)
    refine ex_if_ne (tgt := 82) dX9_feeds_28 (by decide) (fun z => absurd e z) (fun _ => ?_)
    skip
    refine mm_viaJ (if f = -1 then r.2.1 else if f ≤ r.2.1 then f else r.2.1) (pc' := 58) (ls' := [.ref 29, .int tv, .int f, .int g, .int (nI i)]) (st := []) ?_ (fun kk => ?_)
    · skip
      refine ex_istore_n dX9_feeds_58 (Nat.le_of_ble_eq_true rfl) ?_
      skip
      refine mm_viaJ (mx g r.2.1) (pc' := 81) (ls' := [.ref 29, .int tv, .int (if f = -1 then r.2.1 else if f ≤ r.2.1 then f else r.2.1), .int g, .int (nI i)]) (st := []) ?_ (fun kk => ?_)
      · skip
        refine ex_istore_n dX9_feeds_81 (Nat.le_of_ble_eq_true rfl) ?_
        refine ex_iinc (d := 1) dX9_feeds_82 rfl (by decide) ?_
        refine ex_goto (tgt := 12) dX9_feeds_85 (by decide) ?_
        rw [nI_1]; exact ih _ _ (fun x => by have := k x; rw [fa_f, fa_l, if_pos e, if_pos e] at this; by_cases z1 : f = -1; (rw [if_pos z1] at this ⊢; exact this); (rw [if_neg z1] at this ⊢; by_cases z2 : f ≤ r.2.1; (rw [if_pos z2] at this ⊢; exact this); (rw [if_neg z2] at this ⊢; exact this)))
      · skip
        refine ex_aload_n dX9_feeds_59 rfl ?_
        refine ex_getfield dX9_feeds_60 g_X9_80 (mP_o p) rfl ?_
        refine ex_iload dX9_feeds_63 rfl ?_
        refine ex_ialoadv (v := r.2.1) dX9_feeds_65 (mA_40 p) (by first | assumption | exact vp_in_nI (by omega) (by decide)) (mo_av d2 rfl (by omega)) ?_
        refine ex_iload_n dX9_feeds_66 rfl ?_
        refine ex_icmp_le (tgt := 80) dX9_feeds_67 (by decide) (fun c_67 => ?_) (fun c_67 => ?_)
        · refine ex_iload_n dX9_feeds_80 rfl ?_
          exact kk _ (by rw [mx, if_neg (Int32.not_lt.mpr c_67)])
        · refine ex_aload_n dX9_feeds_70 rfl ?_
          refine ex_getfield dX9_feeds_71 g_X9_80 (mP_o p) rfl ?_
          refine ex_iload dX9_feeds_74 rfl ?_
          refine ex_ialoadv (v := r.2.1) dX9_feeds_76 (mA_40 p) (by first | assumption | exact vp_in_nI (by omega) (by decide)) (mo_av d2 rfl (by omega)) ?_
          refine ex_goto (tgt := 81) dX9_feeds_77 (by decide) ?_
          exact kk _ (by rw [mx, if_pos (Int32.not_le.mp c_67)])
    · skip
      refine ex_iload_n dX9_feeds_31 rfl ?_
      refine ex_iconst (v := (-1)) dX9_feeds_32 (by decide) ?_
      refine ex_icmp_eq (tgt := 47) dX9_feeds_33 (by decide) (fun c_33 => ?_) (fun c_33 => ?_)
      · refine ex_aload_n dX9_feeds_47 rfl ?_
        refine ex_getfield dX9_feeds_48 g_X9_80 (mP_o p) rfl ?_
        refine ex_iload dX9_feeds_51 rfl ?_
        refine ex_ialoadv (v := r.2.1) dX9_feeds_53 (mA_40 p) (by first | assumption | exact vp_in_nI (by omega) (by decide)) (mo_av d2 rfl (by omega)) ?_
        refine ex_goto (tgt := 58) dX9_feeds_54 (by decide) ?_
        exact kk _ (by rw [if_pos c_33])
      · refine ex_aload_n dX9_feeds_36 rfl ?_
        refine ex_getfield dX9_feeds_37 g_X9_80 (mP_o p) rfl ?_
        refine ex_iload dX9_feeds_40 rfl ?_
        refine ex_ialoadv (v := r.2.1) dX9_feeds_42 (mA_40 p) (by first | assumption | exact vp_in_nI (by omega) (by decide)) (mo_av d2 rfl (by omega)) ?_
        refine ex_iload_n dX9_feeds_43 rfl ?_
        refine ex_icmp_ge (tgt := 57) dX9_feeds_44 (by decide) (fun c_44 => ?_) (fun c_44 => ?_)
        · refine ex_iload_n dX9_feeds_57 rfl ?_
          exact kk _ (by rw [if_neg c_33, if_pos c_44])
        · refine ex_aload_n dX9_feeds_47 rfl ?_
          refine ex_getfield dX9_feeds_48 g_X9_80 (mP_o p) rfl ?_
          refine ex_iload dX9_feeds_51 rfl ?_
          refine ex_ialoadv (v := r.2.1) dX9_feeds_53 (mA_40 p) (by first | assumption | exact vp_in_nI (by omega) (by decide)) (mo_av d2 rfl (by omega)) ?_
          refine ex_goto (tgt := 58) dX9_feeds_54 (by decide) ?_
          exact kk _ (by rw [if_neg c_33, if_neg c_44])
theorem c_X9_feeds (p : mo_P h0 h m) (r : r_all s m) (hi : iv n s) (hn : n ≤ 513) : mm_Ct l G mX9_feeds [.ref 29] h (mm_ri (.int (bb (cl_fed s = true))) h) := by
  obtain ⟨k, kp, lo, wa, mk, c, hx⟩ := hi
  have hW := hx.W hn
  have hN := hx.N
  have ht := hx.2.2.2.1.1
  have hm : cl_me s = nI (ln_N (s.1 2)) := hx.2.2.2.2.2.2.2.1
  have hfa := hx.2.2.2.2.2.2.2.2.2.1
  obtain ⟨r1, r2, r3, r4, r5, r6, r7, r8, r9, r10⟩ := id r
  obtain ⟨ok1, ok2, ok3⟩ := fa_f_ok (N := ln_N (s.1 2)) (s.1 4) (-1) (-1) (fun q hq => (hfa.2 q hq).2) (by omega) (Or.inl rfl) (Or.inl rfl) (fun z => z)
  have hda : ∀ q, q < 2 ^ 31 → ro_da (nI q) (s.1 2) 0 0 = nI (mo_dr 0 q (s.1 2) 0) := fun q hq => by
    have := ro_da_N hq (s.1 2) 0 0 ht (by omega)
    rw [Nat.zero_add] at this; exact this
  have hdb : ∀ q, q < 2 ^ 31 → ro_db (nI q) (s.1 2).reverse 0 (cl_me s) = nI (mo_db q (s.1 2) 0) := fun q hq => by
    have := ro_db_N (kp := kp) hq (s.1 2).reverse 0 (fun x hx => ht x (List.mem_reverse.mp hx)) (by rw [ln_N_rev]; omega)
    rw [ln_N_rev, List.reverse_reverse, Nat.zero_add, ← hm] at this; exact this
  refine mm_ct (by decide +kernel) (by decide +kernel) rfl (by simp [Value.category]) (Nat.le_of_ble_eq_true rfl) rfl ?_
  refine ex_aload_n dX9_feeds_0 rfl ?_
  refine cV_f dX9_feeds_1 (mm_kv i_X9_metres l_X9_160) ⟨(Nat.le_of_ble_eq_true rfl), (Nat.le_of_ble_eq_true rfl)⟩ (c_X9_metres p (T := s.1 2) r5 hW) rfl rfl (mP_o p) (Nat.le_of_ble_eq_true rfl) rfl ?_
  rw [ln_m0 hW]
  refine ex_istore_n dX9_feeds_4 (Nat.le_of_ble_eq_true rfl) ?_
  refine ex_iconst (v := (-1)) dX9_feeds_5 (by decide) ?_
  refine ex_istore_n dX9_feeds_6 (Nat.le_of_ble_eq_true rfl) ?_
  refine ex_iconst (v := (-1)) dX9_feeds_7 (by decide) ?_
  refine ex_istore_n dX9_feeds_8 (Nat.le_of_ble_eq_true rfl) ?_
  refine ex_iconst (v := 0) dX9_feeds_9 (by decide) ?_
  refine ex_istore dX9_feeds_10 (Nat.le_of_ble_eq_true rfl) ?_
  skip
  refine x_X9_shunts p r8 hfa.1 _ _ _ (fun x => ?_)
  rcases ok1 with y0 | ⟨q, hq, eq⟩
  · have hfe : cl_fed s = (decide (cl_ce s = 100) && decide (ro_da (cl_me s) (s.1 2) 0 0 ≤ cl_fa s + cl_fb s)) := by unfold cl_fed; rw [if_pos y0]
    rw [hfe, hm, hda _ (by omega)]
    refine ex_iload_n dX9_feeds_88 rfl ?_
    refine ex_iconst (v := (-1)) dX9_feeds_89 (by decide) ?_
    refine ex_icmp_ne (tgt := 124) dX9_feeds_90 (by decide) (fun z => absurd y0 z) (fun _ => ?_)
    refine ex_aload_n dX9_feeds_93 rfl ?_
    refine cV_f dX9_feeds_94 (mm_kv i_X9_liesAtB l_X9_149) ⟨(Nat.le_of_ble_eq_true rfl), (Nat.le_of_ble_eq_true rfl)⟩ (c_X9_liesAtB p) rfl rfl (mP_o p) (Nat.le_of_ble_eq_true rfl) rfl ?_
    refine ex_if_eq (tgt := 122) dX9_feeds_97 (by decide) (fun c_97 => ?_) (fun c_97 => ?_)
    · refine ex_iconst (v := 0) dX9_feeds_122 (by decide) ?_
      refine ex_ireturn dX9_feeds_123 ⟨_, rfl, (by first | rfl | exact bb_r)⟩ ?_
      exact bq_f (by rw [Bool.and_eq_true]; exact fun y => bb_0.mp c_97 (r6.1.trans (of_decide_eq_true y.1)))
    · refine ex_aload_n dX9_feeds_100 rfl ?_
      refine ex_iconst (v := 0) dX9_feeds_101 (by decide) ?_
      refine ex_iload_n dX9_feeds_102 rfl ?_
      refine cV_f dX9_feeds_103 (mm_kv i_X9_drops l_X9_244) ⟨(Nat.le_of_ble_eq_true rfl), (Nat.le_of_ble_eq_true rfl)⟩ (c_X9_drops p (T := s.1 2) r5 hW (by omega) (lo := 0) (hi := ln_N (s.1 2)) (by decide) (by omega) _ _ rfl rfl) rfl rfl (mP_o p) (Nat.le_of_ble_eq_true rfl) rfl ?_
      refine ex_aload_n dX9_feeds_106 rfl ?_
      refine ex_getfield (v := .int (cl_fa s)) dX9_feeds_107 g_X9_238 (mP_o p) (congrArg (fun z => some (Value.int z)) (r7.2.2.2.2.1)) ?_
      refine ex_aload_n dX9_feeds_110 rfl ?_
      refine ex_getfield (v := .int (cl_fb s)) dX9_feeds_111 g_X9_241 (mP_o p) (congrArg (fun z => some (Value.int z)) (r7.2.2.2.2.2)) ?_
      refine ex_iadd dX9_feeds_114 ?_
      refine ex_icmp_gt (tgt := 122) dX9_feeds_115 (by decide) (fun c_115 => ?_) (fun c_115 => ?_)
      · refine ex_iconst (v := 0) dX9_feeds_122 (by decide) ?_
        refine ex_ireturn dX9_feeds_123 ⟨_, rfl, (by first | rfl | exact bb_r)⟩ ?_
        exact bq_f (by rw [Bool.and_eq_true]; exact fun y => Int32.not_lt.mpr (of_decide_eq_true y.2) c_115)
      · refine ex_iconst (v := 1) dX9_feeds_118 (by decide) ?_
        refine ex_goto (tgt := 123) dX9_feeds_119 (by decide) ?_
        refine ex_ireturn dX9_feeds_123 ⟨_, rfl, (by first | rfl | exact bb_r)⟩ ?_
        exact bq_t (by rw [Bool.and_eq_true]; exact ⟨decide_eq_true (r6.1.symm.trans (bb_n.mp c_97)), decide_eq_true (Int32.not_lt.mp c_115)⟩)
  · have hne : ¬ fa_f (s.1 4) (-1) = -1 := fun z => absurd (show nI q < 0 by rw [← eq, z]; decide) (nI_pos (by omega))
    obtain ⟨q2, hq2, eq2⟩ := ok2.resolve_left (ok3 hne)
    have hfe : cl_fed s = (decide (cl_ce s = 100) && (decide (ro_da (fa_f (s.1 4) (-1)) (s.1 2) 0 0 ≤ cl_fa s) && decide (ro_db (fa_l (s.1 4) (-1)) (s.1 2).reverse 0 (cl_me s) ≤ cl_fb s))) := by unfold cl_fed; rw [if_neg hne]
    rw [hfe, eq, eq2, hda _ (by omega), hdb _ (by omega)]
    refine ex_iload_n dX9_feeds_88 rfl ?_
    refine ex_iconst (v := (-1)) dX9_feeds_89 (by decide) ?_
    refine ex_icmp_ne (tgt := 124) dX9_feeds_90 (by decide) (fun _ => ?_) (fun z => absurd z (fun z => hne (eq.trans z)))
    refine ex_aload_n dX9_feeds_124 rfl ?_
    refine cV_f dX9_feeds_125 (mm_kv i_X9_liesAtB l_X9_149) ⟨(Nat.le_of_ble_eq_true rfl), (Nat.le_of_ble_eq_true rfl)⟩ (c_X9_liesAtB p) rfl rfl (mP_o p) (Nat.le_of_ble_eq_true rfl) rfl ?_
    refine ex_if_eq (tgt := 161) dX9_feeds_128 (by decide) (fun c_128 => ?_) (fun c_128 => ?_)
    · refine ex_iconst (v := 0) dX9_feeds_161 (by decide) ?_
      refine ex_ireturn dX9_feeds_162 ⟨_, rfl, (by first | rfl | exact bb_r)⟩ ?_
      exact bq_f (by rw [Bool.and_eq_true]; exact fun y => bb_0.mp c_128 (r6.1.trans (of_decide_eq_true y.1)))
    · refine ex_aload_n dX9_feeds_131 rfl ?_
      refine ex_iconst (v := 0) dX9_feeds_132 (by decide) ?_
      refine ex_iload_n dX9_feeds_133 rfl ?_
      refine cV_f dX9_feeds_134 (mm_kv i_X9_drops l_X9_244) ⟨(Nat.le_of_ble_eq_true rfl), (Nat.le_of_ble_eq_true rfl)⟩ (c_X9_drops p (T := s.1 2) r5 hW (by omega) (lo := 0) (hi := q) (by decide) (by omega) _ _ rfl rfl) rfl rfl (mP_o p) (Nat.le_of_ble_eq_true rfl) rfl ?_
      refine ex_aload_n dX9_feeds_137 rfl ?_
      refine ex_getfield (v := .int (cl_fa s)) dX9_feeds_138 g_X9_238 (mP_o p) (congrArg (fun z => some (Value.int z)) (r7.2.2.2.2.1)) ?_
      refine ex_icmp_gt (tgt := 161) dX9_feeds_141 (by decide) (fun c_141 => ?_) (fun c_141 => ?_)
      · refine ex_iconst (v := 0) dX9_feeds_161 (by decide) ?_
        refine ex_ireturn dX9_feeds_162 ⟨_, rfl, (by first | rfl | exact bb_r)⟩ ?_
        exact bq_f (by rw [Bool.and_eq_true, Bool.and_eq_true]; exact fun y => Int32.not_lt.mpr (of_decide_eq_true y.2.1) c_141)
      · refine ex_aload_n dX9_feeds_144 rfl ?_
        refine ex_iload_n dX9_feeds_145 rfl ?_
        refine ex_iload_n dX9_feeds_146 rfl ?_
        refine cV_f dX9_feeds_147 (mm_kv i_X9_dropsBehind l_X9_247) ⟨(Nat.le_of_ble_eq_true rfl), (Nat.le_of_ble_eq_true rfl)⟩ (c_X9_dropsBehind p (T := s.1 2) r5 hW (by omega) (q := q2) (by omega) _ _ rfl rfl) rfl rfl (mP_o p) (Nat.le_of_ble_eq_true rfl) rfl ?_
        refine ex_aload_n dX9_feeds_150 rfl ?_
        refine ex_getfield (v := .int (cl_fb s)) dX9_feeds_151 g_X9_241 (mP_o p) (congrArg (fun z => some (Value.int z)) (r7.2.2.2.2.2)) ?_
        refine ex_icmp_gt (tgt := 161) dX9_feeds_154 (by decide) (fun c_154 => ?_) (fun c_154 => ?_)
        · refine ex_iconst (v := 0) dX9_feeds_161 (by decide) ?_
          refine ex_ireturn dX9_feeds_162 ⟨_, rfl, (by first | rfl | exact bb_r)⟩ ?_
          exact bq_f (by rw [Bool.and_eq_true, Bool.and_eq_true]; exact fun y => Int32.not_lt.mpr (of_decide_eq_true y.2.2) c_154)
        · refine ex_iconst (v := 1) dX9_feeds_157 (by decide) ?_
          refine ex_goto (tgt := 162) dX9_feeds_158 (by decide) ?_
          refine ex_ireturn dX9_feeds_162 ⟨_, rfl, (by first | rfl | exact bb_r)⟩ ?_
          exact bq_t (by rw [Bool.and_eq_true, Bool.and_eq_true]; exact ⟨decide_eq_true (r6.1.symm.trans (bb_n.mp c_128)), decide_eq_true (Int32.not_lt.mp c_141), decide_eq_true (Int32.not_lt.mp c_154)⟩)
theorem c_X9_worksNow (p : mo_P h0 h m) (r : r_all s m) (hi : iv n s) (hn : n ≤ 513) : mm_Ct l G mX9_worksNow [.ref 29] h (mm_ri (.int (bb (cl_wk s = true))) h) := by
  have hi2 := hi
  obtain ⟨k, kp, lo, wa, mk, c, hx⟩ := hi
  have hW := hx.W hn
  have hL : (s.1 4).length ≤ 4 := hx.2.2.2.2.2.2.2.2.2.1.1
  obtain ⟨r1, r2, r3, r4, r5, r6, r7, r8, r9, r10⟩ := id r
  have hend : ∀ x, mm_Ex l G mX9_worksNow (mm_ri (.int (bb (cl_wk s = true))) h) 38 [.ref 29, .int (bb (fa_b (s.1 4) = true)), x] [] h := by
    intro x
    refine ex_aload_n dX9_worksNow_38 rfl ?_
    refine cV_f dX9_worksNow_39 (mm_kv i_X9_liesAtB l_X9_149) ⟨(Nat.le_of_ble_eq_true rfl), (Nat.le_of_ble_eq_true rfl)⟩ (c_X9_liesAtB p) rfl rfl (mP_o p) (Nat.le_of_ble_eq_true rfl) rfl ?_
    refine ex_if_eq (tgt := 67) dX9_worksNow_42 (by decide) (fun c_42 => ?_) (fun c_42 => ?_)
    · refine ex_iconst (v := 0) dX9_worksNow_67 (by decide) ?_
      refine ex_ireturn dX9_worksNow_68 ⟨_, rfl, (by first | rfl | exact bb_r)⟩ ?_
      exact bq_f (by rw [cl_wk, Bool.and_eq_true, Bool.and_eq_true, Bool.and_eq_true, Bool.not_eq_true']; exact fun z => bb_0.mp c_42 (r6.1.trans (of_decide_eq_true z.1)))
    · refine ex_iload_n dX9_worksNow_45 rfl ?_
      refine ex_if_ne (tgt := 67) dX9_worksNow_46 (by decide) (fun c_46 => ?_) (fun c_46 => ?_)
      · refine ex_iconst (v := 0) dX9_worksNow_67 (by decide) ?_
        refine ex_ireturn dX9_worksNow_68 ⟨_, rfl, (by first | rfl | exact bb_r)⟩ ?_
        exact bq_f (by rw [cl_wk, Bool.and_eq_true, Bool.and_eq_true, Bool.and_eq_true, Bool.not_eq_true']; exact fun z => Bool.false_ne_true (z.2.1.symm.trans (bb_n.mp c_46)))
      · refine ex_aload_n dX9_worksNow_49 rfl ?_
        refine cV_f dX9_worksNow_50 (mm_kv i_X9_feeds l_X9_253) ⟨(Nat.le_of_ble_eq_true rfl), (Nat.le_of_ble_eq_true rfl)⟩ (c_X9_feeds p r hi2 hn) rfl rfl (mP_o p) (Nat.le_of_ble_eq_true rfl) rfl ?_
        refine ex_if_eq (tgt := 67) dX9_worksNow_53 (by decide) (fun c_53 => ?_) (fun c_53 => ?_)
        · refine ex_iconst (v := 0) dX9_worksNow_67 (by decide) ?_
          refine ex_ireturn dX9_worksNow_68 ⟨_, rfl, (by first | rfl | exact bb_r)⟩ ?_
          exact bq_f (by rw [cl_wk, Bool.and_eq_true, Bool.and_eq_true, Bool.and_eq_true, Bool.not_eq_true']; exact fun z => bb_0.mp c_53 z.2.2.1)
        · refine ex_aload_n dX9_worksNow_56 rfl ?_
          refine cV_f dX9_worksNow_57 (mm_kv i_X9_marginOf l_X9_256) ⟨(Nat.le_of_ble_eq_true rfl), (Nat.le_of_ble_eq_true rfl)⟩ (c_X9_marginOf p r hW) rfl rfl (mP_o p) (Nat.le_of_ble_eq_true rfl) rfl ?_
          refine ex_if_lt (tgt := 67) dX9_worksNow_60 (by decide) (fun c_60 => ?_) (fun c_60 => ?_)
          · refine ex_iconst (v := 0) dX9_worksNow_67 (by decide) ?_
            refine ex_ireturn dX9_worksNow_68 ⟨_, rfl, (by first | rfl | exact bb_r)⟩ ?_
            exact bq_f (by rw [cl_wk, Bool.and_eq_true, Bool.and_eq_true, Bool.and_eq_true, Bool.not_eq_true']; exact fun z => Int32.not_lt.mpr (of_decide_eq_true z.2.2.2) c_60)
          · refine ex_iconst (v := 1) dX9_worksNow_63 (by decide) ?_
            refine ex_goto (tgt := 68) dX9_worksNow_64 (by decide) ?_
            refine ex_ireturn dX9_worksNow_68 ⟨_, rfl, (by first | rfl | exact bb_r)⟩ ?_
            exact bq_t (by rw [cl_wk, Bool.and_eq_true, Bool.and_eq_true, Bool.and_eq_true, Bool.not_eq_true']; exact ⟨decide_eq_true (r6.1.symm.trans (bb_n.mp c_42)), (Bool.eq_false_or_eq_true (fa_b (s.1 4))).resolve_left (bb_0.mp c_46), bb_n.mp c_53, decide_eq_true (Int32.not_lt.mp c_60)⟩)
  have key : ∀ F : Bool, (∀ x, mm_Ex l G mX9_worksNow (mm_ri (.int (bb (cl_wk s = true))) h) 38 [.ref 29, .int (bb ((F || fa_b (s.1 4)) = true)), x] [] h) → mm_Ex l G mX9_worksNow (mm_ri (.int (bb (cl_wk s = true))) h) 4 [.ref 29, .int (bb (F = true)), .int (nI 0)] [] h := by
    refine lp_fwd (s.1 4) (fun i R => ∀ F : Bool, (∀ x, mm_Ex l G mX9_worksNow (mm_ri (.int (bb (cl_wk s = true))) h) 38 [.ref 29, .int (bb ((F || fa_b R) = true)), x] [] h) → mm_Ex l G mX9_worksNow (mm_ri (.int (bb (cl_wk s = true))) h) 4 [.ref 29, .int (bb (F = true)), .int (nI i)] [] h) ?_ ?_
    · intro F k
      refine ex_iload_n dX9_worksNow_4 rfl ?_
      refine ex_aload_n dX9_worksNow_5 rfl ?_
      refine ex_getfield (v := .int (nI (s.1 4).length)) dX9_worksNow_6 g_X9_177 (mP_o p) (congrArg (fun z => some (Value.int z)) (r8.1)) ?_
      refine ex_icmp_ge (tgt := 38) dX9_worksNow_9 (by decide) (fun _ => ?_) (fun z => absurd (Int32.le_refl _) z)
      have := k (.int (nI (s.1 4).length)); rw [fa_b, Bool.or_false] at this; exact this
    · intro i q R hq hR hi ih F k
      obtain ⟨d1, d2, d3, d4⟩ := r8.2 i q hq
      refine ex_iload_n dX9_worksNow_4 rfl ?_
      refine ex_aload_n dX9_worksNow_5 rfl ?_
      refine ex_getfield (v := .int (nI (s.1 4).length)) dX9_worksNow_6 g_X9_177 (mP_o p) (congrArg (fun z => some (Value.int z)) (r8.1)) ?_
      refine ex_icmp_ge (tgt := 38) dX9_worksNow_9 (by decide) (fun z => absurd z (nI_ge hi (by omega))) (fun _ => ?_)
      skip
      refine mm_via (p := (F || decide (q.1 = 1)) = true) (pc' := 31) (ls' := [.ref 29, .int (bb (F = true)), .int (nI i)]) (st := []) (fun b hb => ?_) (fun kk => ?_)
      · skip
        refine ex_istore_n dX9_worksNow_31 (Nat.le_of_ble_eq_true rfl) ?_
        refine ex_iinc (d := 1) dX9_worksNow_32 rfl (by decide) ?_
        refine ex_goto (tgt := 4) dX9_worksNow_35 (by decide) ?_
        rw [nI_1, hb]; exact ih _ (fun x => by rw [fa_b_app]; exact k x)
      · skip
        refine ex_iload_n dX9_worksNow_12 rfl ?_
        refine ex_if_ne (tgt := 26) dX9_worksNow_13 (by decide) (fun c_13 => ?_) (fun c_13 => ?_)
        · refine ex_iconst (v := 1) dX9_worksNow_26 (by decide) ?_
          refine ex_goto (tgt := 31) dX9_worksNow_27 (by decide) ?_
          exact kk _ (bb_t (by rw [bb_n.mp c_13, Bool.true_or])).symm
        · refine ex_aload_n dX9_worksNow_16 rfl ?_
          refine ex_getfield dX9_worksNow_17 g_X9_77 (mP_o p) rfl ?_
          refine ex_iload_n dX9_worksNow_20 rfl ?_
          refine ex_ialoadv (v := q.1) dX9_worksNow_21 (mA_39 p) (by first | assumption | exact vp_in_nI (by omega) (by decide)) (mo_av d1 rfl (by omega)) ?_
          refine ex_iconst (v := 1) dX9_worksNow_22 (by decide) ?_
          refine ex_icmp_ne (tgt := 30) dX9_worksNow_23 (by decide) (fun c_23 => ?_) (fun c_23 => ?_)
          · refine ex_iconst (v := 0) dX9_worksNow_30 (by decide) ?_
            exact kk _ (bb_f (by rw [decide_eq_false c_23, Bool.or_false]; exact bb_0.mp c_13)).symm
          · refine ex_iconst (v := 1) dX9_worksNow_26 (by decide) ?_
            refine ex_goto (tgt := 31) dX9_worksNow_27 (by decide) ?_
            exact kk _ (bb_t (by rw [decide_eq_true c_23, Bool.or_true])).symm
  refine mm_ct (by decide +kernel) (by decide +kernel) rfl (by simp [Value.category]) (Nat.le_of_ble_eq_true rfl) rfl ?_
  refine ex_iconst (v := 0) dX9_worksNow_0 (by decide) ?_
  refine ex_istore_n dX9_worksNow_1 (Nat.le_of_ble_eq_true rfl) ?_
  refine ex_iconst (v := 0) dX9_worksNow_2 (by decide) ?_
  refine ex_istore_n dX9_worksNow_3 (Nat.le_of_ble_eq_true rfl) ?_
  exact key false (fun x => by rw [Bool.false_or]; exact hend x)
theorem c_X9_isFed (p : mo_P h0 h m) (r : r_all s m) (hi : iv n s) (hn : n ≤ 513) : mm_Ct l G mX9_isFed [.ref 29] h (mo_Zq h0 (bb (cl_fed s = true)) s) := by
  refine mm_ct (by decide +kernel) (by decide +kernel) rfl (by simp [Value.category]) (Nat.le_of_ble_eq_true rfl) rfl ?_
  refine ex_aload_n dX9_isFed_0 rfl ?_
  refine ex_iconst (v := 0) dX9_isFed_1 (by decide) ?_
  refine ex_put dX9_isFed_2 p_X9_120 (mP_o p) (Nat.le_of_ble_eq_true rfl) (fun z => nomatch z) (mm_fi _) ?_
  refine mk_0 p (fun h2 p2 => ?_)
  refine ex_aload_n dX9_isFed_5 rfl ?_
  refine cV_f dX9_isFed_6 (mm_kv i_X9_feeds l_X9_253) ⟨(Nat.le_of_ble_eq_true rfl), (Nat.le_of_ble_eq_true rfl)⟩ (c_X9_feeds p2 (s := s) r hi hn) rfl rfl (mP_o p2) (Nat.le_of_ble_eq_true rfl) rfl ?_
  refine ex_ireturn dX9_isFed_9 ⟨_, rfl, (by first | rfl | exact bb_r)⟩ ?_
  exact ⟨_, rfl, _, p2, r, rfl⟩
theorem c_X9_works (p : mo_P h0 h m) (r : r_all s m) (hi : iv n s) (hn : n ≤ 513) : mm_Ct l G mX9_works [.ref 29] h (mo_Zq h0 (bb (cl_wk s = true)) s) := by
  refine mm_ct (by decide +kernel) (by decide +kernel) rfl (by simp [Value.category]) (Nat.le_of_ble_eq_true rfl) rfl ?_
  refine ex_aload_n dX9_works_0 rfl ?_
  refine ex_iconst (v := 0) dX9_works_1 (by decide) ?_
  refine ex_put dX9_works_2 p_X9_120 (mP_o p) (Nat.le_of_ble_eq_true rfl) (fun z => nomatch z) (mm_fi _) ?_
  refine mk_0 p (fun h2 p2 => ?_)
  refine ex_aload_n dX9_works_5 rfl ?_
  refine cV_f dX9_works_6 (mm_kv i_X9_worksNow l_X9_259) ⟨(Nat.le_of_ble_eq_true rfl), (Nat.le_of_ble_eq_true rfl)⟩ (c_X9_worksNow p2 (s := s) r hi hn) rfl rfl (mP_o p2) (Nat.le_of_ble_eq_true rfl) rfl ?_
  refine ex_ireturn dX9_works_9 ⟨_, rfl, (by first | rfl | exact bb_r)⟩ ?_
  exact ⟨_, rfl, _, p2, r, rfl⟩
end MOS
