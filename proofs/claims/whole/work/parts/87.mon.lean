/-! THE MODEL: nets, repeaters, links told -/
theorem r_rows.set3 {a0 a1 a2 a3 : Nat → Int32} {L : List tt_R} (h : r_rows a0 a1 a2 a3 L) {j : Nat} {r : tt_R} (hr : L[j]? = some r) (v : Int32) : r_rows a0 a1 a2 (upd a3 j v) (L.set j (tt_s r 3 v)) := by
  intro i q hq
  by_cases e : j = i
  · subst e
    rw [List.getElem?_set_self (List.getElem?_eq_some_iff.mp hr).1] at hq
    cases hq
    have := h j r hr
    exact ⟨this.1, this.2.1, this.2.2.1, pk_us⟩
  · rw [List.getElem?_set_ne e] at hq
    have := h i q hq
    exact ⟨this.1, this.2.1, this.2.2.1, (pk_un (fun z => e z.symm)).trans this.2.2.2⟩
section MON
variable {l : Launch} {G : mm_G} {h0 h : mm_H} {m : mo_S} {s : cl_S} {n : Nat} {T L : List tt_R}
theorem c_X9_net (p : mo_P h0 h m) (r : r_all s m) (hi : iv n s) (hn : n ≤ 513) (i : Int32) : mm_Ct l G mX9_net [.ref 29, .int i] h (mo_Z h0 cx_a cx_s (cm_net s i)) := by
  obtain ⟨k, kp, lo, wa, mk, c, hx⟩ := hi
  have hW := hx.W hn
  have hN := hx.N
  have hm : cl_me s = nI (ln_N (s.1 2)) := hx.2.2.2.2.2.2.2.1
  have hL : (s.1 4).length ≤ 4 := hx.2.2.2.2.2.2.2.2.2.1.1
  have hce : cl_ce s = nI k := hx.1.1
  have hk100 : k ≤ 100 := hx.1.2.1
  have r8 := r.2.2.2.2.2.2.2.1
  refine mm_ct (by decide +kernel) (by decide +kernel) rfl (by simp [Value.category]) (Nat.le_of_ble_eq_true rfl) rfl ?_
  refine mm_viaJ (if ii i 0 99 then (if nI (s.1 4).length < 4 then 0 else 2) else 1) (pc' := 25) (ls' := [.ref 29, .int i, .null, .null]) (st := [.ref 29]) ?_ (fun kk => ?_)
  · skip
    refine ex_put dX9_net_25 p_X9_120 (mP_o p) (Nat.le_of_ble_eq_true rfl) (fun z => nomatch z) (mm_fi _) ?_
    refine mk_0 p (fun h25 p25 => ?_)
    skip
    unfold cm_net
    by_cases h1 : ii i 0 99
    rotate_left
    · rw [if_neg h1] at p25
      rw [if_neg h1]
      refine ex_aload_n dX9_net_28 rfl ?_
      refine ex_getfield (v := .int (1)) dX9_net_29 g_X9_120 (mP_o p25) (congrArg (fun z => some (Value.int z)) (rfl)) ?_
      refine ex_if_gt (tgt := 43) dX9_net_32 (by decide) (fun _ => ?_) (fun z => absurd (by decide) z)
      refine ex_iconst (v := 0) dX9_net_43 (by decide) ?_
      refine ex_ireturn dX9_net_44 ⟨_, rfl, (by first | rfl | exact bb_r)⟩ ?_
      exact ⟨_, rfl, _, p25, r, ⟨Or.inl ⟨rfl, rfl⟩, _, rfl⟩⟩
    rw [if_pos h1] at p25
    rw [if_pos h1]
    by_cases h2 : nI (s.1 4).length < 4
    rotate_left
    · rw [if_neg h2] at p25
      rw [if_neg h2]
      refine ex_aload_n dX9_net_28 rfl ?_
      refine ex_getfield (v := .int (2)) dX9_net_29 g_X9_120 (mP_o p25) (congrArg (fun z => some (Value.int z)) (rfl)) ?_
      refine ex_if_gt (tgt := 43) dX9_net_32 (by decide) (fun _ => ?_) (fun z => absurd (by decide) z)
      refine ex_iconst (v := 0) dX9_net_43 (by decide) ?_
      refine ex_ireturn dX9_net_44 ⟨_, rfl, (by first | rfl | exact bb_r)⟩ ?_
      exact ⟨_, rfl, _, p25, r, ⟨Or.inr ⟨rfl, rfl⟩, _, rfl⟩⟩
    rw [if_pos h2] at p25
    rw [if_pos h2]
    have hL4 : (s.1 4).length < 4 := (nI_ltI (b := 4) (by omega) (by decide)).mp h2
    obtain ⟨j, hj, rfl⟩ := ii_nI h1
    have ej : (nI j).toNatClampNeg = j := nI_clamp (by omega)
    by_cases h3 : cl_ce s ≤ nI j
    · rw [if_pos h3]
      refine ex_aload_n dX9_net_28 rfl ?_
      refine ex_getfield (v := .int (0)) dX9_net_29 g_X9_120 (mP_o p25) (congrArg (fun z => some (Value.int z)) (rfl)) ?_
      refine ex_if_gt (tgt := 43) dX9_net_32 (by decide) (fun z => absurd z (by decide)) (fun _ => ?_)
      refine ex_iload_n dX9_net_35 rfl ?_
      refine ex_aload_n dX9_net_36 rfl ?_
      refine ex_getfield (v := .int (cl_ce s)) dX9_net_37 g_X9_135 (mP_o p25) (congrArg (fun z => some (Value.int z)) (r.2.2.2.2.2.1.1)) ?_
      refine ex_icmp_lt (tgt := 45) dX9_net_40 (by decide) (fun z => absurd z (Int32.not_lt.mpr h3)) (fun _ => ?_)
      refine ex_iconst (v := 0) dX9_net_43 (by decide) ?_
      refine ex_ireturn dX9_net_44 ⟨_, rfl, (by first | rfl | exact bb_r)⟩ ?_
      exact ⟨_, rfl, _, p25, r, rfl, rfl⟩
    rw [if_neg h3]
    have hjk : j < k := by rw [hce] at h3; exact (nI_ltI (by omega) (by omega)).mp (Int32.not_le.mp h3)
    have hcs := cs_le hx hjk
    have hmid : cl_nm s (nI j) = nI (cs c j + c j / 2) := by
      unfold cl_nm
      rw [ej, bs_cs hx j (by omega), ro_mi_nI hj, hx.2.2.2.2.1.1 j hjk, show (2 : Int32) = nI 2 from rfl, pk_div (by omega) (by decide) (by decide), nI_add]
    rw [hmid, tyAt_ta hx (by omega)]
    refine ex_aload_n dX9_net_28 rfl ?_
    refine ex_getfield (v := .int (0)) dX9_net_29 g_X9_120 (mP_o p25) (congrArg (fun z => some (Value.int z)) (rfl)) ?_
    refine ex_if_gt (tgt := 43) dX9_net_32 (by decide) (fun z => absurd z (by decide)) (fun _ => ?_)
    refine ex_iload_n dX9_net_35 rfl ?_
    refine ex_aload_n dX9_net_36 rfl ?_
    refine ex_getfield (v := .int (cl_ce s)) dX9_net_37 g_X9_135 (mP_o p25) (congrArg (fun z => some (Value.int z)) (r.2.2.2.2.2.1.1)) ?_
    refine ex_icmp_lt (tgt := 45) dX9_net_40 (by decide) (fun _ => ?_) (fun z => absurd (Int32.not_le.mp h3) z)
    refine ex_aload_n dX9_net_45 rfl ?_
    refine ex_iload_n dX9_net_46 rfl ?_
    refine cV_f dX9_net_47 (mm_kv i_X9_begins l_X9_266) ⟨(Nat.le_of_ble_eq_true rfl), (Nat.le_of_ble_eq_true rfl)⟩ (c_X9_begins p25 r.2.2.2.2.2.1.2 (show j ≤ 100 by omega) _ rfl) rfl rfl (mP_o p25) (Nat.le_of_ble_eq_true rfl) rfl ?_
    refine ex_aload_n dX9_net_50 rfl ?_
    refine ex_getfield dX9_net_51 g_X9_74 (mP_o p25) rfl ?_
    refine ex_iload_n dX9_net_54 rfl ?_
    refine ex_ialoadv (v := s.2.2.2.2.1.1 j) dX9_net_55 (mA_32 p25) (by first | assumption | exact vp_in_nI (by omega) (by decide)) (mo_av (congrFun r.2.2.2.2.2.1.2 j) rfl (by omega)) ?_
    refine ex_iconst (v := 2) dX9_net_56 (by decide) ?_
    refine ex_idiv dX9_net_57 (by decide) ?_
    refine ex_iadd dX9_net_58 ?_
    skip
    rw [bs_cs hx j (by omega), hx.2.2.2.2.1.1 j hjk, show nI (c j) / 2 = nI (c j / 2) from pk_div (by omega) (by decide : 0 < 2) (by decide), nI_add]
    refine mm_via (p := se_d s.2.1 (nI j) < 300 ∧ 2 ≤ ln_ta s.2.2.2.1.1 (s.1 2) (cs c j + c j / 2)) (pc' := 85) (ls' := [.ref 29, .int (nI j), .int (nI (cs c j + c j / 2)), .null]) (st := []) (fun b hb => ?_) (fun kk => ?_)
    · by_cases hd : se_d s.2.1 (nI j) < 300 ∧ 2 ≤ ln_ta s.2.2.2.1.1 (s.1 2) (cs c j + c j / 2)
      · rw [bb_t hd] at hb
        subst hb
        rw [if_neg (Int32.not_le.mpr hd.1), if_neg (Int32.not_lt.mpr hd.2)]
        refine ex_istore_n dX9_net_85 (Nat.le_of_ble_eq_true rfl) ?_
        refine ex_iload_n dX9_net_86 rfl ?_
        refine ex_if_eq (tgt := 96) dX9_net_87 (by decide) (fun z => absurd z (by decide)) (fun _ => ?_)
        refine ex_aload_n dX9_net_90 rfl ?_
        refine ex_iconst (v := 1) dX9_net_91 (by decide) ?_
        refine ex_iload_n dX9_net_92 rfl ?_
        refine cV_y dX9_net_93 (mm_kv i_X9_comes l_X9_262) ⟨(Nat.le_of_ble_eq_true rfl), (Nat.le_of_ble_eq_true rfl)⟩ (c_X9_comes p25 (m := mo_sf m 0 0) (T := s.1 2) r.2.2.2.2.1 hW (L := s.1 4) r8 hL4 _ _) rfl rfl (mP_o p25) (Nat.le_of_ble_eq_true rfl) rfl ?_
        rintro h93 ⟨m9, p93, f9, q9⟩
        refine ex_iload_n dX9_net_96 rfl ?_
        refine ex_ireturn dX9_net_97 ⟨_, rfl, (by first | rfl | exact bb_r)⟩ ?_
        exact ⟨_, rfl, m9, p93, by rw [show cl_me s = ln_m (s.1 2) 0 by rw [ln_m0 hW, hm]]; exact r_fault (m := mo_sf m 0 0) r f9 q9, f9.1 0 rfl, rfl⟩
      · rw [bb_f hd] at hb
        subst hb
        have hz : (if 300 ≤ se_d s.2.1 (nI j) then ((Sum.inl (some 0), s) : cl_R × cl_S) else if ln_ta s.2.2.2.1.1 (s.1 2) (cs c j + c j / 2) < 2 then (.inl (some 0), s) else (.inl (some 1), va_up s.1 4 (s.1 4 ++ [(1, nI (cs c j + c j / 2), 0, cl_me s)]), s.2)) = (.inl (some 0), s) := by
          by_cases g1 : 300 ≤ se_d s.2.1 (nI j)
          · rw [if_pos g1]
          · rw [if_neg g1]
            by_cases g2 : ln_ta s.2.2.2.1.1 (s.1 2) (cs c j + c j / 2) < 2
            · rw [if_pos g2]
            · exact absurd ⟨Int32.not_le.mp g1, Int32.not_lt.mp g2⟩ hd
        refine ex_istore_n dX9_net_85 (Nat.le_of_ble_eq_true rfl) ?_
        refine ex_iload_n dX9_net_86 rfl ?_
        refine ex_if_eq (tgt := 96) dX9_net_87 (by decide) (fun _ => ?_) (fun z => absurd rfl z)
        refine ex_iload_n dX9_net_96 rfl ?_
        refine ex_ireturn dX9_net_97 ⟨_, rfl, (by first | rfl | exact bb_r)⟩ ?_
        exact ⟨_, rfl, _, p25, by rw [hz]; exact r, by rw [hz]; exact ⟨rfl, rfl⟩⟩
    · skip
      refine ex_istore_n dX9_net_59 (Nat.le_of_ble_eq_true rfl) ?_
      refine ex_aload_n dX9_net_60 rfl ?_
      refine ex_iload_n dX9_net_61 rfl ?_
      refine cV_f dX9_net_62 (mm_kv i_X9_depthOf l_X9_127) ⟨(Nat.le_of_ble_eq_true rfl), (Nat.le_of_ble_eq_true rfl)⟩ (c_X9_depthOf p25 r.1 hj) rfl rfl (mP_o p25) (Nat.le_of_ble_eq_true rfl) rfl ?_
      refine ex_sipush (v := 300) dX9_net_65 (by decide) ?_
      refine ex_icmp_ge (tgt := 84) dX9_net_68 (by decide) (fun c_68 => ?_) (fun c_68 => ?_)
      · refine ex_iconst (v := 0) dX9_net_84 (by decide) ?_
        exact kk _ (bb_f (fun z => Int32.not_lt.mpr c_68 z.1)).symm
      · refine ex_aload_n dX9_net_71 rfl ?_
        refine ex_iload_n dX9_net_72 rfl ?_
        refine cV_f dX9_net_73 (mm_kv i_X9_typeAt l_X9_200) ⟨(Nat.le_of_ble_eq_true rfl), (Nat.le_of_ble_eq_true rfl)⟩ (c_X9_typeAt p25 (T := s.1 2) r.2.2.2.2.1 hW (types := s.2.2.2.1.1) r.2.2.1.2.1 (by omega) (show cs c j + c j / 2 < 2 ^ 31 by omega) _ rfl) rfl rfl (mP_o p25) (Nat.le_of_ble_eq_true rfl) rfl ?_
        refine ex_iconst (v := 2) dX9_net_76 (by decide) ?_
        refine ex_icmp_lt (tgt := 84) dX9_net_77 (by decide) (fun c_77 => ?_) (fun c_77 => ?_)
        · refine ex_iconst (v := 0) dX9_net_84 (by decide) ?_
          exact kk _ (bb_f (fun z => Int32.not_lt.mpr z.2 c_77)).symm
        · refine ex_iconst (v := 1) dX9_net_80 (by decide) ?_
          refine ex_goto (tgt := 85) dX9_net_81 (by decide) ?_
          exact kk _ (bb_t ⟨Int32.not_le.mp c_68, Int32.not_lt.mp c_77⟩).symm
  · skip
    refine ex_aload_n dX9_net_0 rfl ?_
    refine ex_iload_n dX9_net_1 rfl ?_
    refine cS_f dX9_net_2 (mm_ks i_X9_isCell l_X9_131) ⟨(Nat.le_of_ble_eq_true rfl), (Nat.le_of_ble_eq_true rfl)⟩ (c_X9_isCell _) rfl rfl (Nat.le_of_ble_eq_true rfl) rfl ?_
    refine ex_if_ne (tgt := 12) dX9_net_5 (by decide) (fun c_5 => ?_) (fun c_5 => ?_)
    · refine ex_aload_n dX9_net_12 rfl ?_
      refine ex_getfield (v := .int (nI (s.1 4).length)) dX9_net_13 g_X9_177 (mP_o p) (congrArg (fun z => some (Value.int z)) (r8.1)) ?_
      refine ex_iconst (v := 4) dX9_net_16 (by decide) ?_
      refine ex_icmp_ne (tgt := 24) dX9_net_17 (by decide) (fun c_17 => ?_) (fun c_17 => ?_)
      · refine ex_iconst (v := 0) dX9_net_24 (by decide) ?_
        exact kk _ (by rw [if_pos (bb_n.mp c_5), if_pos (show nI (s.1 4).length < 4 from nI_lt (b := 4) (by rcases Nat.lt_or_ge (s.1 4).length 4 with z | z; exact z; exact absurd (by rw [show (s.1 4).length = 4 by omega]; rfl) c_17) (by decide))])
      · refine ex_iconst (v := 2) dX9_net_20 (by decide) ?_
        refine ex_goto (tgt := 25) dX9_net_21 (by decide) ?_
        exact kk _ (by rw [if_pos (bb_n.mp c_5), if_neg (by rw [c_17]; decide)])
    · refine ex_iconst (v := 1) dX9_net_8 (by decide) ?_
      refine ex_goto (tgt := 25) dX9_net_9 (by decide) ?_
      exact kk _ (by rw [if_neg (bb_0.mp c_5)])
theorem c_X9_repeater (p : mo_P h0 h m) (r : r_all s m) (hi : iv n s) (hn : n ≤ 513) : mm_Ct l G mX9_repeater [.ref 29] h (mo_Z h0 cx_s cx_a (cm_repeater s)) := by
  obtain ⟨k, kp, lo, wa, mk, c, hx⟩ := hi
  have hW := hx.W hn
  have hm : cl_me s = nI (ln_N (s.1 2)) := hx.2.2.2.2.2.2.2.1
  have hTl : (s.1 2).length ≤ 7000 := by have := hx.2.2.2.1.2; have := hx.1.2.1; omega
  have hl := r.2.2.2.2.1
  refine mm_ct (by decide +kernel) (by decide +kernel) rfl (by simp [Value.category]) (Nat.le_of_ble_eq_true rfl) rfl ?_
  refine mm_via (p := 0 < cl_me s ∧ cl_bu s = 0 ∧ ¬ ro_lk (s.1 2) = 2) (pc' := 34) (ls' := [.ref 29, .null]) (st := []) (fun b hb => ?_) (fun k => ?_)
  · unfold cm_repeater
    show mm_Ex l G mX9_repeater (mo_Z h0 cx_s cx_a (if 0 < cl_me s ∧ cl_bu s = 0 ∧ ¬ ro_lk (s.1 2) = 2 then (.inl (some (ro_n 2 (s.1 2 ++ [(2, -1, -1, 0)]) 0)), va_up s.1 2 (s.1 2 ++ [(2, -1, -1, 0)]), s.2) else (.inr cx_s, s))) _ _ _ _
    by_cases h1 : 0 < cl_me s ∧ cl_bu s = 0 ∧ ¬ ro_lk (s.1 2) = 2
    rotate_left
    · rw [bb_f h1] at hb
      subst hb
      rw [if_neg h1]
      refine ex_istore_n dX9_repeater_34 (Nat.le_of_ble_eq_true rfl) ?_
      refine ex_aload_n dX9_repeater_35 rfl ?_
      refine ex_iload_n dX9_repeater_36 rfl ?_
      refine ex_if_eq (tgt := 44) dX9_repeater_37 (by decide) (fun _ => ?_) (fun z => absurd rfl z)
      refine ex_iconst (v := 1) dX9_repeater_44 (by decide) ?_
      refine ex_put dX9_repeater_45 p_X9_120 (mP_o p) (Nat.le_of_ble_eq_true rfl) (fun z => nomatch z) (mm_fi _) ?_
      refine mk_0 p (fun h45 p45 => ?_)
      refine ex_aload_n dX9_repeater_48 rfl ?_
      refine ex_getfield (v := .int (1)) dX9_repeater_49 g_X9_120 (mP_o p45) (congrArg (fun z => some (Value.int z)) (rfl)) ?_
      refine ex_if_le (tgt := 57) dX9_repeater_52 (by decide) (fun z => absurd z (by decide)) (fun _ => ?_)
      refine ex_iconst (v := 0) dX9_repeater_55 (by decide) ?_
      refine ex_ireturn dX9_repeater_56 ⟨_, rfl, rfl⟩ ?_
      exact ⟨_, rfl, _, p45, r, ⟨Or.inl ⟨rfl, rfl⟩, _, rfl⟩⟩
    · rw [bb_t h1] at hb
      subst hb
      rw [if_pos h1]
      refine ex_istore_n dX9_repeater_34 (Nat.le_of_ble_eq_true rfl) ?_
      refine ex_aload_n dX9_repeater_35 rfl ?_
      refine ex_iload_n dX9_repeater_36 rfl ?_
      refine ex_if_eq (tgt := 44) dX9_repeater_37 (by decide) (fun z => absurd z (by decide)) (fun _ => ?_)
      refine ex_iconst (v := 0) dX9_repeater_40 (by decide) ?_
      refine ex_goto (tgt := 45) dX9_repeater_41 (by decide) ?_
      refine ex_put dX9_repeater_45 p_X9_120 (mP_o p) (Nat.le_of_ble_eq_true rfl) (fun z => nomatch z) (mm_fi _) ?_
      refine mk_0 p (fun h45 p45 => ?_)
      refine ex_aload_n dX9_repeater_48 rfl ?_
      refine ex_getfield (v := .int (0)) dX9_repeater_49 g_X9_120 (mP_o p45) (congrArg (fun z => some (Value.int z)) (rfl)) ?_
      refine ex_if_le (tgt := 57) dX9_repeater_52 (by decide) (fun _ => ?_) (fun z => absurd (by decide) z)
      refine ex_aload_n dX9_repeater_57 rfl ?_
      refine ex_iconst (v := 2) dX9_repeater_58 (by decide) ?_
      refine ex_iconst (v := (-1)) dX9_repeater_59 (by decide) ?_
      refine ex_iconst (v := (-1)) dX9_repeater_60 (by decide) ?_
      refine ex_iconst (v := (-1)) dX9_repeater_61 (by decide) ?_
      refine cV_y dX9_repeater_62 (mm_kv i_X9_puts l_X9_203) ⟨(Nat.le_of_ble_eq_true rfl), (Nat.le_of_ble_eq_true rfl)⟩ (c_X9_puts p45 (n := (s.1 2).length) hl.1 (by omega) _ _ _ _) rfl rfl (mP_o p45) (Nat.le_of_ble_eq_true rfl) rfl ?_
      rintro h62 p62
      skip
      have l2 : r_line (mo_pu (mo_sf m 0 0) (s.1 2).length 2 (-1) (-1) (-1)) (s.1 2 ++ [(2, -1, -1, 0)]) := r_line.pu (s := mo_sf m 0 0) hl (2, -1, -1, 0)
      have f2 : mo_F [21, 22, 23, 24, 25] (mo_sf m 0 0) (mo_pu (mo_sf m 0 0) (s.1 2).length 2 (-1) (-1) (-1)) := (mo_F.refl _ _).pu _ _ _ _ _
      have hW2 : ln_W (s.1 2 ++ [(2, -1, -1, 0)]) := ln_W.of (kp := kp) (fun q hq => (List.mem_append.mp hq).elim (hx.2.2.2.1.1 q) (fun z => by rw [List.mem_singleton.mp z]; exact Or.inr ⟨Or.inr rfl, rfl⟩)) hx.2.1.2.1 (by rw [List.length_append, List.length_cons, List.length_nil]; omega)
      obtain ⟨r1, r2, r3, r4, r5, r6, r7, r8, r9, r10⟩ := r
      refine ex_aload_n dX9_repeater_65 rfl ?_
      refine ex_iconst (v := 2) dX9_repeater_66 (by decide) ?_
      refine cV_f dX9_repeater_67 (mm_kv i_X9_many l_X9_236) ⟨(Nat.le_of_ble_eq_true rfl), (Nat.le_of_ble_eq_true rfl)⟩ (c_X9_many p62 l2 hW2 _) rfl rfl (mP_o p62) (Nat.le_of_ble_eq_true rfl) rfl ?_
      refine ex_ireturn dX9_repeater_70 ⟨_, rfl, rfl⟩ ?_
      exact ⟨_, rfl, _, p62, ⟨r_sea.fr (m := mo_sf m 0 0) r1 f2, r_cal.fr (m := mo_sf m 0 0) (s := (va_up s.1 2 (s.1 2 ++ [(2, -1, -1, 0)]), s.2)) r2 f2, r_hold.fr (m := mo_sf m 0 0) (s := (va_up s.1 2 (s.1 2 ++ [(2, -1, -1, 0)]), s.2)) r3 f2, r_tank.fr (s := mo_sf m 0 0) r4 f2, l2, r_cel.fr (m := mo_sf m 0 0) (s := (va_up s.1 2 (s.1 2 ++ [(2, -1, -1, 0)]), s.2)) r6 f2, r_own.fr (m := mo_sf m 0 0) (s := (va_up s.1 2 (s.1 2 ++ [(2, -1, -1, 0)]), s.2)) r7 f2, r_fau.fr (s := mo_sf m 0 0) r8 f2, r_lnk.fr (m := mo_sf m 0 0) r9 f2, r_dem.fr (m := mo_sf m 0 0) r10 f2⟩, rfl, rfl⟩
  · have hgo : 0 < cl_me s → cl_bu s = 0 → mm_Ex l G mX9_repeater (mo_Z h0 cx_s cx_a (cm_repeater s)) 14 [.ref 29, .null] [] h := by
      intro g1 g2
      rcases List.eq_nil_or_concat (s.1 2) with z | ⟨L0, q, z⟩
      · rw [hm, z] at g1; exact absurd g1 (by decide)
      rw [List.concat_eq_append] at z
      have hlk : ro_lk (s.1 2) = q.1 := by rw [z]; exact ro_lk_snoc (by rw [z, List.length_append] at hTl; omega)
      have hll : (s.1 2).length = L0.length + 1 := by rw [z]; simp
      obtain ⟨d1, d2, d3, d4⟩ := hl.2 L0.length q (by rw [z]; exact ls_snoc_get)
      refine ex_aload_n dX9_repeater_14 rfl ?_
      refine ex_getfield dX9_repeater_15 g_X9_50 (mP_o p) rfl ?_
      refine ex_aload_n dX9_repeater_18 rfl ?_
      refine ex_getfield (v := .int (nI (L0.length + 1))) dX9_repeater_19 g_X9_171 (mP_o p) (congrArg (fun z => some (Value.int z)) (by rw [hl.1, hll])) ?_
      refine ex_iconst (v := 1) dX9_repeater_22 (by decide) ?_
      refine ex_isub dX9_repeater_23 ?_
      refine ex_ialoadv (v := q.1) dX9_repeater_24 (mA_22 p) (by rw [nI_m1]; exact vp_in_nI (by omega) (by decide)) (mo_av d1 (nI_m1 _) (by omega)) ?_
      refine ex_iconst (v := 2) dX9_repeater_25 (by decide) ?_
      refine ex_icmp_eq (tgt := 33) dX9_repeater_26 (by decide) (fun c_26 => ?_) (fun c_26 => ?_)
      · refine ex_iconst (v := 0) dX9_repeater_33 (by decide) ?_
        exact k _ (bb_f (fun z => z.2.2 (hlk.trans c_26))).symm
      · refine ex_iconst (v := 1) dX9_repeater_29 (by decide) ?_
        refine ex_goto (tgt := 34) dX9_repeater_30 (by decide) ?_
        exact k _ (bb_t ⟨g1, g2, fun z => c_26 (hlk.symm.trans z)⟩).symm
    refine ex_aload_n dX9_repeater_0 rfl ?_
    refine cV_f dX9_repeater_1 (mm_kv i_X9_metres l_X9_160) ⟨(Nat.le_of_ble_eq_true rfl), (Nat.le_of_ble_eq_true rfl)⟩ (c_X9_metres p (T := s.1 2) hl hW) rfl rfl (mP_o p) (Nat.le_of_ble_eq_true rfl) rfl ?_
    rw [ln_m0 hW, ← hm]
    refine ex_if_le (tgt := 33) dX9_repeater_4 (by decide) (fun c_4 => ?_) (fun c_4 => ?_)
    · refine ex_iconst (v := 0) dX9_repeater_33 (by decide) ?_
      exact k _ (bb_f (fun z => Int32.not_lt.mpr c_4 z.1)).symm
    · refine ex_aload_n dX9_repeater_7 rfl ?_
      refine ex_getfield (v := .int (cl_bu s)) dX9_repeater_8 g_X9_153 (mP_o p) (congrArg (fun z => some (Value.int z)) (r.2.2.2.2.2.2.1.2.1)) ?_
      refine ex_if_ne (tgt := 33) dX9_repeater_11 (by decide) (fun c_11 => ?_) (fun c_11 => ?_)
      · refine ex_iconst (v := 0) dX9_repeater_33 (by decide) ?_
        exact k _ (bb_f (fun z => c_11 z.2.1)).symm
      · exact hgo (Int32.not_le.mp c_4) c_11
theorem c_X9_way (p : mo_P h0 h m) (r : r_all s m) (hi : iv n s) (i : Int32) : mm_Ct l G mX9_way [.ref 29, .int i] h (mo_Z h0 cx_i cx_s (cm_way s i)) := by
  obtain ⟨k, kp, lo, wa, mk, c, hx⟩ := hi
  have hL : (s.1 6).length ≤ 10 := hx.2.2.2.2.2.2.2.2.2.2.2.2.1
  have r10 := r.2.2.2.2.2.2.2.2.2
  refine mm_ct (by decide +kernel) (by decide +kernel) rfl (by simp [Value.category]) (Nat.le_of_ble_eq_true rfl) rfl ?_
  refine mm_viaJ (if 0 ≤ i ∧ i < nI (s.1 6).length then 0 else 1) (pc' := 20) (ls' := [.ref 29, .int i]) (st := [.ref 29]) ?_ (fun k => ?_)
  · skip
    refine ex_put dX9_way_20 p_X9_120 (mP_o p) (Nat.le_of_ble_eq_true rfl) (fun z => nomatch z) (mm_fi _) ?_
    refine mk_0 p (fun h20 p20 => ?_)
    skip
    unfold cm_way
    by_cases h1 : 0 ≤ i ∧ i < nI (s.1 6).length
    rotate_left
    · rw [if_neg h1] at p20
      rw [if_neg h1]
      refine ex_aload_n dX9_way_23 rfl ?_
      refine ex_getfield (v := .int (1)) dX9_way_24 g_X9_120 (mP_o p20) (congrArg (fun z => some (Value.int z)) (rfl)) ?_
      refine ex_if_le (tgt := 34) dX9_way_27 (by decide) (fun z => absurd z (by decide)) (fun _ => ?_)
      refine ex_iconst (v := 0) dX9_way_30 (by decide) ?_
      refine ex_goto (tgt := 40) dX9_way_31 (by decide) ?_
      refine ex_ireturn dX9_way_40 ⟨_, rfl, rfl⟩ ?_
      exact ⟨_, rfl, _, p20, r, ⟨Or.inl ⟨rfl, rfl⟩, _, rfl⟩⟩
    rw [if_pos h1] at p20
    rw [if_pos h1]
    obtain ⟨j, hj, rfl⟩ := nI_of (x := i) (Int32.not_lt.mpr h1.1)
    have hjl : j < (s.1 6).length := (nI_ltI hj (by omega)).mp h1.2
    have hq := List.getElem?_eq_getElem hjl
    generalize (s.1 6)[j] = q at hq
    obtain ⟨d1, d2, d3, d4⟩ := r10.2 j q hq
    rw [show tt_g (s.1 6) (nI j) 3 = q.2.2.2 from tt_g_nI hq hj]
    refine ex_aload_n dX9_way_23 rfl ?_
    refine ex_getfield (v := .int (0)) dX9_way_24 g_X9_120 (mP_o p20) (congrArg (fun z => some (Value.int z)) (rfl)) ?_
    refine ex_if_le (tgt := 34) dX9_way_27 (by decide) (fun _ => ?_) (fun z => absurd (by decide) z)
    refine ex_aload_n dX9_way_34 rfl ?_
    refine ex_getfield dX9_way_35 g_X9_114 (mP_o p20) rfl ?_
    refine ex_iload_n dX9_way_38 rfl ?_
    refine ex_ialoadv (v := q.2.2.2) dX9_way_39 (mA_52 p20) (by first | assumption | exact vp_in_nI (by omega) (by decide)) (mo_av d4 rfl (by omega)) ?_
    refine ex_ireturn dX9_way_40 ⟨_, rfl, rfl⟩ ?_
    exact ⟨_, rfl, _, p20, r, rfl, rfl⟩
  · skip
    refine ex_aload_n dX9_way_0 rfl ?_
    refine ex_iload_n dX9_way_1 rfl ?_
    refine ex_iconst (v := 0) dX9_way_2 (by decide) ?_
    refine ex_aload_n dX9_way_3 rfl ?_
    refine ex_getfield (v := .int (nI (s.1 6).length)) dX9_way_4 g_X9_286 (mP_o p) (congrArg (fun z => some (Value.int z)) (r10.1)) ?_
    refine ex_iconst (v := 1) dX9_way_7 (by decide) ?_
    refine ex_isub dX9_way_8 ?_
    refine cS_f dX9_way_9 (mm_ks i_X9_isIn l_X9_123) ⟨(Nat.le_of_ble_eq_true rfl), (Nat.le_of_ble_eq_true rfl)⟩ (c_X9_isIn _ _ _) rfl rfl (Nat.le_of_ble_eq_true rfl) rfl ?_
    refine ex_if_eq (tgt := 19) dX9_way_12 (by decide) (fun c_12 => ?_) (fun c_12 => ?_)
    · refine ex_iconst (v := 1) dX9_way_19 (by decide) ?_
      exact k _ (if_neg (fun z => bb_0.mp c_12 ((ix_eq (by omega)).mpr z))).symm
    · refine ex_iconst (v := 0) dX9_way_15 (by decide) ?_
      refine ex_goto (tgt := 20) dX9_way_16 (by decide) ?_
      exact k _ (if_pos ((ix_eq (by omega)).mp (bb_n.mp c_12))).symm
theorem c_X9_link (p : mo_P h0 h m) (r : r_all s m) (hi : iv n s) (a b w : Int32) : mm_Ct l G mX9_link [.ref 29, .int a, .int b, .int w] h (mo_Z h0 cx_a cx_s (cm_link s a b w)) := by
  obtain ⟨k, kp, lo, wa, mk, c, hx⟩ := hi
  have hL : (s.1 5).length ≤ 6 := hx.2.2.2.2.2.2.2.2.2.2.2.1.2.1
  have r9 := r.2.2.2.2.2.2.2.2.1
  refine mm_ct (by decide +kernel) (by decide +kernel) rfl (by simp [Value.category]) (Nat.le_of_ble_eq_true rfl) rfl ?_
  refine mm_via (p := (ii a 0 3 ∧ ii b 0 3 ∧ ¬ a = b) ∧ ii w 1 20) (pc' := 38) (ls' := [.ref 29, .int a, .int b, .int w, .null]) (st := []) (fun z hb => ?_) (fun k => ?_)
  · refine mm_viaJ (if (ii a 0 3 ∧ ii b 0 3 ∧ ¬ a = b) ∧ ii w 1 20 then (if nI (s.1 5).length < 6 then 0 else 2) else 1) (pc' := 64) (ls' := [.ref 29, .int a, .int b, .int w, .int z]) (st := [.ref 29]) ?_ (fun k => ?_)
    · skip
      refine ex_put dX9_link_64 p_X9_120 (mP_o p) (Nat.le_of_ble_eq_true rfl) (fun z => nomatch z) (mm_fi _) ?_
      refine mk_0 p (fun h64 p64 => ?_)
      skip
      unfold cm_link
      by_cases h1 : (ii a 0 3 ∧ ii b 0 3 ∧ ¬ a = b) ∧ ii w 1 20
      rotate_left
      · rw [if_neg h1] at p64
        rw [if_neg h1]
        refine ex_aload_n dX9_link_67 rfl ?_
        refine ex_getfield (v := .int (1)) dX9_link_68 g_X9_120 (mP_o p64) (congrArg (fun z => some (Value.int z)) (rfl)) ?_
        refine ex_if_le (tgt := 76) dX9_link_71 (by decide) (fun z => absurd z (by decide)) (fun _ => ?_)
        refine ex_iconst (v := 0) dX9_link_74 (by decide) ?_
        refine ex_ireturn dX9_link_75 ⟨_, rfl, rfl⟩ ?_
        exact ⟨_, rfl, _, p64, r, ⟨Or.inl ⟨rfl, rfl⟩, _, rfl⟩⟩
      rw [if_pos h1] at p64
      rw [if_pos h1]
      by_cases h2 : nI (s.1 5).length < 6
      rotate_left
      · rw [if_neg h2] at p64
        rw [if_neg h2]
        refine ex_aload_n dX9_link_67 rfl ?_
        refine ex_getfield (v := .int (2)) dX9_link_68 g_X9_120 (mP_o p64) (congrArg (fun z => some (Value.int z)) (rfl)) ?_
        refine ex_if_le (tgt := 76) dX9_link_71 (by decide) (fun z => absurd z (by decide)) (fun _ => ?_)
        refine ex_iconst (v := 0) dX9_link_74 (by decide) ?_
        refine ex_ireturn dX9_link_75 ⟨_, rfl, rfl⟩ ?_
        exact ⟨_, rfl, _, p64, r, ⟨Or.inr ⟨rfl, rfl⟩, _, rfl⟩⟩
      rw [if_pos h2] at p64
      rw [if_pos h2]
      have hL6 : (s.1 5).length < 6 := (nI_ltI (b := 6) (by omega) (by decide)).mp h2
      refine ex_aload_n dX9_link_67 rfl ?_
      refine ex_getfield (v := .int (0)) dX9_link_68 g_X9_120 (mP_o p64) (congrArg (fun z => some (Value.int z)) (rfl)) ?_
      refine ex_if_le (tgt := 76) dX9_link_71 (by decide) (fun _ => ?_) (fun z => absurd (by decide) z)
      refine ex_aload_n dX9_link_76 rfl ?_
      refine ex_getfield dX9_link_77 g_X9_93 (mP_o p64) rfl ?_
      refine ex_aload_n dX9_link_80 rfl ?_
      refine ex_getfield (v := .int (nI (s.1 5).length)) dX9_link_81 g_X9_89 (mP_o p64) (congrArg (fun z => some (Value.int z)) (r9.1)) ?_
      refine ex_iload_n dX9_link_84 rfl ?_
      refine ex_iastore dX9_link_85 (mA_44 p64) (by first | assumption | exact vp_in_nI (by omega) (by decide)) ?_
      refine mq_44 p64 (fun h85 p85 => ?_)
      refine ex_aload_n dX9_link_86 rfl ?_
      refine ex_getfield dX9_link_87 g_X9_96 (mP_o p85) rfl ?_
      refine ex_aload_n dX9_link_90 rfl ?_
      refine ex_getfield (v := .int (nI (s.1 5).length)) dX9_link_91 g_X9_89 (mP_o p85) (congrArg (fun z => some (Value.int z)) (r9.1)) ?_
      refine ex_iload_n dX9_link_94 rfl ?_
      refine ex_iastore dX9_link_95 (mA_45 p85) (by first | assumption | exact vp_in_nI (by omega) (by decide)) ?_
      refine mq_45 p85 (fun h95 p95 => ?_)
      refine ex_aload_n dX9_link_96 rfl ?_
      refine ex_getfield dX9_link_97 g_X9_99 (mP_o p95) rfl ?_
      refine ex_aload_n dX9_link_100 rfl ?_
      refine ex_getfield (v := .int (nI (s.1 5).length)) dX9_link_101 g_X9_89 (mP_o p95) (congrArg (fun z => some (Value.int z)) (r9.1)) ?_
      refine ex_iload_n dX9_link_104 rfl ?_
      refine ex_iastore dX9_link_105 (mA_46 p95) (by first | assumption | exact vp_in_nI (by omega) (by decide)) ?_
      refine mq_46 p95 (fun h105 p105 => ?_)
      refine ex_aload_n dX9_link_106 rfl ?_
      refine ex_dup dX9_link_107 rfl ?_
      refine ex_getfield (v := .int (nI (s.1 5).length)) dX9_link_108 g_X9_89 (mP_o p105) (congrArg (fun z => some (Value.int z)) (r9.1)) ?_
      refine ex_iconst (v := 1) dX9_link_111 (by decide) ?_
      refine ex_iadd dX9_link_112 ?_
      rw [nI_1]
      refine ex_put dX9_link_113 p_X9_89 (mP_o p105) (Nat.le_of_ble_eq_true rfl) (fun z => nomatch z) (mm_fi _) ?_
      refine mk_43 p105 (fun h113 p113 => ?_)
      refine ex_aload_n dX9_link_116 rfl ?_
      refine ex_getfield (v := .int (nI ((s.1 5).length + 1))) dX9_link_117 g_X9_89 (mP_o p113) (congrArg (fun z => some (Value.int z)) (rfl)) ?_
      refine ex_iconst (v := 1) dX9_link_120 (by decide) ?_
      refine ex_isub dX9_link_121 ?_
      refine ex_ireturn dX9_link_122 ⟨_, rfl, rfl⟩ ?_
      rw [nI_clamp (show (s.1 5).length < 2 ^ 31 by omega)] at p113; refine ⟨_, rfl, _, p113, ⟨r.1, r.2.1, r.2.2.1, r.2.2.2.1, r.2.2.2.2.1, r.2.2.2.2.2.1, r.2.2.2.2.2.2.1, r.2.2.2.2.2.2.2.1, r_lnk.snoc (m := mo_sf m 0 0) r9 a b w, r.2.2.2.2.2.2.2.2.2⟩, rfl, congrArg Value.int (nI_m1 _)⟩
    · skip
      refine ex_istore dX9_link_38 (Nat.le_of_ble_eq_true rfl) ?_
      refine ex_aload_n dX9_link_40 rfl ?_
      refine ex_iload dX9_link_41 rfl ?_
      refine ex_if_ne (tgt := 50) dX9_link_43 (by decide) (fun c_43 => ?_) (fun c_43 => ?_)
      · refine ex_aload_n dX9_link_50 rfl ?_
        refine ex_getfield (v := .int (nI (s.1 5).length)) dX9_link_51 g_X9_89 (mP_o p) (congrArg (fun z => some (Value.int z)) (r9.1)) ?_
        refine ex_bipush (v := 6) dX9_link_54 (by decide) ?_
        refine ex_icmp_ne (tgt := 63) dX9_link_56 (by decide) (fun c_56 => ?_) (fun c_56 => ?_)
        · refine ex_iconst (v := 0) dX9_link_63 (by decide) ?_
          exact k _ (by rw [if_pos (bb_n.mp (hb ▸ c_43)), if_pos (show nI (s.1 5).length < 6 from nI_lt (b := 6) (by rcases Nat.lt_or_ge (s.1 5).length 6 with z | z; exact z; exact absurd (by rw [show (s.1 5).length = 6 by omega]; rfl) c_56) (by decide))])
        · refine ex_iconst (v := 2) dX9_link_59 (by decide) ?_
          refine ex_goto (tgt := 64) dX9_link_60 (by decide) ?_
          exact k _ (by rw [if_pos (bb_n.mp (hb ▸ c_43)), if_neg (by rw [c_56]; decide)])
      · refine ex_iconst (v := 1) dX9_link_46 (by decide) ?_
        refine ex_goto (tgt := 64) dX9_link_47 (by decide) ?_
        exact k _ (by rw [if_neg (bb_0.mp (hb ▸ c_43))])
  · skip
    refine ex_iload_n dX9_link_0 rfl ?_
    refine ex_iconst (v := 0) dX9_link_1 (by decide) ?_
    refine ex_iconst (v := 3) dX9_link_2 (by decide) ?_
    refine cS_f dX9_link_3 (mm_ks i_X9_isIn l_X9_123) ⟨(Nat.le_of_ble_eq_true rfl), (Nat.le_of_ble_eq_true rfl)⟩ (c_X9_isIn _ _ _) rfl rfl (Nat.le_of_ble_eq_true rfl) rfl ?_
    refine ex_if_eq (tgt := 37) dX9_link_6 (by decide) (fun c_6 => ?_) (fun c_6 => ?_)
    · refine ex_iconst (v := 0) dX9_link_37 (by decide) ?_
      exact k _ (bb_f (fun z => bb_0.mp c_6 z.1.1)).symm
    · refine ex_iload_n dX9_link_9 rfl ?_
      refine ex_iconst (v := 0) dX9_link_10 (by decide) ?_
      refine ex_iconst (v := 3) dX9_link_11 (by decide) ?_
      refine cS_f dX9_link_12 (mm_ks i_X9_isIn l_X9_123) ⟨(Nat.le_of_ble_eq_true rfl), (Nat.le_of_ble_eq_true rfl)⟩ (c_X9_isIn _ _ _) rfl rfl (Nat.le_of_ble_eq_true rfl) rfl ?_
      refine ex_if_eq (tgt := 37) dX9_link_15 (by decide) (fun c_15 => ?_) (fun c_15 => ?_)
      · refine ex_iconst (v := 0) dX9_link_37 (by decide) ?_
        exact k _ (bb_f (fun z => bb_0.mp c_15 z.1.2.1)).symm
      · refine ex_iload_n dX9_link_18 rfl ?_
        refine ex_iload_n dX9_link_19 rfl ?_
        refine ex_icmp_eq (tgt := 37) dX9_link_20 (by decide) (fun c_20 => ?_) (fun c_20 => ?_)
        · refine ex_iconst (v := 0) dX9_link_37 (by decide) ?_
          exact k _ (bb_f (fun z => z.1.2.2 c_20)).symm
        · refine ex_iload_n dX9_link_23 rfl ?_
          refine ex_iconst (v := 1) dX9_link_24 (by decide) ?_
          refine ex_bipush (v := 20) dX9_link_25 (by decide) ?_
          refine cS_f dX9_link_27 (mm_ks i_X9_isIn l_X9_123) ⟨(Nat.le_of_ble_eq_true rfl), (Nat.le_of_ble_eq_true rfl)⟩ (c_X9_isIn _ _ _) rfl rfl (Nat.le_of_ble_eq_true rfl) rfl ?_
          refine ex_if_eq (tgt := 37) dX9_link_30 (by decide) (fun c_30 => ?_) (fun c_30 => ?_)
          · refine ex_iconst (v := 0) dX9_link_37 (by decide) ?_
            exact k _ (bb_f (fun z => bb_0.mp c_30 z.2)).symm
          · refine ex_iconst (v := 1) dX9_link_33 (by decide) ?_
            refine ex_goto (tgt := 38) dX9_link_34 (by decide) ?_
            exact k _ (bb_t ⟨⟨bb_n.mp c_6, bb_n.mp c_15, c_20⟩, bb_n.mp c_30⟩).symm
theorem c_X9_dead (p : mo_P h0 h m) (r : r_all s m) (hi : iv n s) (i x : Int32) (hx01 : x = 0 ∨ x = 1) : mm_Ct l G mX9_dead [.ref 29, .int i, .int x] h (mo_Z h0 cx_i cx_a (cm_dead s i x)) := by
  obtain ⟨k, kp, lo, wa, mk, c, hx⟩ := hi
  have hL : (s.1 5).length ≤ 6 := hx.2.2.2.2.2.2.2.2.2.2.2.1.2.1
  have r9 := r.2.2.2.2.2.2.2.2.1
  have hxx : (if x = 0 then (0 : Int32) else 1) = x := by rcases hx01 with z | z <;> rw [z] <;> rfl
  refine mm_ct (by decide +kernel) (by decide +kernel) rfl (by simp [Value.category]) (Nat.le_of_ble_eq_true rfl) rfl ?_
  refine mm_viaJ (if 0 ≤ i ∧ i < nI (s.1 5).length then (if ¬ i = 0 then 0 else 2) else 1) (pc' := 28) (ls' := [.ref 29, .int i, .int x, .null]) (st := [.ref 29]) ?_ (fun k => ?_)
  · skip
    refine ex_put dX9_dead_28 p_X9_120 (mP_o p) (Nat.le_of_ble_eq_true rfl) (fun z => nomatch z) (mm_fi _) ?_
    refine mk_0 p (fun h28 p28 => ?_)
    skip
    unfold cm_dead
    by_cases h1 : 0 ≤ i ∧ i < nI (s.1 5).length
    rotate_left
    · rw [if_neg h1] at p28
      rw [if_neg h1]
      refine ex_aload_n dX9_dead_31 rfl ?_
      refine ex_getfield (v := .int (1)) dX9_dead_32 g_X9_120 (mP_o p28) (congrArg (fun z => some (Value.int z)) (rfl)) ?_
      refine ex_if_le (tgt := 40) dX9_dead_35 (by decide) (fun z => absurd z (by decide)) (fun _ => ?_)
      refine ex_iconst (v := 0) dX9_dead_38 (by decide) ?_
      refine ex_ireturn dX9_dead_39 ⟨_, rfl, (by first | rfl | exact bb_r)⟩ ?_
      exact ⟨_, rfl, _, p28, r, ⟨Or.inl ⟨rfl, rfl⟩, _, rfl⟩⟩
    rw [if_pos h1] at p28
    rw [if_pos h1]
    by_cases h2 : ¬ i = 0
    rotate_left
    · rw [if_neg h2] at p28
      rw [if_neg h2]
      refine ex_aload_n dX9_dead_31 rfl ?_
      refine ex_getfield (v := .int (2)) dX9_dead_32 g_X9_120 (mP_o p28) (congrArg (fun z => some (Value.int z)) (rfl)) ?_
      refine ex_if_le (tgt := 40) dX9_dead_35 (by decide) (fun z => absurd z (by decide)) (fun _ => ?_)
      refine ex_iconst (v := 0) dX9_dead_38 (by decide) ?_
      refine ex_ireturn dX9_dead_39 ⟨_, rfl, (by first | rfl | exact bb_r)⟩ ?_
      exact ⟨_, rfl, _, p28, r, ⟨Or.inr ⟨rfl, rfl⟩, _, rfl⟩⟩
    rw [if_pos h2] at p28
    rw [if_pos h2, hxx]
    obtain ⟨j, hj, rfl⟩ := nI_of (x := i) (Int32.not_lt.mpr h1.1)
    have hjl : j < (s.1 5).length := (nI_ltI hj (by omega)).mp h1.2
    have hq := List.getElem?_eq_getElem hjl
    generalize (s.1 5)[j] = q at hq
    obtain ⟨d1, d2, d3, d4⟩ := r9.2.1 j q hq
    rw [nI_clamp hj, hq, Option.getD_some, show tt_g (s.1 5) (nI j) 3 = q.2.2.2 from tt_g_nI hq hj]
    have hq01 : q.2.2.2 = 0 ∨ q.2.2.2 = 1 := by
      obtain ⟨a, b, w, d, e, -, -, -, -, -, hd⟩ := hx.2.2.2.2.2.2.2.2.2.2.2.1.2.2.2 q (List.mem_of_getElem? hq)
      rw [e]
      rcases (by omega : d = 0 ∨ d = 1) with z | z
      · exact Or.inl (by rw [z]; rfl)
      · exact Or.inr (by rw [z]; rfl)
    have hv : bb (q.2.2.2 = 1) = q.2.2.2 := by
      rcases hq01 with z | z <;> rw [z]
      · exact bb_f (by decide)
      · exact bb_t rfl
    rw [hv]
    refine ex_aload_n dX9_dead_31 rfl ?_
    refine ex_getfield (v := .int (0)) dX9_dead_32 g_X9_120 (mP_o p28) (congrArg (fun z => some (Value.int z)) (rfl)) ?_
    refine ex_if_le (tgt := 40) dX9_dead_35 (by decide) (fun _ => ?_) (fun z => absurd (by decide) z)
    refine ex_aload_n dX9_dead_40 rfl ?_
    refine ex_getfield dX9_dead_41 g_X9_102 (mP_o p28) rfl ?_
    refine ex_iload_n dX9_dead_44 rfl ?_
    refine ex_baloadv (v := q.2.2.2) dX9_dead_45 (mA_47 p28) (by first | assumption | exact vp_in_nI (by omega) (by decide)) (mo_av d4 rfl (by omega)) ?_
    refine ex_istore_n dX9_dead_46 (Nat.le_of_ble_eq_true rfl) ?_
    refine ex_aload_n dX9_dead_47 rfl ?_
    refine ex_getfield dX9_dead_48 g_X9_102 (mP_o p28) rfl ?_
    refine ex_iload_n dX9_dead_51 rfl ?_
    refine ex_iload_n dX9_dead_52 rfl ?_
    refine ex_bastore dX9_dead_53 (mA_47 p28) (by first | assumption | exact vp_in_nI (by omega) (by decide)) hx01 ?_
    refine mq_47 p28 (fun h53 p53 => ?_)
    refine ex_iload_n dX9_dead_54 rfl ?_
    refine ex_ireturn dX9_dead_55 ⟨_, rfl, by rcases hq01 with z | z <;> rw [z] <;> rfl⟩ ?_
    rw [nI_clamp hj] at p53; exact ⟨_, rfl, _, p53, ⟨r.1, r.2.1, r.2.2.1, r.2.2.2.1, r.2.2.2.2.1, r.2.2.2.2.2.1, r.2.2.2.2.2.2.1, r.2.2.2.2.2.2.2.1, ⟨by show m.1 43 = nI ((s.1 5).set j _).length; rw [List.length_set]; exact r9.1, r_rows.set3 r9.2.1 hq x, fun i hi => by (have hi : ((s.1 5).set j (tt_s q 3 x)).length ≤ i := hi); rw [List.length_set] at hi; exact (pk_un (by omega)).trans (r9.2.2 i hi)⟩, r.2.2.2.2.2.2.2.2.2⟩, rfl, rfl⟩
  · skip
    refine ex_aload_n dX9_dead_0 rfl ?_
    refine ex_iload_n dX9_dead_1 rfl ?_
    refine ex_iconst (v := 0) dX9_dead_2 (by decide) ?_
    refine ex_aload_n dX9_dead_3 rfl ?_
    refine ex_getfield (v := .int (nI (s.1 5).length)) dX9_dead_4 g_X9_89 (mP_o p) (congrArg (fun z => some (Value.int z)) (r9.1)) ?_
    refine ex_iconst (v := 1) dX9_dead_7 (by decide) ?_
    refine ex_isub dX9_dead_8 ?_
    refine cS_f dX9_dead_9 (mm_ks i_X9_isIn l_X9_123) ⟨(Nat.le_of_ble_eq_true rfl), (Nat.le_of_ble_eq_true rfl)⟩ (c_X9_isIn _ _ _) rfl rfl (Nat.le_of_ble_eq_true rfl) rfl ?_
    refine ex_if_ne (tgt := 19) dX9_dead_12 (by decide) (fun c_12 => ?_) (fun c_12 => ?_)
    · refine ex_iload_n dX9_dead_19 rfl ?_
      refine ex_if_ne (tgt := 27) dX9_dead_20 (by decide) (fun c_20 => ?_) (fun c_20 => ?_)
      · refine ex_iconst (v := 0) dX9_dead_27 (by decide) ?_
        exact k _ (by rw [if_pos ((ix_eq (by omega)).mp (bb_n.mp c_12)), if_pos c_20])
      · refine ex_iconst (v := 2) dX9_dead_23 (by decide) ?_
        refine ex_goto (tgt := 28) dX9_dead_24 (by decide) ?_
        exact k _ (by rw [if_pos ((ix_eq (by omega)).mp (bb_n.mp c_12)), if_neg (fun z => z c_20)])
    · refine ex_iconst (v := 1) dX9_dead_15 (by decide) ?_
      refine ex_goto (tgt := 28) dX9_dead_16 (by decide) ?_
      exact k _ (by rw [if_neg (fun z => bb_0.mp c_12 ((ix_eq (by omega)).mpr z))])
end MON
