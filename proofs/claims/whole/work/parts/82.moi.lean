/-! THE MODEL: the sea, days, feeding -/
def mo_Zv (h0 : mm_H) (E1 E2 : String) (x : cl_R × cl_S) : mm_R → mm_H → Prop := mm_qv (fun h' => ∃ m', mo_P h0 h' m' ∧ r_all x.2 m' ∧ mo_an E1 E2 x.1 (m'.1 0) (.int 0))
theorem ii_nI {i : Int32} (h : ii i 0 99) : ∃ j : Nat, j < 100 ∧ i = nI j := by
  obtain ⟨j, hj, rfl⟩ := nI_of (x := i) (Int32.not_lt.mpr h.1)
  exact ⟨j, by have := (nI_leI hj (by decide : 99 < 2 ^ 31)).mp h.2; omega, rfl⟩
theorem r_sea_snd {S : se_T} {m : mo_S} {j : Nat} {d e : Int32} (h : r_sea S m.2.2) (he : e ≤ 500) : r_sea (upd S.1 j d, upd S.2.1 j e, S.2.2) (mo_sa (mo_sa (mo_sa m 1 j 1) 2 j e) 3 j d).2.2 := by
  obtain ⟨h1, h2, h3, h4⟩ := h
  refine ⟨fun i hi => ?_, h2, h3, h4⟩
  by_cases z : i = j
  · subst z
    exact Or.inr ⟨pk_us, pk_us.trans pk_us.symm, pk_us.trans pk_us.symm, by show upd S.2.1 i e i ≤ 500; rw [pk_us]; exact he⟩
  · have e1 : ∀ (f : Nat → Int32) (x : Int32), upd f j x i = f i := fun f x => pk_un z
    show upd (m.2.2 1) j 1 i = 0 ∧ upd S.1 j d i = 100 ∧ upd S.2.1 j e i = 501 ∨ upd (m.2.2 1) j 1 i = 1 ∧ upd (m.2.2 3) j d i = upd S.1 j d i ∧ upd (m.2.2 2) j e i = upd S.2.1 j e i ∧ upd S.2.1 j e i ≤ 500
    rw [e1, e1, e1, e1, e1]; exact h1 i hi
section MOI
variable {l : Launch} {G : mm_G} {h0 h : mm_H} {m : mo_S} {s : cl_S} {n : Nat}
theorem c_X9_sound (p : mo_P h0 h m) (r : r_all s m) (i d e : Int32) : mm_Ct l G mX9_sound [.ref 29, .int i, .int d, .int e] h (mo_Z h0 cx_a cx_s (cm_sound s i d e)) := by
  refine mm_ct (by decide +kernel) (by decide +kernel) rfl (by simp [Value.category]) (Nat.le_of_ble_eq_true rfl) rfl ?_
  refine mm_via (p := ii i 0 99 ∧ ii d 0 6000 ∧ ii e 0 500) (pc' := 34) (ls' := [.ref 29, .int i, .int d, .int e, .null]) (st := []) (fun b hb => ?_) (fun k => ?_)
  · refine mm_viaJ (if ii i 0 99 ∧ ii d 0 6000 ∧ ii e 0 500 then (if cl_ce s ≤ i then 0 else 2) else 1) (pc' := 59) (ls' := [.ref 29, .int i, .int d, .int e, .int b]) (st := [.ref 29]) ?_ (fun k => ?_)
    · skip
      refine ex_put dX9_sound_59 p_X9_120 (mP_o p) (Nat.le_of_ble_eq_true rfl) (fun z => nomatch z) (mm_fi _) ?_
      refine mk_0 p (fun h59 p59 => ?_)
      skip
      unfold cm_sound
      by_cases h1 : ii i 0 99 ∧ ii d 0 6000 ∧ ii e 0 500
      rotate_left
      · rw [if_neg h1] at p59
        rw [if_neg h1]
        refine ex_aload_n dX9_sound_62 rfl ?_
        refine ex_getfield (v := .int (1)) dX9_sound_63 g_X9_120 (mP_o p59) (congrArg (fun z => some (Value.int z)) (rfl)) ?_
        refine ex_if_le (tgt := 71) dX9_sound_66 (by decide) (fun z => absurd z (by decide)) (fun _ => ?_)
        refine ex_iconst (v := 0) dX9_sound_69 (by decide) ?_
        refine ex_ireturn dX9_sound_70 ⟨_, rfl, rfl⟩ ?_
        exact ⟨_, rfl, _, p59, r, ⟨Or.inl ⟨rfl, rfl⟩, _, rfl⟩⟩
      rw [if_pos h1] at p59
      rw [if_pos h1]
      by_cases h2 : cl_ce s ≤ i
      rotate_left
      · rw [if_neg h2] at p59
        rw [if_neg (show ¬ s.2.2.2.2.1.2.1 ≤ i from h2)]
        refine ex_aload_n dX9_sound_62 rfl ?_
        refine ex_getfield (v := .int (2)) dX9_sound_63 g_X9_120 (mP_o p59) (congrArg (fun z => some (Value.int z)) (rfl)) ?_
        refine ex_if_le (tgt := 71) dX9_sound_66 (by decide) (fun z => absurd z (by decide)) (fun _ => ?_)
        refine ex_iconst (v := 0) dX9_sound_69 (by decide) ?_
        refine ex_ireturn dX9_sound_70 ⟨_, rfl, rfl⟩ ?_
        exact ⟨_, rfl, _, p59, r, ⟨Or.inr ⟨rfl, rfl⟩, _, rfl⟩⟩
      rw [if_pos h2] at p59
      rw [if_pos (show s.2.2.2.2.1.2.1 ≤ i from h2)]
      obtain ⟨j, hj, rfl⟩ := ii_nI h1.1
      have ej : (nI j).toNatClampNeg = j := nI_clamp (by omega)
      have hsj := r.1.1 j hj
      have hend : ∀ (S' : se_T) (m' : mo_S) (h' : mm_H), mo_P h0 h' m' → r_all (s.1, S', s.2.2) m' → m'.1 0 = 0 → cs_snd s.2.1 (nI j) d e = S' → mm_Ex l G mX9_sound (mo_Z h0 cx_a cx_s (.inl (some (se_d (cs_snd s.2.1 (nI j) d e) (nI j))), s.1, cs_snd s.2.1 (nI j) d e, s.2.2)) 111 [.ref 29, .int (nI j), .int d, .int e, .int b] [] h' := by
        intro S' m' h' p' r' t' e'
        rw [e']
        refine ex_aload_n dX9_sound_111 rfl ?_
        refine ex_iload_n dX9_sound_112 rfl ?_
        refine cV_f dX9_sound_113 (mm_kv i_X9_depthOf l_X9_127) ⟨(Nat.le_of_ble_eq_true rfl), (Nat.le_of_ble_eq_true rfl)⟩ (c_X9_depthOf p' r'.1 hj) rfl rfl (mP_o p') (Nat.le_of_ble_eq_true rfl) rfl ?_
        refine ex_ireturn dX9_sound_116 ⟨_, rfl, rfl⟩ ?_
        exact ⟨_, rfl, m', p', r', t', rfl⟩
      have hset : e ≤ s.2.1.2.1 j → mm_Ex l G mX9_sound (mo_Z h0 cx_a cx_s (.inl (some (se_d (cs_snd s.2.1 (nI j) d e) (nI j))), s.1, cs_snd s.2.1 (nI j) d e, s.2.2)) 90 [.ref 29, .int (nI j), .int d, .int e, .int b] [] h59 := by
        intro hle
        refine ex_aload_n dX9_sound_90 rfl ?_
        refine ex_getfield dX9_sound_91 g_X9_7 (mP_o p59) rfl ?_
        refine ex_iload_n dX9_sound_94 rfl ?_
        refine ex_iconst (v := 1) dX9_sound_95 (by decide) ?_
        refine ex_bastore dX9_sound_96 (mA_1 p59) (by first | assumption | exact vp_in_nI (by omega) (by decide)) (by first | assumption | exact Or.inl rfl | exact Or.inr rfl) ?_
        refine mq_1 p59 (fun h96 p96 => ?_)
        refine ex_aload_n dX9_sound_97 rfl ?_
        refine ex_getfield dX9_sound_98 g_X9_13 (mP_o p96) rfl ?_
        refine ex_iload_n dX9_sound_101 rfl ?_
        refine ex_iload_n dX9_sound_102 rfl ?_
        refine ex_iastore dX9_sound_103 (mA_2 p96) (by first | assumption | exact vp_in_nI (by omega) (by decide)) ?_
        refine mq_2 p96 (fun h103 p103 => ?_)
        refine ex_aload_n dX9_sound_104 rfl ?_
        refine ex_getfield dX9_sound_105 g_X9_17 (mP_o p103) rfl ?_
        refine ex_iload_n dX9_sound_108 rfl ?_
        refine ex_iload_n dX9_sound_109 rfl ?_
        refine ex_iastore dX9_sound_110 (mA_3 p103) (by first | assumption | exact vp_in_nI (by omega) (by decide)) ?_
        refine mq_3 p103 (fun h110 p110 => ?_)
        skip
        rw [ej] at p110
        exact hend _ _ _ p110 ⟨r_sea_snd (m := mo_sf m 0 0) r.1 h1.2.2.2, r.2⟩ rfl (by rw [cs_snd, ej, if_pos hle])
      rcases hsj with ⟨a1, a2, a3⟩ | ⟨a1, a2, a3, a4⟩
      · skip
        refine ex_aload_n dX9_sound_62 rfl ?_
        refine ex_getfield (v := .int (0)) dX9_sound_63 g_X9_120 (mP_o p59) (congrArg (fun z => some (Value.int z)) (rfl)) ?_
        refine ex_if_le (tgt := 71) dX9_sound_66 (by decide) (fun _ => ?_) (fun z => absurd (by decide) z)
        refine ex_aload_n dX9_sound_71 rfl ?_
        refine ex_getfield dX9_sound_72 g_X9_7 (mP_o p59) rfl ?_
        refine ex_iload_n dX9_sound_75 rfl ?_
        refine ex_baloadv (v := 0) dX9_sound_76 (mA_1 p59) (by first | assumption | exact vp_in_nI (by omega) (by decide)) (mo_av a1 rfl (by omega)) ?_
        refine ex_if_eq (tgt := 90) dX9_sound_77 (by decide) (fun _ => ?_) (fun z => absurd rfl z)
        exact hset (by rw [a3]; exact Int32.le_trans h1.2.2.2 (by decide))
      · skip
        refine ex_aload_n dX9_sound_62 rfl ?_
        refine ex_getfield (v := .int (0)) dX9_sound_63 g_X9_120 (mP_o p59) (congrArg (fun z => some (Value.int z)) (rfl)) ?_
        refine ex_if_le (tgt := 71) dX9_sound_66 (by decide) (fun _ => ?_) (fun z => absurd (by decide) z)
        refine ex_aload_n dX9_sound_71 rfl ?_
        refine ex_getfield dX9_sound_72 g_X9_7 (mP_o p59) rfl ?_
        refine ex_iload_n dX9_sound_75 rfl ?_
        refine ex_baloadv (v := 1) dX9_sound_76 (mA_1 p59) (by first | assumption | exact vp_in_nI (by omega) (by decide)) (mo_av a1 rfl (by omega)) ?_
        refine ex_if_eq (tgt := 90) dX9_sound_77 (by decide) (fun z => absurd z (by decide)) (fun _ => ?_)
        refine ex_iload_n dX9_sound_80 rfl ?_
        refine ex_aload_n dX9_sound_81 rfl ?_
        refine ex_getfield dX9_sound_82 g_X9_13 (mP_o p59) rfl ?_
        refine ex_iload_n dX9_sound_85 rfl ?_
        refine ex_ialoadv (v := s.2.1.2.1 j) dX9_sound_86 (mA_2 p59) (by first | assumption | exact vp_in_nI (by omega) (by decide)) (mo_av a3 rfl (by omega)) ?_
        refine ex_icmp_gt (tgt := 111) dX9_sound_87 (by decide) (fun c_87 => ?_) (fun c_87 => ?_)
        · exact hend s.2.1 _ _ p59 r rfl (by rw [cs_snd, ej, if_neg (Int32.not_le.mpr c_87)])
        · exact hset (Int32.not_lt.mp c_87)
    · skip
      refine ex_istore dX9_sound_34 (Nat.le_of_ble_eq_true rfl) ?_
      refine ex_aload_n dX9_sound_36 rfl ?_
      refine ex_iload dX9_sound_37 rfl ?_
      refine ex_if_ne (tgt := 46) dX9_sound_39 (by decide) (fun c_39 => ?_) (fun c_39 => ?_)
      · refine ex_iload_n dX9_sound_46 rfl ?_
        refine ex_aload_n dX9_sound_47 rfl ?_
        refine ex_getfield (v := .int (cl_ce s)) dX9_sound_48 g_X9_135 (mP_o p) (congrArg (fun z => some (Value.int z)) (r.2.2.2.2.2.1.1)) ?_
        refine ex_icmp_ge (tgt := 58) dX9_sound_51 (by decide) (fun c_51 => ?_) (fun c_51 => ?_)
        · refine ex_iconst (v := 0) dX9_sound_58 (by decide) ?_
          exact k _ (by rw [if_pos (bb_n.mp (hb ▸ c_39)), if_pos c_51])
        · refine ex_iconst (v := 2) dX9_sound_54 (by decide) ?_
          refine ex_goto (tgt := 59) dX9_sound_55 (by decide) ?_
          exact k _ (by rw [if_pos (bb_n.mp (hb ▸ c_39)), if_neg (Int32.not_le.mpr (Int32.not_le.mp c_51))])
      · refine ex_iconst (v := 1) dX9_sound_42 (by decide) ?_
        refine ex_goto (tgt := 59) dX9_sound_43 (by decide) ?_
        exact k _ (by rw [if_neg (bb_0.mp (hb ▸ c_39))])
  · skip
    refine ex_iload_n dX9_sound_0 rfl ?_
    refine cS_f dX9_sound_1 (mm_ks i_X9_isCell l_X9_131) ⟨(Nat.le_of_ble_eq_true rfl), (Nat.le_of_ble_eq_true rfl)⟩ (c_X9_isCell _) rfl rfl (Nat.le_of_ble_eq_true rfl) rfl ?_
    refine ex_if_eq (tgt := 33) dX9_sound_4 (by decide) (fun c_4 => ?_) (fun c_4 => ?_)
    · refine ex_iconst (v := 0) dX9_sound_33 (by decide) ?_
      first | exact k _ (bb_f (fun z => bb_0.mp c_4 z.1)).symm | exact k _ (bb_f (fun z => bb_0.mp c_15 z.2.1)).symm | exact k _ (bb_f (fun z => bb_0.mp c_26 z.2.2)).symm | exact k _ (bb_t ⟨bb_n.mp c_4, bb_n.mp c_15, bb_n.mp c_26⟩).symm
    · refine ex_iload_n dX9_sound_7 rfl ?_
      refine ex_iconst (v := 0) dX9_sound_8 (by decide) ?_
      refine ex_sipush (v := 6000) dX9_sound_9 (by decide) ?_
      refine cS_f dX9_sound_12 (mm_ks i_X9_isIn l_X9_123) ⟨(Nat.le_of_ble_eq_true rfl), (Nat.le_of_ble_eq_true rfl)⟩ (c_X9_isIn _ _ _) rfl rfl (Nat.le_of_ble_eq_true rfl) rfl ?_
      refine ex_if_eq (tgt := 33) dX9_sound_15 (by decide) (fun c_15 => ?_) (fun c_15 => ?_)
      · refine ex_iconst (v := 0) dX9_sound_33 (by decide) ?_
        first | exact k _ (bb_f (fun z => bb_0.mp c_4 z.1)).symm | exact k _ (bb_f (fun z => bb_0.mp c_15 z.2.1)).symm | exact k _ (bb_f (fun z => bb_0.mp c_26 z.2.2)).symm | exact k _ (bb_t ⟨bb_n.mp c_4, bb_n.mp c_15, bb_n.mp c_26⟩).symm
      · refine ex_iload_n dX9_sound_18 rfl ?_
        refine ex_iconst (v := 0) dX9_sound_19 (by decide) ?_
        refine ex_sipush (v := 500) dX9_sound_20 (by decide) ?_
        refine cS_f dX9_sound_23 (mm_ks i_X9_isIn l_X9_123) ⟨(Nat.le_of_ble_eq_true rfl), (Nat.le_of_ble_eq_true rfl)⟩ (c_X9_isIn _ _ _) rfl rfl (Nat.le_of_ble_eq_true rfl) rfl ?_
        refine ex_if_eq (tgt := 33) dX9_sound_26 (by decide) (fun c_26 => ?_) (fun c_26 => ?_)
        · refine ex_iconst (v := 0) dX9_sound_33 (by decide) ?_
          first | exact k _ (bb_f (fun z => bb_0.mp c_4 z.1)).symm | exact k _ (bb_f (fun z => bb_0.mp c_15 z.2.1)).symm | exact k _ (bb_f (fun z => bb_0.mp c_26 z.2.2)).symm | exact k _ (bb_t ⟨bb_n.mp c_4, bb_n.mp c_15, bb_n.mp c_26⟩).symm
        · refine ex_iconst (v := 1) dX9_sound_29 (by decide) ?_
          refine ex_goto (tgt := 34) dX9_sound_30 (by decide) ?_
          first | exact k _ (bb_f (fun z => bb_0.mp c_4 z.1)).symm | exact k _ (bb_f (fun z => bb_0.mp c_15 z.2.1)).symm | exact k _ (bb_f (fun z => bb_0.mp c_26 z.2.2)).symm | exact k _ (bb_t ⟨bb_n.mp c_4, bb_n.mp c_15, bb_n.mp c_26⟩).symm
theorem c_X9_wreck (p : mo_P h0 h m) (r : r_all s m) (i x : Int32) (hx : x = 0 ∨ x = 1) : mm_Ct l G mX9_wreck [.ref 29, .int i, .int x] h (mo_Z h0 cx_a cx_s (cm_wreck s i x)) := by
  refine mm_ct (by decide +kernel) (by decide +kernel) rfl (by simp [Value.category]) (Nat.le_of_ble_eq_true rfl) rfl ?_
  refine mm_viaJ (if ii i 0 99 then 0 else 1) (pc' := 13) (ls' := [.ref 29, .int i, .int x, .null]) (st := [.ref 29]) ?_ (fun k => ?_)
  · skip
    refine ex_put dX9_wreck_13 p_X9_120 (mP_o p) (Nat.le_of_ble_eq_true rfl) (fun z => nomatch z) (mm_fi _) ?_
    refine mk_0 p (fun h13 p13 => ?_)
    skip
    unfold cm_wreck
    by_cases h1 : ii i 0 99
    rotate_left
    · rw [if_neg h1] at p13
      rw [if_neg h1]
      refine ex_aload_n dX9_wreck_16 rfl ?_
      refine ex_getfield (v := .int (1)) dX9_wreck_17 g_X9_120 (mP_o p13) (congrArg (fun z => some (Value.int z)) (rfl)) ?_
      refine ex_if_le (tgt := 25) dX9_wreck_20 (by decide) (fun z => absurd z (by decide)) (fun _ => ?_)
      refine ex_iconst (v := 0) dX9_wreck_23 (by decide) ?_
      refine ex_ireturn dX9_wreck_24 ⟨_, rfl, (by first | rfl | exact bb_r)⟩ ?_
      exact ⟨_, rfl, _, p13, r, ⟨Or.inl ⟨rfl, rfl⟩, _, rfl⟩⟩
    rw [if_pos h1] at p13
    rw [if_pos h1]
    obtain ⟨j, hj, rfl⟩ := ii_nI h1
    have ej : (nI j).toNatClampNeg = j := nI_clamp (by omega)
    have hv : bb (ii (nI j) 0 99 ∧ ¬ s.2.1.2.2.1 (nI j).toNatClampNeg = 0) = m.2.2 4 j := by
      rw [ej, ← r.1.2.1]
      rcases r.1.2.2.2 j with z | z <;> rw [z]
      · exact bb_f (fun y => y.2 rfl)
      · exact bb_t ⟨h1, by decide⟩
    rw [hv, ej]
    refine ex_aload_n dX9_wreck_16 rfl ?_
    refine ex_getfield (v := .int (0)) dX9_wreck_17 g_X9_120 (mP_o p13) (congrArg (fun z => some (Value.int z)) (rfl)) ?_
    refine ex_if_le (tgt := 25) dX9_wreck_20 (by decide) (fun _ => ?_) (fun z => absurd (by decide) z)
    refine ex_aload_n dX9_wreck_25 rfl ?_
    refine ex_getfield dX9_wreck_26 g_X9_20 (mP_o p13) rfl ?_
    refine ex_iload_n dX9_wreck_29 rfl ?_
    refine ex_baloadv (v := m.2.2 4 j) dX9_wreck_30 (mA_4 p13) (by first | assumption | exact vp_in_nI (by omega) (by decide)) (mo_av rfl rfl (by omega)) ?_
    refine ex_istore_n dX9_wreck_31 (Nat.le_of_ble_eq_true rfl) ?_
    refine ex_aload_n dX9_wreck_32 rfl ?_
    refine ex_getfield dX9_wreck_33 g_X9_20 (mP_o p13) rfl ?_
    refine ex_iload_n dX9_wreck_36 rfl ?_
    refine ex_iload_n dX9_wreck_37 rfl ?_
    refine ex_bastore dX9_wreck_38 (mA_4 p13) (by first | assumption | exact vp_in_nI (by omega) (by decide)) hx ?_
    refine mq_4 p13 (fun h38 p38 => ?_)
    refine ex_iload_n dX9_wreck_39 rfl ?_
    refine ex_ireturn dX9_wreck_40 ⟨_, rfl, by rcases r.1.2.2.2 j with z | z <;> rw [z] <;> rfl⟩ ?_
    rw [ej] at p38; exact ⟨_, rfl, _, p38, ⟨⟨r.1.1, congrArg (fun f => upd f j x) r.1.2.1, r.1.2.2.1, fun i => by show upd (m.2.2 4) j x i = 0 ∨ upd (m.2.2 4) j x i = 1; by_cases z : i = j; (rw [z, pk_us]; exact hx); (rw [pk_un z]; exact r.1.2.2.2 i)⟩, r.2⟩, rfl, rfl⟩
  · skip
    refine ex_aload_n dX9_wreck_0 rfl ?_
    refine ex_iload_n dX9_wreck_1 rfl ?_
    refine cS_f dX9_wreck_2 (mm_ks i_X9_isCell l_X9_131) ⟨(Nat.le_of_ble_eq_true rfl), (Nat.le_of_ble_eq_true rfl)⟩ (c_X9_isCell _) rfl rfl (Nat.le_of_ble_eq_true rfl) rfl ?_
    refine ex_if_eq (tgt := 12) dX9_wreck_5 (by decide) (fun c_5 => ?_) (fun c_5 => ?_)
    · refine ex_iconst (v := 1) dX9_wreck_12 (by decide) ?_
      first | exact k _ (if_neg (bb_0.mp c_5)).symm | exact k _ (if_pos (bb_n.mp c_5)).symm
    · refine ex_iconst (v := 0) dX9_wreck_8 (by decide) ?_
      refine ex_goto (tgt := 13) dX9_wreck_9 (by decide) ?_
      first | exact k _ (if_neg (bb_0.mp c_5)).symm | exact k _ (if_pos (bb_n.mp c_5)).symm
theorem c_X9_crossing (p : mo_P h0 h m) (r : r_all s m) (i x : Int32) : mm_Ct l G mX9_crossing [.ref 29, .int i, .int x] h (mo_Z h0 cx_a cx_s (cm_crossing s i x)) := by
  refine mm_ct (by decide +kernel) (by decide +kernel) rfl (by simp [Value.category]) (Nat.le_of_ble_eq_true rfl) rfl ?_
  refine mm_viaJ (if ii i 0 99 ∧ ii x 0 2 then 0 else 1) (pc' := 22) (ls' := [.ref 29, .int i, .int x, .null]) (st := [.ref 29]) ?_ (fun k => ?_)
  · skip
    refine ex_put dX9_crossing_22 p_X9_120 (mP_o p) (Nat.le_of_ble_eq_true rfl) (fun z => nomatch z) (mm_fi _) ?_
    refine mk_0 p (fun h22 p22 => ?_)
    skip
    unfold cm_crossing
    by_cases h1 : ii i 0 99 ∧ ii x 0 2
    rotate_left
    · rw [if_neg h1] at p22
      rw [if_neg h1]
      refine ex_aload_n dX9_crossing_25 rfl ?_
      refine ex_getfield (v := .int (1)) dX9_crossing_26 g_X9_120 (mP_o p22) (congrArg (fun z => some (Value.int z)) (rfl)) ?_
      refine ex_if_le (tgt := 34) dX9_crossing_29 (by decide) (fun z => absurd z (by decide)) (fun _ => ?_)
      refine ex_iconst (v := 0) dX9_crossing_32 (by decide) ?_
      refine ex_ireturn dX9_crossing_33 ⟨_, rfl, rfl⟩ ?_
      exact ⟨_, rfl, _, p22, r, ⟨Or.inl ⟨rfl, rfl⟩, _, rfl⟩⟩
    rw [if_pos h1] at p22
    rw [if_pos h1]
    obtain ⟨j, hj, rfl⟩ := ii_nI h1.1
    have ej : (nI j).toNatClampNeg = j := nI_clamp (by omega)
    rw [ej, if_pos h1.1, ← r.1.2.2.1]
    refine ex_aload_n dX9_crossing_25 rfl ?_
    refine ex_getfield (v := .int (0)) dX9_crossing_26 g_X9_120 (mP_o p22) (congrArg (fun z => some (Value.int z)) (rfl)) ?_
    refine ex_if_le (tgt := 34) dX9_crossing_29 (by decide) (fun _ => ?_) (fun z => absurd (by decide) z)
    refine ex_aload_n dX9_crossing_34 rfl ?_
    refine ex_getfield dX9_crossing_35 g_X9_23 (mP_o p22) rfl ?_
    refine ex_iload_n dX9_crossing_38 rfl ?_
    refine ex_ialoadv (v := m.2.2 5 j) dX9_crossing_39 (mA_5 p22) (by first | assumption | exact vp_in_nI (by omega) (by decide)) (mo_av rfl rfl (by omega)) ?_
    refine ex_istore_n dX9_crossing_40 (Nat.le_of_ble_eq_true rfl) ?_
    refine ex_aload_n dX9_crossing_41 rfl ?_
    refine ex_getfield dX9_crossing_42 g_X9_23 (mP_o p22) rfl ?_
    refine ex_iload_n dX9_crossing_45 rfl ?_
    refine ex_iload_n dX9_crossing_46 rfl ?_
    refine ex_iastore dX9_crossing_47 (mA_5 p22) (by first | assumption | exact vp_in_nI (by omega) (by decide)) ?_
    refine mq_5 p22 (fun h47 p47 => ?_)
    refine ex_iload_n dX9_crossing_48 rfl ?_
    refine ex_ireturn dX9_crossing_49 ⟨_, rfl, rfl⟩ ?_
    rw [ej] at p47; exact ⟨_, rfl, _, p47, ⟨⟨r.1.1, r.1.2.1, rfl, r.1.2.2.2⟩, r.2⟩, rfl, rfl⟩
  · skip
    refine ex_aload_n dX9_crossing_0 rfl ?_
    refine ex_iload_n dX9_crossing_1 rfl ?_
    refine cS_f dX9_crossing_2 (mm_ks i_X9_isCell l_X9_131) ⟨(Nat.le_of_ble_eq_true rfl), (Nat.le_of_ble_eq_true rfl)⟩ (c_X9_isCell _) rfl rfl (Nat.le_of_ble_eq_true rfl) rfl ?_
    refine ex_if_eq (tgt := 21) dX9_crossing_5 (by decide) (fun c_5 => ?_) (fun c_5 => ?_)
    · refine ex_iconst (v := 1) dX9_crossing_21 (by decide) ?_
      first | exact k _ (if_neg (fun z => bb_0.mp c_5 z.1)).symm | exact k _ (if_neg (fun z => bb_0.mp c_14 z.2)).symm | exact k _ (if_pos ⟨bb_n.mp c_5, bb_n.mp c_14⟩).symm
    · refine ex_iload_n dX9_crossing_8 rfl ?_
      refine ex_iconst (v := 0) dX9_crossing_9 (by decide) ?_
      refine ex_iconst (v := 2) dX9_crossing_10 (by decide) ?_
      refine cS_f dX9_crossing_11 (mm_ks i_X9_isIn l_X9_123) ⟨(Nat.le_of_ble_eq_true rfl), (Nat.le_of_ble_eq_true rfl)⟩ (c_X9_isIn _ _ _) rfl rfl (Nat.le_of_ble_eq_true rfl) rfl ?_
      refine ex_if_eq (tgt := 21) dX9_crossing_14 (by decide) (fun c_14 => ?_) (fun c_14 => ?_)
      · refine ex_iconst (v := 1) dX9_crossing_21 (by decide) ?_
        first | exact k _ (if_neg (fun z => bb_0.mp c_5 z.1)).symm | exact k _ (if_neg (fun z => bb_0.mp c_14 z.2)).symm | exact k _ (if_pos ⟨bb_n.mp c_5, bb_n.mp c_14⟩).symm
      · refine ex_iconst (v := 0) dX9_crossing_17 (by decide) ?_
        refine ex_goto (tgt := 22) dX9_crossing_18 (by decide) ?_
        first | exact k _ (if_neg (fun z => bb_0.mp c_5 z.1)).symm | exact k _ (if_neg (fun z => bb_0.mp c_14 z.2)).symm | exact k _ (if_pos ⟨bb_n.mp c_5, bb_n.mp c_14⟩).symm
theorem c_X9_weather (p : mo_P h0 h m) (r : r_all s m) (hy : iv_y s) (x : Int32) : mm_Ct l G mX9_weather [.ref 29, .int x] h (mo_Z h0 cx_a cx_s (cm_weather s x)) := by
  refine mm_ct (by decide +kernel) (by decide +kernel) rfl (by simp [Value.category]) (Nat.le_of_ble_eq_true rfl) rfl ?_
  refine mm_viaJ (if ii x 0 65536 then (if s.2.2.1.1 = 0 then 0 else 2) else 1) (pc' := 27) (ls' := [.ref 29, .int x]) (st := [.ref 29]) ?_ (fun k => ?_)
  · skip
    refine ex_put dX9_weather_27 p_X9_120 (mP_o p) (Nat.le_of_ble_eq_true rfl) (fun z => nomatch z) (mm_fi _) ?_
    refine mk_0 p (fun h27 p27 => ?_)
    skip
    unfold cm_weather
    by_cases h1 : ii x 0 65536
    rotate_left
    · rw [if_neg h1] at p27
      rw [if_neg h1]
      refine ex_aload_n dX9_weather_30 rfl ?_
      refine ex_getfield (v := .int (1)) dX9_weather_31 g_X9_120 (mP_o p27) (congrArg (fun z => some (Value.int z)) (rfl)) ?_
      refine ex_if_le (tgt := 39) dX9_weather_34 (by decide) (fun z => absurd z (by decide)) (fun _ => ?_)
      refine ex_iconst (v := 0) dX9_weather_37 (by decide) ?_
      refine ex_ireturn dX9_weather_38 ⟨_, rfl, rfl⟩ ?_
      exact ⟨_, rfl, _, p27, r, ⟨Or.inl ⟨rfl, rfl⟩, _, rfl⟩⟩
    rw [if_pos h1] at p27
    rw [if_pos h1]
    by_cases h2 : s.2.2.1.1 = 0
    rotate_left
    · rw [if_neg h2] at p27
      rw [if_neg h2]
      refine ex_aload_n dX9_weather_30 rfl ?_
      refine ex_getfield (v := .int (2)) dX9_weather_31 g_X9_120 (mP_o p27) (congrArg (fun z => some (Value.int z)) (rfl)) ?_
      refine ex_if_le (tgt := 39) dX9_weather_34 (by decide) (fun z => absurd z (by decide)) (fun _ => ?_)
      refine ex_iconst (v := 0) dX9_weather_37 (by decide) ?_
      refine ex_ireturn dX9_weather_38 ⟨_, rfl, rfl⟩ ?_
      exact ⟨_, rfl, _, p27, r, ⟨Or.inr ⟨rfl, rfl⟩, _, rfl⟩⟩
    rw [if_pos h2] at p27
    rw [if_pos h2]
    refine ex_aload_n dX9_weather_30 rfl ?_
    refine ex_getfield (v := .int (0)) dX9_weather_31 g_X9_120 (mP_o p27) (congrArg (fun z => some (Value.int z)) (rfl)) ?_
    refine ex_if_le (tgt := 39) dX9_weather_34 (by decide) (fun _ => ?_) (fun z => absurd (by decide) z)
    refine ex_aload_n dX9_weather_39 rfl ?_
    refine ex_iload_n dX9_weather_40 rfl ?_
    refine ex_put dX9_weather_41 p_X9_142 (mP_o p27) (Nat.le_of_ble_eq_true rfl) (fun z => nomatch z) (mm_fi _) ?_
    refine mk_7 p27 (fun h41 p41 => ?_)
    refine ex_aload_n dX9_weather_44 rfl ?_
    refine ex_getfield (v := .int (x)) dX9_weather_45 g_X9_142 (mP_o p41) (congrArg (fun z => some (Value.int z)) (rfl)) ?_
    refine ex_bipush (v := 10) dX9_weather_48 (by decide) ?_
    refine ex_irem dX9_weather_50 (by decide) ?_
    refine ex_ireturn dX9_weather_51 ⟨_, rfl, rfl⟩ ?_
    exact ⟨_, rfl, _, p41, ⟨r.1, ⟨r.2.1.1, rfl, r.2.1.2.2⟩, r.2.2⟩, rfl, rfl⟩
  · have hz : s.2.2.1.1 ≤ 0 → s.2.2.1.1 = 0 := by
      intro z
      obtain ⟨d, hd, e⟩ := hy
      rw [e] at z ⊢
      rcases Nat.eq_zero_or_pos d with y | y
      · rw [y]; rfl
      · exact absurd z (nI_nle y (by omega))
    refine ex_aload_n dX9_weather_0 rfl ?_
    refine ex_iload_n dX9_weather_1 rfl ?_
    refine ex_iconst (v := 0) dX9_weather_2 (by decide) ?_
    refine ex_ldc dX9_weather_3 k_X9_138 ?_
    refine cS_f dX9_weather_5 (mm_ks i_X9_isIn l_X9_123) ⟨(Nat.le_of_ble_eq_true rfl), (Nat.le_of_ble_eq_true rfl)⟩ (c_X9_isIn _ _ _) rfl rfl (Nat.le_of_ble_eq_true rfl) rfl ?_
    refine ex_if_ne (tgt := 15) dX9_weather_8 (by decide) (fun c_8 => ?_) (fun c_8 => ?_)
    · refine ex_aload_n dX9_weather_15 rfl ?_
      refine ex_getfield (v := .int (s.2.2.1.1)) dX9_weather_16 g_X9_139 (mP_o p) (congrArg (fun z => some (Value.int z)) (r.2.1.1)) ?_
      refine ex_if_le (tgt := 26) dX9_weather_19 (by decide) (fun c_19 => ?_) (fun c_19 => ?_)
      · refine ex_iconst (v := 0) dX9_weather_26 (by decide) ?_
        exact k _ (by rw [if_pos (bb_n.mp c_8), if_pos (hz c_19)])
      · refine ex_iconst (v := 2) dX9_weather_22 (by decide) ?_
        refine ex_goto (tgt := 27) dX9_weather_23 (by decide) ?_
        exact k _ (by rw [if_pos (bb_n.mp c_8), if_neg (fun z => by rw [z] at c_19; exact c_19 (Int32.le_refl _))])
    · refine ex_iconst (v := 1) dX9_weather_11 (by decide) ?_
      refine ex_goto (tgt := 27) dX9_weather_12 (by decide) ?_
      exact k _ (by rw [if_neg (bb_0.mp c_8)])
theorem c_X9_feed (p : mo_P h0 h m) (r : r_all s m) (a b : Int32) : mm_Ct l G mX9_feed [.ref 29, .int a, .int b] h (mo_Zv h0 cx_a cx_s (cm_feed s a b)) := by
  refine mm_ct (by decide +kernel) (by decide +kernel) rfl (by simp [Value.category]) (Nat.le_of_ble_eq_true rfl) rfl ?_
  refine mm_viaJ (if ii a 0 9999 ∧ ii b 0 9999 then 0 else 1) (pc' := 28) (ls' := [.ref 29, .int a, .int b]) (st := [.ref 29]) ?_ (fun k => ?_)
  · skip
    refine ex_put dX9_feed_28 p_X9_120 (mP_o p) (Nat.le_of_ble_eq_true rfl) (fun z => nomatch z) (mm_fi _) ?_
    refine mk_0 p (fun h28 p28 => ?_)
    skip
    unfold cm_feed
    by_cases h1 : ii a 0 9999 ∧ ii b 0 9999
    rotate_left
    · rw [if_neg h1] at p28
      rw [if_neg h1]
      refine ex_aload_n dX9_feed_31 rfl ?_
      refine ex_getfield (v := .int (1)) dX9_feed_32 g_X9_120 (mP_o p28) (congrArg (fun z => some (Value.int z)) (rfl)) ?_
      refine ex_if_ne (tgt := 48) dX9_feed_35 (by decide) (fun _ => ?_) (fun z => absurd z (by decide))
      refine ex_return dX9_feed_48 rfl ?_
      exact ⟨rfl, _, p28, r, ⟨Or.inl ⟨rfl, rfl⟩, _, rfl⟩⟩
    rw [if_pos h1] at p28
    rw [if_pos h1]
    refine ex_aload_n dX9_feed_31 rfl ?_
    refine ex_getfield (v := .int (0)) dX9_feed_32 g_X9_120 (mP_o p28) (congrArg (fun z => some (Value.int z)) (rfl)) ?_
    refine ex_if_ne (tgt := 48) dX9_feed_35 (by decide) (fun z => absurd (by decide) z) (fun _ => ?_)
    refine ex_aload_n dX9_feed_38 rfl ?_
    refine ex_iload_n dX9_feed_39 rfl ?_
    refine ex_put dX9_feed_40 p_X9_238 (mP_o p28) (Nat.le_of_ble_eq_true rfl) (fun z => nomatch z) (mm_fi _) ?_
    refine mk_36 p28 (fun h40 p40 => ?_)
    refine ex_aload_n dX9_feed_43 rfl ?_
    refine ex_iload_n dX9_feed_44 rfl ?_
    refine ex_put dX9_feed_45 p_X9_241 (mP_o p40) (Nat.le_of_ble_eq_true rfl) (fun z => nomatch z) (mm_fi _) ?_
    refine mk_37 p40 (fun h45 p45 => ?_)
    refine ex_return dX9_feed_48 rfl ?_
    exact ⟨rfl, _, p45, ⟨r.1, r.2.1, r.2.2.1, r.2.2.2.1, r.2.2.2.2.1, r.2.2.2.2.2.1, ⟨r.2.2.2.2.2.2.1.1, r.2.2.2.2.2.2.1.2.1, r.2.2.2.2.2.2.1.2.2.1, r.2.2.2.2.2.2.1.2.2.2.1, rfl, rfl⟩, r.2.2.2.2.2.2.2⟩, rfl⟩
  · skip
    refine ex_aload_n dX9_feed_0 rfl ?_
    refine ex_iload_n dX9_feed_1 rfl ?_
    refine ex_iconst (v := 0) dX9_feed_2 (by decide) ?_
    refine ex_sipush (v := 9999) dX9_feed_3 (by decide) ?_
    refine cS_f dX9_feed_6 (mm_ks i_X9_isIn l_X9_123) ⟨(Nat.le_of_ble_eq_true rfl), (Nat.le_of_ble_eq_true rfl)⟩ (c_X9_isIn _ _ _) rfl rfl (Nat.le_of_ble_eq_true rfl) rfl ?_
    refine ex_if_eq (tgt := 27) dX9_feed_9 (by decide) (fun c_9 => ?_) (fun c_9 => ?_)
    · refine ex_iconst (v := 1) dX9_feed_27 (by decide) ?_
      first | exact k _ (if_neg (fun z => bb_0.mp c_9 z.1)).symm | exact k _ (if_neg (fun z => bb_0.mp c_20 z.2)).symm | exact k _ (if_pos ⟨bb_n.mp c_9, bb_n.mp c_20⟩).symm
    · refine ex_iload_n dX9_feed_12 rfl ?_
      refine ex_iconst (v := 0) dX9_feed_13 (by decide) ?_
      refine ex_sipush (v := 9999) dX9_feed_14 (by decide) ?_
      refine cS_f dX9_feed_17 (mm_ks i_X9_isIn l_X9_123) ⟨(Nat.le_of_ble_eq_true rfl), (Nat.le_of_ble_eq_true rfl)⟩ (c_X9_isIn _ _ _) rfl rfl (Nat.le_of_ble_eq_true rfl) rfl ?_
      refine ex_if_eq (tgt := 27) dX9_feed_20 (by decide) (fun c_20 => ?_) (fun c_20 => ?_)
      · refine ex_iconst (v := 1) dX9_feed_27 (by decide) ?_
        first | exact k _ (if_neg (fun z => bb_0.mp c_9 z.1)).symm | exact k _ (if_neg (fun z => bb_0.mp c_20 z.2)).symm | exact k _ (if_pos ⟨bb_n.mp c_9, bb_n.mp c_20⟩).symm
      · refine ex_iconst (v := 0) dX9_feed_23 (by decide) ?_
        refine ex_goto (tgt := 28) dX9_feed_24 (by decide) ?_
        first | exact k _ (if_neg (fun z => bb_0.mp c_9 z.1)).symm | exact k _ (if_neg (fun z => bb_0.mp c_20 z.2)).symm | exact k _ (if_pos ⟨bb_n.mp c_9, bb_n.mp c_20⟩).symm
def mo_Zq (h0 : mm_H) (x : Int32) (s : cl_S) : mm_R → mm_H → Prop := mm_qi (fun v h' => ∃ m', mo_P h0 h' m' ∧ r_all s m' ∧ v = .int x)
theorem c_X9_day (p : mo_P h0 h m) (r : r_all s m) : mm_Ct l G mX9_day [.ref 29] h (mo_Zq h0 s.2.2.1.1 s) := by
  refine mm_ct (by decide +kernel) (by decide +kernel) rfl (by simp [Value.category]) (Nat.le_of_ble_eq_true rfl) rfl ?_
  refine ex_aload_n dX9_day_0 rfl ?_
  refine ex_iconst (v := 0) dX9_day_1 (by decide) ?_
  refine ex_put dX9_day_2 p_X9_120 (mP_o p) (Nat.le_of_ble_eq_true rfl) (fun z => nomatch z) (mm_fi _) ?_
  refine mk_0 p (fun h2 p2 => ?_)
  refine ex_aload_n dX9_day_5 rfl ?_
  refine ex_getfield (v := .int (s.2.2.1.1)) dX9_day_6 g_X9_139 (mP_o p2) (congrArg (fun z => some (Value.int z)) (r.2.1.1)) ?_
  refine ex_ireturn dX9_day_9 ⟨_, rfl, rfl⟩ ?_
  exact ⟨_, rfl, _, p2, r, rfl⟩
theorem c_X9_waves (p : mo_P h0 h m) (r : r_all s m) : mm_Ct l G mX9_waves [.ref 29] h (mo_Zq h0 (ca_w s.2.2.1) s) := by
  refine mm_ct (by decide +kernel) (by decide +kernel) rfl (by simp [Value.category]) (Nat.le_of_ble_eq_true rfl) rfl ?_
  refine ex_aload_n dX9_waves_0 rfl ?_
  refine ex_iconst (v := 0) dX9_waves_1 (by decide) ?_
  refine ex_put dX9_waves_2 p_X9_120 (mP_o p) (Nat.le_of_ble_eq_true rfl) (fun z => nomatch z) (mm_fi _) ?_
  refine mk_0 p (fun h2 p2 => ?_)
  refine ex_aload_n dX9_waves_5 rfl ?_
  refine ex_getfield (v := .int (s.2.2.1.2.1)) dX9_waves_6 g_X9_142 (mP_o p2) (congrArg (fun z => some (Value.int z)) (r.2.1.2.1)) ?_
  refine ex_bipush (v := 10) dX9_waves_9 (by decide) ?_
  refine ex_irem dX9_waves_11 (by decide) ?_
  refine ex_ireturn dX9_waves_12 ⟨_, rfl, rfl⟩ ?_
  exact ⟨_, rfl, _, p2, r, rfl⟩
theorem c_X9_canWork (p : mo_P h0 h m) (r : r_all s m) : mm_Ct l G mX9_canWork [.ref 29] h (mo_Zq h0 (bb (ca_w s.2.2.1 ≤ 6 ∧ s.2.2.1.2.2 ≤ s.2.2.1.1)) s) := by
  refine mm_ct (by decide +kernel) (by decide +kernel) rfl (by simp [Value.category]) (Nat.le_of_ble_eq_true rfl) rfl ?_
  refine ex_aload_n dX9_canWork_0 rfl ?_
  refine ex_iconst (v := 0) dX9_canWork_1 (by decide) ?_
  refine ex_put dX9_canWork_2 p_X9_120 (mP_o p) (Nat.le_of_ble_eq_true rfl) (fun z => nomatch z) (mm_fi _) ?_
  refine mk_0 p (fun h2 p2 => ?_)
  refine ex_aload_n dX9_canWork_5 rfl ?_
  refine cV_f dX9_canWork_6 (mm_kv i_X9_ships l_X9_207) ⟨(Nat.le_of_ble_eq_true rfl), (Nat.le_of_ble_eq_true rfl)⟩ (c_X9_ships p2 (c := s.2.2.1) r.2.1.1 r.2.1.2.1 r.2.1.2.2) rfl rfl (mP_o p2) (Nat.le_of_ble_eq_true rfl) rfl ?_
  refine ex_ireturn dX9_canWork_9 ⟨_, rfl, (by first | rfl | exact bb_r)⟩ ?_
  exact ⟨_, rfl, _, p2, r, rfl⟩
theorem c_X9_faults (p : mo_P h0 h m) (r : r_all s m) : mm_Ct l G mX9_faults [.ref 29] h (mo_Zq h0 (nI (s.1 4).length) s) := by
  refine mm_ct (by decide +kernel) (by decide +kernel) rfl (by simp [Value.category]) (Nat.le_of_ble_eq_true rfl) rfl ?_
  refine ex_aload_n dX9_faults_0 rfl ?_
  refine ex_iconst (v := 0) dX9_faults_1 (by decide) ?_
  refine ex_put dX9_faults_2 p_X9_120 (mP_o p) (Nat.le_of_ble_eq_true rfl) (fun z => nomatch z) (mm_fi _) ?_
  refine mk_0 p (fun h2 p2 => ?_)
  refine ex_aload_n dX9_faults_5 rfl ?_
  refine ex_getfield (v := .int (nI (s.1 4).length)) dX9_faults_6 g_X9_177 (mP_o p2) (congrArg (fun z => some (Value.int z)) (r.2.2.2.2.2.2.2.1.1)) ?_
  refine ex_ireturn dX9_faults_9 ⟨_, rfl, rfl⟩ ?_
  exact ⟨_, rfl, _, p2, r, rfl⟩
end MOI
