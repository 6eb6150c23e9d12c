/-! THE MODEL: mending -/
abbrev md_1 (s : cl_S) (i : Int32) : Prop := (cl_wo s ∧ (cl_ce s = 100 ∨ ¬ cl_bu s = 0)) ∧ (i < cl_ce s ∧ ¬ (¬ cl_bu s = 0 ∧ i = cl_ce s - 1))
abbrev md_2 (s : cl_S) (i t : Int32) : Prop := (cl_ga s t (me_m s i)).2 = 0 ∧ ho_fi (cl_ty s) (cl_ga s t (me_m s i)).1 (cl_tyAt s (me_b s i - 1)) (cl_tyAt s (me_e s i)) = true
theorem md_cm (s : cl_S) (i t : Int32) : cm_mend s i t = if ii i 0 99 ∧ ii t 0 2 then (if md_1 s i ∧ md_2 s i t then (.inl (some (nI (me_f s i).2)), md_s s i t) else (.inr cx_s, if md_1 s i then me_1 s i t else s)) else (.inr cx_a, s) := by
  unfold cm_mend
  by_cases h0 : ii i 0 99 ∧ ii t 0 2
  · rw [if_pos h0, if_pos h0]
    by_cases h1 : cl_wo s ∧ (cl_ce s = 100 ∨ ¬ cl_bu s = 0)
    · rw [if_pos h1]
      by_cases h2 : i < cl_ce s ∧ ¬ (¬ cl_bu s = 0 ∧ i = cl_ce s - 1)
      · rw [if_pos h2]
        by_cases h3 : md_2 s i t
        · rw [if_pos h3, if_pos ⟨⟨h1, h2⟩, h3⟩]; rfl
        · rw [if_neg h3, if_neg (fun z => h3 z.2), if_pos ⟨h1, h2⟩]
      · rw [if_neg h2, if_neg (fun z => h2 z.1.2), if_neg (fun z => h2 z.2)]
    · rw [if_neg h1, if_neg (fun z => h1 z.1.1), if_neg (fun z => h1 z.1)]
  · rw [if_neg h0, if_neg h0]
def md_x : Nat → List tt_R → List tt_R
  | _, [] => []
  | i, q :: L => (if i = 0 then [] else [(1, -1, -1, 0)]) ++ (0, q.2.1, q.2.2.1, q.2.2.2) :: md_x (i + 1) L
theorem md_x1 : ∀ (g : List tt_R) (i : Nat), ¬ i = 0 → md_x i g ++ [(1, -1, -1, 0)] = (1, -1, -1, 0) :: ro_xs g
  | [], _, _ => rfl
  | q :: g, i, h => by
    rw [md_x, if_neg h, ro_xs, ← md_x1 g (i + 1) (by omega)]; rfl
theorem md_x0 {g : List tt_R} (h : ¬ g = []) : md_x 0 g ++ [(1, -1, -1, 0)] = ro_xs g := by
  cases g with
  | nil => exact absurd rfl h
  | cons q g => rw [md_x, if_pos rfl, ro_xs, List.nil_append, List.cons_append, md_x1 g 1 (by omega)]
theorem md_x_len : ∀ (g : List tt_R) (i : Nat), (md_x i g).length ≤ 2 * g.length
  | [], _ => Nat.le_refl _
  | q :: g, i => by
    have := md_x_len g (i + 1)
    rw [md_x, List.length_append, List.length_cons, List.length_cons]
    split
    · rw [List.length_nil]; omega
    · rw [List.length_cons, List.length_nil]; omega
section MOV
variable {l : Launch} {G : mm_G} {h0 h : mm_H} {m s1 : mo_S} {s : cl_S} {n k kp lo wa mk j u : Nat} {c : Nat → Nat} {T L : List tt_R}
theorem c_X9_canMend (p : mo_P h0 h m) (r : r_all s m) (hx : ivx n s k kp lo wa mk c) (hn : n ≤ 513) (hj : j ≤ 99) (hu : u < 3) : mm_Ct l G mX9_canMend [.ref 29, .int (nI j), .int (nI u)] h (mm_qi (fun v h' => v = .int (bb (md_1 s (nI j) ∧ md_2 s (nI j) (nI u))) ∧ ∃ m', mo_P h0 h' m' ∧ mo_F [17, 18, 19, 20] m m' ∧ (md_1 s (nI j) → r_out m' (cl_ga s (nI u) (me_m s (nI j))).1))) := by
  have hW := hx.W hn
  have hN := hx.N
  have hkp := hx.2.1
  have hce : cl_ce s = nI k := hx.1.1
  have hk100 := hx.1.2.1
  obtain ⟨r1, r2, r3, r4, r5, r6, r7, r8, r9, r10⟩ := id r
  have hty : cl_ty s = ho_ty s.2.2.2.1.1 (nI kp) := by unfold cl_ty; rw [hkp.1]
  refine mm_ct (by decide +kernel) (by decide +kernel) rfl (by simp [Value.category]) (Nat.le_of_ble_eq_true rfl) rfl ?_
  refine mm_via (p := md_1 s (nI j)) (pc' := 51) (ls' := [.ref 29, .int (nI j), .int (nI u), .null, .null]) (st := []) (fun b hb => ?_) (fun kk => ?_)
  · by_cases h1 : md_1 s (nI j)
    rotate_left
    · rw [bb_f h1] at hb
      subst hb
      refine ex_istore_n dX9_canMend_51 (Nat.le_of_ble_eq_true rfl) ?_
      refine ex_iload_n dX9_canMend_52 rfl ?_
      refine ex_if_eq (tgt := 78) dX9_canMend_53 (by decide) (fun _ => ?_) (fun z => absurd rfl z)
      refine ex_iconst (v := 0) dX9_canMend_78 (by decide) ?_
      refine ex_ireturn dX9_canMend_79 ⟨_, rfl, (by first | rfl | exact bb_r)⟩ ?_
      exact ⟨_, rfl, congrArg Value.int (bb_f (fun z => h1 z.1)).symm, m, p, mo_F.refl _ m, fun z => absurd z h1⟩
    · rw [bb_t h1] at hb
      subst hb
      have hjk : j < k := (nI_ltI (by omega) (by omega)).mp (hce ▸ h1.2.1)
      obtain ⟨d, hd1, hd2, hb, he, hm, hc, hs⟩ := md_v hx hjk
      have hle := cs_le hx hjk
      have hMM : s.2.2.2.2.1.1 j + 2 * se_d s.2.1 (nI j) = me_m s (nI j) := by rw [hm, hc, hd2, show (2 : Int32) = nI 2 from rfl, pk_mul, nI_add]
      have hgl : (cl_ga s (nI u) (me_m s (nI j))).1.length ≤ 30 := Nat.le_trans (ga_len hx) hkp.2.1
      have hgk : g_ok kp (cl_ga s (nI u) (me_m s (nI j))).1 := by rw [hm]; exact ga_ok hx hu (by have := hx.2.2.2.2.1.2.2 j hjk; omega)
      refine ex_istore_n dX9_canMend_51 (Nat.le_of_ble_eq_true rfl) ?_
      refine ex_iload_n dX9_canMend_52 rfl ?_
      refine ex_if_eq (tgt := 78) dX9_canMend_53 (by decide) (fun z => absurd z (by decide)) (fun _ => ?_)
      refine ex_aload_n dX9_canMend_56 rfl ?_
      refine ex_iload_n dX9_canMend_57 rfl ?_
      refine ex_aload_n dX9_canMend_58 rfl ?_
      refine ex_getfield dX9_canMend_59 g_X9_74 (mP_o p) rfl ?_
      refine ex_iload_n dX9_canMend_62 rfl ?_
      refine ex_ialoadv (v := s.2.2.2.2.1.1 j) dX9_canMend_63 (mA_32 p) (by first | assumption | exact vp_in_nI (by omega) (by decide)) (mo_av (congrFun r6.2 j) rfl (by omega)) ?_
      refine ex_iconst (v := 2) dX9_canMend_64 (by decide) ?_
      refine ex_aload_n dX9_canMend_65 rfl ?_
      refine ex_iload_n dX9_canMend_66 rfl ?_
      refine cV_f dX9_canMend_67 (mm_kv i_X9_depthOf l_X9_127) ⟨(Nat.le_of_ble_eq_true rfl), (Nat.le_of_ble_eq_true rfl)⟩ (c_X9_depthOf p r1 (by omega)) rfl rfl (mP_o p) (Nat.le_of_ble_eq_true rfl) rfl ?_
      refine ex_imul dX9_canMend_70 ?_
      refine ex_iadd dX9_canMend_71 ?_
      rw [hMM]
      refine cV_x dX9_canMend_72 (mm_kv i_X9_wouldGo l_X9_213) ⟨(Nat.le_of_ble_eq_true rfl), (Nat.le_of_ble_eq_true rfl)⟩ (c_X9_wouldGo p r4 hu _ rfl _) rfl rfl (mP_o p) (Nat.le_of_ble_eq_true rfl) rfl ?_
      rintro _ h72 ⟨rfl, m1, p72, f1, o1⟩
      skip
      have hgo : (cl_ga s (nI u) (me_m s (nI j))).2 = 0 → mm_Ex l G mX9_canMend (mm_qi fun v h' => v = .int (bb (md_1 s (nI j) ∧ md_2 s (nI j) (nI u))) ∧ ∃ m', mo_P h0 h' m' ∧ mo_F [17, 18, 19, 20] m m' ∧ (md_1 s (nI j) → r_out m' (cl_ga s (nI u) (me_m s (nI j))).1)) 80 [.ref 29, .int (nI j), .int (nI u), .int 1, .null] [] h72 := by
        intro hz
        refine ex_aload_n dX9_canMend_80 rfl ?_
        refine ex_iload_n dX9_canMend_81 rfl ?_
        refine cV_f dX9_canMend_82 (mm_kv i_X9_begins l_X9_266) ⟨(Nat.le_of_ble_eq_true rfl), (Nat.le_of_ble_eq_true rfl)⟩ (c_X9_begins p72 (cm := s.2.2.2.2.1.1) ((f1.2.2 32 rfl).trans r6.2) (i := j) (by omega) _ rfl) rfl rfl (mP_o p72) (Nat.le_of_ble_eq_true rfl) rfl ?_
        rw [bs_cs hx j (by omega)]
        refine ex_istore dX9_canMend_85 (Nat.le_of_ble_eq_true rfl) ?_
        refine ex_aload_n dX9_canMend_87 rfl ?_
        skip
        have hf1 : cl_tyAt s (nI (cs c j) - 1) = -1 ∨ sm (cl_tyAt s (nI (cs c j) - 1)) := by
          rcases Nat.eq_zero_or_pos (cs c j) with z | z
          · rw [z, show nI 0 - 1 = -1 by decide]; exact Or.inl (tyAt_m1 hx)
          · rw [show nI (cs c j) - 1 = nI (cs c j - 1) from pk_sub (a := cs c j) (b := 1) (by omega), tyAt_ta hx (by omega)]; exact ta_sm hx _
        have hf2 : ln_ta s.2.2.2.1.1 (s.1 2) (cs c j + c j) = cl_tyAt s (me_e s (nI j)) := by rw [he, tyAt_ta hx (by omega)]
        refine mm_viaJ (cl_tyAt s (nI (cs c j) - 1)) (pc' := 105) (ls' := [.ref 29, .int (nI j), .int (nI u), .int 1, .int (nI (cs c j))]) (st := [.ref 29]) ?_ (fun kk => ?_)
        · skip
          refine ex_aload_n dX9_canMend_105 rfl ?_
          refine ex_iload dX9_canMend_106 rfl ?_
          refine ex_aload_n dX9_canMend_108 rfl ?_
          refine ex_getfield dX9_canMend_109 g_X9_74 (mP_o p72) rfl ?_
          refine ex_iload_n dX9_canMend_112 rfl ?_
          refine ex_ialoadv (v := s.2.2.2.2.1.1 j) dX9_canMend_113 (mA_32 p72) (by first | assumption | exact vp_in_nI (by omega) (by decide)) (mo_av ((congrFun (f1.2.2 32 rfl) j).trans (congrFun r6.2 j)) rfl (by omega)) ?_
          refine ex_iadd dX9_canMend_114 ?_
          refine cV_f dX9_canMend_115 (mm_kv i_X9_typeAt l_X9_200) ⟨(Nat.le_of_ble_eq_true rfl), (Nat.le_of_ble_eq_true rfl)⟩ (c_X9_typeAt p72 (r5.fr f1) hW (types := s.2.2.2.1.1) ((f1.2.2 11 rfl).trans r3.2.1) (by omega) (q := cs c j + c j) (by omega) _ (by rw [hc, nI_add])) rfl rfl (mP_o p72) (Nat.le_of_ble_eq_true rfl) rfl ?_
          rw [hf2]
          refine cV_f dX9_canMend_118 (mm_kv i_X9_typesFit l_X9_223) ⟨(Nat.le_of_ble_eq_true rfl), (Nat.le_of_ble_eq_true rfl)⟩ (c_X9_typesFit p72 o1 hgl hkp.2.1 (types := s.2.2.2.1.1) ((f1.2.2 11 rfl).trans r3.2.1) hkp.2.2 hgk _ _ hf1 (by rw [← hf2]; exact ta_sm hx _)) rfl rfl (mP_o p72) (Nat.le_of_ble_eq_true rfl) rfl ?_
          refine ex_ireturn dX9_canMend_121 ⟨_, rfl, (by first | rfl | exact bb_r)⟩ ?_
          refine ⟨_, rfl, ?_, m1, p72, f1, fun _ => o1⟩
          rw [← hb, ← hty]
          by_cases hq : ho_fi (cl_ty s) (cl_ga s (nI u) (me_m s (nI j))).1 (cl_tyAt s (me_b s (nI j) - 1)) (cl_tyAt s (me_e s (nI j))) = true
          · exact congrArg Value.int ((bb_t hq).trans (bb_t ⟨h1, hz, hq⟩).symm)
          · exact congrArg Value.int ((bb_f hq).trans (bb_f (fun z => hq z.2.2)).symm)
        · rcases Nat.eq_zero_or_pos (cs c j) with z0 | z0
          · skip
            refine ex_iload dX9_canMend_88 rfl ?_
            refine ex_if_ne (tgt := 97) dX9_canMend_90 (by decide) (fun z => absurd (by rw [z0]; rfl) z) (fun _ => ?_)
            refine ex_iconst (v := (-1)) dX9_canMend_93 (by decide) ?_
            refine ex_goto (tgt := 105) dX9_canMend_94 (by decide) ?_
            exact kk _ (by rw [z0, show nI 0 - 1 = -1 by decide, tyAt_m1 hx])
          · skip
            refine ex_iload dX9_canMend_88 rfl ?_
            refine ex_if_ne (tgt := 97) dX9_canMend_90 (by decide) (fun _ => ?_) (fun z => absurd z (nI_ne0 z0 (by omega)))
            refine ex_aload_n dX9_canMend_97 rfl ?_
            refine ex_iload dX9_canMend_98 rfl ?_
            refine ex_iconst (v := 1) dX9_canMend_100 (by decide) ?_
            refine ex_isub dX9_canMend_101 ?_
            refine cV_f dX9_canMend_102 (mm_kv i_X9_typeAt l_X9_200) ⟨(Nat.le_of_ble_eq_true rfl), (Nat.le_of_ble_eq_true rfl)⟩ (c_X9_typeAt p72 (r5.fr f1) hW (types := s.2.2.2.1.1) ((f1.2.2 11 rfl).trans r3.2.1) (by omega) (q := cs c j - 1) (by omega) _ (pk_sub (a := cs c j) (b := 1) (by omega))) rfl rfl (mP_o p72) (Nat.le_of_ble_eq_true rfl) rfl ?_
            exact kk _ (by rw [show nI (cs c j) - 1 = nI (cs c j - 1) from pk_sub (a := cs c j) (b := 1) (by omega), tyAt_ta hx (by omega)])
      refine ex_if_ne (tgt := 80) dX9_canMend_75 (by decide) (fun c_75 => ?_) (fun c_75 => ?_)
      · exact hgo (bb_n.mp c_75)
      · refine ex_iconst (v := 0) dX9_canMend_78 (by decide) ?_
        refine ex_ireturn dX9_canMend_79 ⟨_, rfl, (by first | rfl | exact bb_r)⟩ ?_
        exact ⟨_, rfl, congrArg Value.int (bb_f (fun z => bb_0.mp c_75 z.2.1)).symm, m1, p72, f1, fun _ => o1⟩
  · skip
    refine ex_aload_n dX9_canMend_0 rfl ?_
    refine cV_f dX9_canMend_1 (mm_kv i_X9_ships l_X9_207) ⟨(Nat.le_of_ble_eq_true rfl), (Nat.le_of_ble_eq_true rfl)⟩ (c_X9_ships p (c := s.2.2.1) r2.1 r2.2.1 r2.2.2) rfl rfl (mP_o p) (Nat.le_of_ble_eq_true rfl) rfl ?_
    refine ex_if_eq (tgt := 50) dX9_canMend_4 (by decide) (fun c_4 => ?_) (fun c_4 => ?_)
    · refine ex_iconst (v := 0) dX9_canMend_50 (by decide) ?_
      exact kk _ (bb_f (fun z => bb_0.mp c_4 z.1.1)).symm
    · refine ex_aload_n dX9_canMend_7 rfl ?_
      refine cV_f dX9_canMend_8 (mm_kv i_X9_liesAtB l_X9_149) ⟨(Nat.le_of_ble_eq_true rfl), (Nat.le_of_ble_eq_true rfl)⟩ (c_X9_liesAtB p) rfl rfl (mP_o p) (Nat.le_of_ble_eq_true rfl) rfl ?_
      refine ex_if_ne (tgt := 21) dX9_canMend_11 (by decide) (fun c_11 => ?_) (fun c_11 => ?_)
      · refine ex_iload_n dX9_canMend_21 rfl ?_
        refine ex_aload_n dX9_canMend_22 rfl ?_
        refine ex_getfield (v := .int (cl_ce s)) dX9_canMend_23 g_X9_135 (mP_o p) (congrArg (fun z => some (Value.int z)) (r6.1)) ?_
        refine ex_icmp_ge (tgt := 50) dX9_canMend_26 (by decide) (fun c_26 => ?_) (fun c_26 => ?_)
        · refine ex_iconst (v := 0) dX9_canMend_50 (by decide) ?_
          exact kk _ (bb_f (fun z => absurd z.2.1 (Int32.not_lt.mpr c_26))).symm
        · refine ex_aload_n dX9_canMend_29 rfl ?_
          refine ex_getfield (v := .int (cl_bu s)) dX9_canMend_30 g_X9_153 (mP_o p) (congrArg (fun z => some (Value.int z)) (r7.2.1)) ?_
          refine ex_if_eq (tgt := 46) dX9_canMend_33 (by decide) (fun c_33 => ?_) (fun c_33 => ?_)
          · refine ex_iconst (v := 1) dX9_canMend_46 (by decide) ?_
            refine ex_goto (tgt := 51) dX9_canMend_47 (by decide) ?_
            exact kk _ (bb_t ⟨⟨bb_n.mp c_4, by first | exact Or.inr c_18 | exact Or.inl (r6.1.symm.trans (bb_n.mp c_11))⟩, Int32.not_le.mp c_26, fun z => z.1 c_33⟩).symm
          · refine ex_iload_n dX9_canMend_36 rfl ?_
            refine ex_aload_n dX9_canMend_37 rfl ?_
            refine ex_getfield (v := .int (cl_ce s)) dX9_canMend_38 g_X9_135 (mP_o p) (congrArg (fun z => some (Value.int z)) (r6.1)) ?_
            refine ex_iconst (v := 1) dX9_canMend_41 (by decide) ?_
            refine ex_isub dX9_canMend_42 ?_
            refine ex_icmp_eq (tgt := 50) dX9_canMend_43 (by decide) (fun c_43 => ?_) (fun c_43 => ?_)
            · refine ex_iconst (v := 0) dX9_canMend_50 (by decide) ?_
              exact kk _ (bb_f (fun z => z.2.2 ⟨c_33, c_43⟩)).symm
            · refine ex_iconst (v := 1) dX9_canMend_46 (by decide) ?_
              refine ex_goto (tgt := 51) dX9_canMend_47 (by decide) ?_
              exact kk _ (bb_t ⟨⟨bb_n.mp c_4, by first | exact Or.inr c_18 | exact Or.inl (r6.1.symm.trans (bb_n.mp c_11))⟩, Int32.not_le.mp c_26, fun z => c_43 z.2⟩).symm
      · refine ex_aload_n dX9_canMend_14 rfl ?_
        refine ex_getfield (v := .int (cl_bu s)) dX9_canMend_15 g_X9_153 (mP_o p) (congrArg (fun z => some (Value.int z)) (r7.2.1)) ?_
        refine ex_if_eq (tgt := 50) dX9_canMend_18 (by decide) (fun c_18 => ?_) (fun c_18 => ?_)
        · refine ex_iconst (v := 0) dX9_canMend_50 (by decide) ?_
          exact kk _ (bb_f (fun z => z.1.2.elim (fun y => bb_0.mp c_11 (r6.1.trans y)) (fun y => y c_18))).symm
        · refine ex_iload_n dX9_canMend_21 rfl ?_
          refine ex_aload_n dX9_canMend_22 rfl ?_
          refine ex_getfield (v := .int (cl_ce s)) dX9_canMend_23 g_X9_135 (mP_o p) (congrArg (fun z => some (Value.int z)) (r6.1)) ?_
          refine ex_icmp_ge (tgt := 50) dX9_canMend_26 (by decide) (fun c_26 => ?_) (fun c_26 => ?_)
          · refine ex_iconst (v := 0) dX9_canMend_50 (by decide) ?_
            exact kk _ (bb_f (fun z => absurd z.2.1 (Int32.not_lt.mpr c_26))).symm
          · refine ex_aload_n dX9_canMend_29 rfl ?_
            refine ex_getfield (v := .int (cl_bu s)) dX9_canMend_30 g_X9_153 (mP_o p) (congrArg (fun z => some (Value.int z)) (r7.2.1)) ?_
            refine ex_if_eq (tgt := 46) dX9_canMend_33 (by decide) (fun c_33 => ?_) (fun c_33 => ?_)
            · refine ex_iconst (v := 1) dX9_canMend_46 (by decide) ?_
              refine ex_goto (tgt := 51) dX9_canMend_47 (by decide) ?_
              exact kk _ (bb_t ⟨⟨bb_n.mp c_4, by first | exact Or.inr c_18 | exact Or.inl (r6.1.symm.trans (bb_n.mp c_11))⟩, Int32.not_le.mp c_26, fun z => z.1 c_33⟩).symm
            · refine ex_iload_n dX9_canMend_36 rfl ?_
              refine ex_aload_n dX9_canMend_37 rfl ?_
              refine ex_getfield (v := .int (cl_ce s)) dX9_canMend_38 g_X9_135 (mP_o p) (congrArg (fun z => some (Value.int z)) (r6.1)) ?_
              refine ex_iconst (v := 1) dX9_canMend_41 (by decide) ?_
              refine ex_isub dX9_canMend_42 ?_
              refine ex_icmp_eq (tgt := 50) dX9_canMend_43 (by decide) (fun c_43 => ?_) (fun c_43 => ?_)
              · refine ex_iconst (v := 0) dX9_canMend_50 (by decide) ?_
                exact kk _ (bb_f (fun z => z.2.2 ⟨c_33, c_43⟩)).symm
              · refine ex_iconst (v := 1) dX9_canMend_46 (by decide) ?_
                refine ex_goto (tgt := 51) dX9_canMend_47 (by decide) ?_
                exact kk _ (bb_t ⟨⟨bb_n.mp c_4, by first | exact Or.inr c_18 | exact Or.inl (r6.1.symm.trans (bb_n.mp c_11))⟩, Int32.not_le.mp c_26, fun z => c_43 z.2⟩).symm
end MOV
