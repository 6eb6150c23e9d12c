theorem cA_xF {h h1 : mm_H} {tb : Nat → List tt_R} {u : cl_U} {c0 n0 : Nat} {E : String} (hP : cl_P h1 tb u c0 n0) (hF : cl_F h h1) : cl_A (.inr E, tb, u) c0 n0 h (.inr E) (mm_exc h1) := ⟨rfl, cP_exc hP, fun p a b => hF p a b⟩
def cl_days : Nat → cl_S → cl_S
  | 0, s => s
  | n + 1, s => cl_days n (cl_day s)
def cm_pass (s : cl_S) (n : Int32) : cl_R × cl_S := if ii n 1 400 then (if s.2.2.1.1 + n ≤ 20000 then (.inl (some (cl_days n.toNatClampNeg s).2.2.1.1), cl_days n.toNatClampNeg s) else (.inr cx_s, s)) else (.inr cx_a, s)
def cm_cell (s : cl_S) (i w : Int32) : cl_R × cl_S := if ii i 0 99 ∧ ii w 0 3 then (.inl (some (if w = 0 then se_d s.2.1 i else if w = 1 then se_g s.2.1 i else if w = 2 then (if cl_ce s ≤ i then -1 else ro_bs s.2.2.2.2.1.1 i.toNatClampNeg) else (if cl_ce s ≤ i then -1 else ro_mi s.2.2.2.2.1.1 i))), s) else (.inr cx_a, s)
def cl_ty (s : cl_S) : Int32 → Int32 := ho_ty s.2.2.2.1.1 s.2.2.2.1.2.1
def cm_tank (s : cl_S) (t w : Int32) : cl_R × cl_S := if ii t 0 2 ∧ ii w 0 4 then (.inl (some (if w = 0 then ho_m t (s.1 0) 0 else if w = 1 then ho_p t (s.1 0) 0 else if w = 2 then cl_ty s (ho_top t 1 (s.1 0).reverse) else if w = 3 then ho_top t 1 (s.1 0).reverse else ho_top t 2 (s.1 0).reverse)), s) else (.inr cx_a, s)
def cl_wa (s : cl_S) : Int32 := s.2.2.2.2.2.2.2.2.2.1
def cl_bu (s : cl_S) : Int32 := s.2.2.2.2.2.2.2.1
def cl_lo (s : cl_S) : Int32 := s.2.2.2.2.2.2.2.2.1
def cm_line (s : cl_S) (w : Int32) : cl_R × cl_S := if ii w 0 7 then (.inl (some (if w = 0 then cl_me s else if w = 1 then cl_ce s else if w = 2 then nI (s.1 2).length else if w = 3 then ro_n 1 (s.1 2) 0 else if w = 4 then ro_n 2 (s.1 2) 0 else if w = 5 then cl_wa s else if w = 6 then (if cl_bu s = 0 then 0 else 1) else cl_lo s)), s) else (.inr cx_a, s)
def cm_thing (s : cl_S) (i w : Int32) : cl_R × cl_S := if 0 ≤ i ∧ i < nI (s.1 2).length then (if ii w 0 3 then (.inl (some (if w = 0 then tt_g (s.1 2) i 0 else if ¬ tt_g (s.1 2) i 0 = 0 then -1 else if w = 1 then tt_g (s.1 2) i 1 else if w = 2 then tt_g (s.1 2) i 2 else tt_g (s.1 2) i 2 + tt_g (s.1 2) i 3 - 1)), s) else (.inr cx_a, s)) else (.inr cx_i, s)
def cm_isKept (s : cl_S) : Int32 := bb (0 + ho_m 0 (s.1 0) 0 + ho_m 1 (s.1 0) 0 + ho_m 2 (s.1 0) 0 + cl_me s + cl_wa s = s.2.2.2.1.2.2)
theorem sw_ne {w : Int32} {n : Int} (x : Int32) (hx : x.toInt = n) (h : ¬ w = x) : ¬ w.toInt = n := fun z => h (Int32.toInt_inj.mp (z.trans hx.symm))
theorem sw_hi {w x : Int32} {n : Int} (h : ii w 0 x) (hx : x.toInt = n) : 0 ≤ w.toInt ∧ w.toInt ≤ n := by
  have h1 := Int32.le_iff_toInt_le.mp h.1
  have h2 := Int32.le_iff_toInt_le.mp h.2
  rw [show (0 : Int32).toInt = 0 by decide] at h1
  omega
section PUB9
variable {l : Launch} {G : mm_G} {h : mm_H} {c0 n0 : Nat} {s : cl_S}
theorem c_X8_day1 {k : Nat} (hP : cl_P h s.1 s.2 c0 n0) (hc : cl_ce s = nI k) (hk : k ≤ 100) (hke : 0 < cl_me s → 1 ≤ k) (h3 : (s.1 3).length ≤ 19000) : mm_Ct l G mX8_passOneDay [.ref 0] h (mm_qv (fun h' => cl_P h' (cl_day s).1 (cl_day s).2 c0 n0 ∧ cl_F h h')) := by
  obtain ⟨tb, S, c, ho, ⟨cm, ce, me⟩, st, la, bu, lo, wa, fa, fb⟩ := s
  obtain rfl : ce = nI k := hc
  exact c_X8_passOneDay hP hk hke h3
theorem c_X8_pass {I : cl_S → Prop} (hI : ∀ s, I s → (∃ k, cl_ce s = nI k ∧ k ≤ 100 ∧ (0 < cl_me s → 1 ≤ k)) ∧ (s.1 3).length ≤ 19000 ∧ I (cl_day s)) (hl : l.stackTraces = false) (hP : cl_P h s.1 s.2 c0 n0) (hs : I s) (n : Int32) : mm_Ct l G mX8_pass [.ref 0, .int n] h (cl_A (cm_pass s n) c0 n0 h) := by
  refine mm_ct (by decide +kernel) (by decide +kernel) rfl (by simp [Value.category]) (Nat.le_of_ble_eq_true rfl) rfl ?_
  refine ex_iload_n dX8_pass_0 rfl ?_
  refine ex_iconst (v := 1) dX8_pass_1 (by decide) ?_
  refine ex_sipush (v := 400) dX8_pass_2 (by decide) ?_
  refine cS_f dX8_pass_5 (mm_ks i_X8_isIn l_X8_55) ⟨(Nat.le_of_ble_eq_true rfl), (Nat.le_of_ble_eq_true rfl)⟩ (c_X8_isIn _ _ _) rfl rfl (Nat.le_of_ble_eq_true rfl) rfl ?_
  refine cS_n dX8_pass_8 (mm_ks i_X8_needArgument l_X8_59) ⟨(Nat.le_of_ble_eq_true rfl), (Nat.le_of_ble_eq_true rfl)⟩ (c_X8_needArgument hl _) rfl rfl (Nat.le_of_ble_eq_true rfl) rfl (fun b_8 => ?_) (fun b_8 => ?_)
  · rw [cm_pass, if_neg (bb_0.mp b_8)]; exact cA_x hP
  replace b_8 := bb_n.mp b_8
  rw [cm_pass, if_pos b_8]
  skip
  refine mm_via (p := s.2.2.1.1 + n ≤ 20000) (pc' := 31) (ls' := [.ref 0, .int n, .null]) (st := []) (fun b hb => ?_) (fun k => ?_)
  · skip
    refine cS_n dX8_pass_31 (mm_ks i_X8_needState l_X8_67) ⟨(Nat.le_of_ble_eq_true rfl), (Nat.le_of_ble_eq_true rfl)⟩ (c_X8_needState hl _) rfl rfl (Nat.le_of_ble_eq_true rfl) rfl (fun b_31 => ?_) (fun b_31 => ?_)
    · rw [if_neg (bb_0.mp (hb ▸ b_31))]; exact cA_x hP
    rw [if_pos (bb_n.mp (hb ▸ b_31))]
    refine ex_iconst (v := 0) dX8_pass_34 (by decide) ?_
    refine ex_istore_n dX8_pass_35 (Nat.le_of_ble_eq_true rfl) ?_
    skip
    obtain ⟨N, hN, rfl⟩ := nI_of (x := n) (fun z => Int32.not_lt.mpr b_8.1 (Int32.lt_of_lt_of_le z (by decide)))
    rw [nI_clamp hN]
    have key : ∀ (s1 : cl_S) (h1 : mm_H), I s1 → cl_P h1 s1.1 s1.2 c0 n0 → cl_F h h1 → mm_Ex l G mX8_pass (cl_A (.inl (some (cl_days (N - 0) s1).2.2.1.1), cl_days (N - 0) s1) c0 n0 h) 36 [.ref 0, .int (nI N), .int (nI 0)] [] h1 := by
      refine lp_nat N (fun i => ∀ (s1 : cl_S) (h1 : mm_H), I s1 → cl_P h1 s1.1 s1.2 c0 n0 → cl_F h h1 → mm_Ex l G mX8_pass (cl_A (.inl (some (cl_days (N - i) s1).2.2.1.1), cl_days (N - i) s1) c0 n0 h) 36 [.ref 0, .int (nI N), .int (nI i)] [] h1) ?_ ?_
      · intro s1 h1 i1 p1 f1
        refine ex_iload_n dX8_pass_36 rfl ?_
        refine ex_iload_n dX8_pass_37 rfl ?_
        refine ex_icmp_ge (tgt := 51) dX8_pass_38 (by decide) (fun _ => ?_) (fun z => absurd (Int32.le_refl _) z)
        refine ex_aload_n dX8_pass_51 rfl ?_
        refine ex_getfield dX8_pass_52 g_X8_19 (cP_ow p1) rfl ?_
        refine ex_getfield dX8_pass_55 g_X8_93 (cP_ca p1) rfl ?_
        refine ex_ireturn dX8_pass_58 ⟨_, rfl, rfl⟩ ?_
        rw [Nat.sub_self]; exact cA_i p1 f1
      · intro i hi ih s1 h1 i1 p1 f1
        obtain ⟨⟨k1, hk1, hk2, hk3⟩, j2, j3⟩ := hI s1 i1
        refine ex_iload_n dX8_pass_36 rfl ?_
        refine ex_iload_n dX8_pass_37 rfl ?_
        refine ex_icmp_ge (tgt := 51) dX8_pass_38 (by decide) (fun z => absurd z (nI_ge hi hN)) (fun _ => ?_)
        refine ex_aload_n dX8_pass_41 rfl ?_
        refine cV_y dX8_pass_42 (mm_kv i_X8_passOneDay l_X8_103) ⟨(Nat.le_of_ble_eq_true rfl), (Nat.le_of_ble_eq_true rfl)⟩ (c_X8_day1 p1 hk1 hk2 hk3 j2) rfl rfl (cP_ow p1) (Nat.le_of_ble_eq_true rfl) rfl ?_
        rintro h2 ⟨p2, f2⟩
        refine ex_iinc (d := 1) dX8_pass_45 rfl (by decide) ?_
        refine ex_goto (tgt := 36) dX8_pass_48 (by decide) ?_
        rw [nI_1, show N - i = (N - (i + 1)) + 1 by omega]; exact ih _ _ j3 p2 (f1.trans f2)
    exact key s h hs hP (cl_F.refl _)
  · skip
    refine ex_aload_n dX8_pass_11 rfl ?_
    refine ex_getfield dX8_pass_12 g_X8_19 (cP_ow hP) rfl ?_
    refine ex_getfield dX8_pass_15 g_X8_93 (cP_ca hP) rfl ?_
    refine ex_iload_n dX8_pass_18 rfl ?_
    refine ex_iadd dX8_pass_19 ?_
    refine ex_sipush (v := 20000) dX8_pass_20 (by decide) ?_
    refine ex_icmp_gt (tgt := 30) dX8_pass_23 (by decide) (fun c_23 => ?_) (fun c_23 => ?_)
    · refine ex_iconst (v := 0) dX8_pass_30 (by decide) ?_
      first | exact k _ (bb_f (fun z => Int32.not_lt.mpr z c_23)).symm | exact k _ (bb_t (Int32.not_lt.mp c_23)).symm
    · refine ex_iconst (v := 1) dX8_pass_26 (by decide) ?_
      refine ex_goto (tgt := 31) dX8_pass_27 (by decide) ?_
      first | exact k _ (bb_f (fun z => Int32.not_lt.mpr z c_23)).symm | exact k _ (bb_t (Int32.not_lt.mp c_23)).symm
theorem c_X8_cell (hl : l.stackTraces = false) (hP : cl_P h s.1 s.2 c0 n0) {kc : Nat} (hc : cl_ce s = nI kc) (hkc : kc ≤ 100) (i w : Int32) : mm_Ct l G mX8_cell [.ref 0, .int i, .int w] h (cl_A (cm_cell s i w) c0 n0 h) := by
  refine mm_ct (by decide +kernel) (by decide +kernel) rfl (by simp [Value.category]) (Nat.le_of_ble_eq_true rfl) rfl ?_
  refine mm_via (p := ii i 0 99 ∧ ii w 0 3) (pc' := 21) (ls' := [.ref 0, .int i, .int w]) (st := []) (fun b hb => ?_) (fun k => ?_)
  · skip
    refine cS_n dX8_cell_21 (mm_ks i_X8_needArgument l_X8_59) ⟨(Nat.le_of_ble_eq_true rfl), (Nat.le_of_ble_eq_true rfl)⟩ (c_X8_needArgument hl _) rfl rfl (Nat.le_of_ble_eq_true rfl) rfl (fun b_21 => ?_) (fun b_21 => ?_)
    · rw [cm_cell, if_neg (bb_0.mp (hb ▸ b_21))]; exact cA_x hP
    replace hb : ii i 0 99 ∧ ii w 0 3 := bb_n.mp (hb ▸ b_21)
    rw [cm_cell, if_pos hb]
    refine ex_iload_n dX8_cell_24 rfl ?_
    skip
    by_cases h0 : w = 0
    · subst h0
      refine ex_tableIn (tgt := 52) dX8_cell_25 (by decide) (by decide) rfl (by decide) ?_
      refine ex_aload_n dX8_cell_52 rfl ?_
      refine ex_getfield dX8_cell_53 g_X8_10 (cP_ow hP) rfl ?_
      refine ex_iload_n dX8_cell_56 rfl ?_
      refine cV_f dX8_cell_57 (mm_kv i_X6_depthOf l_X8_74) ⟨(Nat.le_of_ble_eq_true rfl), (Nat.le_of_ble_eq_true rfl)⟩ (c_X6_depthOf (cP_se hP) _) rfl rfl (cP_se hP).1 (Nat.le_of_ble_eq_true rfl) rfl ?_
      refine ex_ireturn dX8_cell_60 ⟨_, rfl, rfl⟩ ?_
      exact cA_i hP (cl_F.refl _)
    rw [if_neg h0]
    by_cases h1 : w = 1
    · subst h1
      refine ex_tableIn (tgt := 61) dX8_cell_25 (by decide) (by decide) rfl (by decide) ?_
      refine ex_aload_n dX8_cell_61 rfl ?_
      refine ex_getfield dX8_cell_62 g_X8_10 (cP_ow hP) rfl ?_
      refine ex_iload_n dX8_cell_65 rfl ?_
      refine cV_f dX8_cell_66 (mm_kv i_X6_groundOf l_X8_172) ⟨(Nat.le_of_ble_eq_true rfl), (Nat.le_of_ble_eq_true rfl)⟩ (c_X6_groundOf (cP_se hP) _) rfl rfl (cP_se hP).1 (Nat.le_of_ble_eq_true rfl) rfl ?_
      refine ex_ireturn dX8_cell_69 ⟨_, rfl, rfl⟩ ?_
      exact cA_i hP (cl_F.refl _)
    rw [if_neg h1]
    by_cases h2 : w = 2
    · subst h2
      refine ex_tableIn (tgt := 70) dX8_cell_25 (by decide) (by decide) rfl (by decide) ?_
      have hO := cP_ro hP
      rw [show s.2.2.2.2.1.2.1 = nI kc from hc] at hO
      have hbeg : ¬ cl_ce s ≤ i → mm_Ct l G mX5_beginOf [.ref 13, .int i] h (mm_ri (.int (ro_bs s.2.2.2.2.1.1 i.toNatClampNeg)) h) := by
        intro hlt
        obtain ⟨j, hj, rfl⟩ := nI_of (x := i) (fun z => Int32.not_lt.mpr hb.1.1 z)
        rw [hc] at hlt
        have hlt2 : j < kc := (nI_ltI hj (by omega)).mp (Int32.not_le.mp hlt)
        have := c_X5_beginOf (l := l) (G := G) (c := j) (cP_cm hP) hO hkc hj
        rw [Nat.min_eq_left (by omega)] at this
        rw [nI_clamp hj]
        exact this
      refine ex_iload_n dX8_cell_70 rfl ?_
      refine ex_aload_n dX8_cell_71 rfl ?_
      refine ex_getfield dX8_cell_72 g_X8_33 (cP_ow hP) rfl ?_
      refine ex_getfield dX8_cell_75 g_X8_63 (cP_ro hP) rfl ?_
      refine ex_icmp_ge (tgt := 92) dX8_cell_78 (by decide) (fun c_78 => ?_) (fun c_78 => ?_)
      · refine ex_iconst (v := (-1)) dX8_cell_92 (by decide) ?_
        refine ex_ireturn dX8_cell_93 ⟨_, rfl, rfl⟩ ?_
        rw [if_pos rfl]; first | (rw [if_pos (show cl_ce s ≤ i from c_78)]; exact cA_i hP (cl_F.refl _)) | (rw [if_neg (show ¬ cl_ce s ≤ i from c_78)]; exact cA_i hP (cl_F.refl _))
      · refine ex_aload_n dX8_cell_81 rfl ?_
        refine ex_getfield dX8_cell_82 g_X8_33 (cP_ow hP) rfl ?_
        refine ex_iload_n dX8_cell_85 rfl ?_
        refine cV_f dX8_cell_86 (mm_kv i_X5_beginOf l_X8_238) ⟨(Nat.le_of_ble_eq_true rfl), (Nat.le_of_ble_eq_true rfl)⟩ (hbeg c_78) rfl rfl (cP_ro hP) (Nat.le_of_ble_eq_true rfl) rfl ?_
        refine ex_goto (tgt := 93) dX8_cell_89 (by decide) ?_
        refine ex_ireturn dX8_cell_93 ⟨_, rfl, rfl⟩ ?_
        rw [if_pos rfl]; first | (rw [if_pos (show cl_ce s ≤ i from c_78)]; exact cA_i hP (cl_F.refl _)) | (rw [if_neg (show ¬ cl_ce s ≤ i from c_78)]; exact cA_i hP (cl_F.refl _))
    rw [if_neg h2]
    have a0 := sw_ne (n := 0) 0 (by decide) h0
    have a1 := sw_ne (n := 1) 1 (by decide) h1
    have a2 := sw_ne (n := 2) 2 (by decide) h2
    have a3 := sw_hi (n := 3) hb.2 (by decide)
    refine ex_tableOut (tgt := 94) dX8_cell_25 (by omega) (by decide) ?_
    refine ex_iload_n dX8_cell_94 rfl ?_
    refine ex_aload_n dX8_cell_95 rfl ?_
    refine ex_getfield dX8_cell_96 g_X8_33 (cP_ow hP) rfl ?_
    refine ex_getfield dX8_cell_99 g_X8_63 (cP_ro hP) rfl ?_
    refine ex_icmp_ge (tgt := 116) dX8_cell_102 (by decide) (fun c_102 => ?_) (fun c_102 => ?_)
    · refine ex_iconst (v := (-1)) dX8_cell_116 (by decide) ?_
      refine ex_ireturn dX8_cell_117 ⟨_, rfl, rfl⟩ ?_
      first | (rw [if_pos (show cl_ce s ≤ i from c_102)]; exact cA_i hP (cl_F.refl _)) | (rw [if_neg (show ¬ cl_ce s ≤ i from c_102)]; exact cA_i hP (cl_F.refl _))
    · refine ex_aload_n dX8_cell_105 rfl ?_
      refine ex_getfield dX8_cell_106 g_X8_33 (cP_ow hP) rfl ?_
      refine ex_iload_n dX8_cell_109 rfl ?_
      refine cV_f dX8_cell_110 (mm_kv i_X5_metresIn l_X8_241) ⟨(Nat.le_of_ble_eq_true rfl), (Nat.le_of_ble_eq_true rfl)⟩ (c_X5_metresIn (cP_ro hP) (cP_cm hP) _) rfl rfl (cP_ro hP) (Nat.le_of_ble_eq_true rfl) rfl ?_
      refine ex_goto (tgt := 117) dX8_cell_113 (by decide) ?_
      refine ex_ireturn dX8_cell_117 ⟨_, rfl, rfl⟩ ?_
      first | (rw [if_pos (show cl_ce s ≤ i from c_102)]; exact cA_i hP (cl_F.refl _)) | (rw [if_neg (show ¬ cl_ce s ≤ i from c_102)]; exact cA_i hP (cl_F.refl _))
  · skip
    refine ex_iload_n dX8_cell_0 rfl ?_
    refine cS_f dX8_cell_1 (mm_ks i_X8_isCell l_X8_51) ⟨(Nat.le_of_ble_eq_true rfl), (Nat.le_of_ble_eq_true rfl)⟩ (c_X8_isCell _) rfl rfl (Nat.le_of_ble_eq_true rfl) rfl ?_
    refine ex_if_eq (tgt := 20) dX8_cell_4 (by decide) (fun c_4 => ?_) (fun c_4 => ?_)
    · refine ex_iconst (v := 0) dX8_cell_20 (by decide) ?_
      first | exact k _ (bb_f (fun z => bb_0.mp c_4 z.1)).symm | exact k _ (bb_f (fun z => bb_0.mp c_13 z.2)).symm | exact k _ (bb_t ⟨bb_n.mp c_4, bb_n.mp c_13⟩).symm
    · refine ex_iload_n dX8_cell_7 rfl ?_
      refine ex_iconst (v := 0) dX8_cell_8 (by decide) ?_
      refine ex_iconst (v := 3) dX8_cell_9 (by decide) ?_
      refine cS_f dX8_cell_10 (mm_ks i_X8_isIn l_X8_55) ⟨(Nat.le_of_ble_eq_true rfl), (Nat.le_of_ble_eq_true rfl)⟩ (c_X8_isIn _ _ _) rfl rfl (Nat.le_of_ble_eq_true rfl) rfl ?_
      refine ex_if_eq (tgt := 20) dX8_cell_13 (by decide) (fun c_13 => ?_) (fun c_13 => ?_)
      · refine ex_iconst (v := 0) dX8_cell_20 (by decide) ?_
        first | exact k _ (bb_f (fun z => bb_0.mp c_4 z.1)).symm | exact k _ (bb_f (fun z => bb_0.mp c_13 z.2)).symm | exact k _ (bb_t ⟨bb_n.mp c_4, bb_n.mp c_13⟩).symm
      · refine ex_iconst (v := 1) dX8_cell_16 (by decide) ?_
        refine ex_goto (tgt := 21) dX8_cell_17 (by decide) ?_
        first | exact k _ (bb_f (fun z => bb_0.mp c_4 z.1)).symm | exact k _ (bb_f (fun z => bb_0.mp c_13 z.2)).symm | exact k _ (bb_t ⟨bb_n.mp c_4, bb_n.mp c_13⟩).symm
theorem c_X8_tank (hl : l.stackTraces = false) (hP : cl_P h s.1 s.2 c0 n0) (t w : Int32) : mm_Ct l G mX8_tank [.ref 0, .int t, .int w] h (cl_A (cm_tank s t w) c0 n0 h) := by
  refine mm_ct (by decide +kernel) (by decide +kernel) rfl (by simp [Value.category]) (Nat.le_of_ble_eq_true rfl) rfl ?_
  refine mm_via (p := ii t 0 2 ∧ ii w 0 4) (pc' := 21) (ls' := [.ref 0, .int t, .int w]) (st := []) (fun b hb => ?_) (fun k => ?_)
  · skip
    refine cS_n dX8_tank_21 (mm_ks i_X8_needArgument l_X8_59) ⟨(Nat.le_of_ble_eq_true rfl), (Nat.le_of_ble_eq_true rfl)⟩ (c_X8_needArgument hl _) rfl rfl (Nat.le_of_ble_eq_true rfl) rfl (fun b_21 => ?_) (fun b_21 => ?_)
    · rw [cm_tank, if_neg (bb_0.mp (hb ▸ b_21))]; exact cA_x hP
    replace hb : ii t 0 2 ∧ ii w 0 4 := bb_n.mp (hb ▸ b_21)
    rw [cm_tank, if_pos hb]
    refine ex_iload_n dX8_tank_24 rfl ?_
    skip
    by_cases h0 : w = 0
    · subst h0
      refine ex_tableIn (tgt := 56) dX8_tank_25 (by decide) (by decide) rfl (by decide) ?_
      refine ex_aload_n dX8_tank_56 rfl ?_
      refine ex_getfield dX8_tank_57 g_X8_26 (cP_ow hP) rfl ?_
      refine ex_iload_n dX8_tank_60 rfl ?_
      refine cV_f dX8_tank_61 (mm_kv i_X3_metresIn l_X8_314) ⟨(Nat.le_of_ble_eq_true rfl), (Nat.le_of_ble_eq_true rfl)⟩ (c_X3_metresIn hP.1 (cP_ho hP) _) rfl rfl (cP_ho hP) (Nat.le_of_ble_eq_true rfl) rfl ?_
      refine ex_ireturn dX8_tank_64 ⟨_, rfl, rfl⟩ ?_
      exact cA_i hP (cl_F.refl _)
    rw [if_neg h0]
    by_cases h1 : w = 1
    · subst h1
      refine ex_tableIn (tgt := 65) dX8_tank_25 (by decide) (by decide) rfl (by decide) ?_
      refine ex_aload_n dX8_tank_65 rfl ?_
      refine ex_getfield dX8_tank_66 g_X8_26 (cP_ow hP) rfl ?_
      refine ex_iload_n dX8_tank_69 rfl ?_
      refine cV_f dX8_tank_70 (mm_kv i_X3_piecesIn l_X8_315) ⟨(Nat.le_of_ble_eq_true rfl), (Nat.le_of_ble_eq_true rfl)⟩ (c_X3_piecesIn hP.1 (cP_ho hP) _) rfl rfl (cP_ho hP) (Nat.le_of_ble_eq_true rfl) rfl ?_
      refine ex_ireturn dX8_tank_73 ⟨_, rfl, rfl⟩ ?_
      exact cA_i hP (cl_F.refl _)
    rw [if_neg h1]
    by_cases h2 : w = 2
    · subst h2
      refine ex_tableIn (tgt := 74) dX8_tank_25 (by decide) (by decide) rfl (by decide) ?_
      refine ex_aload_n dX8_tank_74 rfl ?_
      refine ex_getfield dX8_tank_75 g_X8_26 (cP_ow hP) rfl ?_
      refine ex_aload_n dX8_tank_78 rfl ?_
      refine ex_getfield dX8_tank_79 g_X8_26 (cP_ow hP) rfl ?_
      refine ex_iload_n dX8_tank_82 rfl ?_
      refine ex_iconst (v := 1) dX8_tank_83 (by decide) ?_
      refine cV_f dX8_tank_84 (mm_kv i_X3_top l_X8_318) ⟨(Nat.le_of_ble_eq_true rfl), (Nat.le_of_ble_eq_true rfl)⟩ (c_X3_top hP.1 (cP_ho hP) _ 1 _ rfl (by decide)) rfl rfl (cP_ho hP) (Nat.le_of_ble_eq_true rfl) rfl ?_
      refine cV_f dX8_tank_87 (mm_kv i_X3_typeOf l_X8_321) ⟨(Nat.le_of_ble_eq_true rfl), (Nat.le_of_ble_eq_true rfl)⟩ (c_X3_typeOf (cP_ho hP) (cP_ty hP) _) rfl rfl (cP_ho hP) (Nat.le_of_ble_eq_true rfl) rfl ?_
      refine ex_ireturn dX8_tank_90 ⟨_, rfl, rfl⟩ ?_
      exact cA_i hP (cl_F.refl _)
    rw [if_neg h2]
    by_cases h3 : w = 3
    · subst h3
      refine ex_tableIn (tgt := 91) dX8_tank_25 (by decide) (by decide) rfl (by decide) ?_
      refine ex_aload_n dX8_tank_91 rfl ?_
      refine ex_getfield dX8_tank_92 g_X8_26 (cP_ow hP) rfl ?_
      refine ex_iload_n dX8_tank_95 rfl ?_
      refine ex_iconst (v := 1) dX8_tank_96 (by decide) ?_
      refine cV_f dX8_tank_97 (mm_kv i_X3_top l_X8_318) ⟨(Nat.le_of_ble_eq_true rfl), (Nat.le_of_ble_eq_true rfl)⟩ (c_X3_top hP.1 (cP_ho hP) _ 1 _ rfl (by decide)) rfl rfl (cP_ho hP) (Nat.le_of_ble_eq_true rfl) rfl ?_
      refine ex_ireturn dX8_tank_100 ⟨_, rfl, rfl⟩ ?_
      exact cA_i hP (cl_F.refl _)
    rw [if_neg h3]
    have a0 := sw_ne (n := 0) 0 (by decide) h0
    have a1 := sw_ne (n := 1) 1 (by decide) h1
    have a2 := sw_ne (n := 2) 2 (by decide) h2
    have a3 := sw_ne (n := 3) 3 (by decide) h3
    have a4 := sw_hi (n := 4) hb.2 (by decide)
    refine ex_tableOut (tgt := 101) dX8_tank_25 (by omega) (by decide) ?_
    refine ex_aload_n dX8_tank_101 rfl ?_
    refine ex_getfield dX8_tank_102 g_X8_26 (cP_ow hP) rfl ?_
    refine ex_iload_n dX8_tank_105 rfl ?_
    refine ex_iconst (v := 2) dX8_tank_106 (by decide) ?_
    refine cV_f dX8_tank_107 (mm_kv i_X3_top l_X8_318) ⟨(Nat.le_of_ble_eq_true rfl), (Nat.le_of_ble_eq_true rfl)⟩ (c_X3_top hP.1 (cP_ho hP) _ 2 _ rfl (by decide)) rfl rfl (cP_ho hP) (Nat.le_of_ble_eq_true rfl) rfl ?_
    refine ex_ireturn dX8_tank_110 ⟨_, rfl, rfl⟩ ?_
    exact cA_i hP (cl_F.refl _)
  · skip
    refine ex_iload_n dX8_tank_0 rfl ?_
    refine cS_f dX8_tank_1 (mm_ks i_X8_isTank l_X8_152) ⟨(Nat.le_of_ble_eq_true rfl), (Nat.le_of_ble_eq_true rfl)⟩ (c_X8_isTank _) rfl rfl (Nat.le_of_ble_eq_true rfl) rfl ?_
    refine ex_if_eq (tgt := 20) dX8_tank_4 (by decide) (fun c_4 => ?_) (fun c_4 => ?_)
    · refine ex_iconst (v := 0) dX8_tank_20 (by decide) ?_
      first | exact k _ (bb_f (fun z => bb_0.mp c_4 z.1)).symm | exact k _ (bb_f (fun z => bb_0.mp c_13 z.2)).symm | exact k _ (bb_t ⟨bb_n.mp c_4, bb_n.mp c_13⟩).symm
    · refine ex_iload_n dX8_tank_7 rfl ?_
      refine ex_iconst (v := 0) dX8_tank_8 (by decide) ?_
      refine ex_iconst (v := 4) dX8_tank_9 (by decide) ?_
      refine cS_f dX8_tank_10 (mm_ks i_X8_isIn l_X8_55) ⟨(Nat.le_of_ble_eq_true rfl), (Nat.le_of_ble_eq_true rfl)⟩ (c_X8_isIn _ _ _) rfl rfl (Nat.le_of_ble_eq_true rfl) rfl ?_
      refine ex_if_eq (tgt := 20) dX8_tank_13 (by decide) (fun c_13 => ?_) (fun c_13 => ?_)
      · refine ex_iconst (v := 0) dX8_tank_20 (by decide) ?_
        first | exact k _ (bb_f (fun z => bb_0.mp c_4 z.1)).symm | exact k _ (bb_f (fun z => bb_0.mp c_13 z.2)).symm | exact k _ (bb_t ⟨bb_n.mp c_4, bb_n.mp c_13⟩).symm
      · refine ex_iconst (v := 1) dX8_tank_16 (by decide) ?_
        refine ex_goto (tgt := 21) dX8_tank_17 (by decide) ?_
        first | exact k _ (bb_f (fun z => bb_0.mp c_4 z.1)).symm | exact k _ (bb_f (fun z => bb_0.mp c_13 z.2)).symm | exact k _ (bb_t ⟨bb_n.mp c_4, bb_n.mp c_13⟩).symm
theorem c_X8_line (hl : l.stackTraces = false) (hP : cl_P h s.1 s.2 c0 n0) (w : Int32) : mm_Ct l G mX8_line [.ref 0, .int w] h (cl_A (cm_line s w) c0 n0 h) := by
  obtain ⟨v, hv⟩ := tS_row hP.1 2 (by decide)
  refine mm_ct (by decide +kernel) (by decide +kernel) rfl (by simp [Value.category]) (Nat.le_of_ble_eq_true rfl) rfl ?_
  refine ex_iload_n dX8_line_0 rfl ?_
  refine ex_iconst (v := 0) dX8_line_1 (by decide) ?_
  refine ex_bipush (v := 7) dX8_line_2 (by decide) ?_
  refine cS_f dX8_line_4 (mm_ks i_X8_isIn l_X8_55) ⟨(Nat.le_of_ble_eq_true rfl), (Nat.le_of_ble_eq_true rfl)⟩ (c_X8_isIn _ _ _) rfl rfl (Nat.le_of_ble_eq_true rfl) rfl ?_
  refine cS_n dX8_line_7 (mm_ks i_X8_needArgument l_X8_59) ⟨(Nat.le_of_ble_eq_true rfl), (Nat.le_of_ble_eq_true rfl)⟩ (c_X8_needArgument hl _) rfl rfl (Nat.le_of_ble_eq_true rfl) rfl (fun b_7 => ?_) (fun b_7 => ?_)
  · rw [cm_line, if_neg (bb_0.mp b_7)]; exact cA_x hP
  replace b_7 := bb_n.mp b_7
  rw [cm_line, if_pos b_7]
  refine ex_iload_n dX8_line_10 rfl ?_
  skip
  by_cases h0 : w = 0
  · subst h0
    refine ex_tableIn (tgt := 52) dX8_line_11 (by decide) (by decide) rfl (by decide) ?_
    refine ex_aload_n dX8_line_52 rfl ?_
    refine ex_getfield dX8_line_53 g_X8_33 (cP_ow hP) rfl ?_
    refine ex_getfield dX8_line_56 g_X8_123 (cP_ro hP) rfl ?_
    refine ex_ireturn dX8_line_59 ⟨_, rfl, rfl⟩ ?_
    exact cA_i hP (cl_F.refl _)
  rw [if_neg h0]
  by_cases h1 : w = 1
  · subst h1
    refine ex_tableIn (tgt := 60) dX8_line_11 (by decide) (by decide) rfl (by decide) ?_
    refine ex_aload_n dX8_line_60 rfl ?_
    refine ex_getfield dX8_line_61 g_X8_33 (cP_ow hP) rfl ?_
    refine ex_getfield dX8_line_64 g_X8_63 (cP_ro hP) rfl ?_
    refine ex_ireturn dX8_line_67 ⟨_, rfl, rfl⟩ ?_
    exact cA_i hP (cl_F.refl _)
  rw [if_neg h1]
  by_cases h2 : w = 2
  · subst h2
    refine ex_tableIn (tgt := 68) dX8_line_11 (by decide) (by decide) rfl (by decide) ?_
    refine ex_aload_n dX8_line_68 rfl ?_
    refine ex_getfield dX8_line_69 g_X8_33 (cP_ow hP) rfl ?_
    refine ex_getfield dX8_line_72 g_X8_324 (cP_ro hP) rfl ?_
    refine ex_getfield dX8_line_75 g_X8_203 hv rfl ?_
    refine ex_ireturn dX8_line_78 ⟨_, rfl, rfl⟩ ?_
    exact cA_i hP (cl_F.refl _)
  rw [if_neg h2]
  by_cases h3 : w = 3
  · subst h3
    refine ex_tableIn (tgt := 79) dX8_line_11 (by decide) (by decide) rfl (by decide) ?_
    refine ex_aload_n dX8_line_79 rfl ?_
    refine ex_getfield dX8_line_80 g_X8_33 (cP_ow hP) rfl ?_
    refine ex_iconst (v := 1) dX8_line_83 (by decide) ?_
    refine cV_f dX8_line_84 (mm_kv i_X5_count l_X8_220) ⟨(Nat.le_of_ble_eq_true rfl), (Nat.le_of_ble_eq_true rfl)⟩ (c_X5_count hP.1 (cP_ro hP) _) rfl rfl (cP_ro hP) (Nat.le_of_ble_eq_true rfl) rfl ?_
    refine ex_ireturn dX8_line_87 ⟨_, rfl, rfl⟩ ?_
    exact cA_i hP (cl_F.refl _)
  rw [if_neg h3]
  by_cases h4 : w = 4
  · subst h4
    refine ex_tableIn (tgt := 88) dX8_line_11 (by decide) (by decide) rfl (by decide) ?_
    refine ex_aload_n dX8_line_88 rfl ?_
    refine ex_getfield dX8_line_89 g_X8_33 (cP_ow hP) rfl ?_
    refine ex_iconst (v := 2) dX8_line_92 (by decide) ?_
    refine cV_f dX8_line_93 (mm_kv i_X5_count l_X8_220) ⟨(Nat.le_of_ble_eq_true rfl), (Nat.le_of_ble_eq_true rfl)⟩ (c_X5_count hP.1 (cP_ro hP) _) rfl rfl (cP_ro hP) (Nat.le_of_ble_eq_true rfl) rfl ?_
    refine ex_ireturn dX8_line_96 ⟨_, rfl, rfl⟩ ?_
    exact cA_i hP (cl_F.refl _)
  rw [if_neg h4]
  by_cases h5 : w = 5
  · subst h5
    refine ex_tableIn (tgt := 97) dX8_line_11 (by decide) (by decide) rfl (by decide) ?_
    refine ex_aload_n dX8_line_97 rfl ?_
    refine ex_getfield dX8_line_98 g_X8_135 (cP_ow hP) rfl ?_
    refine ex_ireturn dX8_line_101 ⟨_, rfl, rfl⟩ ?_
    exact cA_i hP (cl_F.refl _)
  rw [if_neg h5]
  by_cases h6 : w = 6
  · subst h6
    refine ex_tableIn (tgt := 102) dX8_line_11 (by decide) (by decide) rfl (by decide) ?_
    refine ex_aload_n dX8_line_102 rfl ?_
    refine ex_getfield dX8_line_103 g_X8_112 (cP_ow hP) rfl ?_
    refine ex_if_eq (tgt := 113) dX8_line_106 (by decide) (fun c_106 => ?_) (fun c_106 => ?_)
    · refine ex_iconst (v := 0) dX8_line_113 (by decide) ?_
      refine ex_ireturn dX8_line_114 ⟨_, rfl, rfl⟩ ?_
      rw [if_pos rfl]; first | (rw [if_pos (show cl_bu s = 0 from c_106)]; exact cA_i hP (cl_F.refl _)) | (rw [if_neg (show ¬ cl_bu s = 0 from c_106)]; exact cA_i hP (cl_F.refl _))
    · refine ex_iconst (v := 1) dX8_line_109 (by decide) ?_
      refine ex_goto (tgt := 114) dX8_line_110 (by decide) ?_
      refine ex_ireturn dX8_line_114 ⟨_, rfl, rfl⟩ ?_
      rw [if_pos rfl]; first | (rw [if_pos (show cl_bu s = 0 from c_106)]; exact cA_i hP (cl_F.refl _)) | (rw [if_neg (show ¬ cl_bu s = 0 from c_106)]; exact cA_i hP (cl_F.refl _))
  rw [if_neg h6]
  have a0 := sw_ne (n := 0) 0 (by decide) h0
  have a1 := sw_ne (n := 1) 1 (by decide) h1
  have a2 := sw_ne (n := 2) 2 (by decide) h2
  have a3 := sw_ne (n := 3) 3 (by decide) h3
  have a4 := sw_ne (n := 4) 4 (by decide) h4
  have a5 := sw_ne (n := 5) 5 (by decide) h5
  have a6 := sw_ne (n := 6) 6 (by decide) h6
  have a7 := sw_hi (n := 7) b_7 (by decide)
  refine ex_tableOut (tgt := 115) dX8_line_11 (by omega) (by decide) ?_
  refine ex_aload_n dX8_line_115 rfl ?_
  refine ex_getfield dX8_line_116 g_X8_132 (cP_ow hP) rfl ?_
  refine ex_ireturn dX8_line_119 ⟨_, rfl, rfl⟩ ?_
  exact cA_i hP (cl_F.refl _)
theorem c_X8_thing (hl : l.stackTraces = false) (hP : cl_P h s.1 s.2 c0 n0) (i w : Int32) : mm_Ct l G mX8_thing [.ref 0, .int i, .int w] h (cl_A (cm_thing s i w) c0 n0 h) := by
  obtain ⟨v, hv⟩ := tS_row hP.1 2 (by decide)
  refine mm_ct (by decide +kernel) (by decide +kernel) rfl (by simp [Value.category]) (Nat.le_of_ble_eq_true rfl) rfl ?_
  refine ex_iload_n dX8_thing_0 rfl ?_
  refine ex_aload_n dX8_thing_1 rfl ?_
  refine ex_getfield dX8_thing_2 g_X8_33 (cP_ow hP) rfl ?_
  refine ex_getfield dX8_thing_5 g_X8_324 (cP_ro hP) rfl ?_
  refine ex_getfield dX8_thing_8 g_X8_203 hv rfl ?_
  refine cS_n dX8_thing_11 (mm_ks i_X8_needIndex l_X8_281) ⟨(Nat.le_of_ble_eq_true rfl), (Nat.le_of_ble_eq_true rfl)⟩ (c_X8_needIndex hl _ _) rfl rfl (Nat.le_of_ble_eq_true rfl) rfl (fun b_11 => ?_) (fun b_11 => ?_)
  · rw [cm_thing, if_neg (bb_0.mp b_11)]; exact cA_x hP
  rw [cm_thing, if_pos (bb_n.mp b_11)]
  refine ex_iload_n dX8_thing_14 rfl ?_
  refine ex_iconst (v := 0) dX8_thing_15 (by decide) ?_
  refine ex_iconst (v := 3) dX8_thing_16 (by decide) ?_
  refine cS_f dX8_thing_17 (mm_ks i_X8_isIn l_X8_55) ⟨(Nat.le_of_ble_eq_true rfl), (Nat.le_of_ble_eq_true rfl)⟩ (c_X8_isIn _ _ _) rfl rfl (Nat.le_of_ble_eq_true rfl) rfl ?_
  refine cS_n dX8_thing_20 (mm_ks i_X8_needArgument l_X8_59) ⟨(Nat.le_of_ble_eq_true rfl), (Nat.le_of_ble_eq_true rfl)⟩ (c_X8_needArgument hl _) rfl rfl (Nat.le_of_ble_eq_true rfl) rfl (fun b_20 => ?_) (fun b_20 => ?_)
  · rw [if_neg (bb_0.mp b_20)]; exact cA_x hP
  replace b_20 := bb_n.mp b_20
  rw [if_pos b_20]
  refine ex_aload_n dX8_thing_23 rfl ?_
  refine ex_getfield dX8_thing_24 g_X8_33 (cP_ow hP) rfl ?_
  refine ex_getfield dX8_thing_27 g_X8_324 (cP_ro hP) rfl ?_
  refine ex_iload_n dX8_thing_30 rfl ?_
  refine ex_iconst (v := 0) dX8_thing_31 (by decide) ?_
  refine cV_f dX8_thing_32 (mm_kv i_X7_get l_X8_208) ⟨(Nat.le_of_ble_eq_true rfl), (Nat.le_of_ble_eq_true rfl)⟩ (tS_get hP.1 2 (by decide) _ 0 _ rfl (by decide)) rfl rfl hv (Nat.le_of_ble_eq_true rfl) rfl ?_
  refine ex_istore_n dX8_thing_35 (Nat.le_of_ble_eq_true rfl) ?_
  skip
  by_cases c_37 : w = 0
  · skip
    refine ex_iload_n dX8_thing_36 rfl ?_
    refine ex_if_ne (tgt := 42) dX8_thing_37 (by decide) (fun z => absurd c_37 z) (fun _ => ?_)
    refine ex_iload_n dX8_thing_40 rfl ?_
    refine ex_ireturn dX8_thing_41 ⟨_, rfl, rfl⟩ ?_
    rw [if_pos c_37]; exact cA_i hP (cl_F.refl _)
  refine ex_iload_n dX8_thing_36 rfl ?_
  refine ex_if_ne (tgt := 42) dX8_thing_37 (by decide) (fun _ => ?_) (fun z => absurd z c_37)
  skip
  rw [if_neg c_37]
  by_cases c_43 : tt_g (s.1 2) i 0 = 0
  · rw [if_neg (fun z => z c_43)]
    refine ex_iload_n dX8_thing_42 rfl ?_
    refine ex_if_eq (tgt := 48) dX8_thing_43 (by decide) (fun _ => ?_) (fun z => absurd c_43 z)
    refine ex_aload_n dX8_thing_48 rfl ?_
    refine ex_getfield dX8_thing_49 g_X8_33 (cP_ow hP) rfl ?_
    refine ex_getfield dX8_thing_52 g_X8_324 (cP_ro hP) rfl ?_
    refine ex_iload_n dX8_thing_55 rfl ?_
    refine ex_iconst (v := 2) dX8_thing_56 (by decide) ?_
    refine cV_f dX8_thing_57 (mm_kv i_X7_get l_X8_208) ⟨(Nat.le_of_ble_eq_true rfl), (Nat.le_of_ble_eq_true rfl)⟩ (tS_get hP.1 2 (by decide) _ 2 _ rfl (by decide)) rfl rfl hv (Nat.le_of_ble_eq_true rfl) rfl ?_
    refine ex_istore dX8_thing_60 (Nat.le_of_ble_eq_true rfl) ?_
    refine ex_iload_n dX8_thing_62 rfl ?_
    skip
    by_cases h1 : w = 1
    · subst h1
      refine ex_lookup (tgt := 88) dX8_thing_63 (by decide) rfl (by decide) ?_
      refine ex_aload_n dX8_thing_88 rfl ?_
      refine ex_getfield dX8_thing_89 g_X8_33 (cP_ow hP) rfl ?_
      refine ex_getfield dX8_thing_92 g_X8_324 (cP_ro hP) rfl ?_
      refine ex_iload_n dX8_thing_95 rfl ?_
      refine ex_iconst (v := 1) dX8_thing_96 (by decide) ?_
      refine cV_f dX8_thing_97 (mm_kv i_X7_get l_X8_208) ⟨(Nat.le_of_ble_eq_true rfl), (Nat.le_of_ble_eq_true rfl)⟩ (tS_get hP.1 2 (by decide) _ 1 _ rfl (by decide)) rfl rfl hv (Nat.le_of_ble_eq_true rfl) rfl ?_
      refine ex_ireturn dX8_thing_100 ⟨_, rfl, rfl⟩ ?_
      rw [if_pos rfl]; exact cA_i hP (cl_F.refl _)
    by_cases h2 : w = 2
    · subst h2
      refine ex_lookup (tgt := 101) dX8_thing_63 (by decide) rfl (by decide) ?_
      refine ex_iload dX8_thing_101 rfl ?_
      refine ex_ireturn dX8_thing_103 ⟨_, rfl, rfl⟩ ?_
      rw [if_neg h1, if_pos rfl]; exact cA_i hP (cl_F.refl _)
    have e1 := sw_ne (n := 1) 1 (by decide) h1
    have e2 := sw_ne (n := 2) 2 (by decide) h2
    refine ex_lookup (tgt := 104) (off := 41) dX8_thing_63 (by decide) (by simp [Op.lookupswitch.offset, List.find?]; exact (if_neg (fun z => e1 z.symm)).trans (if_neg (fun z => e2 z.symm))) (by decide) ?_
    refine ex_iload dX8_thing_104 rfl ?_
    refine ex_aload_n dX8_thing_106 rfl ?_
    refine ex_getfield dX8_thing_107 g_X8_33 (cP_ow hP) rfl ?_
    refine ex_getfield dX8_thing_110 g_X8_324 (cP_ro hP) rfl ?_
    refine ex_iload_n dX8_thing_113 rfl ?_
    refine ex_iconst (v := 3) dX8_thing_114 (by decide) ?_
    refine cV_f dX8_thing_115 (mm_kv i_X7_get l_X8_208) ⟨(Nat.le_of_ble_eq_true rfl), (Nat.le_of_ble_eq_true rfl)⟩ (tS_get hP.1 2 (by decide) _ 3 _ rfl (by decide)) rfl rfl hv (Nat.le_of_ble_eq_true rfl) rfl ?_
    refine ex_iadd dX8_thing_118 ?_
    refine ex_iconst (v := 1) dX8_thing_119 (by decide) ?_
    refine ex_isub dX8_thing_120 ?_
    refine ex_ireturn dX8_thing_121 ⟨_, rfl, rfl⟩ ?_
    rw [if_neg h1, if_neg h2]; exact cA_i hP (cl_F.refl _)
  refine ex_iload_n dX8_thing_42 rfl ?_
  refine ex_if_eq (tgt := 48) dX8_thing_43 (by decide) (fun z => absurd z c_43) (fun _ => ?_)
  refine ex_iconst (v := (-1)) dX8_thing_46 (by decide) ?_
  refine ex_ireturn dX8_thing_47 ⟨_, rfl, rfl⟩ ?_
  rw [if_pos c_43]; exact cA_i hP (cl_F.refl _)
theorem c_X8_isKept (hP : cl_P h s.1 s.2 c0 n0) : mm_Ct l G mX8_isKept [.ref 0] h (mm_ri (.int (cm_isKept s)) h) := by
  refine mm_ct (by decide +kernel) (by decide +kernel) rfl (by simp [Value.category]) (Nat.le_of_ble_eq_true rfl) rfl ?_
  refine ex_iconst (v := 0) dX8_isKept_0 (by decide) ?_
  refine ex_istore_n dX8_isKept_1 (Nat.le_of_ble_eq_true rfl) ?_
  refine ex_iconst (v := 0) dX8_isKept_2 (by decide) ?_
  refine ex_istore_n dX8_isKept_3 (Nat.le_of_ble_eq_true rfl) ?_
  skip
  refine ex_iload_n dX8_isKept_4 rfl ?_
  refine ex_iconst (v := 3) dX8_isKept_5 (by decide) ?_
  refine ex_icmp_ge (tgt := 26) dX8_isKept_6 (by decide) (fun z => absurd z (by decide)) (fun _ => ?_)
  refine ex_iload_n dX8_isKept_9 rfl ?_
  refine ex_aload_n dX8_isKept_10 rfl ?_
  refine ex_getfield dX8_isKept_11 g_X8_26 (cP_ow hP) rfl ?_
  refine ex_iload_n dX8_isKept_14 rfl ?_
  refine cV_f dX8_isKept_15 (mm_kv i_X3_metresIn l_X8_314) ⟨(Nat.le_of_ble_eq_true rfl), (Nat.le_of_ble_eq_true rfl)⟩ (c_X3_metresIn hP.1 (cP_ho hP) _) rfl rfl (cP_ho hP) (Nat.le_of_ble_eq_true rfl) rfl ?_
  refine ex_iadd dX8_isKept_18 ?_
  refine ex_istore_n dX8_isKept_19 (Nat.le_of_ble_eq_true rfl) ?_
  refine ex_iinc (d := 1) dX8_isKept_20 rfl (by decide) ?_
  refine ex_goto (tgt := 4) dX8_isKept_23 (by decide) ?_
  skip
  refine ex_iload_n dX8_isKept_4 rfl ?_
  refine ex_iconst (v := 3) dX8_isKept_5 (by decide) ?_
  refine ex_icmp_ge (tgt := 26) dX8_isKept_6 (by decide) (fun z => absurd z (by decide)) (fun _ => ?_)
  refine ex_iload_n dX8_isKept_9 rfl ?_
  refine ex_aload_n dX8_isKept_10 rfl ?_
  refine ex_getfield dX8_isKept_11 g_X8_26 (cP_ow hP) rfl ?_
  refine ex_iload_n dX8_isKept_14 rfl ?_
  refine cV_f dX8_isKept_15 (mm_kv i_X3_metresIn l_X8_314) ⟨(Nat.le_of_ble_eq_true rfl), (Nat.le_of_ble_eq_true rfl)⟩ (c_X3_metresIn hP.1 (cP_ho hP) _) rfl rfl (cP_ho hP) (Nat.le_of_ble_eq_true rfl) rfl ?_
  refine ex_iadd dX8_isKept_18 ?_
  refine ex_istore_n dX8_isKept_19 (Nat.le_of_ble_eq_true rfl) ?_
  refine ex_iinc (d := 1) dX8_isKept_20 rfl (by decide) ?_
  refine ex_goto (tgt := 4) dX8_isKept_23 (by decide) ?_
  skip
  refine ex_iload_n dX8_isKept_4 rfl ?_
  refine ex_iconst (v := 3) dX8_isKept_5 (by decide) ?_
  refine ex_icmp_ge (tgt := 26) dX8_isKept_6 (by decide) (fun z => absurd z (by decide)) (fun _ => ?_)
  refine ex_iload_n dX8_isKept_9 rfl ?_
  refine ex_aload_n dX8_isKept_10 rfl ?_
  refine ex_getfield dX8_isKept_11 g_X8_26 (cP_ow hP) rfl ?_
  refine ex_iload_n dX8_isKept_14 rfl ?_
  refine cV_f dX8_isKept_15 (mm_kv i_X3_metresIn l_X8_314) ⟨(Nat.le_of_ble_eq_true rfl), (Nat.le_of_ble_eq_true rfl)⟩ (c_X3_metresIn hP.1 (cP_ho hP) _) rfl rfl (cP_ho hP) (Nat.le_of_ble_eq_true rfl) rfl ?_
  refine ex_iadd dX8_isKept_18 ?_
  refine ex_istore_n dX8_isKept_19 (Nat.le_of_ble_eq_true rfl) ?_
  refine ex_iinc (d := 1) dX8_isKept_20 rfl (by decide) ?_
  refine ex_goto (tgt := 4) dX8_isKept_23 (by decide) ?_
  skip
  refine ex_iload_n dX8_isKept_4 rfl ?_
  refine ex_iconst (v := 3) dX8_isKept_5 (by decide) ?_
  refine ex_icmp_ge (tgt := 26) dX8_isKept_6 (by decide) (fun _ => ?_) (fun z => absurd (by decide) z)
  refine ex_iload_n dX8_isKept_26 rfl ?_
  refine ex_aload_n dX8_isKept_27 rfl ?_
  refine ex_getfield dX8_isKept_28 g_X8_33 (cP_ow hP) rfl ?_
  refine ex_getfield dX8_isKept_31 g_X8_123 (cP_ro hP) rfl ?_
  refine ex_iadd dX8_isKept_34 ?_
  refine ex_aload_n dX8_isKept_35 rfl ?_
  refine ex_getfield dX8_isKept_36 g_X8_135 (cP_ow hP) rfl ?_
  refine ex_iadd dX8_isKept_39 ?_
  refine ex_aload_n dX8_isKept_40 rfl ?_
  refine ex_getfield dX8_isKept_41 g_X8_26 (cP_ow hP) rfl ?_
  refine ex_getfield dX8_isKept_44 g_X8_345 (cP_ho hP) rfl ?_
  refine ex_icmp_ne (tgt := 54) dX8_isKept_47 (by decide) (fun c_47 => ?_) (fun c_47 => ?_)
  · refine ex_iconst (v := 0) dX8_isKept_54 (by decide) ?_
    refine ex_ireturn dX8_isKept_55 ⟨_, rfl, rfl⟩ ?_
    first | exact bq_t c_47 | exact bq_f c_47
  · refine ex_iconst (v := 1) dX8_isKept_50 (by decide) ?_
    refine ex_goto (tgt := 55) dX8_isKept_51 (by decide) ?_
    refine ex_ireturn dX8_isKept_55 ⟨_, rfl, rfl⟩ ?_
    first | exact bq_t c_47 | exact bq_f c_47
end PUB9
