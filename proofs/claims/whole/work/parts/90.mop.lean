/-! THE MODEL: laying -/
section MOP
variable {l : Launch} {G : mm_G} {h0 h : mm_H} {m : mo_S} {s : cl_S} {n : Nat} {T L : List tt_R}
theorem l1_no1 {s : cl_S} {sl t : Int32} (h : ¬ (cl_may s ∧ cl_op s.2.1 (cl_ce s))) : cl_l1 s sl t = (false, s) := by unfold cl_l1; rw [if_neg h]
theorem lastType_eq {k kp lo wa mk : Nat} {c : Nat → Nat} (hx : ivx n s k kp lo wa mk c) : (if ln_N (s.1 2) = 0 then -1 else ln_ta s.2.2.2.1.1 (s.1 2) (ln_N (s.1 2) - 1)) = cl_tyAt s (cl_me s - 1) ∧ (cl_tyAt s (cl_me s - 1) = -1 ∨ sm (cl_tyAt s (cl_me s - 1))) := by
  have hm : cl_me s = nI (ln_N (s.1 2)) := hx.2.2.2.2.2.2.2.1
  have hN := hx.N
  rw [hm]
  by_cases e : ln_N (s.1 2) = 0
  · rw [if_pos e, e, show nI 0 - 1 = -1 by decide, tyAt_m1 hx]; exact ⟨rfl, Or.inl rfl⟩
  · rw [if_neg e, show nI (ln_N (s.1 2)) - 1 = nI (ln_N (s.1 2) - 1) from pk_sub (a := ln_N (s.1 2)) (b := 1) (by omega), tyAt_ta hx (by omega)]
    exact ⟨rfl, ta_sm hx _⟩
theorem c_X9_lays (p : mo_P h0 h m) (r : r_all s m) (hi : iv n s) (hn : n ≤ 513) {y u : Nat} (hy : y ≤ 50) (hu : u < 3) : mm_Ct l G mX9_lays [.ref 29, .int (nI y), .int (nI u)] h (mm_qi (fun v h' => v = .int (bb ((cl_l1 s (nI y) (nI u)).1 = true)) ∧ ∃ m', mo_P h0 h' m' ∧ r_all (cl_l1 s (nI y) (nI u)).2 m' ∧ m'.1 0 = m.1 0)) := by
  obtain ⟨k, kp, lo, wa, mk, c, hx⟩ := hi
  have hW := hx.W hn
  have hN := hx.N
  have hkp := hx.2.1
  have hce : cl_ce s = nI k := hx.1.1
  have hk100 := hx.1.2.1
  obtain ⟨⟨xl, hxl, exl⟩, hS, -⟩ := hx.2.2.2.2.2.2.2.2.2.2.1
  obtain ⟨r1, r2, r3, r4, r5, r6, r7, r8, r9, r10⟩ := id r
  refine mm_ct (by decide +kernel) (by decide +kernel) rfl (by simp [Value.category]) (Nat.le_of_ble_eq_true rfl) rfl ?_
  by_cases hk : k = 100
  · skip
    refine ex_aload_n dX9_lays_0 rfl ?_
    refine ex_getfield (v := .int (nI k)) dX9_lays_1 g_X9_135 (mP_o p) (congrArg (fun z => some (Value.int z)) (r6.1.trans hce)) ?_
    refine ex_bipush (v := 100) dX9_lays_4 (by decide) ?_
    refine ex_icmp_eq (tgt := 57) dX9_lays_6 (by decide) (fun _ => ?_) (fun z => absurd (by rw [hk]; rfl) z)
    refine ex_iconst (v := 0) dX9_lays_57 (by decide) ?_
    refine ex_ireturn dX9_lays_58 ⟨_, rfl, (by first | rfl | exact bb_r)⟩ ?_
    rw [l1_no1 (fun z => z.1.2.2.2 (hce.trans (by rw [hk]; rfl)))]; exact ⟨_, rfl, congrArg Value.int (bb_f (fun z => nomatch z)).symm, m, p, r, rfl⟩
  have hk1 : k < 100 := by omega
  have ek : (cl_ce s).toNatClampNeg = k := by rw [hce]; exact nI_clamp (by omega)
  have hii : ii (cl_ce s) 0 99 := by rw [hce]; exact ⟨nI_pos' (by omega), nI_le (b := 99) (by omega) (by decide)⟩
  have hla : cl_la s < 12 ↔ ¬ nI xl = 12 := by
    rw [exl]
    constructor
    · intro z z2; rw [z2] at z; exact absurd z (by decide)
    · intro z
      exact nI_lt (b := 12) (by rcases Nat.lt_or_ge xl 12 with y | y; exact y; exact absurd (by rw [show xl = 12 by omega]; rfl) z) (by decide)
  obtain ⟨M, eM, hM1, hM2⟩ := ly_f (s := s) hS hce hk1 hy
  have hgo : cl_may s ∧ cl_op s.2.1 (cl_ce s) → mm_Ex l G mX9_lays (mm_qi (fun v h' => v = .int (bb ((cl_l1 s (nI y) (nI u)).1 = true)) ∧ ∃ m', mo_P h0 h' m' ∧ r_all (cl_l1 s (nI y) (nI u)).2 m' ∧ m'.1 0 = m.1 0)) 59 [.ref 29, .int (nI y), .int (nI u), .null] [] h := by
    intro hmay
    have hl1 : cl_l1 s (nI y) (nI u) = if (cl_ga s (nI u) (nI M)).2 = 0 ∧ ho_ha (cl_ty s) (se_d s.2.1 (cl_ce s)) (cl_ga s (nI u) (nI M)).1 = true ∧ ho_fi (cl_ty s) (cl_ga s (nI u) (nI M)).1 (cl_tyAt s (cl_me s - 1)) (-1) = true then (true, cl_l2 s (nI u) (nI M)) else (false, cl_t s 1 (cl_ga s (nI u) (nI M)).1) := by
      unfold cl_l1; rw [if_pos hmay, eM]
    have hgl : (cl_ga s (nI u) (nI M)).1.length ≤ 30 := Nat.le_trans (ga_len hx) hkp.2.1
    have hgk := ga_ok hx hu (show M < 2 ^ 31 by omega)
    have hty : cl_ty s = ho_ty s.2.2.2.1.1 (nI kp) := by unfold cl_ty; rw [hkp.1]
    obtain ⟨lt1, lt2⟩ := lastType_eq hx
    refine ex_aload_n dX9_lays_59 rfl ?_
    refine ex_aload_n dX9_lays_60 rfl ?_
    refine ex_getfield (v := .int (nI k)) dX9_lays_61 g_X9_135 (mP_o p) (congrArg (fun z => some (Value.int z)) (r6.1.trans hce)) ?_
    refine cV_f dX9_lays_64 (mm_kv i_X9_ground l_X9_210) ⟨(Nat.le_of_ble_eq_true rfl), (Nat.le_of_ble_eq_true rfl)⟩ (c_X9_ground p r1 hk1) rfl rfl (mP_o p) (Nat.le_of_ble_eq_true rfl) rfl ?_
    refine ex_aload_n dX9_lays_67 rfl ?_
    refine ex_aload_n dX9_lays_68 rfl ?_
    refine ex_getfield (v := .int (nI k)) dX9_lays_69 g_X9_135 (mP_o p) (congrArg (fun z => some (Value.int z)) (r6.1.trans hce)) ?_
    refine cV_f dX9_lays_72 (mm_kv i_X9_ground l_X9_210) ⟨(Nat.le_of_ble_eq_true rfl), (Nat.le_of_ble_eq_true rfl)⟩ (c_X9_ground p r1 hk1) rfl rfl (mP_o p) (Nat.le_of_ble_eq_true rfl) rfl ?_
    refine ex_iload_n dX9_lays_75 rfl ?_
    refine ex_imul dX9_lays_76 ?_
    refine ex_sipush (v := 1000) dX9_lays_77 (by decide) ?_
    refine ex_idiv dX9_lays_80 (by decide) ?_
    refine ex_iadd dX9_lays_81 ?_
    refine ex_istore_n dX9_lays_82 (Nat.le_of_ble_eq_true rfl) ?_
    skip
    have eM2 : se_g s.2.1 (nI k) + se_g s.2.1 (nI k) * nI y / 1000 = nI M := by rw [← eM, ly_m, hce]
    rw [eM2]
    refine ex_aload_n dX9_lays_83 rfl ?_
    refine ex_iload_n dX9_lays_84 rfl ?_
    refine ex_iload_n dX9_lays_85 rfl ?_
    refine cV_x dX9_lays_86 (mm_kv i_X9_wouldGo l_X9_213) ⟨(Nat.le_of_ble_eq_true rfl), (Nat.le_of_ble_eq_true rfl)⟩ (c_X9_wouldGo p r4 hu _ rfl _) rfl rfl (mP_o p) (Nat.le_of_ble_eq_true rfl) rfl ?_
    rintro _ h86 ⟨rfl, m1, p86, f1, o1⟩
    skip
    have q1 : r_all (cl_t s 1 (cl_ga s (nI u) (nI M)).1) m1 := ⟨r1.fr f1, r2.fr (s := cl_t s 1 (cl_ga s (nI u) (nI M)).1) f1, r3.fr (s := cl_t s 1 (cl_ga s (nI u) (nI M)).1) f1, r4.fr f1, r5.fr f1, r6.fr (s := cl_t s 1 (cl_ga s (nI u) (nI M)).1) f1, r7.fr (s := cl_t s 1 (cl_ga s (nI u) (nI M)).1) f1, r8.fr f1, r9.fr f1, r10.fr f1⟩
    have hgo2 : ((cl_ga s (nI u) (nI M)).2 = 0 ∧ ho_ha (cl_ty s) (se_d s.2.1 (cl_ce s)) (cl_ga s (nI u) (nI M)).1 = true ∧ ho_fi (cl_ty s) (cl_ga s (nI u) (nI M)).1 (cl_tyAt s (cl_me s - 1)) (-1) = true) → mm_Ex l G mX9_lays (mm_qi (fun v h' => v = .int (bb ((cl_l1 s (nI y) (nI u)).1 = true)) ∧ ∃ m', mo_P h0 h' m' ∧ r_all (cl_l1 s (nI y) (nI u)).2 m' ∧ m'.1 0 = m.1 0)) 117 [.ref 29, .int (nI y), .int (nI u), .int (nI M)] [] h86 := by
      intro hc
      rw [hl1, if_pos hc]
      obtain ⟨e0, e2, e3, e4, e5, e6, eu⟩ := l2_eq s (nI u) (nI M)
      have hlen : (s.1 2).length + 2 * (cl_ga s (nI u) (nI M)).1.length ≤ 8190 := by
        have := hx.2.2.2.1.2
        omega
      refine ex_aload_n dX9_lays_117 rfl ?_
      refine ex_iload_n dX9_lays_118 rfl ?_
      refine cV_y dX9_lays_119 (mm_kv i_X9_goesOut l_X9_226) ⟨(Nat.le_of_ble_eq_true rfl), (Nat.le_of_ble_eq_true rfl)⟩ (c_X9_goesOutW p86 hu _ rfl (r4.fr f1) o1 hc.1) rfl rfl (mP_o p86) (Nat.le_of_ble_eq_true rfl) rfl ?_
      rintro h119 ⟨m2, p119, f2, t2⟩
      refine ex_aload_n dX9_lays_122 rfl ?_
      refine cV_y dX9_lays_123 (mm_kv i_X9_appends l_X9_230) ⟨(Nat.le_of_ble_eq_true rfl), (Nat.le_of_ble_eq_true rfl)⟩ (c_X9_appends p119 ((r5.fr f1).fr f2) (o1.fr f2) hgl hlen) rfl rfl (mP_o p119) (Nat.le_of_ble_eq_true rfl) rfl ?_
      rintro h123 ⟨m3, p123, f3, l3⟩
      skip
      have fA : mo_F [13, 15, 17, 18, 19, 20, 21, 22, 23, 24, 25] m m3 := (f1.sub.trans f2.sub).trans f3.sub
      have t3 := t2.fr f3
      refine ex_aload_n dX9_lays_126 rfl ?_
      refine ex_getfield dX9_lays_127 g_X9_74 (mP_o p123) rfl ?_
      refine ex_aload_n dX9_lays_130 rfl ?_
      refine ex_getfield (v := .int (nI k)) dX9_lays_131 g_X9_135 (mP_o p123) (congrArg (fun z => some (Value.int z)) ((fA.1 31 rfl).trans (r6.1.trans hce))) ?_
      refine ex_iload_n dX9_lays_134 rfl ?_
      refine ex_iastore dX9_lays_135 (mA_32 p123) (by first | assumption | exact vp_in_nI (by omega) (by decide)) ?_
      refine mq_32 p123 (fun h135 p135 => ?_)
      refine ex_aload_n dX9_lays_136 rfl ?_
      refine ex_dup dX9_lays_137 rfl ?_
      refine ex_getfield (v := .int (nI k)) dX9_lays_138 g_X9_135 (mP_o p135) (congrArg (fun z => some (Value.int z)) ((fA.1 31 rfl).trans (r6.1.trans hce))) ?_
      refine ex_iconst (v := 1) dX9_lays_141 (by decide) ?_
      refine ex_iadd dX9_lays_142 ?_
      refine ex_put dX9_lays_143 p_X9_135 (mP_o p135) (Nat.le_of_ble_eq_true rfl) (fun z => nomatch z) (mm_fi _) ?_
      refine mk_31 p135 (fun h143 p143 => ?_)
      refine ex_aload_n dX9_lays_146 rfl ?_
      refine ex_dup dX9_lays_147 rfl ?_
      refine ex_getfield (v := .int (cl_la s)) dX9_lays_148 g_X9_146 (mP_o p143) (congrArg (fun z => some (Value.int z)) ((fA.1 9 rfl).trans r7.1)) ?_
      refine ex_iconst (v := 1) dX9_lays_151 (by decide) ?_
      refine ex_iadd dX9_lays_152 ?_
      refine ex_put dX9_lays_153 p_X9_146 (mP_o p143) (Nat.le_of_ble_eq_true rfl) (fun z => nomatch z) (mm_fi _) ?_
      refine mk_9 p143 (fun h153 p153 => ?_)
      refine ex_iconst (v := 1) dX9_lays_156 (by decide) ?_
      refine ex_ireturn dX9_lays_157 ⟨_, rfl, (by first | rfl | exact bb_r)⟩ ?_
      refine ⟨_, rfl, congrArg Value.int (bb_t rfl).symm, _, p153, ?_, fA.1 0 rfl⟩
      show r_all (cl_l2 s (nI u) (nI M)) _
      unfold r_all
      rw [e0, e2, e4, e5, e6, nI_clamp (show k < 2 ^ 31 by omega)]
      have x1 := r1.fr fA
      have x2 := r2.fr fA
      have x3 := r3.fr fA
      have x8 := r8.fr fA
      have x9 := r9.fr fA
      have x10 := r10.fr fA
      refine ⟨?_, ?_, ?_, t3, l3, ?_, ?_, x8, x9, x10⟩
      · rw [eu]; exact x1
      · unfold r_cal; rw [eu]; exact x2
      · unfold r_hold; rw [eu]; exact x3
      · unfold r_cel cl_ce; rw [eu]
        refine ⟨by show _ = cl_ce s + 1; rw [hce]; rfl, ?_⟩
        show upd (m3.2.2 32) k (nI M) = upd s.2.2.2.2.1.1 (cl_ce s).toNatClampNeg (nI M)
        rw [ek, fA.2.2 32 rfl, r6.2]
      · unfold r_own cl_la cl_bu cl_lo cl_wa cl_fa cl_fb; rw [eu]
        exact ⟨rfl, (fA.1 34 rfl).trans r7.2.1, (fA.1 35 rfl).trans r7.2.2.1, (congrArg Prod.snd fA.2.1).trans r7.2.2.2.1, (fA.1 36 rfl).trans r7.2.2.2.2.1, (fA.1 37 rfl).trans r7.2.2.2.2.2⟩
    refine ex_if_eq (tgt := 115) dX9_lays_89 (by decide) (fun c_89 => ?_) (fun c_89 => ?_)
    · refine ex_iconst (v := 0) dX9_lays_115 (by decide) ?_
      refine ex_ireturn dX9_lays_116 ⟨_, rfl, (by first | rfl | exact bb_r)⟩ ?_
      rw [hl1, if_neg (fun z => bb_0.mp c_89 z.1)]; exact ⟨_, rfl, congrArg Value.int (bb_f (fun z => nomatch z)).symm, m1, p86, q1, f1.1 0 rfl⟩
    · refine ex_aload_n dX9_lays_92 rfl ?_
      refine ex_aload_n dX9_lays_93 rfl ?_
      refine ex_getfield (v := .int (nI k)) dX9_lays_94 g_X9_135 (mP_o p86) (congrArg (fun z => some (Value.int z)) ((f1.1 31 rfl).trans (r6.1.trans hce))) ?_
      refine cV_f dX9_lays_97 (mm_kv i_X9_holds l_X9_217) ⟨(Nat.le_of_ble_eq_true rfl), (Nat.le_of_ble_eq_true rfl)⟩ (c_X9_holds p86 (r1.fr f1) hk1 o1 hgl hkp.2.1 (types := s.2.2.2.1.1) ((f1.2.2 11 rfl).trans r3.2.1) hgk) rfl rfl (mP_o p86) (Nat.le_of_ble_eq_true rfl) rfl ?_
      refine ex_if_eq (tgt := 115) dX9_lays_100 (by decide) (fun c_100 => ?_) (fun c_100 => ?_)
      · refine ex_iconst (v := 0) dX9_lays_115 (by decide) ?_
        refine ex_ireturn dX9_lays_116 ⟨_, rfl, (by first | rfl | exact bb_r)⟩ ?_
        rw [hl1, if_neg (fun z => bb_0.mp c_100 (by rw [← hce, ← hty]; exact z.2.1))]; exact ⟨_, rfl, congrArg Value.int (bb_f (fun z => nomatch z)).symm, m1, p86, q1, f1.1 0 rfl⟩
      · refine ex_aload_n dX9_lays_103 rfl ?_
        refine ex_aload_n dX9_lays_104 rfl ?_
        refine cV_f dX9_lays_105 (mm_kv i_X9_lastType l_X9_220) ⟨(Nat.le_of_ble_eq_true rfl), (Nat.le_of_ble_eq_true rfl)⟩ (c_X9_lastType p86 (r5.fr f1) hW (types := s.2.2.2.1.1) ((f1.2.2 11 rfl).trans r3.2.1) (by omega)) rfl rfl (mP_o p86) (Nat.le_of_ble_eq_true rfl) rfl ?_
        rw [lt1]
        refine ex_iconst (v := (-1)) dX9_lays_108 (by decide) ?_
        refine cV_f dX9_lays_109 (mm_kv i_X9_typesFit l_X9_223) ⟨(Nat.le_of_ble_eq_true rfl), (Nat.le_of_ble_eq_true rfl)⟩ (c_X9_typesFit p86 o1 hgl hkp.2.1 (types := s.2.2.2.1.1) ((f1.2.2 11 rfl).trans r3.2.1) hkp.2.2 hgk _ _ lt2 (Or.inl rfl)) rfl rfl (mP_o p86) (Nat.le_of_ble_eq_true rfl) rfl ?_
        refine ex_if_ne (tgt := 117) dX9_lays_112 (by decide) (fun c_112 => ?_) (fun c_112 => ?_)
        · exact hgo2 ⟨bb_n.mp c_89, by (have := bb_n.mp c_100); rw [← hce, ← hty] at this; exact this, by (have := bb_n.mp c_112); rw [← hty] at this; exact this⟩
        · refine ex_iconst (v := 0) dX9_lays_115 (by decide) ?_
          refine ex_ireturn dX9_lays_116 ⟨_, rfl, (by first | rfl | exact bb_r)⟩ ?_
          rw [hl1, if_neg (fun z => bb_0.mp c_112 (by rw [← hty]; exact z.2.2))]; exact ⟨_, rfl, congrArg Value.int (bb_f (fun z => nomatch z)).symm, m1, p86, q1, f1.1 0 rfl⟩
  refine ex_aload_n dX9_lays_0 rfl ?_
  refine ex_getfield (v := .int (nI k)) dX9_lays_1 g_X9_135 (mP_o p) (congrArg (fun z => some (Value.int z)) (r6.1.trans hce)) ?_
  refine ex_bipush (v := 100) dX9_lays_4 (by decide) ?_
  refine ex_icmp_eq (tgt := 57) dX9_lays_6 (by decide) (fun z => absurd z (fun z => hk ((nI_eq (by omega) (by decide : 100 < 2 ^ 31)).mp z))) (fun _ => ?_)
  refine ex_aload_n dX9_lays_9 rfl ?_
  refine cV_f dX9_lays_10 (mm_kv i_X9_ships l_X9_207) ⟨(Nat.le_of_ble_eq_true rfl), (Nat.le_of_ble_eq_true rfl)⟩ (c_X9_ships p (c := s.2.2.1) r2.1 r2.2.1 r2.2.2) rfl rfl (mP_o p) (Nat.le_of_ble_eq_true rfl) rfl ?_
  refine ex_if_eq (tgt := 57) dX9_lays_13 (by decide) (fun c_13 => ?_) (fun c_13 => ?_)
  · refine ex_iconst (v := 0) dX9_lays_57 (by decide) ?_
    refine ex_ireturn dX9_lays_58 ⟨_, rfl, (by first | rfl | exact bb_r)⟩ ?_
    rw [l1_no1 (fun z => bb_0.mp c_13 z.1.1)]; exact ⟨_, rfl, congrArg Value.int (bb_f (fun z => nomatch z)).symm, m, p, r, rfl⟩
  · refine ex_aload_n dX9_lays_16 rfl ?_
    refine ex_getfield (v := .int (nI xl)) dX9_lays_17 g_X9_146 (mP_o p) (congrArg (fun z => some (Value.int z)) (r7.1.trans exl)) ?_
    refine ex_bipush (v := 12) dX9_lays_20 (by decide) ?_
    refine ex_icmp_eq (tgt := 57) dX9_lays_22 (by decide) (fun c_22 => ?_) (fun c_22 => ?_)
    · refine ex_iconst (v := 0) dX9_lays_57 (by decide) ?_
      refine ex_ireturn dX9_lays_58 ⟨_, rfl, (by first | rfl | exact bb_r)⟩ ?_
      rw [l1_no1 (fun z => hla.mp z.1.2.1 c_22)]; exact ⟨_, rfl, congrArg Value.int (bb_f (fun z => nomatch z)).symm, m, p, r, rfl⟩
    · refine ex_aload_n dX9_lays_25 rfl ?_
      refine ex_getfield (v := .int (cl_bu s)) dX9_lays_26 g_X9_153 (mP_o p) (congrArg (fun z => some (Value.int z)) (r7.2.1)) ?_
      refine ex_if_ne (tgt := 57) dX9_lays_29 (by decide) (fun c_29 => ?_) (fun c_29 => ?_)
      · refine ex_iconst (v := 0) dX9_lays_57 (by decide) ?_
        refine ex_ireturn dX9_lays_58 ⟨_, rfl, (by first | rfl | exact bb_r)⟩ ?_
        rw [l1_no1 (fun z => c_29 z.1.2.2.1)]; exact ⟨_, rfl, congrArg Value.int (bb_f (fun z => nomatch z)).symm, m, p, r, rfl⟩
      · refine ex_aload_n dX9_lays_32 rfl ?_
        refine ex_getfield dX9_lays_33 g_X9_20 (mP_o p) rfl ?_
        refine ex_aload_n dX9_lays_36 rfl ?_
        refine ex_getfield (v := .int (nI k)) dX9_lays_37 g_X9_135 (mP_o p) (congrArg (fun z => some (Value.int z)) (r6.1.trans hce)) ?_
        refine ex_baloadv (v := s.2.1.2.2.1 k) dX9_lays_40 (mA_4 p) (by first | assumption | exact vp_in_nI (by omega) (by decide)) (mo_av (congrFun r1.2.1 k) rfl (by omega)) ?_
        refine ex_if_ne (tgt := 57) dX9_lays_41 (by decide) (fun c_41 => ?_) (fun c_41 => ?_)
        · refine ex_iconst (v := 0) dX9_lays_57 (by decide) ?_
          refine ex_ireturn dX9_lays_58 ⟨_, rfl, (by first | rfl | exact bb_r)⟩ ?_
          rw [l1_no1 (fun z => z.2.1 ⟨hii, by rw [ek]; exact c_41⟩)]; exact ⟨_, rfl, congrArg Value.int (bb_f (fun z => nomatch z)).symm, m, p, r, rfl⟩
        · refine ex_aload_n dX9_lays_44 rfl ?_
          refine ex_getfield dX9_lays_45 g_X9_23 (mP_o p) rfl ?_
          refine ex_aload_n dX9_lays_48 rfl ?_
          refine ex_getfield (v := .int (nI k)) dX9_lays_49 g_X9_135 (mP_o p) (congrArg (fun z => some (Value.int z)) (r6.1.trans hce)) ?_
          refine ex_ialoadv (v := s.2.1.2.2.2 k) dX9_lays_52 (mA_5 p) (by first | assumption | exact vp_in_nI (by omega) (by decide)) (mo_av (congrFun r1.2.2.1 k) rfl (by omega)) ?_
          refine ex_iconst (v := 1) dX9_lays_53 (by decide) ?_
          refine ex_icmp_ne (tgt := 59) dX9_lays_54 (by decide) (fun c_54 => ?_) (fun c_54 => ?_)
          · exact hgo ⟨⟨bb_n.mp c_13, hla.mpr c_22, c_29, fun z => hk ((nI_eq (by omega) (by decide : 100 < 2 ^ 31)).mp (hce.symm.trans z))⟩, fun z => z.2 (by rw [ek]; exact c_41), fun z => c_54 (by rw [if_pos hii, ek] at z; exact z)⟩
          · refine ex_iconst (v := 0) dX9_lays_57 (by decide) ?_
            refine ex_ireturn dX9_lays_58 ⟨_, rfl, (by first | rfl | exact bb_r)⟩ ?_
            rw [l1_no1 (fun z => z.2.2 (by rw [if_pos hii, ek]; exact c_54))]; exact ⟨_, rfl, congrArg Value.int (bb_f (fun z => nomatch z)).symm, m, p, r, rfl⟩
theorem c_X9_lay (p : mo_P h0 h m) (r : r_all s m) (hi : iv n s) (hn : n ≤ 513) (d sl t : Int32) : mm_Ct l G mX9_lay [.ref 29, .int d, .int sl, .int t] h (mo_Z h0 cx_a cx_s (cm_lay s d sl t)) := by
  refine mm_ct (by decide +kernel) (by decide +kernel) rfl (by simp [Value.category]) (Nat.le_of_ble_eq_true rfl) rfl ?_
  refine mm_via (p := ii d 1 12 ∧ ii sl 0 50 ∧ ii t 0 2) (pc' := 34) (ls' := [.ref 29, .int d, .int sl, .int t, .null, .null]) (st := []) (fun b hb => ?_) (fun k => ?_)
  · refine mm_viaJ (if ii d 1 12 ∧ ii sl 0 50 ∧ ii t 0 2 then (if cl_ce s = 100 then 2 else 0) else 1) (pc' := 58) (ls' := [.ref 29, .int d, .int sl, .int t, .int b, .null]) (st := [.ref 29]) ?_ (fun k => ?_)
    · skip
      refine ex_put dX9_lay_58 p_X9_120 (mP_o p) (Nat.le_of_ble_eq_true rfl) (fun z => nomatch z) (mm_fi _) ?_
      refine mk_0 p (fun h58 p58 => ?_)
      refine ex_iconst (v := 0) dX9_lay_61 (by decide) ?_
      refine ex_istore dX9_lay_62 (Nat.le_of_ble_eq_true rfl) ?_
      skip
      unfold cm_lay
      by_cases h1 : ii d 1 12 ∧ ii sl 0 50 ∧ ii t 0 2
      rotate_left
      · rw [if_neg h1] at p58
        rw [if_neg h1]
        refine ex_aload_n dX9_lay_64 rfl ?_
        refine ex_getfield (v := .int (1)) dX9_lay_65 g_X9_120 (mP_o p58) (congrArg (fun z => some (Value.int z)) (rfl)) ?_
        refine ex_if_ne (tgt := 92) dX9_lay_68 (by decide) (fun _ => ?_) (fun z => absurd z (by decide))
        refine ex_iload dX9_lay_92 rfl ?_
        refine ex_ireturn dX9_lay_94 ⟨_, rfl, rfl⟩ ?_
        exact ⟨_, rfl, _, p58, r, ⟨Or.inl ⟨rfl, rfl⟩, _, rfl⟩⟩
      rw [if_pos h1] at p58
      rw [if_pos h1]
      by_cases h2 : cl_ce s = 100
      · rw [if_pos h2] at p58
        rw [if_pos h2]
        refine ex_aload_n dX9_lay_64 rfl ?_
        refine ex_getfield (v := .int (2)) dX9_lay_65 g_X9_120 (mP_o p58) (congrArg (fun z => some (Value.int z)) (rfl)) ?_
        refine ex_if_ne (tgt := 92) dX9_lay_68 (by decide) (fun _ => ?_) (fun z => absurd z (by decide))
        refine ex_iload dX9_lay_92 rfl ?_
        refine ex_ireturn dX9_lay_94 ⟨_, rfl, rfl⟩ ?_
        exact ⟨_, rfl, _, p58, r, ⟨Or.inr ⟨rfl, rfl⟩, _, rfl⟩⟩
      rw [if_neg h2] at p58
      rw [if_neg h2]
      obtain ⟨N, hN, rfl⟩ := nI_of (x := d) (fun z => Int32.not_lt.mpr h1.1.1 (Int32.lt_of_lt_of_le z (by decide)))
      obtain ⟨y, hy, rfl⟩ : ∃ y : Nat, y ≤ 50 ∧ sl = nI y := by
        obtain ⟨j, hj, rfl⟩ := nI_of (x := sl) (Int32.not_lt.mpr h1.2.1.1)
        exact ⟨j, (nI_leI hj (by decide : 50 < 2 ^ 31)).mp h1.2.1.2, rfl⟩
      obtain ⟨u, hu, rfl⟩ : ∃ u : Nat, u < 3 ∧ t = nI u := by
        obtain ⟨j, hj, rfl⟩ := nI_of (x := t) (Int32.not_lt.mpr h1.2.2.1)
        exact ⟨j, by have := (nI_leI hj (by decide : 2 < 2 ^ 31)).mp h1.2.2.2; omega, rfl⟩
      rw [nI_clamp hN]
      have key : ∀ (dd x : Nat) (s1 : cl_S) (m1 : mo_S) (h1 : mm_H), dd + x = N → iv n s1 → mo_P h0 h1 m1 → r_all s1 m1 → m1.1 0 = 0 → mm_Ex l G mX9_lay (mo_Z h0 cx_a cx_s (.inl (some (nI (cl_ly (nI y) (nI u) x dd s1).1)), (cl_ly (nI y) (nI u) x dd s1).2)) 64 [.ref 29, .int (nI N), .int (nI y), .int (nI u), .int b, .int (nI dd)] [] h1 := by
        intro dd x
        induction x generalizing dd with
        | zero =>
          intro s1 m1 h1 hd i1 p1 r1 t1
          obtain rfl : dd = N := by omega
          refine ex_aload_n dX9_lay_64 rfl ?_
          refine ex_getfield (v := .int (0)) dX9_lay_65 g_X9_120 (mP_o p1) (congrArg (fun z => some (Value.int z)) (t1)) ?_
          refine ex_if_ne (tgt := 92) dX9_lay_68 (by decide) (fun z => absurd rfl z) (fun _ => ?_)
          refine ex_iload dX9_lay_71 rfl ?_
          refine ex_iload_n dX9_lay_73 rfl ?_
          refine ex_icmp_ge (tgt := 92) dX9_lay_74 (by decide) (fun _ => ?_) (fun z => absurd (Int32.le_refl _) z)
          refine ex_iload dX9_lay_92 rfl ?_
          refine ex_ireturn dX9_lay_94 ⟨_, rfl, rfl⟩ ?_
          exact ⟨_, rfl, m1, p1, r1, t1, rfl⟩
        | succ x ih =>
          intro s1 m1 h1' hd i1 p1 r1 t1
          refine ex_aload_n dX9_lay_64 rfl ?_
          refine ex_getfield (v := .int (0)) dX9_lay_65 g_X9_120 (mP_o p1) (congrArg (fun z => some (Value.int z)) (t1)) ?_
          refine ex_if_ne (tgt := 92) dX9_lay_68 (by decide) (fun z => absurd rfl z) (fun _ => ?_)
          refine ex_iload dX9_lay_71 rfl ?_
          refine ex_iload_n dX9_lay_73 rfl ?_
          refine ex_icmp_ge (tgt := 92) dX9_lay_74 (by decide) (fun z => absurd z (nI_ge (by omega) hN)) (fun _ => ?_)
          refine ex_aload_n dX9_lay_77 rfl ?_
          refine ex_iload_n dX9_lay_78 rfl ?_
          refine ex_iload_n dX9_lay_79 rfl ?_
          refine cV_x dX9_lay_80 (mm_kv i_X9_lays l_X9_233) ⟨(Nat.le_of_ble_eq_true rfl), (Nat.le_of_ble_eq_true rfl)⟩ (c_X9_lays p1 r1 i1 hn hy hu) rfl rfl (mP_o p1) (Nat.le_of_ble_eq_true rfl) rfl ?_
          rintro _ h80 ⟨rfl, m9, p80, r9, t9⟩
          refine ex_if_eq (tgt := 92) dX9_lay_83 (by decide) (fun c_83 => ?_) (fun c_83 => ?_)
          · refine ex_iload dX9_lay_92 rfl ?_
            refine ex_ireturn dX9_lay_94 ⟨_, rfl, rfl⟩ ?_
            rw [cl_ly, if_neg (bb_0.mp c_83)]; exact ⟨_, rfl, m9, p80, r9, t9.trans t1, rfl⟩
          · refine ex_iinc (d := 1) dX9_lay_86 rfl (by decide) ?_
            refine ex_goto (tgt := 64) dX9_lay_89 (by decide) ?_
            rw [cl_ly, if_pos (bb_n.mp c_83), nI_1]; exact ih (dd + 1) _ _ _ (by omega) (iv_l1 i1 h1.2.1 h1.2.2) p80 r9 (t9.trans t1)
      exact key 0 N s _ _ (by omega) hi p58 r rfl
    · skip
      refine ex_istore dX9_lay_34 (Nat.le_of_ble_eq_true rfl) ?_
      refine ex_aload_n dX9_lay_36 rfl ?_
      refine ex_iload dX9_lay_37 rfl ?_
      refine ex_if_ne (tgt := 46) dX9_lay_39 (by decide) (fun c_39 => ?_) (fun c_39 => ?_)
      · refine ex_aload_n dX9_lay_46 rfl ?_
        refine cV_f dX9_lay_47 (mm_kv i_X9_liesAtB l_X9_149) ⟨(Nat.le_of_ble_eq_true rfl), (Nat.le_of_ble_eq_true rfl)⟩ (c_X9_liesAtB p) rfl rfl (mP_o p) (Nat.le_of_ble_eq_true rfl) rfl ?_
        refine ex_if_eq (tgt := 57) dX9_lay_50 (by decide) (fun c_50 => ?_) (fun c_50 => ?_)
        · refine ex_iconst (v := 0) dX9_lay_57 (by decide) ?_
          exact k _ (by rw [if_pos (bb_n.mp (hb ▸ c_39)), if_neg (fun z => bb_0.mp c_50 (r.2.2.2.2.2.1.1.trans z))])
        · refine ex_iconst (v := 2) dX9_lay_53 (by decide) ?_
          refine ex_goto (tgt := 58) dX9_lay_54 (by decide) ?_
          exact k _ (by rw [if_pos (bb_n.mp (hb ▸ c_39)), if_pos (r.2.2.2.2.2.1.1.symm.trans (bb_n.mp c_50))])
      · refine ex_iconst (v := 1) dX9_lay_42 (by decide) ?_
        refine ex_goto (tgt := 58) dX9_lay_43 (by decide) ?_
        exact k _ (by rw [if_neg (bb_0.mp (hb ▸ c_39))])
  · skip
    refine ex_iload_n dX9_lay_0 rfl ?_
    refine ex_iconst (v := 1) dX9_lay_1 (by decide) ?_
    refine ex_bipush (v := 12) dX9_lay_2 (by decide) ?_
    refine cS_f dX9_lay_4 (mm_ks i_X9_isIn l_X9_123) ⟨(Nat.le_of_ble_eq_true rfl), (Nat.le_of_ble_eq_true rfl)⟩ (c_X9_isIn _ _ _) rfl rfl (Nat.le_of_ble_eq_true rfl) rfl ?_
    refine ex_if_eq (tgt := 33) dX9_lay_7 (by decide) (fun c_7 => ?_) (fun c_7 => ?_)
    · refine ex_iconst (v := 0) dX9_lay_33 (by decide) ?_
      first | exact k _ (bb_f (fun z => bb_0.mp c_7 z.1)).symm | exact k _ (bb_f (fun z => bb_0.mp c_17 z.2.1)).symm | exact k _ (bb_f (fun z => bb_0.mp c_26 z.2.2)).symm | exact k _ (bb_t ⟨bb_n.mp c_7, bb_n.mp c_17, bb_n.mp c_26⟩).symm
    · refine ex_iload_n dX9_lay_10 rfl ?_
      refine ex_iconst (v := 0) dX9_lay_11 (by decide) ?_
      refine ex_bipush (v := 50) dX9_lay_12 (by decide) ?_
      refine cS_f dX9_lay_14 (mm_ks i_X9_isIn l_X9_123) ⟨(Nat.le_of_ble_eq_true rfl), (Nat.le_of_ble_eq_true rfl)⟩ (c_X9_isIn _ _ _) rfl rfl (Nat.le_of_ble_eq_true rfl) rfl ?_
      refine ex_if_eq (tgt := 33) dX9_lay_17 (by decide) (fun c_17 => ?_) (fun c_17 => ?_)
      · refine ex_iconst (v := 0) dX9_lay_33 (by decide) ?_
        first | exact k _ (bb_f (fun z => bb_0.mp c_7 z.1)).symm | exact k _ (bb_f (fun z => bb_0.mp c_17 z.2.1)).symm | exact k _ (bb_f (fun z => bb_0.mp c_26 z.2.2)).symm | exact k _ (bb_t ⟨bb_n.mp c_7, bb_n.mp c_17, bb_n.mp c_26⟩).symm
      · refine ex_iload_n dX9_lay_20 rfl ?_
        refine ex_iconst (v := 0) dX9_lay_21 (by decide) ?_
        refine ex_iconst (v := 2) dX9_lay_22 (by decide) ?_
        refine cS_f dX9_lay_23 (mm_ks i_X9_isIn l_X9_123) ⟨(Nat.le_of_ble_eq_true rfl), (Nat.le_of_ble_eq_true rfl)⟩ (c_X9_isIn _ _ _) rfl rfl (Nat.le_of_ble_eq_true rfl) rfl ?_
        refine ex_if_eq (tgt := 33) dX9_lay_26 (by decide) (fun c_26 => ?_) (fun c_26 => ?_)
        · refine ex_iconst (v := 0) dX9_lay_33 (by decide) ?_
          first | exact k _ (bb_f (fun z => bb_0.mp c_7 z.1)).symm | exact k _ (bb_f (fun z => bb_0.mp c_17 z.2.1)).symm | exact k _ (bb_f (fun z => bb_0.mp c_26 z.2.2)).symm | exact k _ (bb_t ⟨bb_n.mp c_7, bb_n.mp c_17, bb_n.mp c_26⟩).symm
        · refine ex_iconst (v := 1) dX9_lay_29 (by decide) ?_
          refine ex_goto (tgt := 34) dX9_lay_30 (by decide) ?_
          first | exact k _ (bb_f (fun z => bb_0.mp c_7 z.1)).symm | exact k _ (bb_f (fun z => bb_0.mp c_17 z.2.1)).symm | exact k _ (bb_f (fun z => bb_0.mp c_26 z.2.2)).symm | exact k _ (bb_t ⟨bb_n.mp c_7, bb_n.mp c_17, bb_n.mp c_26⟩).symm
end MOP
