/-! P40: THE LAW: its start; the soundings -/
section E7
variable {l : Launch} {G : mm_G} {h : mm_H} {y u : Nat}
theorem bu_k : cl_bu (k_tb, k_u) = 0 := rfl
theorem k_I : p_I 0 (k_tb, k_u) (fun _ => 0) y 0 0 ↔ y < 4 := by
  refine ⟨fun h => (p_I_c h).2.2.1, fun hy => ⟨k_iv.at rfl (by decide) rfl (by decide), ⟨hy, fun p hp => absurd hp (by omega)⟩, ⟨fun _ => rfl, fun _ => rfl⟩, fun i hi => ?_, trivial, fun z => absurd bu_k z, rfl⟩⟩
  show dp (fun _ => 0) i = fl_N (fun _ => 0) 100 100 i
  rw [fl_at (by omega)]; rfl
theorem k_T : (fun _ => 0 : Nat → Int32) = tz_k (k_tb, k_u) 0 := by
  funext i
  unfold tz_k tg
  by_cases z : i < 3
  · rw [if_pos z]; rfl
  · rw [if_neg z]
    rcases Nat.lt_or_ge (i - 3) 10 with w | w
    · rcases (by omega : i - 3 = 0 ∨ i - 3 = 1 ∨ i - 3 = 2 ∨ i - 3 = 3 ∨ i - 3 = 4 ∨ i - 3 = 5 ∨ i - 3 = 6 ∨ i - 3 = 7 ∨ i - 3 = 8 ∨ i - 3 = 9) with e | e | e | e | e | e | e | e | e | e <;> rw [e] <;> first | rfl | decide
    · rw [List.getElem?_eq_none (by simpa using w)]; rfl
/-- what holds ahead of the sounding of the cell c -/
def ls (y c : Nat) (s : cl_S) (d : Nat → Int32) : Prop := p_I 0 s d y 0 0 ∧ (∀ i, c ≤ i → i < 40 → s.2.1.2.1 i = 501) ∧ s.2.2.1.1 = 0
theorem snd_law {c D : Nat} {s : cl_S} {d : Nat → Int32} (h : ls y c s d) (hc : c < 40) (h1 : 1 ≤ D) (h2 : D ≤ 6000) : (cm_sound s (nI c) (nI D) 10).1 = .inl (some (nI D)) ∧ ls y (c + 1) (cm_sound s (nI c) (nI D) 10).2 (upd d c (nI D)) ∧ t_f (cm_sound s (nI c) (nI D) 10).2 (t_r (cm_sound s (nI c) (nI D) 10).2) = t_f s (t_r s) ∧ c_s (cm_sound s (nI c) (nI D) 10).2 = c_s s := by
  obtain ⟨hI, hE, hd⟩ := h
  have hiv := iv_sound (p_I_iv hI) (nI c) (nI D) 10
  obtain ⟨hc0, hkp, hy, hbb⟩ := p_I_c hI
  obtain ⟨⟨lo, wa, mk, c', hi⟩, hT, hW, hD, hN, hB, hF⟩ := hI
  have e : cm_sound s (nI c) (nI D) 10 = (.inl (some (nI D)), s.1, (upd s.2.1.1 c (nI D), upd s.2.1.2.1 c 10, s.2.1.2.2), s.2.2) := by
    have e1 : cs_snd s.2.1 (nI c) (nI D) 10 = (upd s.2.1.1 c (nI D), upd s.2.1.2.1 c 10, s.2.1.2.2) := by
      unfold cs_snd
      rw [nI_clamp (by omega), hE c (Nat.le_refl _) hc, if_pos (by decide)]
    have e2 : cl_ce s ≤ nI c := by rw [hc0]; exact nI_le (Nat.zero_le _) (by omega)
    unfold cm_sound
    rw [if_pos ⟨ix_99 hc, ⟨nI_pos' (by omega), nI_le (b := 6000) (by omega) (by decide)⟩, by decide⟩, if_pos (show s.2.2.2.2.1.2.1 ≤ nI c from e2), e1]
    unfold se_d
    rw [if_pos (ix_99 hc), nI_clamp (by omega)]
    dsimp only
    rw [show upd s.2.1.1 c (nI D) c = nI D from pk_us]
  rw [e] at hiv ⊢
  refine ⟨rfl, ⟨⟨hiv.at hc0 (by decide) hi.2.1.1 (by decide), hT, hW, fun i hi40 => ?_, hN, hB, hF⟩, fun i hci hi40 => ?_, hd⟩, rfl, rfl⟩
  · show dp (upd d c (nI D)) i = upd s.2.1.1 c (nI D) i
    by_cases z : i = c
    · subst z
      unfold dp
      rw [show upd d i (nI D) i = nI D from pk_us, if_neg (nI_ne0 h1 (by omega))]
      exact pk_us.symm
    · refine Eq.trans ?_ (pk_un z).symm
      unfold dp
      rw [show upd d c (nI D) i = d i from pk_un z]
      exact hD i hi40
  · exact (pk_un (show i ≠ c by omega)).trans (hE i (by omega) hi40)
theorem snd_loop (hu : u = G.2.2.2.1) (hL : G.2.2.2.2.1 ≤ 260) (hl : l.stackTraces = false) (hy : y < 4) : ∀ (T c : Nat) (h : mm_H) (s : cl_S) (d : Nat → Int32) (x7 : Value), T + c = 40 → ls y c s d → lb h s d (c_s s) (t_f s (t_r s)) 70 80000 → mm_Ex l G mm_law lw_QE 72 [.retAddr u, .ref 0, .ref 29, .ref 30, .ref 31, .int (nI y), .int (nI c), x7, .null, .null, .null, .null, .null, .null, .null, .null, .null] [] h := by
  intro T
  induction T with
  | zero =>
    intro c h s d x7 hT hs B
    obtain rfl : c = 40 := by omega
    refine ex_iload dL_law_72 rfl ?_
    refine ex_bipush (v := 40) dL_law_74 (by decide) ?_
    refine ex_icmp_ge (tgt := 153) dL_law_76 (by decide) (fun _ => ?_) (fun z => absurd (by decide) z)
    refine ex_iconst (v := 0) dL_law_153 (by decide) ?_
    refine ex_istore dL_law_154 (Nat.le_of_ble_eq_true rfl) ?_
    refine ex_bipush (v := 42) dL_law_156 (by decide) ?_
    refine ex_istore dL_law_158 (Nat.le_of_ble_eq_true rfl) ?_
    refine ex_iconst (v := 0) dL_law_160 (by decide) ?_
    refine ex_istore dL_law_161 (Nat.le_of_ble_eq_true rfl) ?_
    exact lw_loop hu hL hl 60 0 0 h _ _ _ _ _ _ _ _ rfl ⟨0, s, d, 0, 0, 0, Nat.le_refl _, Nat.le_refl _, B, hs.1, by decide, hs.2.2, Nat.le_refl _⟩
  | succ T ih =>
    intro c h s d x7 hT hs B
    have hc0 := (p_I_c hs.1).1
    replace B := lb_k hc0 B
    have back : ∀ {h : mm_H}, lb h s d (c_s s) (tz_k s 0) 70 80000 → lb h s d (c_s s) (t_f s (t_r s)) 70 80000 := fun B => by
      unfold tz_k at B
      rw [← hc0] at B
      exact B
    refine ex_iload dL_law_72 rfl ?_
    refine ex_bipush (v := 40) dL_law_74 (by decide) ?_
    refine ex_icmp_ge (tgt := 153) dL_law_76 (by decide) (fun z => absurd z (nI_ge (b := 40) (by omega) (by decide))) (fun _ => ?_)
    refine ex_aload_x dL_law_79 rfl ?_
    refine ex_iconst (v := 2) dL_law_80 (by decide) ?_
    refine ex_iload dL_law_81 rfl ?_
    refine ex_iadd dL_law_83 ?_
    refine cS_x dL_law_84 (mm_ks i_L_cell l_L_76) ⟨(Nat.le_of_ble_eq_true rfl), (Nat.le_of_ble_eq_true rfl)⟩ (c_L_cell hu hL (2 + c) (by omega) _ (nI_add 2 c)) rfl rfl (Nat.le_of_ble_eq_true rfl) rfl ?_
    rintro _ h ⟨⟨x7, rfl⟩, rfl⟩
    refine ex_istore dL_law_87 (Nat.le_of_ble_eq_true rfl) ?_
    refine ex_iload dL_law_89 rfl ?_
    refine ex_iconst (v := 4) dL_law_91 (by decide) ?_
    refine cS_x dL_law_92 (mm_ks i_L_low l_L_78) ⟨(Nat.le_of_ble_eq_true rfl), (Nat.le_of_ble_eq_true rfl)⟩ (c_L_low _ 4 (by decide) (by decide) _ rfl) rfl rfl (Nat.le_of_ble_eq_true rfl) rfl ?_
    rintro _ h ⟨⟨q, hq, rfl⟩, rfl⟩
    skip
    have K121 : ∀ D : Nat, 1 ≤ D → D ≤ 2500 → ∀ h, lb h s d (c_s s) (tz_k s 0) 70 80000 → mm_Ex l G mm_law lw_QE 121 [.retAddr u, .ref 0, .ref 29, .ref 30, .ref 31, .int (nI y), .int (nI c), .int x7, .null, .null, .null, .null, .null, .null, .null, .null, .null] [.int (nI D), .int (x7 >>> (2 &&& 31)), .int 100, .int (nI c), .ref 29] h := by
      intro D hD1 hD2 h B
      refine cS_x dL_law_121 (mm_ks i_L_low l_L_78) ⟨(Nat.le_of_ble_eq_true rfl), (Nat.le_of_ble_eq_true rfl)⟩ (c_L_low _ D (by omega) (by omega) _ rfl) rfl rfl (Nat.le_of_ble_eq_true rfl) rfl ?_
      rintro _ h ⟨⟨q, hq, rfl⟩, rfl⟩
      obtain ⟨m1, m2, m3, m4⟩ := snd_law hs (show c < 40 by omega) (show 1 ≤ 100 + q by omega) (show 100 + q ≤ 6000 by omega)
      refine ex_iadd dL_law_124 ?_
      rw [show 100 + nI q = nI (100 + q) from nI_add 100 q]
      refine ex_iastore dL_law_125 B.2.1 (vp_in_nI (by omega) (by decide)) ?_
      refine sx_d B (d' := (upd d c (nI (100 + q)))) (ff_u (nI_clamp (by omega))) (fun h B => ?_)
      refine ex_aload_n dL_law_126 rfl ?_
      refine ex_iload dL_law_127 rfl ?_
      refine ex_aload_n dL_law_129 rfl ?_
      refine ex_iload dL_law_130 rfl ?_
      refine ex_ialv (v := nI (100 + q)) dL_law_132 B.2.1 (vp_in_nI (by omega) (by decide)) ((by rw [nI_clamp (by omega)]; exact pk_us)) ?_
      refine ex_bipush (v := 10) dL_law_133 (by decide) ?_
      refine cV_x dL_law_135 (mm_kv i_X8_sound l_L_85) ⟨(Nat.le_of_ble_eq_true rfl), (Nat.le_of_ble_eq_true rfl)⟩ (lb_x B m1 (k8_sound hl B.1 (p_I_iv hs.1) (by omega) _ _ _)) rfl rfl (cP_ow B.1) (Nat.le_of_ble_eq_true rfl) rfl ?_
      rintro _ h ⟨rfl, B⟩
      refine ex_aload_n dL_law_138 rfl ?_
      refine ex_iload dL_law_139 rfl ?_
      refine ex_ialv (v := nI (100 + q)) dL_law_141 B.2.1 (vp_in_nI (by omega) (by decide)) ((by rw [nI_clamp (by omega)]; exact pk_us)) ?_
      refine ex_icmp_eq (tgt := 147) dL_law_142 (by decide) (fun _ => ?_) (fun z => absurd rfl z)
      refine ex_iinc (d := 1) dL_law_147 rfl (by decide) ?_
      refine ex_goto (tgt := 72) dL_law_150 (by decide) ?_
      rw [nI_1]; exact ih (c + 1) h _ _ _ (by omega) m2 (by rw [m3, m4]; unfold tz_k at B; rw [← hc0] at B; exact B)
    refine ex_if_le (tgt := 147) dL_law_95 (by decide) (fun c_95 => ?_) (fun c_95 => ?_)
    · refine ex_iinc (d := 1) dL_law_147 rfl (by decide) ?_
      refine ex_goto (tgt := 72) dL_law_150 (by decide) ?_
      rw [nI_1]; exact ih (c + 1) h s d _ (by omega) ⟨hs.1, fun i hi => hs.2.1 i (by omega), hs.2.2⟩ (back B)
    · refine ex_aload_n dL_law_98 rfl ?_
      refine ex_iload dL_law_99 rfl ?_
      refine ex_bipush (v := 100) dL_law_101 (by decide) ?_
      refine ex_iload dL_law_103 rfl ?_
      refine ex_iconst (v := 2) dL_law_105 (by decide) ?_
      refine ex_ishr dL_law_106 ?_
      refine ex_iload dL_law_107 rfl ?_
      refine ex_if_ne (tgt := 118) dL_law_109 (by decide) (fun c_109 => ?_) (fun c_109 => ?_)
      · refine ex_sipush (v := 2500) dL_law_118 (by decide) ?_
        exact K121 2500 (by decide) (by decide) h B
      · refine ex_sipush (v := 700) dL_law_112 (by decide) ?_
        refine ex_goto (tgt := 121) dL_law_115 (by decide) ?_
        exact K121 700 (by decide) (by decide) h B
theorem lw_start (hu : u = G.2.2.2.1) (hl : l.stackTraces = false) (hL : G.2.2.2.2.1 ≤ 260) : mm_Ex l G mm_law lw_QE 0 [.retAddr u, .null, .null, .null, .null, .null, .null, .null, .null, .null, .null, .null, .null, .null, .null, .null, .null] [] (fun _ => none, 0, 0, 0) := by
  refine ex_new dL_law_0 n_L_21 ?_
  show mm_Ex l G mm_law lw_QE 3 _ [.ref 0] (mm_new (hp [] 0 0) _ _)
  rw [hp_new]
  refine ex_dup dL_law_3 rfl ?_
  refine cI_y dL_law_4 (mm_ki i_X8_init l_L_75) ⟨(Nat.le_of_ble_eq_true rfl), (Nat.le_of_ble_eq_true rfl)⟩ c_X8_init rfl rfl (Nat.le_of_ble_eq_true rfl) rfl (fun h1 q => ?_)
  obtain ⟨h1a, h1b, h1c, h1d⟩ := h1
  have q3 : h1b = 29 := q.2.2.1
  subst q3
  have qc : h1c ≤ 29 := q.2.2.2.1
  have qn : h1d ≤ 2000 := q.2.2.2.2.1
  refine ex_astore_n dL_law_7 (Nat.le_of_ble_eq_true rfl) ?_
  refine ex_bipush (v := 64) dL_law_8 (by decide) ?_
  refine ex_newI (N := 64) dL_law_10 a_int (by decide) rfl (by decide) ?_
  refine ex_astore_n dL_law_12 (Nat.le_of_ble_eq_true rfl) ?_
  refine ex_bipush (v := 64) dL_law_13 (by decide) ?_
  refine ex_newI (N := 64) dL_law_15 a_int (by decide) rfl (by decide) ?_
  refine ex_astore_n dL_law_17 (Nat.le_of_ble_eq_true rfl) ?_
  refine ex_bipush (v := 64) dL_law_18 (by decide) ?_
  refine ex_newI (N := 64) dL_law_20 a_int (by decide) rfl (by decide) ?_
  refine ex_astore dL_law_22 (Nat.le_of_ble_eq_true rfl) ?_
  have B : lb (mm_new (mm_new (mm_new (h1a, 29, h1c, h1d) (.inl (.int, 64, .inl (fun _ => 0))) 64) (.inl (.int, 64, .inl (fun _ => 0))) 64) (.inl (.int, 64, .inl (fun _ => 0))) 64) (k_tb, k_u) (fun _ => 0) (c_s (k_tb, k_u)) (tz_k (k_tb, k_u) 0) 70 80000 := by
    rw [← k_T]
    refine ⟨k_P (h2 := (h1a, 29, h1c, h1d)) q (fun p hp => (if_neg (show ¬ p = 31 by omega)).trans ((if_neg (show ¬ p = 30 by omega)).trans (if_neg (show ¬ p = 29 by omega)))) rfl ?_ ?_, ?_, ?_, ?_⟩
    · show h1c + 1 + 1 + 1 ≤ 70; omega
    · show h1d + 64 + 64 + 64 ≤ 80000; omega
    · rfl
    · rfl
    · rfl
  obtain ⟨h, hh⟩ : ∃ h, mm_new (mm_new (mm_new (h1a, 29, h1c, h1d) (.inl (.int, 64, .inl (fun _ => 0))) 64) (.inl (.int, 64, .inl (fun _ => 0))) 64) (.inl (.int, 64, .inl (fun _ => 0))) 64 = h := ⟨_, rfl⟩
  rw [hh] at B
  show mm_Ex l G mm_law lw_QE 24 [.retAddr u, .ref 0, .ref 29, .ref 30, .ref 31, .null, .null, .null, .null, .null, .null, .null, .null, .null, .null, .null, .null] [] (mm_new (mm_new (mm_new (h1a, 29, h1c, h1d) (.inl (.int, 64, .inl (fun _ => 0))) 64) (.inl (.int, 64, .inl (fun _ => 0))) 64) (.inl (.int, 64, .inl (fun _ => 0))) 64)
  rw [hh]
  clear hh
  obtain ⟨s, hs⟩ : ∃ s, (k_tb, k_u) = s := ⟨_, rfl⟩
  refine ex_aload_x dL_law_24 rfl ?_
  refine ex_iconst (v := 0) dL_law_25 (by decide) ?_
  refine cS_x dL_law_26 (mm_ks i_L_cell l_L_76) ⟨(Nat.le_of_ble_eq_true rfl), (Nat.le_of_ble_eq_true rfl)⟩ (c_L_cell hu hL 0 (by decide) _ rfl) rfl rfl (Nat.le_of_ble_eq_true rfl) rfl ?_
  rintro _ h ⟨⟨x0, rfl⟩, rfl⟩
  refine ex_iconst (v := 4) dL_law_29 (by decide) ?_
  refine cS_x dL_law_30 (mm_ks i_L_low l_L_78) ⟨(Nat.le_of_ble_eq_true rfl), (Nat.le_of_ble_eq_true rfl)⟩ (c_L_low _ 4 (by decide) (by decide) _ rfl) rfl rfl (Nat.le_of_ble_eq_true rfl) rfl ?_
  rintro _ h ⟨⟨y, hy, rfl⟩, rfl⟩
  refine ex_istore dL_law_33 (Nat.le_of_ble_eq_true rfl) ?_
  refine ex_aload dL_law_35 rfl ?_
  refine ex_iconst (v := 4) dL_law_37 (by decide) ?_
  refine ex_aload_x dL_law_38 rfl ?_
  refine ex_iconst (v := 1) dL_law_39 (by decide) ?_
  refine cS_x dL_law_40 (mm_ks i_L_cell l_L_76) ⟨(Nat.le_of_ble_eq_true rfl), (Nat.le_of_ble_eq_true rfl)⟩ (c_L_cell hu hL 1 (by decide) _ rfl) rfl rfl (Nat.le_of_ble_eq_true rfl) rfl ?_
  rintro _ h ⟨⟨x1, rfl⟩, rfl⟩
  refine ex_ldc dL_law_43 k_L_81 ?_
  refine cS_x dL_law_45 (mm_ks i_L_low l_L_78) ⟨(Nat.le_of_ble_eq_true rfl), (Nat.le_of_ble_eq_true rfl)⟩ (c_L_low _ 65537 (by decide) (by decide) _ rfl) rfl rfl (Nat.le_of_ble_eq_true rfl) rfl ?_
  rintro _ h ⟨⟨w, hw, rfl⟩, rfl⟩
  skip
  have hI := (k_I (y := y)).mpr hy
  have ex : cm_weather (k_tb, k_u) (nI w) = (.inl (some (nI w - nI w / 10 * 10)), k_tb, k_u.1, (0, nI w, 0), k_u.2.2) := by
    unfold cm_weather
    rw [if_pos ⟨nI_pos' (by omega), nI_le (b := 65536) (by omega) (by decide)⟩, if_pos (show k_u.2.1.1 = 0 from rfl)]; rfl
  have hiv2 : iv 0 (cm_weather (k_tb, k_u) (nI w)).2 := iv_weather k_iv (nI w)
  rw [ex] at hiv2
  rw [hs] at B hI ex
  refine ex_iastore dL_law_48 B.2.2.2 (by unfold vp_in; decide) ?_
  refine sx_t B (t' := tg (t_a s) [s.2.2.1.1, nI w, cl_la s, nI 0, cl_bu s, cl_lo s, cl_wa s, s.2.2.1.2.2, t_r s, t_l s]) (tg_d (j := 4) (by decide) (by decide) (by first | decide | simp) (by first | rfl | skip)) (fun h B => ?_)
  refine ex_aload_n dL_law_49 rfl ?_
  refine ex_aload dL_law_50 rfl ?_
  refine ex_iconst (v := 4) dL_law_52 (by decide) ?_
  refine ex_ialv (v := nI w) dL_law_53 B.2.2.2 (by unfold vp_in; decide) (tg_c (j := 4) (by decide) (by decide) rfl) ?_
  refine cV_x dL_law_54 (mm_kv i_X8_weather l_L_82) ⟨(Nat.le_of_ble_eq_true rfl), (Nat.le_of_ble_eq_true rfl)⟩ (lb_x B (by rw [ex]) (k8_weather hl B.1 (by rw [← hs]; exact k_iv) (by decide) _)) rfl rfl (cP_ow B.1) (Nat.le_of_ble_eq_true rfl) rfl ?_
  rintro _ h ⟨rfl, B⟩
  refine ex_aload dL_law_57 rfl ?_
  refine ex_iconst (v := 4) dL_law_59 (by decide) ?_
  refine ex_ialv (v := nI w) dL_law_60 B.2.2.2 (by unfold vp_in; decide) (tg_c (j := 4) (by decide) (by decide) rfl) ?_
  refine ex_bipush (v := 10) dL_law_61 (by decide) ?_
  refine ex_irem dL_law_63 (by decide) ?_
  refine ex_icmp_eq (tgt := 69) dL_law_64 (by decide) (fun _ => ?_) (fun z => absurd rfl z)
  refine ex_iconst (v := 0) dL_law_69 (by decide) ?_
  refine ex_istore dL_law_70 (Nat.le_of_ble_eq_true rfl) ?_
  skip
  rw [ex] at B
  refine snd_loop hu hL hl hy 40 0 h (k_tb, k_u.1, (0, nI w, 0), k_u.2.2) (fun _ => 0) _ rfl ⟨⟨hiv2.at rfl (by decide) rfl (by decide), ⟨hy, fun p hp => absurd hp (by omega)⟩, ⟨fun _ => rfl, fun _ => rfl⟩, fun i hi => ?_, trivial, fun z => absurd (show cl_bu (k_tb, k_u.1, (0, nI w, 0), k_u.2.2) = 0 from rfl) z, rfl⟩, fun i _ hi => (show fl_N (fun _ => 0) 501 100 i = 501 from fl_at (by omega)), rfl⟩ ?_
  · show dp (fun _ => 0) i = fl_N (fun _ => 0) 100 100 i
    rw [fl_at (by omega)]; rfl
  · subst hs; exact B
theorem whole_start {p : Program} {e : Env} {s : State} {m : MethodId} {below : List Frame} {meth : Method} {c : Code} (l : Launch) (hflags : l.flags = flags0) {b L : Nat} {xs : Nat → Int32} (hL : L ≤ 260) (C0 : lw_At p s m meth c b L xs) : W p l e room_1 s m #[Value.ref b] below meth c s.heap [] 0 0 (lw_Z below #[Value.ref b] s) (entryFrame m ([Value.ref b] : List Value).toArray 17) := by
  refine mm_start l C0 (fun G hG => ?_)
  have hl : l.stackTraces = false := by unfold Launch.stackTraces; rw [hflags]; decide +kernel
  exact lw_start (by rw [hG]) hl (by rw [hG]; exact hL)
end E7
