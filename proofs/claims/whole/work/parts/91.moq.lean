/-! TAKING UP: what holds afterwards; the model -/
def tk_T (s : cl_S) : List tt_R := if cl_lo s ≤ 0 then s.1 2 else s.1 2 ++ [(1, -1, -1, 0)]
def tk_s (s : cl_S) (t : Int32) : cl_S := if cl_lo s ≤ 0 then cl_bg (cl_un (tu_1 s t)) else cl_bg (cl_un (tu_3 s t))
section TK
variable {n k kp lo wa mk t : Nat} {s : cl_S} {c : Nat → Nat}
theorem tk_eq (h : ivx n s k kp lo wa mk c) (t : Int32) : (tk_s s t).1 0 = ho_so t (s.1 0).reverse (cl_lo s) [] ∧ (tk_s s t).1 2 = ap_l (cl_ga s t (cl_lo s)).1 (tk_T s) ∧ (tk_s s t).1 3 = s.1 3 ++ pb_d (cl_ga s t (cl_lo s)).1 (cl_me s) ∧ (tk_s s t).1 4 = (s.1 4).map (fa_an (ln_m (cl_ga s t (cl_lo s)).1 (cl_me s))) ∧ (tk_s s t).1 5 = s.1 5 ∧ (tk_s s t).1 6 = s.1 6 ∧ (tk_s s t).2 = (s.2.1, s.2.2.1, s.2.2.2.1, (upd s.2.2.2.2.1.1 (k - 1) (s.2.2.2.2.1.1 (k - 1) + cl_lo s), cl_ce s, ln_m (cl_ga s t (cl_lo s)).1 (cl_me s)), s.2.2.2.2.2.1, cl_la s, 0, 0, s.2.2.2.2.2.2.2.2.2) := by
  obtain ⟨b1, b2, b3, b4⟩ : iv_b s k lo := h.2.2.2.2.2.1
  unfold tk_s tk_T
  by_cases hz : cl_lo s ≤ 0
  · rw [if_pos hz, if_pos hz]
    have hl0 : lo = 0 := by rw [b2] at hz; exact (nI_le0 (by omega)).mp hz
    have hl : cl_lo s = 0 := by rw [b2, hl0]; rfl
    have hg : cl_ga s t (cl_lo s) = ([], cl_lo s) := ho_ga_0 hz
    rw [hg, ho_so_0 hz, List.reverse_reverse, List.append_nil]
    refine ⟨rfl, rfl, by rw [pb_d, List.append_nil]; rfl, rfl, rfl, rfl, ?_⟩
    rw [hl, show s.2.2.2.2.1.1 (k - 1) + 0 = s.2.2.2.2.1.1 (k - 1) by grind, upd_id]; rfl
  · rw [if_neg hz, if_neg hz]
    have hk : 1 ≤ k := by
      rcases Nat.eq_zero_or_pos k with z | z
      · rw [b2, b4 z] at hz; exact absurd (by decide) hz
      · exact z
    have ek : (cl_ce s - 1).toNatClampNeg = k - 1 := by
      have := h.1.2.1
      rw [h.1.1, show nI k - 1 = nI (k - 1) from pk_sub (a := k) (b := 1) hk]
      exact nI_clamp (by omega)
    obtain ⟨e1, e2⟩ := pb_eq (cl_ga s t (cl_lo s)).1 (s.1 2 ++ [(1, -1, -1, 0)]) (s.1 3) (cl_me s)
    refine ⟨rfl, cl_pb_ap _ _ _ _, e1, ?_, rfl, rfl, ?_⟩
    · rw [← e2]; rfl
    · rw [← e2, ← ek]; rfl
theorem tk_W (h : ivx n s k kp lo wa mk c) : (∀ r ∈ tk_T s, ln_k kp r) ∧ ln_N (tk_T s) = ln_N (s.1 2) ∧ (tk_T s).length ≤ (s.1 2).length + 1 ∧ ∀ x, ln_c (tk_T s) x = ln_c (s.1 2) x := by
  have ht := h.2.2.2.1.1
  unfold tk_T
  by_cases hz : cl_lo s ≤ 0
  · rw [if_pos hz]; exact ⟨ht, rfl, Nat.le_succ _, fun _ => rfl⟩
  · rw [if_neg hz]
    have hj : rl (1, -1, -1, 0) = 0 := by decide
    refine ⟨fun r hr => ?_, by rw [ln_N_app, ln_N1, hj]; rfl, by rw [List.length_append]; exact Nat.le_refl _, fun x => ?_⟩
    · rcases List.mem_append.mp hr with z | z
      · exact ht r z
      · rw [List.mem_singleton.mp z]; exact Or.inr ⟨Or.inl rfl, rfl⟩
    · rw [ln_c_app]
      by_cases e : x < ln_N (s.1 2)
      · rw [if_pos e]
      · rw [if_neg e, ln_c1, hj, if_neg (Nat.not_lt_zero _), (ln_c_none (s.1 2) x (by omega)).1]
theorem ivx_tk (h : ivx n s k kp lo wa mk c) (ht : t < 3) (hz : (cl_ga s (nI t) (cl_lo s)).2 = 0) : ∃ c', ivx (n + 1) (tk_s s (nI t)) k kp 0 wa mk c' := by
  obtain ⟨e0, e2, e3, e4, e5, e6, eu⟩ := tk_eq h (nI t)
  obtain ⟨T1, T2, T3, T4⟩ := tk_W h
  obtain ⟨a1, a2, a3, a4, a5, a6, a7, a8, a9, a10, a11, a12⟩ := id h
  have hlo : cl_lo s = nI lo := a6.2.1
  have hlo2 := a6.2.2.1
  rw [hlo] at hz e0 e2 e3 e4 eu
  obtain ⟨g1, g2, g3, g4, g5, g6⟩ := st_ga h ht (show lo < 2 ^ 31 by omega)
  have hsl := so_len h (t := nI t) (m := nI lo)
  have hN := h.N
  have hMg : ln_N (cl_ga s (nI t) (nI lo)).1 = lo := by
    rw [hz] at g3
    have : nI (lo - ln_N (cl_ga s (nI t) (nI lo)).1) = nI 0 := g3.symm
    have := (nI_eq (by omega) (by omega)).mp this
    omega
  obtain ⟨b1, b2, b3, b4⟩ := ap_f (cl_ga s (nI t) (nI lo)).1 (tk_T s) T1 g1
  have am : cl_me s = nI (ln_N (s.1 2)) := a8
  have hlm : ln_m (cl_ga s (nI t) (nI lo)).1 (cl_me s) = nI (ln_N (s.1 2) + lo) := by
    rw [am, ln_mS _ _ (fun r hr => (g1 r hr).ln.1), hMg]
  rw [hlm] at eu e4
  rw [hMg, T2] at b2
  rw [hMg] at g5
  refine ⟨fun i => if i = k - 1 then c i + lo else c i, ?_, ?_, ?_, ?_, ?_, ?_, ?_, ?_, ?_, ?_, ?_, ?_⟩
  · refine ⟨by unfold cl_ce; rw [eu]; exact a1.1, a1.2.1, fun z => ?_⟩
    have hl0 := a6.2.2.2 z
    rw [e2, hl0, show cl_ga s (nI t) (nI 0) = ([], nI 0) from ho_ga_0 (by decide)]
    show tk_T s = []
    unfold tk_T
    rw [hlo, hl0, if_pos (by decide), a1.2.2 z]
  · unfold iv_p; rw [eu]; exact a2
  · unfold iv_s; rw [e0]; exact ⟨hsl, g4⟩
  · unfold iv_t; rw [e2, e0]; exact ⟨b1, by have := a4.2; omega⟩
  · unfold iv_c; rw [eu, e2, b2]
    rcases Nat.eq_zero_or_pos k with hk | hk
    · have hl0 := a6.2.2.2 hk
      subst hk
      refine ⟨fun i hi => absurd hi (by omega), ?_, fun i hi => absurd hi (by omega)⟩
      rw [a1.2.2 rfl, hl0]; rfl
    · refine ⟨fun i hi => ?_, ?_, fun i hi => ?_⟩
      · show upd s.2.2.2.2.1.1 (k - 1) (s.2.2.2.2.1.1 (k - 1) + nI lo) i = nI (if i = k - 1 then c i + lo else c i)
        by_cases e : i = k - 1
        · rw [if_pos e, e]
          refine pk_us.trans ?_
          rw [a5.1 (k - 1) (by omega), nI_add]
        · rw [if_neg e]; exact (pk_un e).trans (a5.1 i hi)
      · obtain ⟨j, rfl⟩ : ∃ j, k = j + 1 := ⟨k - 1, by omega⟩
        rw [← a5.2.1]
        show cs _ j + (if j = j + 1 - 1 then c j + lo else c j) = cs c j + c j + lo
        rw [if_pos (by omega)]
        have := cs_upd (c := c) (x := c j + lo) j j (Nat.le_refl _)
        have e9 : (fun i => if i = j + 1 - 1 then c i + lo else c i) = (fun i => if i = j then c j + lo else c i) := funext fun i => by
          by_cases e : i = j
          · rw [if_pos (by omega), if_pos e, e]
          · rw [if_neg (by omega), if_neg e]
        rw [e9, this]; omega
      · have := a5.2.2 i hi
        show 1000 ≤ (if i = k - 1 then c i + lo else c i) + (if i + 1 = k then 0 else 0)
        by_cases e : i + 1 = k
        · rw [if_pos e] at this
          rw [if_pos (by omega)]; omega
        · rw [if_neg e] at this
          rw [if_neg (by omega)]; omega
  · unfold iv_b cl_bu cl_lo; rw [eu]
    exact ⟨Or.inl ⟨rfl, rfl⟩, rfl, by omega, fun _ => rfl⟩
  · unfold iv_w cl_wa; rw [eu, e0, e2, b2]
    exact ⟨a7.1, a7.2.1, by have := a7.2.2.1; omega, a7.2.2.2⟩
  · unfold iv_m cl_me; rw [eu, e2, b2]
  · unfold iv_d; rw [e3, e2, b2, e0]
    have hbu1 : cl_bu (tk_s s (nI t)) = 0 := by unfold cl_bu; rw [eu]
    have a92 := a9.2
    rw [hbu1, if_pos rfl]
    refine ⟨fun q hq => ?_, by rw [List.length_append, pb_d_len]; split at a92 <;> omega⟩
    rw [b4, am]
    have := de_pb a2.2.1 (cl_ga s (nI t) (nI lo)).1 (s.1 2) (s.1 3) g1 a9.1 (by rw [hMg]; omega) q (by rw [hMg]; exact hq)
    rw [this, ln_c_app, ln_c_app, T2, T4]
  · unfold iv_f; rw [e4, e2, b2]
    refine ⟨by rw [List.length_map]; exact a10.1, fun r hr => ?_⟩
    obtain ⟨y, hy, rfl⟩ := List.mem_map.mp hr
    obtain ⟨x1, q, x2, x3⟩ := a10.2 y hy
    exact ⟨x1, q, by omega, x3⟩
  · unfold iv_o cl_la cl_fa cl_fb; rw [eu]; exact a11
  · unfold iv_n; rw [e5, e6]; exact a12
end TK
section MOQ
variable {l : Launch} {G : mm_G} {h0 h : mm_H} {m : mo_S} {s : cl_S} {n : Nat} {T L : List tt_R}
theorem c_X9_takeUp (p : mo_P h0 h m) (r : r_all s m) (hi : iv n s) (hn : n ≤ 512) (t : Int32) : mm_Ct l G mX9_takeUp [.ref 29, .int t] h (mo_Z h0 cx_a cx_s (cm_takeUp s t)) := by
  obtain ⟨k, kp, lo, wa, mk, c, hx⟩ := hi
  have hW := hx.W (by omega)
  have hN := hx.N
  have hkp := hx.2.1
  have hlo : cl_lo s = nI lo := hx.2.2.2.2.2.1.2.1
  have hlo2 : lo ≤ 200 := hx.2.2.2.2.2.1.2.2.1
  obtain ⟨r1, r2, r3, r4, r5, r6, r7, r8, r9, r10⟩ := id r
  have hty : cl_ty s = ho_ty s.2.2.2.1.1 (nI kp) := by unfold cl_ty; rw [hkp.1]
  obtain ⟨lt1, lt2⟩ := lastType_eq hx
  have hcm : cm_takeUp s t = if ii t 0 2 then (if ¬ cl_bu s = 0 ∧ cl_wo s then (if (cl_ga s t (cl_lo s)).2 = 0 then (if ho_fi (cl_ty s) (cl_ga s t (cl_lo s)).1 (cl_tyAt s (cl_me s - 1)) (-1) = true then (.inl (some (cl_lo s)), tk_s s t) else (.inr cx_s, tu_1 s t)) else (.inr cx_s, tu_1 s t)) else (.inr cx_s, s)) else (.inr cx_a, s) := rfl
  rw [hcm]
  refine mm_ct (by decide +kernel) (by decide +kernel) rfl (by simp [Value.category]) (Nat.le_of_ble_eq_true rfl) rfl ?_
  by_cases htt : ii t 0 2
  rotate_left
  · rw [if_neg htt]
    refine ex_aload_n dX9_takeUp_0 rfl ?_
    refine ex_iload_n dX9_takeUp_1 rfl ?_
    refine ex_iconst (v := 0) dX9_takeUp_2 (by decide) ?_
    refine ex_iconst (v := 2) dX9_takeUp_3 (by decide) ?_
    refine cS_f dX9_takeUp_4 (mm_ks i_X9_isIn l_X9_123) ⟨(Nat.le_of_ble_eq_true rfl), (Nat.le_of_ble_eq_true rfl)⟩ (c_X9_isIn _ _ _) rfl rfl (Nat.le_of_ble_eq_true rfl) rfl ?_
    refine ex_if_ne (tgt := 14) dX9_takeUp_7 (by decide) (fun z => absurd (bb_f htt) z) (fun _ => ?_)
    refine ex_iconst (v := 1) dX9_takeUp_10 (by decide) ?_
    refine ex_goto (tgt := 57) dX9_takeUp_11 (by decide) ?_
    refine ex_put dX9_takeUp_57 p_X9_120 (mP_o p) (Nat.le_of_ble_eq_true rfl) (fun z => nomatch z) (mm_fi _) ?_
    refine mk_0 p (fun h57 p57 => ?_)
    refine ex_aload_n dX9_takeUp_60 rfl ?_
    refine ex_getfield (v := .int (1)) dX9_takeUp_61 g_X9_120 (mP_o p57) (congrArg (fun z => some (Value.int z)) (rfl)) ?_
    refine ex_if_le (tgt := 69) dX9_takeUp_64 (by decide) (fun z => absurd z (by decide)) (fun _ => ?_)
    refine ex_iconst (v := 0) dX9_takeUp_67 (by decide) ?_
    refine ex_ireturn dX9_takeUp_68 ⟨_, rfl, rfl⟩ ?_
    exact ⟨_, rfl, _, p57, r, ⟨Or.inl ⟨rfl, rfl⟩, _, rfl⟩⟩
  rw [if_pos htt]
  obtain ⟨u, hu, rfl⟩ : ∃ u : Nat, u < 3 ∧ t = nI u := by
    obtain ⟨j, hj, rfl⟩ := nI_of (x := t) (Int32.not_lt.mpr htt.1)
    exact ⟨j, by have := (nI_leI hj (by decide : 2 < 2 ^ 31)).mp htt.2; omega, rfl⟩
  have hgl : (cl_ga s (nI u) (cl_lo s)).1.length ≤ 30 := Nat.le_trans (ga_len hx) hkp.2.1
  have hgk := ga_ok hx hu (show lo < 2 ^ 31 by omega)
  rw [← hlo] at hgk
  have hgo : mm_Ex l G mX9_takeUp (mo_Z h0 cx_a cx_s (if (cl_ga s (nI u) (cl_lo s)).2 = 0 then (if ho_fi (cl_ty s) (cl_ga s (nI u) (cl_lo s)).1 (cl_tyAt s (cl_me s - 1)) (-1) = true then (.inl (some (cl_lo s)), tk_s s (nI u)) else (.inr cx_s, tu_1 s (nI u))) else (.inr cx_s, tu_1 s (nI u)))) 28 [.ref 29, .int (nI u), .null] [.ref 29] h := by
    refine ex_aload_n dX9_takeUp_28 rfl ?_
    refine ex_iload_n dX9_takeUp_29 rfl ?_
    refine ex_aload_n dX9_takeUp_30 rfl ?_
    refine ex_getfield (v := .int (cl_lo s)) dX9_takeUp_31 g_X9_164 (mP_o p) (congrArg (fun z => some (Value.int z)) (r7.2.2.1)) ?_
    refine cV_x dX9_takeUp_34 (mm_kv i_X9_wouldGo l_X9_213) ⟨(Nat.le_of_ble_eq_true rfl), (Nat.le_of_ble_eq_true rfl)⟩ (c_X9_wouldGo p r4 hu _ rfl _) rfl rfl (mP_o p) (Nat.le_of_ble_eq_true rfl) rfl ?_
    rintro _ h34 ⟨rfl, m1, p34, f1, o1⟩
    skip
    have q1 : r_all (tu_1 s (nI u)) m1 := ⟨r1.fr f1, r2.fr (s := tu_1 s (nI u)) f1, r3.fr (s := tu_1 s (nI u)) f1, r4.fr f1, r5.fr f1, r6.fr (s := tu_1 s (nI u)) f1, r7.fr (s := tu_1 s (nI u)) f1, r8.fr f1, r9.fr f1, r10.fr f1⟩
    have hgo2 : (cl_ga s (nI u) (cl_lo s)).2 = 0 → ho_fi (cl_ty s) (cl_ga s (nI u) (cl_lo s)).1 (cl_tyAt s (cl_me s - 1)) (-1) = true → mm_Ex l G mX9_takeUp (mo_Z h0 cx_a cx_s (if (cl_ga s (nI u) (cl_lo s)).2 = 0 then (if ho_fi (cl_ty s) (cl_ga s (nI u) (cl_lo s)).1 (cl_tyAt s (cl_me s - 1)) (-1) = true then (.inl (some (cl_lo s)), tk_s s (nI u)) else (.inr cx_s, tu_1 s (nI u))) else (.inr cx_s, tu_1 s (nI u)))) 56 [.ref 29, .int (nI u), .null] [.ref 29] h34 := by
      intro hc1 hc2
      rw [if_pos hc1, if_pos hc2]
      obtain ⟨e0, e2, e3, e4, e5, e6, eu⟩ := tk_eq hx (nI u)
      obtain ⟨T1, T2, T3, T4⟩ := tk_W hx
      obtain ⟨c', hx'⟩ := ivx_tk hx hu hc1
      have hW' : ln_W (ap_l (cl_ga s (nI u) (cl_lo s)).1 (tk_T s)) := by rw [← e2]; exact hx'.W (by omega)
      have hTl := hx.2.2.2.1.2
      have hk100 := hx.1.2.1
      have hm' : ln_m (ap_l (cl_ga s (nI u) (cl_lo s)).1 (tk_T s)) 0 = ln_m (cl_ga s (nI u) (cl_lo s)).1 (cl_me s) := by
        have hmm : cl_me (tk_s s (nI u)) = nI (ln_N ((tk_s s (nI u)).1 2)) := hx'.2.2.2.2.2.2.2.1
        rw [e2] at hmm
        rw [ln_m0 hW', ← hmm]
        unfold cl_me; rw [eu]; rfl
      have f1' : mo_F [0, 17, 18, 19, 20] m (mo_sf m1 0 0) := f1.sub.f 0 rfl
      refine ex_iconst (v := 0) dX9_takeUp_56 (by decide) ?_
      refine ex_put dX9_takeUp_57 p_X9_120 (mP_o p34) (Nat.le_of_ble_eq_true rfl) (fun z => nomatch z) (mm_fi _) ?_
      refine mk_0 p34 (fun h57 p57 => ?_)
      refine ex_aload_n dX9_takeUp_60 rfl ?_
      refine ex_getfield (v := .int (0)) dX9_takeUp_61 g_X9_120 (mP_o p57) (congrArg (fun z => some (Value.int z)) (rfl)) ?_
      refine ex_if_le (tgt := 69) dX9_takeUp_64 (by decide) (fun _ => ?_) (fun z => absurd (by decide) z)
      refine ex_aload_n dX9_takeUp_69 rfl ?_
      refine ex_iload_n dX9_takeUp_70 rfl ?_
      refine cV_y dX9_takeUp_71 (mm_kv i_X9_goesOut l_X9_226) ⟨(Nat.le_of_ble_eq_true rfl), (Nat.le_of_ble_eq_true rfl)⟩ (c_X9_goesOutW p57 hu _ rfl (r4.fr f1') (r_out.fr (s := m1) o1 ((mo_F.refl [0] m1).f 0 rfl)) hc1) rfl rfl (mP_o p57) (Nat.le_of_ble_eq_true rfl) rfl ?_
      rintro h71 ⟨m2, p71, f2, t2⟩
      refine ex_aload_n dX9_takeUp_74 rfl ?_
      skip
      have o2 : r_out m2 (cl_ga s (nI u) (cl_lo s)).1 := r_out.fr (s := mo_sf m1 0 0) o1 f2
      have fB : mo_F [0, 13, 15, 17, 18, 19, 20] m m2 := f1'.sub.trans f2.sub
      have l2 := r5.fr fB
      have hend : ∀ (m3 : mo_S) (h3 : mm_H), mo_P h0 h3 m3 → mo_F [0, 13, 15, 17, 18, 19, 20, 21, 22, 23, 24, 25] m m3 → m3.1 0 = 0 → r_line m3 (tk_T s) → r_out m3 (cl_ga s (nI u) (cl_lo s)).1 → r_tank m3 (ho_so (nI u) (s.1 0).reverse (cl_lo s) []) → mm_Ex l G mX9_takeUp (mo_Z h0 cx_a cx_s (.inl (some (cl_lo s)), tk_s s (nI u))) 89 [.ref 29, .int (nI u), .null] [] h3 := by
        intro m3 h3 p3 f3 t03 l3 o3 t3
        refine ex_aload_n dX9_takeUp_89 rfl ?_
        refine cV_y dX9_takeUp_90 (mm_kv i_X9_appends l_X9_230) ⟨(Nat.le_of_ble_eq_true rfl), (Nat.le_of_ble_eq_true rfl)⟩ (c_X9_appends p3 l3 o3 hgl (by omega)) rfl rfl (mP_o p3) (Nat.le_of_ble_eq_true rfl) rfl ?_
        rintro h90 ⟨m4, p90, f4, l4⟩
        refine ex_aload_n dX9_takeUp_93 rfl ?_
        refine ex_getfield dX9_takeUp_94 g_X9_74 (mP_o p90) rfl ?_
        skip
        have fC : mo_F [0, 13, 15, 17, 18, 19, 20, 21, 22, 23, 24, 25] m m4 := f3.trans f4.sub
        have t4 := t3.fr f4
        refine mm_viaJ (nI (k - 1)) (pc' := 114) (ls' := [.ref 29, .int (nI u), .null]) (st := [.ref 51]) ?_ (fun kk => ?_)
        · skip
          refine ex_dup2 dX9_takeUp_114 rfl rfl ?_
          refine ex_ialoadv (v := s.2.2.2.2.1.1 (k - 1)) dX9_takeUp_115 (mA_32 p90) (by first | assumption | exact vp_in_nI (by omega) (by decide)) (mo_av ((congrFun (fC.2.2 32 rfl) (k - 1)).trans (congrFun r6.2 (k - 1))) rfl (by omega)) ?_
          refine ex_aload_n dX9_takeUp_116 rfl ?_
          refine ex_getfield (v := .int (cl_lo s)) dX9_takeUp_117 g_X9_164 (mP_o p90) (congrArg (fun z => some (Value.int z)) ((fC.1 35 rfl).trans r7.2.2.1)) ?_
          refine ex_iadd dX9_takeUp_120 ?_
          refine ex_iastore dX9_takeUp_121 (mA_32 p90) (by first | assumption | exact vp_in_nI (by omega) (by decide)) ?_
          refine mq_32 p90 (fun h121 p121 => ?_)
          refine ex_aload_n dX9_takeUp_122 rfl ?_
          refine ex_iconst (v := 0) dX9_takeUp_123 (by decide) ?_
          refine ex_put dX9_takeUp_124 p_X9_153 (mP_o p121) (Nat.le_of_ble_eq_true rfl) (fun z => nomatch z) (mm_fz (by first | assumption | exact Or.inl rfl | exact Or.inr rfl)) ?_
          refine mk_34 p121 (fun h124 p124 => ?_)
          refine ex_aload_n dX9_takeUp_127 rfl ?_
          refine ex_getfield (v := .int (cl_lo s)) dX9_takeUp_128 g_X9_164 (mP_o p124) (congrArg (fun z => some (Value.int z)) ((fC.1 35 rfl).trans r7.2.2.1)) ?_
          refine ex_istore_n dX9_takeUp_131 (Nat.le_of_ble_eq_true rfl) ?_
          refine ex_aload_n dX9_takeUp_132 rfl ?_
          refine ex_iconst (v := 0) dX9_takeUp_133 (by decide) ?_
          refine ex_put dX9_takeUp_134 p_X9_164 (mP_o p124) (Nat.le_of_ble_eq_true rfl) (fun z => nomatch z) (mm_fi _) ?_
          refine mk_35 p124 (fun h134 p134 => ?_)
          skip
          rw [nI_clamp (show k - 1 < 2 ^ 31 by omega)] at p134
          have fD : mo_F [32, 34, 35] m4 (mo_sf (mo_sf (mo_sa m4 32 (k - 1) (s.2.2.2.2.1.1 (k - 1) + cl_lo s)) 34 0) 35 0) := ((((mo_F.refl [32, 34, 35] m4).a 32 rfl).f 34 rfl).f 35 rfl)
          have l5 := l4.fr fD
          have x8 := (r8.fr fC).fr fD
          refine ex_aload_n dX9_takeUp_137 rfl ?_
          refine cV_y dX9_takeUp_138 (mm_kv i_X9_doubts l_X9_180) ⟨(Nat.le_of_ble_eq_true rfl), (Nat.le_of_ble_eq_true rfl)⟩ (c_X9_doubts p134 l5 hW' x8.1 hx.2.2.2.2.2.2.2.2.2.1.1 (s.1 4) rfl (fun i q hq => ⟨(x8.2 i q hq).1, (x8.2 i q hq).2.1⟩)) rfl rfl (mP_o p134) (Nat.le_of_ble_eq_true rfl) rfl ?_
          rintro h138 ⟨m9, p138, f9, q9⟩
          refine ex_iload_n dX9_takeUp_141 rfl ?_
          refine ex_ireturn dX9_takeUp_142 ⟨_, rfl, rfl⟩ ?_
          refine ⟨_, rfl, m9, p138, ?_, ?_, rfl⟩
          · have fF : mo_F [0, 13, 15, 17, 18, 19, 20, 21, 22, 23, 24, 25, 32, 34, 35, 41, 42] m m9 := (fC.sub.trans fD.sub).trans f9.sub
            show r_all (tk_s s (nI u)) m9
            unfold r_all
            rw [e0, e2, e4, e5, e6]
            have x1 := r1.fr fF
            have x2 := r2.fr fF
            have x3 := r3.fr fF
            have x4 := (t4.fr fD).fr f9
            have x5 := l5.fr f9
            have x9 := r9.fr fF
            have x10 := r10.fr fF
            refine ⟨?_, ?_, ?_, x4, x5, ?_, ?_, ?_, x9, x10⟩
            · rw [eu]; exact x1
            · unfold r_cal; rw [eu]; exact x2
            · unfold r_hold; rw [eu]; exact x3
            · unfold r_cel cl_ce; rw [eu]
              refine ⟨(fF.1 31 rfl).trans r6.1, (f9.2.2 32 rfl).trans ?_⟩
              show upd (m4.2.2 32) (k - 1) _ = _
              rw [fC.2.2 32 rfl, r6.2]
            · unfold r_own cl_la cl_bu cl_lo cl_wa cl_fa cl_fb; rw [eu]
              exact ⟨(fF.1 9 rfl).trans r7.1, f9.1 34 rfl, f9.1 35 rfl, (congrArg Prod.snd fF.2.1).trans r7.2.2.2.1, (fF.1 36 rfl).trans r7.2.2.2.2.1, (fF.1 37 rfl).trans r7.2.2.2.2.2⟩
            · rw [← hm']; exact q9
          · exact (f9.1 0 rfl).trans ((f4.1 0 rfl).trans t03)
        · rcases Nat.eq_zero_or_pos k with hz | hz
          · skip
            refine ex_aload_n dX9_takeUp_97 rfl ?_
            refine ex_getfield (v := .int (nI k)) dX9_takeUp_98 g_X9_135 (mP_o p90) (congrArg (fun z => some (Value.int z)) ((fC.1 31 rfl).trans (r6.1.trans hx.1.1))) ?_
            refine ex_if_le (tgt := 113) dX9_takeUp_101 (by decide) (fun _ => ?_) (fun z => absurd (by rw [hz]; decide) z)
            refine ex_iconst (v := 0) dX9_takeUp_113 (by decide) ?_
            exact kk _ (by rw [hz]; rfl)
          · skip
            refine ex_aload_n dX9_takeUp_97 rfl ?_
            refine ex_getfield (v := .int (nI k)) dX9_takeUp_98 g_X9_135 (mP_o p90) (congrArg (fun z => some (Value.int z)) ((fC.1 31 rfl).trans (r6.1.trans hx.1.1))) ?_
            refine ex_if_le (tgt := 113) dX9_takeUp_101 (by decide) (fun z => absurd z (nI_nle hz (by omega))) (fun _ => ?_)
            refine ex_aload_n dX9_takeUp_104 rfl ?_
            refine ex_getfield (v := .int (nI k)) dX9_takeUp_105 g_X9_135 (mP_o p90) (congrArg (fun z => some (Value.int z)) ((fC.1 31 rfl).trans (r6.1.trans hx.1.1))) ?_
            refine ex_iconst (v := 1) dX9_takeUp_108 (by decide) ?_
            refine ex_isub dX9_takeUp_109 ?_
            refine ex_goto (tgt := 114) dX9_takeUp_110 (by decide) ?_
            exact kk _ (pk_sub (a := k) (b := 1) (by omega))
      have t20 : m2.1 0 = 0 := f2.1 0 rfl
      by_cases hz : cl_lo s ≤ 0
      · skip
        refine ex_getfield (v := .int (cl_lo s)) dX9_takeUp_75 g_X9_164 (mP_o p71) (congrArg (fun z => some (Value.int z)) ((fB.1 35 rfl).trans r7.2.2.1)) ?_
        refine ex_if_le (tgt := 89) dX9_takeUp_78 (by decide) (fun _ => ?_) (fun z => absurd hz z)
        exact hend m2 _ p71 fB.sub t20 (by unfold tk_T; rw [if_pos hz]; exact l2) o2 t2
      · skip
        refine ex_getfield (v := .int (cl_lo s)) dX9_takeUp_75 g_X9_164 (mP_o p71) (congrArg (fun z => some (Value.int z)) ((fB.1 35 rfl).trans r7.2.2.1)) ?_
        refine ex_if_le (tgt := 89) dX9_takeUp_78 (by decide) (fun z => absurd z hz) (fun _ => ?_)
        refine ex_aload_n dX9_takeUp_81 rfl ?_
        refine ex_iconst (v := 1) dX9_takeUp_82 (by decide) ?_
        refine ex_iconst (v := (-1)) dX9_takeUp_83 (by decide) ?_
        refine ex_iconst (v := (-1)) dX9_takeUp_84 (by decide) ?_
        refine ex_iconst (v := (-1)) dX9_takeUp_85 (by decide) ?_
        refine cV_y dX9_takeUp_86 (mm_kv i_X9_puts l_X9_203) ⟨(Nat.le_of_ble_eq_true rfl), (Nat.le_of_ble_eq_true rfl)⟩ (c_X9_puts p71 (n := (s.1 2).length) l2.1 (by omega) _ _ _ _) rfl rfl (mP_o p71) (Nat.le_of_ble_eq_true rfl) rfl ?_
        rintro h86 p86
        exact hend _ _ p86 ((fB.sub (K' := [0, 13, 15, 17, 18, 19, 20, 21, 22, 23, 24, 25])).pu _ _ _ _ _) t20 (by unfold tk_T; rw [if_neg hz]; exact l2.pu (1, -1, -1, 0)) (o2.fr ((mo_F.refl [21, 22, 23, 24, 25] m2).pu _ _ _ _ _)) (t2.fr ((mo_F.refl [21, 22, 23, 24, 25] m2).pu _ _ _ _ _))
    refine ex_if_eq (tgt := 52) dX9_takeUp_37 (by decide) (fun c_37 => ?_) (fun c_37 => ?_)
    · refine ex_iconst (v := 2) dX9_takeUp_52 (by decide) ?_
      refine ex_goto (tgt := 57) dX9_takeUp_53 (by decide) ?_
      refine ex_put dX9_takeUp_57 p_X9_120 (mP_o p34) (Nat.le_of_ble_eq_true rfl) (fun z => nomatch z) (mm_fi _) ?_
      refine mk_0 p34 (fun h57 p57 => ?_)
      refine ex_aload_n dX9_takeUp_60 rfl ?_
      refine ex_getfield (v := .int (2)) dX9_takeUp_61 g_X9_120 (mP_o p57) (congrArg (fun z => some (Value.int z)) (rfl)) ?_
      refine ex_if_le (tgt := 69) dX9_takeUp_64 (by decide) (fun z => absurd z (by decide)) (fun _ => ?_)
      refine ex_iconst (v := 0) dX9_takeUp_67 (by decide) ?_
      refine ex_ireturn dX9_takeUp_68 ⟨_, rfl, rfl⟩ ?_
      rw [if_neg (show ¬ (cl_ga s (nI u) (cl_lo s)).2 = 0 from bb_0.mp c_37)]; exact ⟨_, rfl, _, p57, q1, ⟨Or.inr ⟨rfl, rfl⟩, _, rfl⟩⟩
    · refine ex_aload_n dX9_takeUp_40 rfl ?_
      refine ex_aload_n dX9_takeUp_41 rfl ?_
      refine cV_f dX9_takeUp_42 (mm_kv i_X9_lastType l_X9_220) ⟨(Nat.le_of_ble_eq_true rfl), (Nat.le_of_ble_eq_true rfl)⟩ (c_X9_lastType p34 (r5.fr f1) hW (types := s.2.2.2.1.1) ((f1.2.2 11 rfl).trans r3.2.1) (by omega)) rfl rfl (mP_o p34) (Nat.le_of_ble_eq_true rfl) rfl ?_
      rw [lt1]
      refine ex_iconst (v := (-1)) dX9_takeUp_45 (by decide) ?_
      refine cV_f dX9_takeUp_46 (mm_kv i_X9_typesFit l_X9_223) ⟨(Nat.le_of_ble_eq_true rfl), (Nat.le_of_ble_eq_true rfl)⟩ (c_X9_typesFit p34 o1 hgl hkp.2.1 (types := s.2.2.2.1.1) ((f1.2.2 11 rfl).trans r3.2.1) hkp.2.2 hgk _ _ lt2 (Or.inl rfl)) rfl rfl (mP_o p34) (Nat.le_of_ble_eq_true rfl) rfl ?_
      refine ex_if_ne (tgt := 56) dX9_takeUp_49 (by decide) (fun c_49 => ?_) (fun c_49 => ?_)
      · exact hgo2 (bb_n.mp c_37) (by rw [hty]; exact bb_n.mp c_49)
      · refine ex_iconst (v := 2) dX9_takeUp_52 (by decide) ?_
        refine ex_goto (tgt := 57) dX9_takeUp_53 (by decide) ?_
        refine ex_put dX9_takeUp_57 p_X9_120 (mP_o p34) (Nat.le_of_ble_eq_true rfl) (fun z => nomatch z) (mm_fi _) ?_
        refine mk_0 p34 (fun h57 p57 => ?_)
        refine ex_aload_n dX9_takeUp_60 rfl ?_
        refine ex_getfield (v := .int (2)) dX9_takeUp_61 g_X9_120 (mP_o p57) (congrArg (fun z => some (Value.int z)) (rfl)) ?_
        refine ex_if_le (tgt := 69) dX9_takeUp_64 (by decide) (fun z => absurd z (by decide)) (fun _ => ?_)
        refine ex_iconst (v := 0) dX9_takeUp_67 (by decide) ?_
        refine ex_ireturn dX9_takeUp_68 ⟨_, rfl, rfl⟩ ?_
        rw [if_pos (show (cl_ga s (nI u) (cl_lo s)).2 = 0 from bb_n.mp c_37), if_neg (by rw [hty]; exact bb_0.mp c_49)]; exact ⟨_, rfl, _, p57, q1, ⟨Or.inr ⟨rfl, rfl⟩, _, rfl⟩⟩
  refine ex_aload_n dX9_takeUp_0 rfl ?_
  refine ex_iload_n dX9_takeUp_1 rfl ?_
  refine ex_iconst (v := 0) dX9_takeUp_2 (by decide) ?_
  refine ex_iconst (v := 2) dX9_takeUp_3 (by decide) ?_
  refine cS_f dX9_takeUp_4 (mm_ks i_X9_isIn l_X9_123) ⟨(Nat.le_of_ble_eq_true rfl), (Nat.le_of_ble_eq_true rfl)⟩ (c_X9_isIn _ _ _) rfl rfl (Nat.le_of_ble_eq_true rfl) rfl ?_
  refine ex_if_ne (tgt := 14) dX9_takeUp_7 (by decide) (fun _ => ?_) (fun z => absurd z (bb_n.mpr htt))
  refine ex_aload_n dX9_takeUp_14 rfl ?_
  refine ex_getfield (v := .int (cl_bu s)) dX9_takeUp_15 g_X9_153 (mP_o p) (congrArg (fun z => some (Value.int z)) (r7.2.1)) ?_
  refine ex_if_eq (tgt := 52) dX9_takeUp_18 (by decide) (fun c_18 => ?_) (fun c_18 => ?_)
  · refine ex_iconst (v := 2) dX9_takeUp_52 (by decide) ?_
    refine ex_goto (tgt := 57) dX9_takeUp_53 (by decide) ?_
    refine ex_put dX9_takeUp_57 p_X9_120 (mP_o p) (Nat.le_of_ble_eq_true rfl) (fun z => nomatch z) (mm_fi _) ?_
    refine mk_0 p (fun h57 p57 => ?_)
    refine ex_aload_n dX9_takeUp_60 rfl ?_
    refine ex_getfield (v := .int (2)) dX9_takeUp_61 g_X9_120 (mP_o p57) (congrArg (fun z => some (Value.int z)) (rfl)) ?_
    refine ex_if_le (tgt := 69) dX9_takeUp_64 (by decide) (fun z => absurd z (by decide)) (fun _ => ?_)
    refine ex_iconst (v := 0) dX9_takeUp_67 (by decide) ?_
    refine ex_ireturn dX9_takeUp_68 ⟨_, rfl, rfl⟩ ?_
    rw [if_neg (fun z => z.1 c_18)]; exact ⟨_, rfl, _, p57, r, ⟨Or.inr ⟨rfl, rfl⟩, _, rfl⟩⟩
  · refine ex_aload_n dX9_takeUp_21 rfl ?_
    refine cV_f dX9_takeUp_22 (mm_kv i_X9_ships l_X9_207) ⟨(Nat.le_of_ble_eq_true rfl), (Nat.le_of_ble_eq_true rfl)⟩ (c_X9_ships p (c := s.2.2.1) r2.1 r2.2.1 r2.2.2) rfl rfl (mP_o p) (Nat.le_of_ble_eq_true rfl) rfl ?_
    refine ex_if_eq (tgt := 52) dX9_takeUp_25 (by decide) (fun c_25 => ?_) (fun c_25 => ?_)
    · refine ex_iconst (v := 2) dX9_takeUp_52 (by decide) ?_
      refine ex_goto (tgt := 57) dX9_takeUp_53 (by decide) ?_
      refine ex_put dX9_takeUp_57 p_X9_120 (mP_o p) (Nat.le_of_ble_eq_true rfl) (fun z => nomatch z) (mm_fi _) ?_
      refine mk_0 p (fun h57 p57 => ?_)
      refine ex_aload_n dX9_takeUp_60 rfl ?_
      refine ex_getfield (v := .int (2)) dX9_takeUp_61 g_X9_120 (mP_o p57) (congrArg (fun z => some (Value.int z)) (rfl)) ?_
      refine ex_if_le (tgt := 69) dX9_takeUp_64 (by decide) (fun z => absurd z (by decide)) (fun _ => ?_)
      refine ex_iconst (v := 0) dX9_takeUp_67 (by decide) ?_
      refine ex_ireturn dX9_takeUp_68 ⟨_, rfl, rfl⟩ ?_
      rw [if_neg (fun z => bb_0.mp c_25 z.2)]; exact ⟨_, rfl, _, p57, r, ⟨Or.inr ⟨rfl, rfl⟩, _, rfl⟩⟩
    · rw [if_pos ⟨c_18, bb_n.mp c_25⟩]; exact hgo
end MOQ
