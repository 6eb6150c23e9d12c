/-! THE MODEL: what is kept, the earth, faults, repeaters, links -/
theorem ln_mS : ∀ (L : List tt_R) (a : Nat), (∀ r ∈ L, r.2.2.2 = nI (rl r)) → ln_m L (nI a) = nI (a + ln_N L)
  | [], a, _ => rfl
  | r :: L, a, h => by
    rw [ln_m, h r List.mem_cons_self, nI_add, ln_mS L _ (fun q hq => h q (List.mem_cons_of_mem _ hq)), ln_N, Nat.add_assoc]
theorem st_w.ln {kp : Nat} {r : tt_R} (h : st_w kp r) : r.2.2.2 = nI (rl r) ∧ rl r ≤ 90000 ∧ 1 ≤ rl r := by
  obtain ⟨t, p, f, n, rfl, -, -, h3, h4⟩ := h
  unfold rl
  dsimp only
  rw [nI_clamp (show n < 2 ^ 31 by omega)]
  exact ⟨rfl, by omega, h3⟩
theorem tf_sum {kp : Nat} : ∀ (W : List tt_R), (∀ r ∈ W, st_w kp r) → ln_N (tf (nI 0) W) + ln_N (tf (nI 1) W) + ln_N (tf (nI 2) W) = ln_N W
  | [], _ => rfl
  | r :: W, h => by
    have ih := tf_sum W (fun q hq => h q (List.mem_cons_of_mem _ hq))
    obtain ⟨t, p, f, n, e, ht, -⟩ := h r List.mem_cons_self
    have hc : ∀ (v : Int32), tf v (r :: W) = if r.1 = v then r :: tf v W else tf v W := fun v => by
      unfold tf; rw [List.filter_cons]
      by_cases e : r.1 = v
      · rw [if_pos (decide_eq_true e), if_pos e]
      · rw [if_neg (fun z => e (of_decide_eq_true z)), if_neg e]
    have e1 : r.1 = nI t := by rw [e]
    rw [hc, hc, hc, e1, ln_N]
    rcases (by omega : t = 0 ∨ t = 1 ∨ t = 2) with rfl | rfl | rfl
    · rw [if_pos rfl, if_neg (by decide), if_neg (by decide), ln_N]; omega
    · rw [if_neg (by decide), if_pos rfl, if_neg (by decide), ln_N]; omega
    · rw [if_neg (by decide), if_neg (by decide), if_pos rfl, ln_N]; omega
theorem ho_m_N {kp : Nat} {W : List tt_R} (h : ∀ r ∈ W, st_w kp r) (t : Int32) : ho_m t W 0 = nI (ln_N (tf t W)) := by
  have := ln_mS (tf t W) 0 (fun r hr => (h r (tf_in hr)).ln.1)
  rw [Nat.zero_add] at this
  rw [ho_m_tf]; exact this
theorem r_fau.snoc {m : mo_S} {L : List tt_R} (h : r_fau m L) (k p M : Int32) : r_fau (mo_sf (mo_sa (mo_sa (mo_sa (mo_sa m 39 L.length k) 40 L.length p) 41 L.length 0) 42 L.length M) 38 (nI (L.length + 1))) (L ++ [(k, p, 0, M)]) := by
  obtain ⟨h1, h2⟩ := h
  refine ⟨by rw [List.length_append]; rfl, fun i r hr => ⟨?_, ?_, ?_, ?_⟩⟩
  · exact ls_up0 (c := fun r => r.1) (x := (k, p, 0, M)) (fun i r hr => (h2 i r hr).1) i r hr
  · exact ls_up0 (c := fun r => r.2.1) (x := (k, p, 0, M)) (fun i r hr => (h2 i r hr).2.1) i r hr
  · exact ls_up0 (c := fun r => r.2.2.1) (x := (k, p, 0, M)) (fun i r hr => (h2 i r hr).2.2.1) i r hr
  · exact ls_up0 (c := fun r => r.2.2.2) (x := (k, p, 0, M)) (fun i r hr => (h2 i r hr).2.2.2) i r hr
theorem r_lnk.snoc {m : mo_S} {L : List tt_R} (h : r_lnk m L) (a b w : Int32) : r_lnk (mo_sf (mo_sa (mo_sa (mo_sa m 44 L.length a) 45 L.length b) 46 L.length w) 43 (nI (L.length + 1))) (L ++ [(a, b, w, 0)]) := by
  obtain ⟨h1, h2, h3⟩ := h
  have h0 := h3 L.length (Nat.le_refl _)
  refine ⟨by rw [List.length_append]; rfl, fun i r hr => ⟨?_, ?_, ?_, ?_⟩, fun i hi => h3 i (by rw [List.length_append] at hi; omega)⟩
  · exact ls_up0 (c := fun r => r.1) (x := (a, b, w, 0)) (fun i r hr => (h2 i r hr).1) i r hr
  · exact ls_up0 (c := fun r => r.2.1) (x := (a, b, w, 0)) (fun i r hr => (h2 i r hr).2.1) i r hr
  · exact ls_up0 (c := fun r => r.2.2.1) (x := (a, b, w, 0)) (fun i r hr => (h2 i r hr).2.2.1) i r hr
  · have := ls_up0 (f := m.2.2 47) (c := fun r => r.2.2.2) (x := (a, b, w, 0)) (fun i r hr => (h2 i r hr).2.2.2) i r hr
    have e : upd (m.2.2 47) L.length (0 : Int32) = m.2.2 47 := by
      have := upd_id (m.2.2 47) L.length
      rw [h0] at this; exact this
    dsimp only at this
    rw [e] at this
    exact this
section MOM
variable {l : Launch} {G : mm_G} {h0 h : mm_H} {m : mo_S} {s : cl_S} {n : Nat} {T L : List tt_R}
theorem c_X9_isKept (p : mo_P h0 h m) (r : r_all s m) (hi : iv n s) (hn : n ≤ 513) : mm_Ct l G mX9_isKept [.ref 29] h (mo_Zq h0 (cm_isKept s) s) := by
  obtain ⟨k, kp, lo, wa, mk, c, hx⟩ := hi
  have hW := hx.W hn
  have hst := hx.2.2.1.2
  have hm : cl_me s = nI (ln_N (s.1 2)) := hx.2.2.2.2.2.2.2.1
  obtain ⟨w1, w2, w3, w4⟩ := hx.2.2.2.2.2.2.1
  have hkp := hx.2.1.2.1
  have hsum := tf_sum (s.1 0) hst
  have e1 : cm_isKept s = 1 := by
    refine bb_t ?_
    rw [ho_m_N hst, ho_m_N hst, ho_m_N hst, hm, w1, w2, show ∀ x : Int32, 0 + x = x from fun x => by grind, nI_add, nI_add, nI_add, nI_add]
    congr 1
    have : ln_N (tf 0 (s.1 0)) + ln_N (tf 1 (s.1 0)) + ln_N (tf 2 (s.1 0)) = ln_N (s.1 0) := hsum
    omega
  rw [e1]
  refine mm_ct (by decide +kernel) (by decide +kernel) rfl (by simp [Value.category]) (Nat.le_of_ble_eq_true rfl) rfl ?_
  refine ex_aload_n dX9_isKept_0 rfl ?_
  refine ex_iconst (v := 0) dX9_isKept_1 (by decide) ?_
  refine ex_put dX9_isKept_2 p_X9_120 (mP_o p) (Nat.le_of_ble_eq_true rfl) (fun z => nomatch z) (mm_fi _) ?_
  refine mk_0 p (fun h2 p2 => ?_)
  refine ex_aload_n dX9_isKept_5 rfl ?_
  refine ex_getfield dX9_isKept_6 g_X9_190 (mP_o p2) rfl ?_
  refine ex_aload_n dX9_isKept_9 rfl ?_
  refine ex_iconst (v := 0) dX9_isKept_10 (by decide) ?_
  refine cV_f dX9_isKept_11 (mm_kv i_X9_inTank l_X9_307) ⟨(Nat.le_of_ble_eq_true rfl), (Nat.le_of_ble_eq_true rfl)⟩ (c_X9_inTank p2 (t := 0) r.2.2.2.1 (by decide) _ rfl) rfl rfl (mP_o p2) (Nat.le_of_ble_eq_true rfl) rfl ?_
  refine ex_i2l dX9_isKept_14 ?_
  refine ex_aload_n dX9_isKept_15 rfl ?_
  refine ex_iconst (v := 1) dX9_isKept_16 (by decide) ?_
  refine cV_f dX9_isKept_17 (mm_kv i_X9_inTank l_X9_307) ⟨(Nat.le_of_ble_eq_true rfl), (Nat.le_of_ble_eq_true rfl)⟩ (c_X9_inTank p2 (t := 1) r.2.2.2.1 (by decide) _ rfl) rfl rfl (mP_o p2) (Nat.le_of_ble_eq_true rfl) rfl ?_
  refine ex_i2l dX9_isKept_20 ?_
  refine ex_ladd dX9_isKept_21 ?_
  refine ex_aload_n dX9_isKept_22 rfl ?_
  refine ex_iconst (v := 2) dX9_isKept_23 (by decide) ?_
  refine cV_f dX9_isKept_24 (mm_kv i_X9_inTank l_X9_307) ⟨(Nat.le_of_ble_eq_true rfl), (Nat.le_of_ble_eq_true rfl)⟩ (c_X9_inTank p2 (t := 2) r.2.2.2.1 (by decide) _ rfl) rfl rfl (mP_o p2) (Nat.le_of_ble_eq_true rfl) rfl ?_
  refine ex_i2l dX9_isKept_27 ?_
  refine ex_ladd dX9_isKept_28 ?_
  refine ex_aload_n dX9_isKept_29 rfl ?_
  refine cV_f dX9_isKept_30 (mm_kv i_X9_metres l_X9_160) ⟨(Nat.le_of_ble_eq_true rfl), (Nat.le_of_ble_eq_true rfl)⟩ (c_X9_metres p2 (T := s.1 2) r.2.2.2.2.1 hW) rfl rfl (mP_o p2) (Nat.le_of_ble_eq_true rfl) rfl ?_
  refine ex_i2l dX9_isKept_33 ?_
  refine ex_ladd dX9_isKept_34 ?_
  refine ex_aload_n dX9_isKept_35 rfl ?_
  refine ex_getfield dX9_isKept_36 g_X9_167 (mP_o p2) rfl ?_
  refine ex_ladd dX9_isKept_39 ?_
  skip
  have hS : (ho_m 0 (s.1 0) 0).toInt64 + (ho_m 1 (s.1 0) 0).toInt64 + (ho_m 2 (s.1 0) 0).toInt64 + (ln_m (s.1 2) 0).toInt64 + (mo_sf m 0 0).2.1.2 = (mo_sf m 0 0).2.1.1 := by
    show _ + m.2.1.2 = m.2.1.1
    have hsum2 : ln_N (tf 0 (s.1 0)) + ln_N (tf 1 (s.1 0)) + ln_N (tf 2 (s.1 0)) = ln_N (s.1 0) := hsum
    rw [r.2.2.2.2.2.2.1.2.2.2.1, r.2.2.1.2.2, w1, w2, ho_m_N hst, ho_m_N hst, ho_m_N hst, ln_m0 hW, nI_l (by omega), nI_l (by omega), nI_l (by omega), nI_l (by omega), nI_l (by omega), nI_l (by omega), lN_add, lN_add, lN_add, lN_add]
    congr 1
    omega
  refine ex_lcmp dX9_isKept_40 ?_
  refine ex_if_ne (tgt := 48) dX9_isKept_41 (by decide) (fun z => absurd ((lg_cmp_eq _ _).mpr hS.symm) z) (fun _ => ?_)
  refine ex_iconst (v := 1) dX9_isKept_44 (by decide) ?_
  refine ex_goto (tgt := 49) dX9_isKept_45 (by decide) ?_
  refine ex_ireturn dX9_isKept_49 ⟨_, rfl, (by first | rfl | exact bb_r)⟩ ?_
  exact ⟨_, rfl, _, p2, r, rfl⟩
theorem c_X9_earth (p : mo_P h0 h m) (r : r_all s m) (hi : iv n s) (hn : n ≤ 513) : mm_Ct l G mX9_earth [.ref 29] h (mo_Zq h0 (ro_re (s.1 2) 0 (cl_fa s)) s) := by
  obtain ⟨k, kp, lo, wa, mk, c, hx⟩ := hi
  have hW := hx.W hn
  have hL := hW.1
  have hl := r.2.2.2.2.1
  have hN := hx.N
  obtain ⟨fa, fb, hfa, hfb, efa, efb⟩ := hx.2.2.2.2.2.2.2.2.2.2.1.2.2
  have key : ∀ (m1 : mo_S) (h1 : mm_H), mo_P h0 h1 m1 → r_all s m1 → ∀ (a u : Nat) (x4 x5 x6 : Value), u ≤ fa → a + ln_N (s.1 2) < 2 ^ 31 → mm_Ex l G mX9_earth (mo_Zq h0 (ro_re (s.1 2) (nI a) (nI (fa - u))) s) 11 [.ref 29, .int (nI a), .int (nI u), .int (nI 0), x4, x5, x6] [] h1 := by
    intro m1 h1 p1 r1
    have hl1 := r1.2.2.2.2.1
    refine lp_fwd (s.1 2) (fun i R => ∀ (a u : Nat) (x4 x5 x6 : Value), u ≤ fa → a + ln_N R < 2 ^ 31 → mm_Ex l G mX9_earth (mo_Zq h0 (ro_re R (nI a) (nI (fa - u))) s) 11 [.ref 29, .int (nI a), .int (nI u), .int (nI i), x4, x5, x6] [] h1) ?_ ?_
    · intro a u x4 x5 x6 hu ha
      refine ex_iload_n dX9_earth_11 rfl ?_
      refine ex_aload_n dX9_earth_12 rfl ?_
      refine ex_getfield (v := .int (nI (s.1 2).length)) dX9_earth_13 g_X9_171 (mP_o p1) (congrArg (fun z => some (Value.int z)) (hl1.1)) ?_
      refine ex_icmp_ge (tgt := 120) dX9_earth_16 (by decide) (fun _ => ?_) (fun z => absurd (Int32.le_refl _) z)
      refine ex_iload_n dX9_earth_120 rfl ?_
      refine ex_ireturn dX9_earth_121 ⟨_, rfl, rfl⟩ ?_
      exact ⟨_, rfl, m1, p1, r1, rfl⟩
    · intro i q R hq hR hi ih a u x4 x5 x6 hu ha
      obtain ⟨w1, w2, w3, w4⟩ := (hW.2 i q hq).ln
      obtain ⟨d1, d2, d3, d4⟩ := hl1.2 i q hq
      rw [ln_N] at ha
      refine ex_iload_n dX9_earth_11 rfl ?_
      refine ex_aload_n dX9_earth_12 rfl ?_
      refine ex_getfield (v := .int (nI (s.1 2).length)) dX9_earth_13 g_X9_171 (mP_o p1) (congrArg (fun z => some (Value.int z)) (hl1.1)) ?_
      refine ex_icmp_ge (tgt := 120) dX9_earth_16 (by decide) (fun z => absurd z (nI_ge hi (by omega))) (fun _ => ?_)
      refine ex_aload_n dX9_earth_19 rfl ?_
      refine ex_iload_n dX9_earth_20 rfl ?_
      refine cV_f dX9_earth_21 (mm_kv i_X9_lengthOf l_X9_174) ⟨(Nat.le_of_ble_eq_true rfl), (Nat.le_of_ble_eq_true rfl)⟩ (c_X9_lengthOf p1 hl1 hW hq _ rfl) rfl rfl (mP_o p1) (Nat.le_of_ble_eq_true rfl) rfl ?_
      refine ex_istore dX9_earth_24 (Nat.le_of_ble_eq_true rfl) ?_
      skip
      refine mm_viaJ (ro_do q.1 q.2.2.2) (pc' := 46) (ls' := [.ref 29, .int (nI a), .int (nI u), .int (nI i), .int q.2.2.2, x5, x6]) (st := []) ?_ (fun k => ?_)
      · have hdo : ∃ d : Nat, d ≤ 900 ∧ ro_do q.1 q.2.2.2 = nI d ∧ (q.1 = 0 → d = rl q / 100) ∧ (q.1 = 1 → d = 0) := by
          by_cases h2 : q.1 = 2
          · exact ⟨40, by omega, by rw [ro_do, if_pos h2]; rfl, fun z => by rw [h2] at z; exact absurd z (by decide), fun z => by rw [h2] at z; exact absurd z (by decide)⟩
          · refine ⟨rl q / 100, by omega, by rw [ro_do, if_neg h2, w1, show (100 : Int32) = nI 100 from rfl, pk_div (by omega) (by decide) (by decide)], fun _ => rfl, fun z => ?_⟩
            rw [w4 (by rw [z]; decide)]
        obtain ⟨d, hd, ed, ed0, ed1⟩ := hdo
        have hre : ro_re (q :: R) (nI a) (nI (fa - u)) = if nI d ≤ nI (fa - u) then ro_re R (nI a + q.2.2.2) (nI (fa - u) - nI d) else if q.1 = 0 then nI a + nI (fa - u) * 100 + 99 else nI a := by rw [ro_re, ed]
        rw [hre, ed]
        by_cases hc : d ≤ fa - u
        · rw [if_pos (nI_le hc (by omega)), w1, nI_add, nI_sub hc, show fa - u - d = fa - (u + d) by omega]
          refine ex_istore dX9_earth_46 (Nat.le_of_ble_eq_true rfl) ?_
          refine ex_iload_n dX9_earth_48 rfl ?_
          refine ex_iload dX9_earth_49 rfl ?_
          refine ex_iadd dX9_earth_51 ?_
          rw [nI_add]
          refine ex_aload_n dX9_earth_52 rfl ?_
          refine ex_getfield (v := .int (nI fa)) dX9_earth_53 g_X9_238 (mP_o p1) (congrArg (fun z => some (Value.int z)) (r1.2.2.2.2.2.2.1.2.2.2.2.1.trans efa)) ?_
          refine ex_icmp_le (tgt := 104) dX9_earth_56 (by decide) (fun _ => ?_) (fun z => absurd (nI_le (show u + d ≤ fa by omega) (by omega)) z)
          refine ex_iload_n dX9_earth_104 rfl ?_
          refine ex_iload dX9_earth_105 rfl ?_
          refine ex_iadd dX9_earth_107 ?_
          rw [nI_add]
          refine ex_istore_n dX9_earth_108 (Nat.le_of_ble_eq_true rfl) ?_
          refine ex_iload_n dX9_earth_109 rfl ?_
          refine ex_iload dX9_earth_110 rfl ?_
          refine ex_iadd dX9_earth_112 ?_
          rw [nI_add]
          refine ex_istore_n dX9_earth_113 (Nat.le_of_ble_eq_true rfl) ?_
          refine ex_iinc (d := 1) dX9_earth_114 rfl (by decide) ?_
          refine ex_goto (tgt := 11) dX9_earth_117 (by decide) ?_
          rw [nI_1]; exact ih _ _ _ _ _ (by omega) (by omega)
        · rw [if_neg (nI_ge (by omega) (by omega))]
          by_cases h2 : q.1 = 2
          · rw [if_neg (by rw [h2]; decide)]
            refine ex_istore dX9_earth_46 (Nat.le_of_ble_eq_true rfl) ?_
            refine ex_iload_n dX9_earth_48 rfl ?_
            refine ex_iload dX9_earth_49 rfl ?_
            refine ex_iadd dX9_earth_51 ?_
            rw [nI_add]
            refine ex_aload_n dX9_earth_52 rfl ?_
            refine ex_getfield (v := .int (nI fa)) dX9_earth_53 g_X9_238 (mP_o p1) (congrArg (fun z => some (Value.int z)) (r1.2.2.2.2.2.2.1.2.2.2.2.1.trans efa)) ?_
            refine ex_icmp_le (tgt := 104) dX9_earth_56 (by decide) (fun z => absurd z (nI_ge (show fa < u + d by omega) (by omega))) (fun _ => ?_)
            refine ex_bipush (v := 100) dX9_earth_59 (by decide) ?_
            refine ex_aload_n dX9_earth_61 rfl ?_
            refine ex_getfield (v := .int (nI fa)) dX9_earth_62 g_X9_238 (mP_o p1) (congrArg (fun z => some (Value.int z)) (r1.2.2.2.2.2.2.1.2.2.2.2.1.trans efa)) ?_
            refine ex_iload_n dX9_earth_65 rfl ?_
            refine ex_isub dX9_earth_66 ?_
            refine ex_imul dX9_earth_67 ?_
            refine ex_bipush (v := 99) dX9_earth_68 (by decide) ?_
            refine ex_iadd dX9_earth_70 ?_
            refine ex_istore dX9_earth_71 (Nat.le_of_ble_eq_true rfl) ?_
            refine ex_aload_n dX9_earth_73 rfl ?_
            refine ex_getfield dX9_earth_74 g_X9_50 (mP_o p1) rfl ?_
            refine ex_iload_n dX9_earth_77 rfl ?_
            refine ex_ialoadv (v := q.1) dX9_earth_78 (mA_22 p1) (by first | assumption | exact vp_in_nI (by omega) (by decide)) (mo_av d1 rfl (by omega)) ?_
            refine ex_iconst (v := 2) dX9_earth_79 (by decide) ?_
            refine ex_icmp_ne (tgt := 87) dX9_earth_80 (by decide) (fun z => absurd h2 z) (fun _ => ?_)
            refine ex_iload_n dX9_earth_83 rfl ?_
            refine ex_goto (tgt := 103) dX9_earth_84 (by decide) ?_
            refine ex_ireturn dX9_earth_103 ⟨_, rfl, rfl⟩ ?_
            exact ⟨_, rfl, m1, p1, r1, rfl⟩
          have h0' : q.1 = 0 := by
            rcases hW.2 i q hq with ⟨z, -⟩ | ⟨z | z, -⟩
            · exact z
            · have := ed1 z; omega
            · exact absurd z h2
          rw [if_pos h0']
          · have hlt : ¬ q.2.2.2 ≤ 100 * (nI fa - nI u) + 99 := by
              rw [w1, nI_sub (show u ≤ fa from hu), show (100 : Int32) = nI 100 from rfl, pk_mul, show (99 : Int32) = nI 99 from rfl, nI_add]
              exact nI_ge (by have := ed0 h0'; omega) (by omega)
            refine ex_istore dX9_earth_46 (Nat.le_of_ble_eq_true rfl) ?_
            refine ex_iload_n dX9_earth_48 rfl ?_
            refine ex_iload dX9_earth_49 rfl ?_
            refine ex_iadd dX9_earth_51 ?_
            rw [nI_add]
            refine ex_aload_n dX9_earth_52 rfl ?_
            refine ex_getfield (v := .int (nI fa)) dX9_earth_53 g_X9_238 (mP_o p1) (congrArg (fun z => some (Value.int z)) (r1.2.2.2.2.2.2.1.2.2.2.2.1.trans efa)) ?_
            refine ex_icmp_le (tgt := 104) dX9_earth_56 (by decide) (fun z => absurd z (nI_ge (show fa < u + d by omega) (by omega))) (fun _ => ?_)
            refine ex_bipush (v := 100) dX9_earth_59 (by decide) ?_
            refine ex_aload_n dX9_earth_61 rfl ?_
            refine ex_getfield (v := .int (nI fa)) dX9_earth_62 g_X9_238 (mP_o p1) (congrArg (fun z => some (Value.int z)) (r1.2.2.2.2.2.2.1.2.2.2.2.1.trans efa)) ?_
            refine ex_iload_n dX9_earth_65 rfl ?_
            refine ex_isub dX9_earth_66 ?_
            refine ex_imul dX9_earth_67 ?_
            refine ex_bipush (v := 99) dX9_earth_68 (by decide) ?_
            refine ex_iadd dX9_earth_70 ?_
            refine ex_istore dX9_earth_71 (Nat.le_of_ble_eq_true rfl) ?_
            refine ex_aload_n dX9_earth_73 rfl ?_
            refine ex_getfield dX9_earth_74 g_X9_50 (mP_o p1) rfl ?_
            refine ex_iload_n dX9_earth_77 rfl ?_
            refine ex_ialoadv (v := q.1) dX9_earth_78 (mA_22 p1) (by first | assumption | exact vp_in_nI (by omega) (by decide)) (mo_av d1 rfl (by omega)) ?_
            refine ex_iconst (v := 2) dX9_earth_79 (by decide) ?_
            refine ex_icmp_ne (tgt := 87) dX9_earth_80 (by decide) (fun _ => ?_) (fun z => absurd z h2)
            refine ex_iload_n dX9_earth_87 rfl ?_
            refine ex_iload dX9_earth_88 rfl ?_
            refine ex_iload dX9_earth_90 rfl ?_
            refine ex_icmp_ge (tgt := 100) dX9_earth_92 (by decide) (fun z => absurd z hlt) (fun _ => ?_)
            refine ex_iload dX9_earth_95 rfl ?_
            refine ex_goto (tgt := 102) dX9_earth_97 (by decide) ?_
            refine ex_iadd dX9_earth_102 ?_
            refine ex_ireturn dX9_earth_103 ⟨_, rfl, rfl⟩ ?_
            exact ⟨_, rfl, m1, p1, r1, congrArg Value.int (by rw [nI_sub (show u ≤ fa from hu)]; grind)⟩
      · skip
        refine ex_aload_n dX9_earth_26 rfl ?_
        refine ex_getfield dX9_earth_27 g_X9_50 (mP_o p1) rfl ?_
        refine ex_iload_n dX9_earth_30 rfl ?_
        refine ex_ialoadv (v := q.1) dX9_earth_31 (mA_22 p1) (by first | assumption | exact vp_in_nI (by omega) (by decide)) (mo_av d1 rfl (by omega)) ?_
        refine ex_iconst (v := 2) dX9_earth_32 (by decide) ?_
        refine ex_icmp_ne (tgt := 41) dX9_earth_33 (by decide) (fun c_33 => ?_) (fun c_33 => ?_)
        · refine ex_iload dX9_earth_41 rfl ?_
          refine ex_bipush (v := 100) dX9_earth_43 (by decide) ?_
          refine ex_idiv dX9_earth_45 (by decide) ?_
          exact k _ (by rw [ro_do, if_neg c_33])
        · refine ex_bipush (v := 40) dX9_earth_36 (by decide) ?_
          refine ex_goto (tgt := 46) dX9_earth_38 (by decide) ?_
          exact k _ (by rw [ro_do, if_pos c_33])
  refine mm_ct (by decide +kernel) (by decide +kernel) rfl (by simp [Value.category]) (Nat.le_of_ble_eq_true rfl) rfl ?_
  refine ex_aload_n dX9_earth_0 rfl ?_
  refine ex_iconst (v := 0) dX9_earth_1 (by decide) ?_
  refine ex_put dX9_earth_2 p_X9_120 (mP_o p) (Nat.le_of_ble_eq_true rfl) (fun z => nomatch z) (mm_fi _) ?_
  refine mk_0 p (fun h2 p2 => ?_)
  refine ex_iconst (v := 0) dX9_earth_5 (by decide) ?_
  refine ex_istore_n dX9_earth_6 (Nat.le_of_ble_eq_true rfl) ?_
  refine ex_iconst (v := 0) dX9_earth_7 (by decide) ?_
  refine ex_istore_n dX9_earth_8 (Nat.le_of_ble_eq_true rfl) ?_
  refine ex_iconst (v := 0) dX9_earth_9 (by decide) ?_
  refine ex_istore_n dX9_earth_10 (Nat.le_of_ble_eq_true rfl) ?_
  have := key _ _ p2 r 0 0 .null .null .null (Nat.zero_le _) (by omega); rw [Nat.sub_zero, ← efa] at this; exact this
theorem c_X9_comes (p : mo_P h0 h m) (hl : r_line m T) (hw : ln_W T) (hf : r_fau m L) (hL : L.length < 4) (k q : Int32) : mm_Ct l G mX9_comes [.ref 29, .int k, .int q] h (mm_qv (fun h' => ∃ m', mo_P h0 h' m' ∧ mo_F [38, 39, 40, 41, 42] m m' ∧ r_fau m' (L ++ [(k, q, 0, ln_m T 0)]))) := by
  refine mm_ct (by decide +kernel) (by decide +kernel) rfl (by simp [Value.category]) (Nat.le_of_ble_eq_true rfl) rfl ?_
  refine ex_aload_n dX9_comes_0 rfl ?_
  refine ex_getfield dX9_comes_1 g_X9_77 (mP_o p) rfl ?_
  refine ex_aload_n dX9_comes_4 rfl ?_
  refine ex_getfield (v := .int (nI L.length)) dX9_comes_5 g_X9_177 (mP_o p) (congrArg (fun z => some (Value.int z)) (hf.1)) ?_
  refine ex_iload_n dX9_comes_8 rfl ?_
  refine ex_iastore dX9_comes_9 (mA_39 p) (by first | assumption | exact vp_in_nI (by omega) (by decide)) ?_
  refine mq_39 p (fun h9 p9 => ?_)
  refine ex_aload_n dX9_comes_10 rfl ?_
  refine ex_getfield dX9_comes_11 g_X9_80 (mP_o p9) rfl ?_
  refine ex_aload_n dX9_comes_14 rfl ?_
  refine ex_getfield (v := .int (nI L.length)) dX9_comes_15 g_X9_177 (mP_o p9) (congrArg (fun z => some (Value.int z)) (hf.1)) ?_
  refine ex_iload_n dX9_comes_18 rfl ?_
  refine ex_iastore dX9_comes_19 (mA_40 p9) (by first | assumption | exact vp_in_nI (by omega) (by decide)) ?_
  refine mq_40 p9 (fun h19 p19 => ?_)
  refine ex_aload_n dX9_comes_20 rfl ?_
  refine ex_getfield dX9_comes_21 g_X9_83 (mP_o p19) rfl ?_
  refine ex_aload_n dX9_comes_24 rfl ?_
  refine ex_getfield (v := .int (nI L.length)) dX9_comes_25 g_X9_177 (mP_o p19) (congrArg (fun z => some (Value.int z)) (hf.1)) ?_
  refine ex_iconst (v := 0) dX9_comes_28 (by decide) ?_
  refine ex_iastore dX9_comes_29 (mA_41 p19) (by first | assumption | exact vp_in_nI (by omega) (by decide)) ?_
  refine mq_41 p19 (fun h29 p29 => ?_)
  refine ex_aload_n dX9_comes_30 rfl ?_
  refine ex_getfield dX9_comes_31 g_X9_86 (mP_o p29) rfl ?_
  refine ex_aload_n dX9_comes_34 rfl ?_
  refine ex_getfield (v := .int (nI L.length)) dX9_comes_35 g_X9_177 (mP_o p29) (congrArg (fun z => some (Value.int z)) (hf.1)) ?_
  refine ex_aload_n dX9_comes_38 rfl ?_
  refine cV_f dX9_comes_39 (mm_kv i_X9_metres l_X9_160) ⟨(Nat.le_of_ble_eq_true rfl), (Nat.le_of_ble_eq_true rfl)⟩ (c_X9_metres p29 (hl.fr ((((mo_F.refl [39, 40, 41] m).a 39 rfl).a 40 rfl).a 41 rfl)) hw) rfl rfl (mP_o p29) (Nat.le_of_ble_eq_true rfl) rfl ?_
  refine ex_iastore dX9_comes_42 (mA_42 p29) (by first | assumption | exact vp_in_nI (by omega) (by decide)) ?_
  refine mq_42 p29 (fun h42 p42 => ?_)
  refine ex_aload_n dX9_comes_43 rfl ?_
  refine ex_dup dX9_comes_44 rfl ?_
  refine ex_getfield (v := .int (nI L.length)) dX9_comes_45 g_X9_177 (mP_o p42) (congrArg (fun z => some (Value.int z)) (hf.1)) ?_
  refine ex_iconst (v := 1) dX9_comes_48 (by decide) ?_
  refine ex_iadd dX9_comes_49 ?_
  rw [nI_1]
  refine ex_put dX9_comes_50 p_X9_177 (mP_o p42) (Nat.le_of_ble_eq_true rfl) (fun z => nomatch z) (mm_fi _) ?_
  refine mk_38 p42 (fun h50 p50 => ?_)
  refine ex_return dX9_comes_53 rfl ?_
  rw [nI_clamp (show L.length < 2 ^ 31 by omega)] at p50; exact ⟨rfl, _, p50, (((((mo_F.refl [38, 39, 40, 41, 42] m).a 39 rfl).a 40 rfl).a 41 rfl).a 42 rfl).f 38 rfl, hf.snoc k q _⟩
theorem r_fault {m m' : mo_S} {L' : List tt_R} (r : r_all s m) (f : mo_F [38, 39, 40, 41, 42] m m') (hf : r_fau m' L') : r_all (va_up s.1 4 L', s.2) m' := by
  obtain ⟨r1, r2, r3, r4, r5, r6, r7, r8, r9, r10⟩ := r
  exact ⟨r1.fr f, r2.fr (s := (va_up s.1 4 L', s.2)) f, r3.fr (s := (va_up s.1 4 L', s.2)) f, r4.fr f, r5.fr f, r6.fr (s := (va_up s.1 4 L', s.2)) f, r7.fr (s := (va_up s.1 4 L', s.2)) f, hf, r9.fr f, r10.fr f⟩
theorem c_X9_fault (p : mo_P h0 h m) (r : r_all s m) (hi : iv n s) (hn : n ≤ 513) (a q : Int32) : mm_Ct l G mX9_fault [.ref 29, .int a, .int q] h (mo_Z h0 cx_a cx_s (cm_fault s a q)) := by
  obtain ⟨k, kp, lo, wa, mk, c, hx⟩ := hi
  have hW := hx.W hn
  have hm : cl_me s = nI (ln_N (s.1 2)) := hx.2.2.2.2.2.2.2.1
  have hL : (s.1 4).length ≤ 4 := hx.2.2.2.2.2.2.2.2.2.1.1
  have r8 := r.2.2.2.2.2.2.2.1
  refine mm_ct (by decide +kernel) (by decide +kernel) rfl (by simp [Value.category]) (Nat.le_of_ble_eq_true rfl) rfl ?_
  refine mm_via (p := ii a 0 1 ∧ ii q 0 (cl_me s - 1)) (pc' := 28) (ls' := [.ref 29, .int a, .int q, .null]) (st := []) (fun b hb => ?_) (fun k => ?_)
  · refine mm_viaJ (if ii a 0 1 ∧ ii q 0 (cl_me s - 1) then (if nI (s.1 4).length < 4 then 0 else 2) else 1) (pc' := 51) (ls' := [.ref 29, .int a, .int q, .int b]) (st := [.ref 29]) ?_ (fun k => ?_)
    · skip
      refine ex_put dX9_fault_51 p_X9_120 (mP_o p) (Nat.le_of_ble_eq_true rfl) (fun z => nomatch z) (mm_fi _) ?_
      refine mk_0 p (fun h51 p51 => ?_)
      skip
      unfold cm_fault
      by_cases h1 : ii a 0 1 ∧ ii q 0 (cl_me s - 1)
      rotate_left
      · rw [if_neg h1] at p51
        rw [if_neg h1]
        refine ex_aload_n dX9_fault_54 rfl ?_
        refine ex_getfield (v := .int (1)) dX9_fault_55 g_X9_120 (mP_o p51) (congrArg (fun z => some (Value.int z)) (rfl)) ?_
        refine ex_if_le (tgt := 63) dX9_fault_58 (by decide) (fun z => absurd z (by decide)) (fun _ => ?_)
        refine ex_iconst (v := 0) dX9_fault_61 (by decide) ?_
        refine ex_ireturn dX9_fault_62 ⟨_, rfl, rfl⟩ ?_
        exact ⟨_, rfl, _, p51, r, ⟨Or.inl ⟨rfl, rfl⟩, _, rfl⟩⟩
      rw [if_pos h1] at p51
      rw [if_pos h1]
      by_cases h2 : nI (s.1 4).length < 4
      rotate_left
      · rw [if_neg h2] at p51
        rw [if_neg h2]
        refine ex_aload_n dX9_fault_54 rfl ?_
        refine ex_getfield (v := .int (2)) dX9_fault_55 g_X9_120 (mP_o p51) (congrArg (fun z => some (Value.int z)) (rfl)) ?_
        refine ex_if_le (tgt := 63) dX9_fault_58 (by decide) (fun z => absurd z (by decide)) (fun _ => ?_)
        refine ex_iconst (v := 0) dX9_fault_61 (by decide) ?_
        refine ex_ireturn dX9_fault_62 ⟨_, rfl, rfl⟩ ?_
        exact ⟨_, rfl, _, p51, r, ⟨Or.inr ⟨rfl, rfl⟩, _, rfl⟩⟩
      rw [if_pos h2] at p51
      rw [if_pos h2]
      have hL4 : (s.1 4).length < 4 := (nI_ltI (b := 4) (by omega) (by decide)).mp h2
      refine ex_aload_n dX9_fault_54 rfl ?_
      refine ex_getfield (v := .int (0)) dX9_fault_55 g_X9_120 (mP_o p51) (congrArg (fun z => some (Value.int z)) (rfl)) ?_
      refine ex_if_le (tgt := 63) dX9_fault_58 (by decide) (fun _ => ?_) (fun z => absurd (by decide) z)
      refine ex_aload_n dX9_fault_63 rfl ?_
      refine ex_iload_n dX9_fault_64 rfl ?_
      refine ex_iload_n dX9_fault_65 rfl ?_
      refine cV_y dX9_fault_66 (mm_kv i_X9_comes l_X9_262) ⟨(Nat.le_of_ble_eq_true rfl), (Nat.le_of_ble_eq_true rfl)⟩ (c_X9_comes p51 (m := mo_sf m 0 0) (T := s.1 2) r.2.2.2.2.1 hW (L := s.1 4) r8 hL4 _ _) rfl rfl (mP_o p51) (Nat.le_of_ble_eq_true rfl) rfl ?_
      rintro h66 ⟨m9, p66, f9, q9⟩
      refine ex_aload_n dX9_fault_69 rfl ?_
      refine ex_getfield (v := .int (nI ((s.1 4).length + 1))) dX9_fault_70 g_X9_177 (mP_o p66) (congrArg (fun z => some (Value.int z)) (by rw [q9.1, List.length_append]; rfl)) ?_
      refine ex_ireturn dX9_fault_73 ⟨_, rfl, rfl⟩ ?_
      exact ⟨_, rfl, m9, p66, by rw [show cl_me s = ln_m (s.1 2) 0 by rw [ln_m0 hW, hm]]; exact r_fault (m := mo_sf m 0 0) r f9 q9, f9.1 0 rfl, rfl⟩
    · skip
      refine ex_istore_n dX9_fault_28 (Nat.le_of_ble_eq_true rfl) ?_
      refine ex_aload_n dX9_fault_29 rfl ?_
      refine ex_iload_n dX9_fault_30 rfl ?_
      refine ex_if_ne (tgt := 38) dX9_fault_31 (by decide) (fun c_31 => ?_) (fun c_31 => ?_)
      · refine ex_aload_n dX9_fault_38 rfl ?_
        refine ex_getfield (v := .int (nI (s.1 4).length)) dX9_fault_39 g_X9_177 (mP_o p) (congrArg (fun z => some (Value.int z)) (r8.1)) ?_
        refine ex_iconst (v := 4) dX9_fault_42 (by decide) ?_
        refine ex_icmp_ne (tgt := 50) dX9_fault_43 (by decide) (fun c_43 => ?_) (fun c_43 => ?_)
        · refine ex_iconst (v := 0) dX9_fault_50 (by decide) ?_
          exact k _ (by rw [if_pos (bb_n.mp (hb ▸ c_31)), if_pos (show nI (s.1 4).length < 4 from nI_lt (b := 4) (by rcases Nat.lt_or_ge (s.1 4).length 4 with z | z; exact z; exact absurd (by rw [show (s.1 4).length = 4 by omega]; rfl) c_43) (by decide))])
        · refine ex_iconst (v := 2) dX9_fault_46 (by decide) ?_
          refine ex_goto (tgt := 51) dX9_fault_47 (by decide) ?_
          exact k _ (by rw [if_pos (bb_n.mp (hb ▸ c_31)), if_neg (by rw [c_43]; decide)])
      · refine ex_iconst (v := 1) dX9_fault_34 (by decide) ?_
        refine ex_goto (tgt := 51) dX9_fault_35 (by decide) ?_
        exact k _ (by rw [if_neg (bb_0.mp (hb ▸ c_31))])
  · skip
    refine ex_iload_n dX9_fault_0 rfl ?_
    refine ex_iconst (v := 0) dX9_fault_1 (by decide) ?_
    refine ex_iconst (v := 1) dX9_fault_2 (by decide) ?_
    refine cS_f dX9_fault_3 (mm_ks i_X9_isIn l_X9_123) ⟨(Nat.le_of_ble_eq_true rfl), (Nat.le_of_ble_eq_true rfl)⟩ (c_X9_isIn _ _ _) rfl rfl (Nat.le_of_ble_eq_true rfl) rfl ?_
    refine ex_if_eq (tgt := 27) dX9_fault_6 (by decide) (fun c_6 => ?_) (fun c_6 => ?_)
    · refine ex_iconst (v := 0) dX9_fault_27 (by decide) ?_
      exact k _ (bb_f (fun z => bb_0.mp c_6 z.1)).symm
    · refine ex_iload_n dX9_fault_9 rfl ?_
      refine ex_iconst (v := 0) dX9_fault_10 (by decide) ?_
      refine ex_aload_n dX9_fault_11 rfl ?_
      refine cV_f dX9_fault_12 (mm_kv i_X9_metres l_X9_160) ⟨(Nat.le_of_ble_eq_true rfl), (Nat.le_of_ble_eq_true rfl)⟩ (c_X9_metres p (T := s.1 2) r.2.2.2.2.1 hW) rfl rfl (mP_o p) (Nat.le_of_ble_eq_true rfl) rfl ?_
      rw [ln_m0 hW, ← hm]
      refine ex_iconst (v := 1) dX9_fault_15 (by decide) ?_
      refine ex_isub dX9_fault_16 ?_
      refine cS_f dX9_fault_17 (mm_ks i_X9_isIn l_X9_123) ⟨(Nat.le_of_ble_eq_true rfl), (Nat.le_of_ble_eq_true rfl)⟩ (c_X9_isIn _ _ _) rfl rfl (Nat.le_of_ble_eq_true rfl) rfl ?_
      refine ex_if_eq (tgt := 27) dX9_fault_20 (by decide) (fun c_20 => ?_) (fun c_20 => ?_)
      · refine ex_iconst (v := 0) dX9_fault_27 (by decide) ?_
        exact k _ (bb_f (fun z => bb_0.mp c_20 z.2)).symm
      · refine ex_iconst (v := 1) dX9_fault_23 (by decide) ?_
        refine ex_goto (tgt := 28) dX9_fault_24 (by decide) ?_
        exact k _ (bb_t ⟨bb_n.mp c_6, bb_n.mp c_20⟩).symm
end MOM
