/-! THE MODEL: days -/
section FR
variable {K : List Nat} {m m' : mo_S} {s : cl_S} {S : se_T} {T : List tt_R}
theorem r_sea.fr (h : r_sea S m.2.2) (f : mo_F K m m') (h1 : K.elem 1 = false := by rfl) (h2 : K.elem 2 = false := by rfl) (h3 : K.elem 3 = false := by rfl) (h4 : K.elem 4 = false := by rfl) (h5 : K.elem 5 = false := by rfl) : r_sea S m'.2.2 := by
  unfold r_sea
  rw [f.2.2 1 h1, f.2.2 2 h2, f.2.2 3 h3, f.2.2 4 h4, f.2.2 5 h5]
  exact h
theorem r_lnk.fr (h : r_lnk m T) (f : mo_F K m m') (h1 : K.elem 43 = false := by rfl) (h2 : K.elem 44 = false := by rfl) (h3 : K.elem 45 = false := by rfl) (h4 : K.elem 46 = false := by rfl) (h5 : K.elem 47 = false := by rfl) : r_lnk m' T := by
  unfold r_lnk
  rw [f.1 43 h1, f.2.2 44 h2, f.2.2 45 h3, f.2.2 46 h4, f.2.2 47 h5]
  exact h
theorem r_dem.fr (h : r_dem m T) (f : mo_F K m m') (h1 : K.elem 48 = false := by rfl) (h2 : K.elem 49 = false := by rfl) (h3 : K.elem 50 = false := by rfl) (h4 : K.elem 51 = false := by rfl) (h5 : K.elem 52 = false := by rfl) : r_dem m' T := by
  unfold r_dem
  rw [f.1 48 h1, f.2.2 49 h2, f.2.2 50 h3, f.2.2 51 h4, f.2.2 52 h5]
  exact h
theorem r_cal.fr (h : r_cal s m) (f : mo_F K m m') (h1 : K.elem 6 = false := by rfl) (h2 : K.elem 7 = false := by rfl) (h3 : K.elem 8 = false := by rfl) : r_cal s m' := by
  unfold r_cal
  rw [f.1 6 h1, f.1 7 h2, f.1 8 h3]
  exact h
theorem r_hold.fr (h : r_hold s m) (f : mo_F K m m') (h1 : K.elem 10 = false := by rfl) (h2 : K.elem 11 = false := by rfl) : r_hold s m' := by
  unfold r_hold
  rw [f.1 10 h1, f.2.2 11 h2, f.2.1]
  exact h
theorem r_cel.fr (h : r_cel s m) (f : mo_F K m m') (h1 : K.elem 31 = false := by rfl) (h2 : K.elem 32 = false := by rfl) : r_cel s m' := by
  unfold r_cel
  rw [f.1 31 h1, f.2.2 32 h2]
  exact h
theorem r_own.fr (h : r_own s m) (f : mo_F K m m') (h1 : K.elem 9 = false := by rfl) (h2 : K.elem 34 = false := by rfl) (h3 : K.elem 35 = false := by rfl) (h4 : K.elem 36 = false := by rfl) (h5 : K.elem 37 = false := by rfl) : r_own s m' := by
  unfold r_own
  rw [f.1 9 h1, f.1 34 h2, f.1 35 h3, f.1 36 h4, f.1 37 h5, f.2.1]
  exact h
end FR
section IVD
variable {n k kp lo wa mk : Nat} {s : cl_S} {c : Nat → Nat} {m m' : mo_S}
theorem ivx_d1 (h : ivx n s k kp lo wa mk c) : ivx n (cl_d1 s) k kp lo wa mk c := by
  obtain ⟨a1, a2, a3, a4, a5, a6, a7, a8, a9, a10, a11, a12⟩ := h
  exact ⟨a1, a2, a3, a4, a5, a6, a7, a8, a9, a10, ⟨⟨0, Nat.zero_le _, rfl⟩, a11.2⟩, a12⟩
theorem iv_day (h : iv n s) (hn : n ≤ 513) : iv n (cl_day s) := by
  obtain ⟨k, kp, lo, wa, mk, c, h⟩ := h
  unfold cl_day
  by_cases e : s.2.2.2.2.2.2.2.1 = 0 ∧ ¬ cl_ce s = 100 ∧ ca_w (ca_n s.2.2.1) = 9
  · rw [if_pos e]; exact iv_buoy (ivx_d1 h) hn e.1
  · rw [if_neg e]; exact ⟨k, kp, lo, wa, mk, c, ivx_d1 h⟩
theorem r_buoy (h : ivx n s k kp lo wa mk c) (hn : n ≤ 513) (r : r_all s m) (f : mo_F [21, 25, 32, 34, 35, 38, 39, 40, 41, 42] (mo_g2 m (m.2.1.2 + (nI (mm0 (s.1 2))).toInt64)) m') (f34 : m'.1 34 = 1) (f35 : m'.1 35 = nI (mm0 (s.1 2))) (f32 : m'.2.2 32 = upd (m.2.2 32) (k - 1) (m.2.2 32 (k - 1) - nI (mm0 (s.1 2)))) (hl : r_line m' (bu_T (s.1 2))) (hf : r_fau m' (bu_L (s.1 2) (s.1 4))) : r_all (cl_buoy s) m' := by
  obtain ⟨e0, e2, e4, e5, e6, eu, e3⟩ := cl_buoy_eq h hn
  obtain ⟨r1, r2, r3, r4, r5, r6, r7, r8, r9, r10⟩ := r
  have hm2 : mm0 (s.1 2) ≤ 200 := Nat.min_le_right _ _
  have hw := h.2.2.2.2.2.2.1
  have hkp := h.2.1.2.1
  unfold r_all
  rw [e0, e2, e4, e5, e6]
  refine ⟨?_, ?_, ?_, ?_, hl, ?_, ?_, hf, ?_, ?_⟩
  · rw [eu]; exact r_sea.fr (m := mo_g2 m (m.2.1.2 + (nI (mm0 (s.1 2))).toInt64)) r1 f
  · unfold r_cal; rw [eu]; exact r_cal.fr (m := mo_g2 m (m.2.1.2 + (nI (mm0 (s.1 2))).toInt64)) r2 f
  · unfold r_hold; rw [eu]
    exact ⟨(f.1 10 rfl).trans r3.1, (f.2.2 11 rfl).trans r3.2.1, (congrArg Prod.fst f.2.1).trans r3.2.2⟩
  · exact r_tank.fr (s := mo_g2 m (m.2.1.2 + (nI (mm0 (s.1 2))).toInt64)) r4 f
  · unfold r_cel cl_ce; rw [eu, ← r6.2]
    exact ⟨(f.1 31 rfl).trans r6.1, f32⟩
  · unfold r_own cl_la cl_bu cl_lo cl_wa cl_fa cl_fb; rw [eu]
    refine ⟨(f.1 9 rfl).trans r7.1, f34, f35, ?_, (f.1 36 rfl).trans r7.2.2.2.2.1, (f.1 37 rfl).trans r7.2.2.2.2.2⟩
    refine (congrArg Prod.snd f.2.1).trans ?_
    show m.2.1.2 + (nI (mm0 (s.1 2))).toInt64 = (cl_wa s + nI (mm0 (s.1 2))).toInt64
    rw [r7.2.2.2.1, hw.1]
    exact lN_w (by have := hw.2.2.1; have := hw.2.2.2; omega)
  · exact r_lnk.fr (m := mo_g2 m (m.2.1.2 + (nI (mm0 (s.1 2))).toInt64)) r9 f
  · exact r_dem.fr (m := mo_g2 m (m.2.1.2 + (nI (mm0 (s.1 2))).toInt64)) r10 f
end IVD
/-- an answer of the model beside the class's: what was thrown, and the value -/
def mo_an (E1 E2 : String) (R : cl_R) (t : Int32) (v : Value) : Prop := match R with
  | .inl (some x) => t = 0 ∧ v = .int x
  | .inl none => t = 0
  | .inr e => ((e = E1 ∧ t = 1) ∨ (e = E2 ∧ t = 2)) ∧ ∃ y, v = .int y
def mo_Z (h0 : mm_H) (E1 E2 : String) (x : cl_R × cl_S) : mm_R → mm_H → Prop := mm_qi (fun v h' => ∃ m', mo_P h0 h' m' ∧ r_all x.2 m' ∧ mo_an E1 E2 x.1 (m'.1 0) v)
section MOH
variable {l : Launch} {G : mm_G} {h0 h : mm_H} {m : mo_S} {s : cl_S} {n : Nat}
theorem r_th (r : r_all s m) (x : Int32) : r_all s (mo_sf m 0 x) := r
theorem c_X9_pass (p : mo_P h0 h m) (r : r_all s m) (hi : iv n s) (hn : n ≤ 513) (d : Int32) : mm_Ct l G mX9_pass [.ref 29, .int d] h (mo_Z h0 cx_a cx_s (cm_pass s d)) := by
  refine mm_ct (by decide +kernel) (by decide +kernel) rfl (by simp [Value.category]) (Nat.le_of_ble_eq_true rfl) rfl ?_
  have key : ∀ (N : Nat), N < 2 ^ 31 → ∀ (s1 : cl_S) (m1 : mo_S) (h1 : mm_H), iv n s1 → mo_P h0 h1 m1 → r_all s1 m1 → m1.1 0 = 0 → mm_Ex l G mX9_pass (mo_Z h0 cx_a cx_s (.inl (some (cl_days (N - 0) s1).2.2.1.1), cl_days (N - 0) s1)) 38 [.ref 29, .int (nI N), .int (nI 0)] [] h1 := by
    intro N hN
    refine lp_nat N (fun i => ∀ (s1 : cl_S) (m1 : mo_S) (h1 : mm_H), iv n s1 → mo_P h0 h1 m1 → r_all s1 m1 → m1.1 0 = 0 → mm_Ex l G mX9_pass (mo_Z h0 cx_a cx_s (.inl (some (cl_days (N - i) s1).2.2.1.1), cl_days (N - i) s1)) 38 [.ref 29, .int (nI N), .int (nI i)] [] h1) ?_ ?_
    · intro s1 m1 h1 i1 p1 r1 t1
      refine ex_iload_n dX9_pass_38 rfl ?_
      refine ex_iload_n dX9_pass_39 rfl ?_
      refine ex_icmp_ge (tgt := 118) dX9_pass_40 (by decide) (fun _ => ?_) (fun z => absurd (Int32.le_refl _) z)
      refine ex_aload_n dX9_pass_118 rfl ?_
      refine ex_getfield (v := .int (0)) dX9_pass_119 g_X9_120 (mP_o p1) (congrArg (fun z => some (Value.int z)) (t1)) ?_
      refine ex_if_le (tgt := 129) dX9_pass_122 (by decide) (fun _ => ?_) (fun z => absurd (Int32.le_refl _) z)
      refine ex_aload_n dX9_pass_129 rfl ?_
      refine ex_getfield (v := .int (s1.2.2.1.1)) dX9_pass_130 g_X9_139 (mP_o p1) (congrArg (fun z => some (Value.int z)) (r1.2.1.1)) ?_
      refine ex_ireturn dX9_pass_133 ⟨_, rfl, rfl⟩ ?_
      rw [Nat.sub_self]; exact ⟨_, rfl, m1, p1, r1, t1, rfl⟩
    · intro i hi ih s1 m1 h1 i1 p1 r1 t1
      refine ex_iload_n dX9_pass_38 rfl ?_
      refine ex_iload_n dX9_pass_39 rfl ?_
      refine ex_icmp_ge (tgt := 118) dX9_pass_40 (by decide) (fun z => absurd z (nI_ge hi hN)) (fun _ => ?_)
      refine ex_aload_n dX9_pass_43 rfl ?_
      refine ex_getfield (v := .int (0)) dX9_pass_44 g_X9_120 (mP_o p1) (congrArg (fun z => some (Value.int z)) (t1)) ?_
      refine ex_if_ne (tgt := 118) dX9_pass_47 (by decide) (fun z => absurd rfl z) (fun _ => ?_)
      refine ex_aload_n dX9_pass_50 rfl ?_
      refine ex_dup dX9_pass_51 rfl ?_
      refine ex_getfield (v := .int (s1.2.2.1.1)) dX9_pass_52 g_X9_139 (mP_o p1) (congrArg (fun z => some (Value.int z)) (r1.2.1.1)) ?_
      refine ex_iconst (v := 1) dX9_pass_55 (by decide) ?_
      refine ex_iadd dX9_pass_56 ?_
      refine ex_put dX9_pass_57 p_X9_139 (mP_o p1) (Nat.le_of_ble_eq_true rfl) (fun z => nomatch z) (mm_fi _) ?_
      refine mk_6 p1 (fun h57 p57 => ?_)
      refine ex_aload_n dX9_pass_60 rfl ?_
      refine ex_bipush (v := 75) dX9_pass_61 (by decide) ?_
      refine ex_aload_n dX9_pass_63 rfl ?_
      refine ex_getfield (v := .int (s1.2.2.1.2.1)) dX9_pass_64 g_X9_142 (mP_o p57) (congrArg (fun z => some (Value.int z)) (r1.2.1.2.1)) ?_
      refine ex_imul dX9_pass_67 ?_
      refine ex_bipush (v := 74) dX9_pass_68 (by decide) ?_
      refine ex_iadd dX9_pass_70 ?_
      refine ex_ldc dX9_pass_71 k_X9_145 ?_
      refine ex_irem dX9_pass_73 (by decide) ?_
      refine ex_put dX9_pass_74 p_X9_142 (mP_o p57) (Nat.le_of_ble_eq_true rfl) (fun z => nomatch z) (mm_fi _) ?_
      refine mk_7 p57 (fun h74 p74 => ?_)
      refine ex_aload_n dX9_pass_77 rfl ?_
      refine ex_iconst (v := 0) dX9_pass_78 (by decide) ?_
      refine ex_put dX9_pass_79 p_X9_146 (mP_o p74) (Nat.le_of_ble_eq_true rfl) (fun z => nomatch z) (mm_fi _) ?_
      refine mk_9 p74 (fun h79 p79 => ?_)
      skip
      have r2 : r_all (cl_d1 s1) (mo_sf (mo_sf (mo_sf m1 6 (s1.2.2.1.1 + 1)) 7 ((75 * s1.2.2.1.2.1 + 74) - (75 * s1.2.2.1.2.1 + 74) / 65537 * 65537)) 9 0) := ⟨r1.1, ⟨rfl, rfl, r1.2.1.2.2⟩, r1.2.2.1, r1.2.2.2.1, r1.2.2.2.2.1, r1.2.2.2.2.2.1, ⟨rfl, r1.2.2.2.2.2.2.1.2⟩, r1.2.2.2.2.2.2.2.1, r1.2.2.2.2.2.2.2.2.1, r1.2.2.2.2.2.2.2.2.2⟩
      have t2 : (mo_sf (mo_sf (mo_sf m1 6 (s1.2.2.1.1 + 1)) 7 ((75 * s1.2.2.1.2.1 + 74) - (75 * s1.2.2.1.2.1 + 74) / 65537 * 65537)) 9 0).1 0 = 0 := t1
      have i2 : iv n (cl_day s1) := iv_day i1 hn
      have p2 : mo_P h0 h79 (mo_sf (mo_sf (mo_sf m1 6 (s1.2.2.1.1 + 1)) 7 ((75 * s1.2.2.1.2.1 + 74) - (75 * s1.2.2.1.2.1 + 74) / 65537 * 65537)) 9 0) := p79
      clear p79
      generalize mo_sf (mo_sf (mo_sf m1 6 (s1.2.2.1.1 + 1)) 7 ((75 * s1.2.2.1.2.1 + 74) - (75 * s1.2.2.1.2.1 + 74) / 65537 * 65537)) 9 0 = m2 at p2 r2 t2
      have hgo : ∀ (m3 : mo_S) (h3 : mm_H), mo_P h0 h3 m3 → r_all (cl_day s1) m3 → m3.1 0 = 0 → mm_Ex l G mX9_pass (mo_Z h0 cx_a cx_s (.inl (some (cl_days (N - i) s1).2.2.1.1), cl_days (N - i) s1)) 112 [.ref 29, .int (nI N), .int (nI i)] [] h3 := by
        intro m3 h3 p3 r3 t3
        refine ex_iinc (d := 1) dX9_pass_112 rfl (by decide) ?_
        refine ex_goto (tgt := 38) dX9_pass_115 (by decide) ?_
        rw [nI_1, show N - i = (N - (i + 1)) + 1 by omega]; exact ih _ _ _ i2 p3 r3 t3
      have hby : (s1.2.2.2.2.2.2.2.1 = 0 ∧ ¬ cl_ce s1 = 100 ∧ ca_w (ca_n s1.2.2.1) = 9) → mm_Ex l G mX9_pass (mo_Z h0 cx_a cx_s (.inl (some (cl_days (N - i) s1).2.2.1.1), cl_days (N - i) s1)) 108 [.ref 29, .int (nI N), .int (nI i)] [] h79 := by
        intro hc
        obtain ⟨k, kp, lo, wa, mk, c, hx⟩ := i1
        have hx := ivx_d1 hx
        have hN2 := hx.N
        refine ex_aload_n dX9_pass_108 rfl ?_
        refine cV_y dX9_pass_109 (mm_kv i_X9_buoys l_X9_157) ⟨(Nat.le_of_ble_eq_true rfl), (Nat.le_of_ble_eq_true rfl)⟩ (c_X9_buoys p2 r2.2.2.2.2.1 (hx.W hn) (hx.W2 hn) (by omega) (r2.2.2.2.2.2.1.1.trans hx.1.1) hx.1.2.1 r2.2.2.2.2.2.2.2.1 hx.2.2.2.2.2.2.2.2.2.1.1) rfl rfl (mP_o p2) (Nat.le_of_ble_eq_true rfl) rfl ?_
        rintro h9 ⟨m9, p9, f9, f34, f35, f32, l9, q9⟩
        exact hgo m9 h9 p9 (by unfold cl_day; rw [if_pos hc]; exact r_buoy hx hn r2 f9 f34 f35 f32 l9 q9) ((f9.1 0 rfl).trans t2)
      refine ex_aload_n dX9_pass_82 rfl ?_
      refine cV_f dX9_pass_83 (mm_kv i_X9_liesAtB l_X9_149) ⟨(Nat.le_of_ble_eq_true rfl), (Nat.le_of_ble_eq_true rfl)⟩ (c_X9_liesAtB p2) rfl rfl (mP_o p2) (Nat.le_of_ble_eq_true rfl) rfl ?_
      refine ex_if_ne (tgt := 112) dX9_pass_86 (by decide) (fun c_86 => ?_) (fun c_86 => ?_)
      · exact hgo m2 h79 p2 (by unfold cl_day; rw [if_neg (fun z => z.2.1 (r2.2.2.2.2.2.1.1.symm.trans (bb_n.mp c_86)))]; exact r2) t2
      · refine ex_aload_n dX9_pass_89 rfl ?_
        refine ex_getfield (v := .int (cl_bu s1)) dX9_pass_90 g_X9_153 (mP_o p2) (congrArg (fun z => some (Value.int z)) (r2.2.2.2.2.2.2.1.2.1)) ?_
        refine ex_if_ne (tgt := 112) dX9_pass_93 (by decide) (fun c_93 => ?_) (fun c_93 => ?_)
        · exact hgo m2 h79 p2 (by unfold cl_day; rw [if_neg (fun z => c_93 z.1)]; exact r2) t2
        · refine ex_aload_n dX9_pass_96 rfl ?_
          refine ex_getfield (v := .int ((ca_n s1.2.2.1).2.1)) dX9_pass_97 g_X9_142 (mP_o p2) (congrArg (fun z => some (Value.int z)) (r2.2.1.2.1)) ?_
          refine ex_bipush (v := 10) dX9_pass_100 (by decide) ?_
          refine ex_irem dX9_pass_102 (by decide) ?_
          refine ex_bipush (v := 9) dX9_pass_103 (by decide) ?_
          refine ex_icmp_ne (tgt := 112) dX9_pass_105 (by decide) (fun c_105 => ?_) (fun c_105 => ?_)
          · exact hgo m2 h79 p2 (by unfold cl_day; rw [if_neg (fun z => c_105 z.2.2)]; exact r2) t2
          · exact hby ⟨c_93, fun z => bb_0.mp c_86 (r2.2.2.2.2.2.1.1.trans z), c_105⟩
  refine mm_viaJ (if ii d 1 400 then (if s.2.2.1.1 + d ≤ 20000 then 0 else 2) else 1) (pc' := 33) (ls' := [.ref 29, .int d, .null]) (st := [.ref 29]) ?_ (fun k => ?_)
  · skip
    refine ex_put dX9_pass_33 p_X9_120 (mP_o p) (Nat.le_of_ble_eq_true rfl) (fun z => nomatch z) (mm_fi _) ?_
    refine mk_0 p (fun h33 p33 => ?_)
    refine ex_iconst (v := 0) dX9_pass_36 (by decide) ?_
    refine ex_istore_n dX9_pass_37 (Nat.le_of_ble_eq_true rfl) ?_
    skip
    unfold cm_pass
    by_cases h1 : ii d 1 400
    · by_cases h2 : s.2.2.1.1 + d ≤ 20000
      · rw [if_pos h1, if_pos h2] at p33
        rw [if_pos h1, if_pos h2]
        obtain ⟨N, hN, rfl⟩ := nI_of (x := d) (fun z => Int32.not_lt.mpr h1.1 (Int32.lt_of_lt_of_le z (by decide)))
        rw [nI_clamp hN]
        exact key N hN s _ _ hi p33 r rfl
      · rw [if_pos h1, if_neg h2] at p33
        rw [if_pos h1, if_neg h2]
        by_cases h3 : d ≤ 0
        · skip
          refine ex_iload_n dX9_pass_38 rfl ?_
          refine ex_iload_n dX9_pass_39 rfl ?_
          refine ex_icmp_ge (tgt := 118) dX9_pass_40 (by decide) (fun _ => ?_) (fun z => absurd h3 z)
          refine ex_aload_n dX9_pass_118 rfl ?_
          refine ex_getfield (v := .int (2)) dX9_pass_119 g_X9_120 (mP_o p33) (congrArg (fun z => some (Value.int z)) (rfl)) ?_
          refine ex_if_le (tgt := 129) dX9_pass_122 (by decide) (fun z => absurd z (by decide)) (fun _ => ?_)
          refine ex_iconst (v := 0) dX9_pass_125 (by decide) ?_
          refine ex_goto (tgt := 133) dX9_pass_126 (by decide) ?_
          refine ex_ireturn dX9_pass_133 ⟨_, rfl, rfl⟩ ?_
          exact ⟨_, rfl, _, p33, r, ⟨Or.inr ⟨rfl, rfl⟩, _, rfl⟩⟩
        · skip
          refine ex_iload_n dX9_pass_38 rfl ?_
          refine ex_iload_n dX9_pass_39 rfl ?_
          refine ex_icmp_ge (tgt := 118) dX9_pass_40 (by decide) (fun z => absurd z h3) (fun _ => ?_)
          refine ex_aload_n dX9_pass_43 rfl ?_
          refine ex_getfield (v := .int (2)) dX9_pass_44 g_X9_120 (mP_o p33) (congrArg (fun z => some (Value.int z)) (rfl)) ?_
          refine ex_if_ne (tgt := 118) dX9_pass_47 (by decide) (fun _ => ?_) (fun z => absurd z (by decide))
          refine ex_aload_n dX9_pass_118 rfl ?_
          refine ex_getfield (v := .int (2)) dX9_pass_119 g_X9_120 (mP_o p33) (congrArg (fun z => some (Value.int z)) (rfl)) ?_
          refine ex_if_le (tgt := 129) dX9_pass_122 (by decide) (fun z => absurd z (by decide)) (fun _ => ?_)
          refine ex_iconst (v := 0) dX9_pass_125 (by decide) ?_
          refine ex_goto (tgt := 133) dX9_pass_126 (by decide) ?_
          refine ex_ireturn dX9_pass_133 ⟨_, rfl, rfl⟩ ?_
          exact ⟨_, rfl, _, p33, r, ⟨Or.inr ⟨rfl, rfl⟩, _, rfl⟩⟩
    · rw [if_neg h1] at p33
      rw [if_neg h1]
      by_cases h3 : d ≤ 0
      · skip
        refine ex_iload_n dX9_pass_38 rfl ?_
        refine ex_iload_n dX9_pass_39 rfl ?_
        refine ex_icmp_ge (tgt := 118) dX9_pass_40 (by decide) (fun _ => ?_) (fun z => absurd h3 z)
        refine ex_aload_n dX9_pass_118 rfl ?_
        refine ex_getfield (v := .int (1)) dX9_pass_119 g_X9_120 (mP_o p33) (congrArg (fun z => some (Value.int z)) (rfl)) ?_
        refine ex_if_le (tgt := 129) dX9_pass_122 (by decide) (fun z => absurd z (by decide)) (fun _ => ?_)
        refine ex_iconst (v := 0) dX9_pass_125 (by decide) ?_
        refine ex_goto (tgt := 133) dX9_pass_126 (by decide) ?_
        refine ex_ireturn dX9_pass_133 ⟨_, rfl, rfl⟩ ?_
        exact ⟨_, rfl, _, p33, r, ⟨Or.inl ⟨rfl, rfl⟩, _, rfl⟩⟩
      · skip
        refine ex_iload_n dX9_pass_38 rfl ?_
        refine ex_iload_n dX9_pass_39 rfl ?_
        refine ex_icmp_ge (tgt := 118) dX9_pass_40 (by decide) (fun z => absurd z h3) (fun _ => ?_)
        refine ex_aload_n dX9_pass_43 rfl ?_
        refine ex_getfield (v := .int (1)) dX9_pass_44 g_X9_120 (mP_o p33) (congrArg (fun z => some (Value.int z)) (rfl)) ?_
        refine ex_if_ne (tgt := 118) dX9_pass_47 (by decide) (fun _ => ?_) (fun z => absurd z (by decide))
        refine ex_aload_n dX9_pass_118 rfl ?_
        refine ex_getfield (v := .int (1)) dX9_pass_119 g_X9_120 (mP_o p33) (congrArg (fun z => some (Value.int z)) (rfl)) ?_
        refine ex_if_le (tgt := 129) dX9_pass_122 (by decide) (fun z => absurd z (by decide)) (fun _ => ?_)
        refine ex_iconst (v := 0) dX9_pass_125 (by decide) ?_
        refine ex_goto (tgt := 133) dX9_pass_126 (by decide) ?_
        refine ex_ireturn dX9_pass_133 ⟨_, rfl, rfl⟩ ?_
        exact ⟨_, rfl, _, p33, r, ⟨Or.inl ⟨rfl, rfl⟩, _, rfl⟩⟩
  · skip
    refine ex_aload_n dX9_pass_0 rfl ?_
    refine ex_iload_n dX9_pass_1 rfl ?_
    refine ex_iconst (v := 1) dX9_pass_2 (by decide) ?_
    refine ex_sipush (v := 400) dX9_pass_3 (by decide) ?_
    refine cS_f dX9_pass_6 (mm_ks i_X9_isIn l_X9_123) ⟨(Nat.le_of_ble_eq_true rfl), (Nat.le_of_ble_eq_true rfl)⟩ (c_X9_isIn _ _ _) rfl rfl (Nat.le_of_ble_eq_true rfl) rfl ?_
    refine ex_if_ne (tgt := 16) dX9_pass_9 (by decide) (fun c_9 => ?_) (fun c_9 => ?_)
    · refine ex_aload_n dX9_pass_16 rfl ?_
      refine ex_getfield (v := .int (s.2.2.1.1)) dX9_pass_17 g_X9_139 (mP_o p) (congrArg (fun z => some (Value.int z)) (r.2.1.1)) ?_
      refine ex_iload_n dX9_pass_20 rfl ?_
      refine ex_iadd dX9_pass_21 ?_
      refine ex_sipush (v := 20000) dX9_pass_22 (by decide) ?_
      refine ex_icmp_le (tgt := 32) dX9_pass_25 (by decide) (fun c_25 => ?_) (fun c_25 => ?_)
      · refine ex_iconst (v := 0) dX9_pass_32 (by decide) ?_
        exact k _ (by rw [if_pos (bb_n.mp c_9), if_pos c_25])
      · refine ex_iconst (v := 2) dX9_pass_28 (by decide) ?_
        refine ex_goto (tgt := 33) dX9_pass_29 (by decide) ?_
        exact k _ (by rw [if_pos (bb_n.mp c_9), if_neg c_25])
    · refine ex_iconst (v := 1) dX9_pass_12 (by decide) ?_
      refine ex_goto (tgt := 33) dX9_pass_13 (by decide) ?_
      exact k _ (by rw [if_neg (bb_0.mp c_9)])
end MOH
