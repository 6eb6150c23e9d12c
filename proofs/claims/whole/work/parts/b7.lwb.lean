/-! THE LAW: the wrappers -/
section LWB
variable {l : Launch} {G : mm_G} {h : mm_H} {s : cl_S} {c0 n0 : Nat} {f : Nat → Int64}
theorem ca_sound_1 : mm_Ca G mL_sound 7 cx_a 15 := mm_ca1 rfl rfl (by decide) lc_a lk_a
theorem ca_sound_2 : mm_Ca G mL_sound 7 cx_s 19 := mm_ca2 rfl (by decide) lc_a nc_sa rfl (by decide) lc_s lk_s
theorem c_L_sound (hP : cl_P h s.1 s.2 c0 n0) (hO : lw_O h f) (p0 p1 p2 : Int32) {x : cl_R × cl_S} (hc : mm_Ct l G mX8_sound [.ref 0, .int p0, .int p1, .int p2] h (cl_A x c0 n0 h)) (hx : ∀ R, R = x.1 → lw_xi cx_a cx_s R) : mm_Ct l G mL_sound [.ref 0, .int p0, .int p1, .int p2, .ref 65] h (lw_A cx_a cx_s x c0 n0 h) := by
  obtain ⟨R, s1⟩ := x
  replace hx := hx R rfl
  refine mm_ctH (by decide +kernel) (by decide +kernel) rfl (by decide) (by simp [Value.category]) (Nat.le_of_ble_eq_true rfl) rfl (fun E h' => by rintro ⟨k, f', z, -⟩; cases z) ?_
  refine ex_aload dL_sound_0 rfl ?_
  refine ex_iconst (v := 0) dL_sound_2 (by decide) ?_
  refine ex_aload_n dL_sound_3 rfl ?_
  refine ex_iload_n dL_sound_4 rfl ?_
  refine ex_iload_n dL_sound_5 rfl ?_
  refine ex_iload_n dL_sound_6 rfl ?_
  refine ex_callVH (by decide +kernel) dL_sound_7 (mm_kv i_X8_sound l_L_7) ⟨(Nat.le_of_ble_eq_true rfl), (Nat.le_of_ble_eq_true rfl)⟩ rfl (cP_ow hP) (Nat.le_of_ble_eq_true rfl) hc rfl (fun ov h1 q => ?_) (fun E h1 q => ?_)
  · obtain ⟨q1, q2, q3⟩ := q
    have hO1 : lw_O h1 f := (q3 65 (by decide) (by decide)).trans hO
    have hF : ∀ p, 29 ≤ p → p < 65 → h1.1 p = h.1 p := fun p a b => q3 p a (by omega)
    cases R with
    | inr e => cases q1
    | inl w =>
      cases w with
      | none => exact hx.elim
      | some v =>
        have e1 : ov = some (.int v) := by cases q1; rfl
        subst e1
        refine ex_i2l dL_sound_10 ?_
        refine ex_lastore dL_sound_11 hO1 (show vp_in (0 : Int32) 1 by unfold vp_in; decide) ?_
        refine ex_goto (tgt := 23) dL_sound_12 (by decide) ?_
        refine ex_iconst (v := 0) dL_sound_23 (by decide) ?_
        refine ex_ireturn dL_sound_24 ⟨_, rfl, rfl⟩ ?_
        exact ⟨0, _, rfl, ⟨rfl, lw_up⟩, mm_set_at, cP_65 q2 _, fun p a b => mm_set_ne (by omega) (hF p a b)⟩
  · obtain ⟨q1, q2, q3⟩ := q
    have hO1 : lw_O h1 f := (q3 65 (by decide) (by decide)).trans hO
    have hF : ∀ p, 29 ≤ p → p < 65 → h1.1 p = h.1 p := fun p a b => q3 p a (by omega)
    cases R with
    | inl w => cases w <;> cases q1
    | inr e =>
      have e1 : E = e := by cases q1; rfl
      subst e1
      rcases hx with rfl | rfl
      · skip
        refine ⟨15, ca_sound_1, ?_⟩
        refine ex_astore_x dL_sound_15 (Nat.le_of_ble_eq_true rfl) ?_
        refine ex_iconst (v := 1) dL_sound_17 (by decide) ?_
        refine ex_ireturn dL_sound_18 ⟨_, rfl, rfl⟩ ?_
        exact ⟨1, f, rfl, Or.inl ⟨rfl, rfl⟩, hO1, q2, hF⟩
      · skip
        refine ⟨19, ca_sound_2, ?_⟩
        refine ex_astore_x dL_sound_19 (Nat.le_of_ble_eq_true rfl) ?_
        refine ex_iconst (v := 2) dL_sound_21 (by decide) ?_
        refine ex_ireturn dL_sound_22 ⟨_, rfl, rfl⟩ ?_
        exact ⟨2, f, rfl, Or.inr ⟨rfl, rfl⟩, hO1, q2, hF⟩
theorem ca_wreck_1 : mm_Ca G mL_wreck 5 cx_a 20 := mm_ca1 rfl rfl (by decide) lc_a lk_a
theorem c_L_wreck (hP : cl_P h s.1 s.2 c0 n0) (hO : lw_O h f) (p0 p1 : Int32) {x : cl_R × cl_S} (hc : mm_Ct l G mX8_wreck [.ref 0, .int p0, .int p1] h (cl_A x c0 n0 h)) (hx : ∀ R, R = x.1 → lw_yb cx_a R) : mm_Ct l G mL_wreck [.ref 0, .int p0, .int p1, .ref 65] h (lw_A cx_a cx_s x c0 n0 h) := by
  obtain ⟨R, s1⟩ := x
  replace hx := hx R rfl
  refine mm_ctH (by decide +kernel) (by decide +kernel) rfl (by decide) (by simp [Value.category]) (Nat.le_of_ble_eq_true rfl) rfl (fun E h' => by rintro ⟨k, f', z, -⟩; cases z) ?_
  refine ex_aload_n dL_wreck_0 rfl ?_
  refine ex_iconst (v := 0) dL_wreck_1 (by decide) ?_
  refine ex_aload_n dL_wreck_2 rfl ?_
  refine ex_iload_n dL_wreck_3 rfl ?_
  refine ex_iload_n dL_wreck_4 rfl ?_
  refine ex_callVH (by decide +kernel) dL_wreck_5 (mm_kv i_X8_wreck l_L_17) ⟨(Nat.le_of_ble_eq_true rfl), (Nat.le_of_ble_eq_true rfl)⟩ rfl (cP_ow hP) (Nat.le_of_ble_eq_true rfl) hc rfl (fun ov h1 q => ?_) (fun E h1 q => ?_)
  · obtain ⟨q1, q2, q3⟩ := q
    have hO1 : lw_O h1 f := (q3 65 (by decide) (by decide)).trans hO
    have hF : ∀ p, 29 ≤ p → p < 65 → h1.1 p = h.1 p := fun p a b => q3 p a (by omega)
    cases R with
    | inr e => cases q1
    | inl w =>
      cases w with
      | none => exact hx.elim
      | some v =>
        have e1 : ov = some (.int v) := by cases q1; rfl
        subst e1
        rcases hx with rfl | rfl
        · skip
          refine ex_if_eq (tgt := 15) dL_wreck_8 (by decide) (fun _ => ?_) (fun z => absurd rfl z)
          refine ex_lconst (v := 0) dL_wreck_15 (by decide) ?_
          refine ex_lastore dL_wreck_16 hO1 (show vp_in (0 : Int32) 1 by unfold vp_in; decide) ?_
          refine ex_goto (tgt := 24) dL_wreck_17 (by decide) ?_
          refine ex_iconst (v := 0) dL_wreck_24 (by decide) ?_
          refine ex_ireturn dL_wreck_25 ⟨_, rfl, rfl⟩ ?_
          exact ⟨0, _, rfl, ⟨rfl, lw_up.trans (by decide)⟩, mm_set_at, cP_65 q2 _, fun p a b => mm_set_ne (by omega) (hF p a b)⟩
        · skip
          refine ex_if_eq (tgt := 15) dL_wreck_8 (by decide) (fun z => absurd z (by decide)) (fun _ => ?_)
          refine ex_lconst (v := 1) dL_wreck_11 (by decide) ?_
          refine ex_goto (tgt := 16) dL_wreck_12 (by decide) ?_
          refine ex_lastore dL_wreck_16 hO1 (show vp_in (0 : Int32) 1 by unfold vp_in; decide) ?_
          refine ex_goto (tgt := 24) dL_wreck_17 (by decide) ?_
          refine ex_iconst (v := 0) dL_wreck_24 (by decide) ?_
          refine ex_ireturn dL_wreck_25 ⟨_, rfl, rfl⟩ ?_
          exact ⟨0, _, rfl, ⟨rfl, lw_up.trans (by decide)⟩, mm_set_at, cP_65 q2 _, fun p a b => mm_set_ne (by omega) (hF p a b)⟩
  · obtain ⟨q1, q2, q3⟩ := q
    have hO1 : lw_O h1 f := (q3 65 (by decide) (by decide)).trans hO
    have hF : ∀ p, 29 ≤ p → p < 65 → h1.1 p = h.1 p := fun p a b => q3 p a (by omega)
    cases R with
    | inl w => cases w <;> cases q1
    | inr e =>
      have e1 : E = e := by cases q1; rfl
      subst e1
      obtain rfl : E = cx_a := hx
      refine ⟨20, ca_wreck_1, ?_⟩
      refine ex_astore_x dL_wreck_20 (Nat.le_of_ble_eq_true rfl) ?_
      refine ex_iconst (v := 1) dL_wreck_22 (by decide) ?_
      refine ex_ireturn dL_wreck_23 ⟨_, rfl, rfl⟩ ?_
      exact ⟨1, f, rfl, Or.inl ⟨rfl, rfl⟩, hO1, q2, hF⟩
theorem ca_crossing_1 : mm_Ca G mL_crossing 5 cx_a 13 := mm_ca1 rfl rfl (by decide) lc_a lk_a
theorem c_L_crossing (hP : cl_P h s.1 s.2 c0 n0) (hO : lw_O h f) (p0 p1 : Int32) {x : cl_R × cl_S} (hc : mm_Ct l G mX8_crossing [.ref 0, .int p0, .int p1] h (cl_A x c0 n0 h)) (hx : ∀ R, R = x.1 → lw_yi cx_a R) : mm_Ct l G mL_crossing [.ref 0, .int p0, .int p1, .ref 65] h (lw_A cx_a cx_s x c0 n0 h) := by
  obtain ⟨R, s1⟩ := x
  replace hx := hx R rfl
  refine mm_ctH (by decide +kernel) (by decide +kernel) rfl (by decide) (by simp [Value.category]) (Nat.le_of_ble_eq_true rfl) rfl (fun E h' => by rintro ⟨k, f', z, -⟩; cases z) ?_
  refine ex_aload_n dL_crossing_0 rfl ?_
  refine ex_iconst (v := 0) dL_crossing_1 (by decide) ?_
  refine ex_aload_n dL_crossing_2 rfl ?_
  refine ex_iload_n dL_crossing_3 rfl ?_
  refine ex_iload_n dL_crossing_4 rfl ?_
  refine ex_callVH (by decide +kernel) dL_crossing_5 (mm_kv i_X8_crossing l_L_21) ⟨(Nat.le_of_ble_eq_true rfl), (Nat.le_of_ble_eq_true rfl)⟩ rfl (cP_ow hP) (Nat.le_of_ble_eq_true rfl) hc rfl (fun ov h1 q => ?_) (fun E h1 q => ?_)
  · obtain ⟨q1, q2, q3⟩ := q
    have hO1 : lw_O h1 f := (q3 65 (by decide) (by decide)).trans hO
    have hF : ∀ p, 29 ≤ p → p < 65 → h1.1 p = h.1 p := fun p a b => q3 p a (by omega)
    cases R with
    | inr e => cases q1
    | inl w =>
      cases w with
      | none => exact hx.elim
      | some v =>
        have e1 : ov = some (.int v) := by cases q1; rfl
        subst e1
        refine ex_i2l dL_crossing_8 ?_
        refine ex_lastore dL_crossing_9 hO1 (show vp_in (0 : Int32) 1 by unfold vp_in; decide) ?_
        refine ex_goto (tgt := 17) dL_crossing_10 (by decide) ?_
        refine ex_iconst (v := 0) dL_crossing_17 (by decide) ?_
        refine ex_ireturn dL_crossing_18 ⟨_, rfl, rfl⟩ ?_
        exact ⟨0, _, rfl, ⟨rfl, lw_up⟩, mm_set_at, cP_65 q2 _, fun p a b => mm_set_ne (by omega) (hF p a b)⟩
  · obtain ⟨q1, q2, q3⟩ := q
    have hO1 : lw_O h1 f := (q3 65 (by decide) (by decide)).trans hO
    have hF : ∀ p, 29 ≤ p → p < 65 → h1.1 p = h.1 p := fun p a b => q3 p a (by omega)
    cases R with
    | inl w => cases w <;> cases q1
    | inr e =>
      have e1 : E = e := by cases q1; rfl
      subst e1
      obtain rfl : E = cx_a := hx
      refine ⟨13, ca_crossing_1, ?_⟩
      refine ex_astore_x dL_crossing_13 (Nat.le_of_ble_eq_true rfl) ?_
      refine ex_iconst (v := 1) dL_crossing_15 (by decide) ?_
      refine ex_ireturn dL_crossing_16 ⟨_, rfl, rfl⟩ ?_
      exact ⟨1, f, rfl, Or.inl ⟨rfl, rfl⟩, hO1, q2, hF⟩
theorem ca_weather_1 : mm_Ca G mL_weather 4 cx_a 12 := mm_ca1 rfl rfl (by decide) lc_a lk_a
theorem ca_weather_2 : mm_Ca G mL_weather 4 cx_s 15 := mm_ca2 rfl (by decide) lc_a nc_sa rfl (by decide) lc_s lk_s
theorem c_L_weather (hP : cl_P h s.1 s.2 c0 n0) (hO : lw_O h f) (p0 : Int32) {x : cl_R × cl_S} (hc : mm_Ct l G mX8_weather [.ref 0, .int p0] h (cl_A x c0 n0 h)) (hx : ∀ R, R = x.1 → lw_xi cx_a cx_s R) : mm_Ct l G mL_weather [.ref 0, .int p0, .ref 65] h (lw_A cx_a cx_s x c0 n0 h) := by
  obtain ⟨R, s1⟩ := x
  replace hx := hx R rfl
  refine mm_ctH (by decide +kernel) (by decide +kernel) rfl (by decide) (by simp [Value.category]) (Nat.le_of_ble_eq_true rfl) rfl (fun E h' => by rintro ⟨k, f', z, -⟩; cases z) ?_
  refine ex_aload_n dL_weather_0 rfl ?_
  refine ex_iconst (v := 0) dL_weather_1 (by decide) ?_
  refine ex_aload_n dL_weather_2 rfl ?_
  refine ex_iload_n dL_weather_3 rfl ?_
  refine ex_callVH (by decide +kernel) dL_weather_4 (mm_kv i_X8_weather l_L_25) ⟨(Nat.le_of_ble_eq_true rfl), (Nat.le_of_ble_eq_true rfl)⟩ rfl (cP_ow hP) (Nat.le_of_ble_eq_true rfl) hc rfl (fun ov h1 q => ?_) (fun E h1 q => ?_)
  · obtain ⟨q1, q2, q3⟩ := q
    have hO1 : lw_O h1 f := (q3 65 (by decide) (by decide)).trans hO
    have hF : ∀ p, 29 ≤ p → p < 65 → h1.1 p = h.1 p := fun p a b => q3 p a (by omega)
    cases R with
    | inr e => cases q1
    | inl w =>
      cases w with
      | none => exact hx.elim
      | some v =>
        have e1 : ov = some (.int v) := by cases q1; rfl
        subst e1
        refine ex_i2l dL_weather_7 ?_
        refine ex_lastore dL_weather_8 hO1 (show vp_in (0 : Int32) 1 by unfold vp_in; decide) ?_
        refine ex_goto (tgt := 18) dL_weather_9 (by decide) ?_
        refine ex_iconst (v := 0) dL_weather_18 (by decide) ?_
        refine ex_ireturn dL_weather_19 ⟨_, rfl, rfl⟩ ?_
        exact ⟨0, _, rfl, ⟨rfl, lw_up⟩, mm_set_at, cP_65 q2 _, fun p a b => mm_set_ne (by omega) (hF p a b)⟩
  · obtain ⟨q1, q2, q3⟩ := q
    have hO1 : lw_O h1 f := (q3 65 (by decide) (by decide)).trans hO
    have hF : ∀ p, 29 ≤ p → p < 65 → h1.1 p = h.1 p := fun p a b => q3 p a (by omega)
    cases R with
    | inl w => cases w <;> cases q1
    | inr e =>
      have e1 : E = e := by cases q1; rfl
      subst e1
      rcases hx with rfl | rfl
      · skip
        refine ⟨12, ca_weather_1, ?_⟩
        refine ex_astore_xn dL_weather_12 (Nat.le_of_ble_eq_true rfl) ?_
        refine ex_iconst (v := 1) dL_weather_13 (by decide) ?_
        refine ex_ireturn dL_weather_14 ⟨_, rfl, rfl⟩ ?_
        exact ⟨1, f, rfl, Or.inl ⟨rfl, rfl⟩, hO1, q2, hF⟩
      · skip
        refine ⟨15, ca_weather_2, ?_⟩
        refine ex_astore_xn dL_weather_15 (Nat.le_of_ble_eq_true rfl) ?_
        refine ex_iconst (v := 2) dL_weather_16 (by decide) ?_
        refine ex_ireturn dL_weather_17 ⟨_, rfl, rfl⟩ ?_
        exact ⟨2, f, rfl, Or.inr ⟨rfl, rfl⟩, hO1, q2, hF⟩
theorem ca_pass_1 : mm_Ca G mL_pass 4 cx_a 12 := mm_ca1 rfl rfl (by decide) lc_a lk_a
theorem ca_pass_2 : mm_Ca G mL_pass 4 cx_s 15 := mm_ca2 rfl (by decide) lc_a nc_sa rfl (by decide) lc_s lk_s
theorem c_L_pass (hP : cl_P h s.1 s.2 c0 n0) (hO : lw_O h f) (p0 : Int32) {x : cl_R × cl_S} (hc : mm_Ct l G mX8_pass [.ref 0, .int p0] h (cl_A x c0 n0 h)) (hx : ∀ R, R = x.1 → lw_xi cx_a cx_s R) : mm_Ct l G mL_pass [.ref 0, .int p0, .ref 65] h (lw_A cx_a cx_s x c0 n0 h) := by
  obtain ⟨R, s1⟩ := x
  replace hx := hx R rfl
  refine mm_ctH (by decide +kernel) (by decide +kernel) rfl (by decide) (by simp [Value.category]) (Nat.le_of_ble_eq_true rfl) rfl (fun E h' => by rintro ⟨k, f', z, -⟩; cases z) ?_
  refine ex_aload_n dL_pass_0 rfl ?_
  refine ex_iconst (v := 0) dL_pass_1 (by decide) ?_
  refine ex_aload_n dL_pass_2 rfl ?_
  refine ex_iload_n dL_pass_3 rfl ?_
  refine ex_callVH (by decide +kernel) dL_pass_4 (mm_kv i_X8_pass l_L_29) ⟨(Nat.le_of_ble_eq_true rfl), (Nat.le_of_ble_eq_true rfl)⟩ rfl (cP_ow hP) (Nat.le_of_ble_eq_true rfl) hc rfl (fun ov h1 q => ?_) (fun E h1 q => ?_)
  · obtain ⟨q1, q2, q3⟩ := q
    have hO1 : lw_O h1 f := (q3 65 (by decide) (by decide)).trans hO
    have hF : ∀ p, 29 ≤ p → p < 65 → h1.1 p = h.1 p := fun p a b => q3 p a (by omega)
    cases R with
    | inr e => cases q1
    | inl w =>
      cases w with
      | none => exact hx.elim
      | some v =>
        have e1 : ov = some (.int v) := by cases q1; rfl
        subst e1
        refine ex_i2l dL_pass_7 ?_
        refine ex_lastore dL_pass_8 hO1 (show vp_in (0 : Int32) 1 by unfold vp_in; decide) ?_
        refine ex_goto (tgt := 18) dL_pass_9 (by decide) ?_
        refine ex_iconst (v := 0) dL_pass_18 (by decide) ?_
        refine ex_ireturn dL_pass_19 ⟨_, rfl, rfl⟩ ?_
        exact ⟨0, _, rfl, ⟨rfl, lw_up⟩, mm_set_at, cP_65 q2 _, fun p a b => mm_set_ne (by omega) (hF p a b)⟩
  · obtain ⟨q1, q2, q3⟩ := q
    have hO1 : lw_O h1 f := (q3 65 (by decide) (by decide)).trans hO
    have hF : ∀ p, 29 ≤ p → p < 65 → h1.1 p = h.1 p := fun p a b => q3 p a (by omega)
    cases R with
    | inl w => cases w <;> cases q1
    | inr e =>
      have e1 : E = e := by cases q1; rfl
      subst e1
      rcases hx with rfl | rfl
      · skip
        refine ⟨12, ca_pass_1, ?_⟩
        refine ex_astore_xn dL_pass_12 (Nat.le_of_ble_eq_true rfl) ?_
        refine ex_iconst (v := 1) dL_pass_13 (by decide) ?_
        refine ex_ireturn dL_pass_14 ⟨_, rfl, rfl⟩ ?_
        exact ⟨1, f, rfl, Or.inl ⟨rfl, rfl⟩, hO1, q2, hF⟩
      · skip
        refine ⟨15, ca_pass_2, ?_⟩
        refine ex_astore_xn dL_pass_15 (Nat.le_of_ble_eq_true rfl) ?_
        refine ex_iconst (v := 2) dL_pass_16 (by decide) ?_
        refine ex_ireturn dL_pass_17 ⟨_, rfl, rfl⟩ ?_
        exact ⟨2, f, rfl, Or.inr ⟨rfl, rfl⟩, hO1, q2, hF⟩
theorem ca_make_1 : mm_Ca G mL_make 7 cx_a 15 := mm_ca1 rfl rfl (by decide) lc_a lk_a
theorem ca_make_2 : mm_Ca G mL_make 7 cx_s 19 := mm_ca2 rfl (by decide) lc_a nc_sa rfl (by decide) lc_s lk_s
theorem c_L_make (hP : cl_P h s.1 s.2 c0 n0) (hO : lw_O h f) (p0 p1 p2 : Int32) {x : cl_R × cl_S} (hc : mm_Ct l G mX8_make [.ref 0, .int p0, .int p1, .int p2] h (cl_A x c0 n0 h)) (hx : ∀ R, R = x.1 → lw_xi cx_a cx_s R) : mm_Ct l G mL_make [.ref 0, .int p0, .int p1, .int p2, .ref 65] h (lw_A cx_a cx_s x c0 n0 h) := by
  obtain ⟨R, s1⟩ := x
  replace hx := hx R rfl
  refine mm_ctH (by decide +kernel) (by decide +kernel) rfl (by decide) (by simp [Value.category]) (Nat.le_of_ble_eq_true rfl) rfl (fun E h' => by rintro ⟨k, f', z, -⟩; cases z) ?_
  refine ex_aload dL_make_0 rfl ?_
  refine ex_iconst (v := 0) dL_make_2 (by decide) ?_
  refine ex_aload_n dL_make_3 rfl ?_
  refine ex_iload_n dL_make_4 rfl ?_
  refine ex_iload_n dL_make_5 rfl ?_
  refine ex_iload_n dL_make_6 rfl ?_
  refine ex_callVH (by decide +kernel) dL_make_7 (mm_kv i_X8_make l_L_32) ⟨(Nat.le_of_ble_eq_true rfl), (Nat.le_of_ble_eq_true rfl)⟩ rfl (cP_ow hP) (Nat.le_of_ble_eq_true rfl) hc rfl (fun ov h1 q => ?_) (fun E h1 q => ?_)
  · obtain ⟨q1, q2, q3⟩ := q
    have hO1 : lw_O h1 f := (q3 65 (by decide) (by decide)).trans hO
    have hF : ∀ p, 29 ≤ p → p < 65 → h1.1 p = h.1 p := fun p a b => q3 p a (by omega)
    cases R with
    | inr e => cases q1
    | inl w =>
      cases w with
      | none => exact hx.elim
      | some v =>
        have e1 : ov = some (.int v) := by cases q1; rfl
        subst e1
        refine ex_i2l dL_make_10 ?_
        refine ex_lastore dL_make_11 hO1 (show vp_in (0 : Int32) 1 by unfold vp_in; decide) ?_
        refine ex_goto (tgt := 23) dL_make_12 (by decide) ?_
        refine ex_iconst (v := 0) dL_make_23 (by decide) ?_
        refine ex_ireturn dL_make_24 ⟨_, rfl, rfl⟩ ?_
        exact ⟨0, _, rfl, ⟨rfl, lw_up⟩, mm_set_at, cP_65 q2 _, fun p a b => mm_set_ne (by omega) (hF p a b)⟩
  · obtain ⟨q1, q2, q3⟩ := q
    have hO1 : lw_O h1 f := (q3 65 (by decide) (by decide)).trans hO
    have hF : ∀ p, 29 ≤ p → p < 65 → h1.1 p = h.1 p := fun p a b => q3 p a (by omega)
    cases R with
    | inl w => cases w <;> cases q1
    | inr e =>
      have e1 : E = e := by cases q1; rfl
      subst e1
      rcases hx with rfl | rfl
      · skip
        refine ⟨15, ca_make_1, ?_⟩
        refine ex_astore_x dL_make_15 (Nat.le_of_ble_eq_true rfl) ?_
        refine ex_iconst (v := 1) dL_make_17 (by decide) ?_
        refine ex_ireturn dL_make_18 ⟨_, rfl, rfl⟩ ?_
        exact ⟨1, f, rfl, Or.inl ⟨rfl, rfl⟩, hO1, q2, hF⟩
      · skip
        refine ⟨19, ca_make_2, ?_⟩
        refine ex_astore_x dL_make_19 (Nat.le_of_ble_eq_true rfl) ?_
        refine ex_iconst (v := 2) dL_make_21 (by decide) ?_
        refine ex_ireturn dL_make_22 ⟨_, rfl, rfl⟩ ?_
        exact ⟨2, f, rfl, Or.inr ⟨rfl, rfl⟩, hO1, q2, hF⟩
theorem ca_lay_1 : mm_Ca G mL_lay 7 cx_a 15 := mm_ca1 rfl rfl (by decide) lc_a lk_a
theorem ca_lay_2 : mm_Ca G mL_lay 7 cx_s 19 := mm_ca2 rfl (by decide) lc_a nc_sa rfl (by decide) lc_s lk_s
theorem c_L_lay (hP : cl_P h s.1 s.2 c0 n0) (hO : lw_O h f) (p0 p1 p2 : Int32) {x : cl_R × cl_S} (hc : mm_Ct l G mX8_lay [.ref 0, .int p0, .int p1, .int p2] h (cl_A x c0 n0 h)) (hx : ∀ R, R = x.1 → lw_xi cx_a cx_s R) : mm_Ct l G mL_lay [.ref 0, .int p0, .int p1, .int p2, .ref 65] h (lw_A cx_a cx_s x c0 n0 h) := by
  obtain ⟨R, s1⟩ := x
  replace hx := hx R rfl
  refine mm_ctH (by decide +kernel) (by decide +kernel) rfl (by decide) (by simp [Value.category]) (Nat.le_of_ble_eq_true rfl) rfl (fun E h' => by rintro ⟨k, f', z, -⟩; cases z) ?_
  refine ex_aload dL_lay_0 rfl ?_
  refine ex_iconst (v := 0) dL_lay_2 (by decide) ?_
  refine ex_aload_n dL_lay_3 rfl ?_
  refine ex_iload_n dL_lay_4 rfl ?_
  refine ex_iload_n dL_lay_5 rfl ?_
  refine ex_iload_n dL_lay_6 rfl ?_
  refine ex_callVH (by decide +kernel) dL_lay_7 (mm_kv i_X8_lay l_L_35) ⟨(Nat.le_of_ble_eq_true rfl), (Nat.le_of_ble_eq_true rfl)⟩ rfl (cP_ow hP) (Nat.le_of_ble_eq_true rfl) hc rfl (fun ov h1 q => ?_) (fun E h1 q => ?_)
  · obtain ⟨q1, q2, q3⟩ := q
    have hO1 : lw_O h1 f := (q3 65 (by decide) (by decide)).trans hO
    have hF : ∀ p, 29 ≤ p → p < 65 → h1.1 p = h.1 p := fun p a b => q3 p a (by omega)
    cases R with
    | inr e => cases q1
    | inl w =>
      cases w with
      | none => exact hx.elim
      | some v =>
        have e1 : ov = some (.int v) := by cases q1; rfl
        subst e1
        refine ex_i2l dL_lay_10 ?_
        refine ex_lastore dL_lay_11 hO1 (show vp_in (0 : Int32) 1 by unfold vp_in; decide) ?_
        refine ex_goto (tgt := 23) dL_lay_12 (by decide) ?_
        refine ex_iconst (v := 0) dL_lay_23 (by decide) ?_
        refine ex_ireturn dL_lay_24 ⟨_, rfl, rfl⟩ ?_
        exact ⟨0, _, rfl, ⟨rfl, lw_up⟩, mm_set_at, cP_65 q2 _, fun p a b => mm_set_ne (by omega) (hF p a b)⟩
  · obtain ⟨q1, q2, q3⟩ := q
    have hO1 : lw_O h1 f := (q3 65 (by decide) (by decide)).trans hO
    have hF : ∀ p, 29 ≤ p → p < 65 → h1.1 p = h.1 p := fun p a b => q3 p a (by omega)
    cases R with
    | inl w => cases w <;> cases q1
    | inr e =>
      have e1 : E = e := by cases q1; rfl
      subst e1
      rcases hx with rfl | rfl
      · skip
        refine ⟨15, ca_lay_1, ?_⟩
        refine ex_astore_x dL_lay_15 (Nat.le_of_ble_eq_true rfl) ?_
        refine ex_iconst (v := 1) dL_lay_17 (by decide) ?_
        refine ex_ireturn dL_lay_18 ⟨_, rfl, rfl⟩ ?_
        exact ⟨1, f, rfl, Or.inl ⟨rfl, rfl⟩, hO1, q2, hF⟩
      · skip
        refine ⟨19, ca_lay_2, ?_⟩
        refine ex_astore_x dL_lay_19 (Nat.le_of_ble_eq_true rfl) ?_
        refine ex_iconst (v := 2) dL_lay_21 (by decide) ?_
        refine ex_ireturn dL_lay_22 ⟨_, rfl, rfl⟩ ?_
        exact ⟨2, f, rfl, Or.inr ⟨rfl, rfl⟩, hO1, q2, hF⟩
theorem ca_repeater_1 : mm_Ca G mL_repeater 3 cx_s 11 := mm_ca1 rfl rfl (by decide) lc_s lk_s
theorem c_L_repeater (hP : cl_P h s.1 s.2 c0 n0) (hO : lw_O h f) {x : cl_R × cl_S} (hc : mm_Ct l G mX8_repeater [.ref 0] h (cl_A x c0 n0 h)) (hx : ∀ R, R = x.1 → lw_yi cx_s R) : mm_Ct l G mL_repeater [.ref 0, .ref 65] h (lw_A cx_s cx_a x c0 n0 h) := by
  obtain ⟨R, s1⟩ := x
  replace hx := hx R rfl
  refine mm_ctH (by decide +kernel) (by decide +kernel) rfl (by decide) (by simp [Value.category]) (Nat.le_of_ble_eq_true rfl) rfl (fun E h' => by rintro ⟨k, f', z, -⟩; cases z) ?_
  refine ex_aload_n dL_repeater_0 rfl ?_
  refine ex_iconst (v := 0) dL_repeater_1 (by decide) ?_
  refine ex_aload_n dL_repeater_2 rfl ?_
  refine ex_callVH (by decide +kernel) dL_repeater_3 (mm_kv i_X8_repeater l_L_38) ⟨(Nat.le_of_ble_eq_true rfl), (Nat.le_of_ble_eq_true rfl)⟩ rfl (cP_ow hP) (Nat.le_of_ble_eq_true rfl) hc rfl (fun ov h1 q => ?_) (fun E h1 q => ?_)
  · obtain ⟨q1, q2, q3⟩ := q
    have hO1 : lw_O h1 f := (q3 65 (by decide) (by decide)).trans hO
    have hF : ∀ p, 29 ≤ p → p < 65 → h1.1 p = h.1 p := fun p a b => q3 p a (by omega)
    cases R with
    | inr e => cases q1
    | inl w =>
      cases w with
      | none => exact hx.elim
      | some v =>
        have e1 : ov = some (.int v) := by cases q1; rfl
        subst e1
        refine ex_i2l dL_repeater_6 ?_
        refine ex_lastore dL_repeater_7 hO1 (show vp_in (0 : Int32) 1 by unfold vp_in; decide) ?_
        refine ex_goto (tgt := 14) dL_repeater_8 (by decide) ?_
        refine ex_iconst (v := 0) dL_repeater_14 (by decide) ?_
        refine ex_ireturn dL_repeater_15 ⟨_, rfl, rfl⟩ ?_
        exact ⟨0, _, rfl, ⟨rfl, lw_up⟩, mm_set_at, cP_65 q2 _, fun p a b => mm_set_ne (by omega) (hF p a b)⟩
  · obtain ⟨q1, q2, q3⟩ := q
    have hO1 : lw_O h1 f := (q3 65 (by decide) (by decide)).trans hO
    have hF : ∀ p, 29 ≤ p → p < 65 → h1.1 p = h.1 p := fun p a b => q3 p a (by omega)
    cases R with
    | inl w => cases w <;> cases q1
    | inr e =>
      have e1 : E = e := by cases q1; rfl
      subst e1
      obtain rfl : E = cx_s := hx
      refine ⟨11, ca_repeater_1, ?_⟩
      refine ex_astore_xn dL_repeater_11 (Nat.le_of_ble_eq_true rfl) ?_
      refine ex_iconst (v := 1) dL_repeater_12 (by decide) ?_
      refine ex_ireturn dL_repeater_13 ⟨_, rfl, rfl⟩ ?_
      exact ⟨1, f, rfl, Or.inl ⟨rfl, rfl⟩, hO1, q2, hF⟩
theorem ca_takeUp_1 : mm_Ca G mL_takeUp 4 cx_a 12 := mm_ca1 rfl rfl (by decide) lc_a lk_a
theorem ca_takeUp_2 : mm_Ca G mL_takeUp 4 cx_s 15 := mm_ca2 rfl (by decide) lc_a nc_sa rfl (by decide) lc_s lk_s
theorem c_L_takeUp (hP : cl_P h s.1 s.2 c0 n0) (hO : lw_O h f) (p0 : Int32) {x : cl_R × cl_S} (hc : mm_Ct l G mX8_takeUp [.ref 0, .int p0] h (cl_A x c0 n0 h)) (hx : ∀ R, R = x.1 → lw_xi cx_a cx_s R) : mm_Ct l G mL_takeUp [.ref 0, .int p0, .ref 65] h (lw_A cx_a cx_s x c0 n0 h) := by
  obtain ⟨R, s1⟩ := x
  replace hx := hx R rfl
  refine mm_ctH (by decide +kernel) (by decide +kernel) rfl (by decide) (by simp [Value.category]) (Nat.le_of_ble_eq_true rfl) rfl (fun E h' => by rintro ⟨k, f', z, -⟩; cases z) ?_
  refine ex_aload_n dL_takeUp_0 rfl ?_
  refine ex_iconst (v := 0) dL_takeUp_1 (by decide) ?_
  refine ex_aload_n dL_takeUp_2 rfl ?_
  refine ex_iload_n dL_takeUp_3 rfl ?_
  refine ex_callVH (by decide +kernel) dL_takeUp_4 (mm_kv i_X8_takeUp l_L_42) ⟨(Nat.le_of_ble_eq_true rfl), (Nat.le_of_ble_eq_true rfl)⟩ rfl (cP_ow hP) (Nat.le_of_ble_eq_true rfl) hc rfl (fun ov h1 q => ?_) (fun E h1 q => ?_)
  · obtain ⟨q1, q2, q3⟩ := q
    have hO1 : lw_O h1 f := (q3 65 (by decide) (by decide)).trans hO
    have hF : ∀ p, 29 ≤ p → p < 65 → h1.1 p = h.1 p := fun p a b => q3 p a (by omega)
    cases R with
    | inr e => cases q1
    | inl w =>
      cases w with
      | none => exact hx.elim
      | some v =>
        have e1 : ov = some (.int v) := by cases q1; rfl
        subst e1
        refine ex_i2l dL_takeUp_7 ?_
        refine ex_lastore dL_takeUp_8 hO1 (show vp_in (0 : Int32) 1 by unfold vp_in; decide) ?_
        refine ex_goto (tgt := 18) dL_takeUp_9 (by decide) ?_
        refine ex_iconst (v := 0) dL_takeUp_18 (by decide) ?_
        refine ex_ireturn dL_takeUp_19 ⟨_, rfl, rfl⟩ ?_
        exact ⟨0, _, rfl, ⟨rfl, lw_up⟩, mm_set_at, cP_65 q2 _, fun p a b => mm_set_ne (by omega) (hF p a b)⟩
  · obtain ⟨q1, q2, q3⟩ := q
    have hO1 : lw_O h1 f := (q3 65 (by decide) (by decide)).trans hO
    have hF : ∀ p, 29 ≤ p → p < 65 → h1.1 p = h.1 p := fun p a b => q3 p a (by omega)
    cases R with
    | inl w => cases w <;> cases q1
    | inr e =>
      have e1 : E = e := by cases q1; rfl
      subst e1
      rcases hx with rfl | rfl
      · skip
        refine ⟨12, ca_takeUp_1, ?_⟩
        refine ex_astore_xn dL_takeUp_12 (Nat.le_of_ble_eq_true rfl) ?_
        refine ex_iconst (v := 1) dL_takeUp_13 (by decide) ?_
        refine ex_ireturn dL_takeUp_14 ⟨_, rfl, rfl⟩ ?_
        exact ⟨1, f, rfl, Or.inl ⟨rfl, rfl⟩, hO1, q2, hF⟩
      · skip
        refine ⟨15, ca_takeUp_2, ?_⟩
        refine ex_astore_xn dL_takeUp_15 (Nat.le_of_ble_eq_true rfl) ?_
        refine ex_iconst (v := 2) dL_takeUp_16 (by decide) ?_
        refine ex_ireturn dL_takeUp_17 ⟨_, rfl, rfl⟩ ?_
        exact ⟨2, f, rfl, Or.inr ⟨rfl, rfl⟩, hO1, q2, hF⟩
theorem ca_feed_1 : mm_Ca G mL_feed 3 cx_a 9 := mm_ca1 rfl rfl (by decide) lc_a lk_a
theorem c_L_feed (hP : cl_P h s.1 s.2 c0 n0) (hO : lw_O h f) (p0 p1 : Int32) {x : cl_R × cl_S} (hc : mm_Ct l G mX8_feed [.ref 0, .int p0, .int p1] h (cl_A x c0 n0 h)) (hx : ∀ R, R = x.1 → lw_yv cx_a R) : mm_Ct l G mL_feed [.ref 0, .int p0, .int p1] h (lw_A cx_a cx_s x c0 n0 h) := by
  obtain ⟨R, s1⟩ := x
  replace hx := hx R rfl
  refine mm_ctH (by decide +kernel) (by decide +kernel) rfl (by decide) (by simp [Value.category]) (Nat.le_of_ble_eq_true rfl) rfl (fun E h' => by rintro ⟨k, f', z, -⟩; cases z) ?_
  refine ex_aload_n dL_feed_0 rfl ?_
  refine ex_iload_n dL_feed_1 rfl ?_
  refine ex_iload_n dL_feed_2 rfl ?_
  refine ex_callVH (by decide +kernel) dL_feed_3 (mm_kv i_X8_feed l_L_45) ⟨(Nat.le_of_ble_eq_true rfl), (Nat.le_of_ble_eq_true rfl)⟩ rfl (cP_ow hP) (Nat.le_of_ble_eq_true rfl) hc rfl (fun ov h1 q => ?_) (fun E h1 q => ?_)
  · obtain ⟨q1, q2, q3⟩ := q
    have hO1 : lw_O h1 f := (q3 65 (by decide) (by decide)).trans hO
    have hF : ∀ p, 29 ≤ p → p < 65 → h1.1 p = h.1 p := fun p a b => q3 p a (by omega)
    cases R with
    | inr e => cases q1
    | inl w =>
      cases w with
      | some v => exact hx.elim
      | none =>
        have e1 : ov = none := by cases q1; rfl
        subst e1
        refine ex_goto (tgt := 12) dL_feed_6 (by decide) ?_
        refine ex_iconst (v := 0) dL_feed_12 (by decide) ?_
        refine ex_ireturn dL_feed_13 ⟨_, rfl, rfl⟩ ?_
        exact ⟨0, f, rfl, rfl, hO1, q2, hF⟩
  · obtain ⟨q1, q2, q3⟩ := q
    have hO1 : lw_O h1 f := (q3 65 (by decide) (by decide)).trans hO
    have hF : ∀ p, 29 ≤ p → p < 65 → h1.1 p = h.1 p := fun p a b => q3 p a (by omega)
    cases R with
    | inl w => cases w <;> cases q1
    | inr e =>
      have e1 : E = e := by cases q1; rfl
      subst e1
      obtain rfl : E = cx_a := hx
      refine ⟨9, ca_feed_1, ?_⟩
      refine ex_astore_xn dL_feed_9 (Nat.le_of_ble_eq_true rfl) ?_
      refine ex_iconst (v := 1) dL_feed_10 (by decide) ?_
      refine ex_ireturn dL_feed_11 ⟨_, rfl, rfl⟩ ?_
      exact ⟨1, f, rfl, Or.inl ⟨rfl, rfl⟩, hO1, q2, hF⟩
theorem ca_fault_1 : mm_Ca G mL_fault 5 cx_a 13 := mm_ca1 rfl rfl (by decide) lc_a lk_a
theorem ca_fault_2 : mm_Ca G mL_fault 5 cx_s 17 := mm_ca2 rfl (by decide) lc_a nc_sa rfl (by decide) lc_s lk_s
theorem c_L_fault (hP : cl_P h s.1 s.2 c0 n0) (hO : lw_O h f) (p0 p1 : Int32) {x : cl_R × cl_S} (hc : mm_Ct l G mX8_fault [.ref 0, .int p0, .int p1] h (cl_A x c0 n0 h)) (hx : ∀ R, R = x.1 → lw_xi cx_a cx_s R) : mm_Ct l G mL_fault [.ref 0, .int p0, .int p1, .ref 65] h (lw_A cx_a cx_s x c0 n0 h) := by
  obtain ⟨R, s1⟩ := x
  replace hx := hx R rfl
  refine mm_ctH (by decide +kernel) (by decide +kernel) rfl (by decide) (by simp [Value.category]) (Nat.le_of_ble_eq_true rfl) rfl (fun E h' => by rintro ⟨k, f', z, -⟩; cases z) ?_
  refine ex_aload_n dL_fault_0 rfl ?_
  refine ex_iconst (v := 0) dL_fault_1 (by decide) ?_
  refine ex_aload_n dL_fault_2 rfl ?_
  refine ex_iload_n dL_fault_3 rfl ?_
  refine ex_iload_n dL_fault_4 rfl ?_
  refine ex_callVH (by decide +kernel) dL_fault_5 (mm_kv i_X8_fault l_L_49) ⟨(Nat.le_of_ble_eq_true rfl), (Nat.le_of_ble_eq_true rfl)⟩ rfl (cP_ow hP) (Nat.le_of_ble_eq_true rfl) hc rfl (fun ov h1 q => ?_) (fun E h1 q => ?_)
  · obtain ⟨q1, q2, q3⟩ := q
    have hO1 : lw_O h1 f := (q3 65 (by decide) (by decide)).trans hO
    have hF : ∀ p, 29 ≤ p → p < 65 → h1.1 p = h.1 p := fun p a b => q3 p a (by omega)
    cases R with
    | inr e => cases q1
    | inl w =>
      cases w with
      | none => exact hx.elim
      | some v =>
        have e1 : ov = some (.int v) := by cases q1; rfl
        subst e1
        refine ex_i2l dL_fault_8 ?_
        refine ex_lastore dL_fault_9 hO1 (show vp_in (0 : Int32) 1 by unfold vp_in; decide) ?_
        refine ex_goto (tgt := 21) dL_fault_10 (by decide) ?_
        refine ex_iconst (v := 0) dL_fault_21 (by decide) ?_
        refine ex_ireturn dL_fault_22 ⟨_, rfl, rfl⟩ ?_
        exact ⟨0, _, rfl, ⟨rfl, lw_up⟩, mm_set_at, cP_65 q2 _, fun p a b => mm_set_ne (by omega) (hF p a b)⟩
  · obtain ⟨q1, q2, q3⟩ := q
    have hO1 : lw_O h1 f := (q3 65 (by decide) (by decide)).trans hO
    have hF : ∀ p, 29 ≤ p → p < 65 → h1.1 p = h.1 p := fun p a b => q3 p a (by omega)
    cases R with
    | inl w => cases w <;> cases q1
    | inr e =>
      have e1 : E = e := by cases q1; rfl
      subst e1
      rcases hx with rfl | rfl
      · skip
        refine ⟨13, ca_fault_1, ?_⟩
        refine ex_astore_x dL_fault_13 (Nat.le_of_ble_eq_true rfl) ?_
        refine ex_iconst (v := 1) dL_fault_15 (by decide) ?_
        refine ex_ireturn dL_fault_16 ⟨_, rfl, rfl⟩ ?_
        exact ⟨1, f, rfl, Or.inl ⟨rfl, rfl⟩, hO1, q2, hF⟩
      · skip
        refine ⟨17, ca_fault_2, ?_⟩
        refine ex_astore_x dL_fault_17 (Nat.le_of_ble_eq_true rfl) ?_
        refine ex_iconst (v := 2) dL_fault_19 (by decide) ?_
        refine ex_ireturn dL_fault_20 ⟨_, rfl, rfl⟩ ?_
        exact ⟨2, f, rfl, Or.inr ⟨rfl, rfl⟩, hO1, q2, hF⟩
theorem ca_net_1 : mm_Ca G mL_net 4 cx_a 19 := mm_ca1 rfl rfl (by decide) lc_a lk_a
theorem ca_net_2 : mm_Ca G mL_net 4 cx_s 22 := mm_ca2 rfl (by decide) lc_a nc_sa rfl (by decide) lc_s lk_s
theorem c_L_net (hP : cl_P h s.1 s.2 c0 n0) (hO : lw_O h f) (p0 : Int32) {x : cl_R × cl_S} (hc : mm_Ct l G mX8_net [.ref 0, .int p0] h (cl_A x c0 n0 h)) (hx : ∀ R, R = x.1 → lw_xb cx_a cx_s R) : mm_Ct l G mL_net [.ref 0, .int p0, .ref 65] h (lw_A cx_a cx_s x c0 n0 h) := by
  obtain ⟨R, s1⟩ := x
  replace hx := hx R rfl
  refine mm_ctH (by decide +kernel) (by decide +kernel) rfl (by decide) (by simp [Value.category]) (Nat.le_of_ble_eq_true rfl) rfl (fun E h' => by rintro ⟨k, f', z, -⟩; cases z) ?_
  refine ex_aload_n dL_net_0 rfl ?_
  refine ex_iconst (v := 0) dL_net_1 (by decide) ?_
  refine ex_aload_n dL_net_2 rfl ?_
  refine ex_iload_n dL_net_3 rfl ?_
  refine ex_callVH (by decide +kernel) dL_net_4 (mm_kv i_X8_net l_L_52) ⟨(Nat.le_of_ble_eq_true rfl), (Nat.le_of_ble_eq_true rfl)⟩ rfl (cP_ow hP) (Nat.le_of_ble_eq_true rfl) hc rfl (fun ov h1 q => ?_) (fun E h1 q => ?_)
  · obtain ⟨q1, q2, q3⟩ := q
    have hO1 : lw_O h1 f := (q3 65 (by decide) (by decide)).trans hO
    have hF : ∀ p, 29 ≤ p → p < 65 → h1.1 p = h.1 p := fun p a b => q3 p a (by omega)
    cases R with
    | inr e => cases q1
    | inl w =>
      cases w with
      | none => exact hx.elim
      | some v =>
        have e1 : ov = some (.int v) := by cases q1; rfl
        subst e1
        rcases hx with rfl | rfl
        · skip
          refine ex_if_eq (tgt := 14) dL_net_7 (by decide) (fun _ => ?_) (fun z => absurd rfl z)
          refine ex_lconst (v := 0) dL_net_14 (by decide) ?_
          refine ex_lastore dL_net_15 hO1 (show vp_in (0 : Int32) 1 by unfold vp_in; decide) ?_
          refine ex_goto (tgt := 25) dL_net_16 (by decide) ?_
          refine ex_iconst (v := 0) dL_net_25 (by decide) ?_
          refine ex_ireturn dL_net_26 ⟨_, rfl, rfl⟩ ?_
          exact ⟨0, _, rfl, ⟨rfl, lw_up.trans (by decide)⟩, mm_set_at, cP_65 q2 _, fun p a b => mm_set_ne (by omega) (hF p a b)⟩
        · skip
          refine ex_if_eq (tgt := 14) dL_net_7 (by decide) (fun z => absurd z (by decide)) (fun _ => ?_)
          refine ex_lconst (v := 1) dL_net_10 (by decide) ?_
          refine ex_goto (tgt := 15) dL_net_11 (by decide) ?_
          refine ex_lastore dL_net_15 hO1 (show vp_in (0 : Int32) 1 by unfold vp_in; decide) ?_
          refine ex_goto (tgt := 25) dL_net_16 (by decide) ?_
          refine ex_iconst (v := 0) dL_net_25 (by decide) ?_
          refine ex_ireturn dL_net_26 ⟨_, rfl, rfl⟩ ?_
          exact ⟨0, _, rfl, ⟨rfl, lw_up.trans (by decide)⟩, mm_set_at, cP_65 q2 _, fun p a b => mm_set_ne (by omega) (hF p a b)⟩
  · obtain ⟨q1, q2, q3⟩ := q
    have hO1 : lw_O h1 f := (q3 65 (by decide) (by decide)).trans hO
    have hF : ∀ p, 29 ≤ p → p < 65 → h1.1 p = h.1 p := fun p a b => q3 p a (by omega)
    cases R with
    | inl w => cases w <;> cases q1
    | inr e =>
      have e1 : E = e := by cases q1; rfl
      subst e1
      rcases hx with rfl | rfl
      · skip
        refine ⟨19, ca_net_1, ?_⟩
        refine ex_astore_xn dL_net_19 (Nat.le_of_ble_eq_true rfl) ?_
        refine ex_iconst (v := 1) dL_net_20 (by decide) ?_
        refine ex_ireturn dL_net_21 ⟨_, rfl, rfl⟩ ?_
        exact ⟨1, f, rfl, Or.inl ⟨rfl, rfl⟩, hO1, q2, hF⟩
      · skip
        refine ⟨22, ca_net_2, ?_⟩
        refine ex_astore_xn dL_net_22 (Nat.le_of_ble_eq_true rfl) ?_
        refine ex_iconst (v := 2) dL_net_23 (by decide) ?_
        refine ex_ireturn dL_net_24 ⟨_, rfl, rfl⟩ ?_
        exact ⟨2, f, rfl, Or.inr ⟨rfl, rfl⟩, hO1, q2, hF⟩
theorem ca_measure_1 : mm_Ca G mL_measure 7 cx_a 15 := mm_ca1 rfl rfl (by decide) lc_a lk_a
theorem ca_measure_2 : mm_Ca G mL_measure 7 cx_s 19 := mm_ca2 rfl (by decide) lc_a nc_sa rfl (by decide) lc_s lk_s
theorem c_L_measure (hP : cl_P h s.1 s.2 c0 n0) (hO : lw_O h f) (p0 p1 p2 : Int32) {x : cl_R × cl_S} (hc : mm_Ct l G mX8_measure [.ref 0, .int p0, .int p1, .int p2] h (cl_A x c0 n0 h)) (hx : ∀ R, R = x.1 → lw_xi cx_a cx_s R) : mm_Ct l G mL_measure [.ref 0, .int p0, .int p1, .int p2, .ref 65] h (lw_A cx_a cx_s x c0 n0 h) := by
  obtain ⟨R, s1⟩ := x
  replace hx := hx R rfl
  refine mm_ctH (by decide +kernel) (by decide +kernel) rfl (by decide) (by simp [Value.category]) (Nat.le_of_ble_eq_true rfl) rfl (fun E h' => by rintro ⟨k, f', z, -⟩; cases z) ?_
  refine ex_aload dL_measure_0 rfl ?_
  refine ex_iconst (v := 0) dL_measure_2 (by decide) ?_
  refine ex_aload_n dL_measure_3 rfl ?_
  refine ex_iload_n dL_measure_4 rfl ?_
  refine ex_iload_n dL_measure_5 rfl ?_
  refine ex_iload_n dL_measure_6 rfl ?_
  refine ex_callVH (by decide +kernel) dL_measure_7 (mm_kv i_X8_measure l_L_56) ⟨(Nat.le_of_ble_eq_true rfl), (Nat.le_of_ble_eq_true rfl)⟩ rfl (cP_ow hP) (Nat.le_of_ble_eq_true rfl) hc rfl (fun ov h1 q => ?_) (fun E h1 q => ?_)
  · obtain ⟨q1, q2, q3⟩ := q
    have hO1 : lw_O h1 f := (q3 65 (by decide) (by decide)).trans hO
    have hF : ∀ p, 29 ≤ p → p < 65 → h1.1 p = h.1 p := fun p a b => q3 p a (by omega)
    cases R with
    | inr e => cases q1
    | inl w =>
      cases w with
      | none => exact hx.elim
      | some v =>
        have e1 : ov = some (.int v) := by cases q1; rfl
        subst e1
        refine ex_i2l dL_measure_10 ?_
        refine ex_lastore dL_measure_11 hO1 (show vp_in (0 : Int32) 1 by unfold vp_in; decide) ?_
        refine ex_goto (tgt := 23) dL_measure_12 (by decide) ?_
        refine ex_iconst (v := 0) dL_measure_23 (by decide) ?_
        refine ex_ireturn dL_measure_24 ⟨_, rfl, rfl⟩ ?_
        exact ⟨0, _, rfl, ⟨rfl, lw_up⟩, mm_set_at, cP_65 q2 _, fun p a b => mm_set_ne (by omega) (hF p a b)⟩
  · obtain ⟨q1, q2, q3⟩ := q
    have hO1 : lw_O h1 f := (q3 65 (by decide) (by decide)).trans hO
    have hF : ∀ p, 29 ≤ p → p < 65 → h1.1 p = h.1 p := fun p a b => q3 p a (by omega)
    cases R with
    | inl w => cases w <;> cases q1
    | inr e =>
      have e1 : E = e := by cases q1; rfl
      subst e1
      rcases hx with rfl | rfl
      · skip
        refine ⟨15, ca_measure_1, ?_⟩
        refine ex_astore_x dL_measure_15 (Nat.le_of_ble_eq_true rfl) ?_
        refine ex_iconst (v := 1) dL_measure_17 (by decide) ?_
        refine ex_ireturn dL_measure_18 ⟨_, rfl, rfl⟩ ?_
        exact ⟨1, f, rfl, Or.inl ⟨rfl, rfl⟩, hO1, q2, hF⟩
      · skip
        refine ⟨19, ca_measure_2, ?_⟩
        refine ex_astore_x dL_measure_19 (Nat.le_of_ble_eq_true rfl) ?_
        refine ex_iconst (v := 2) dL_measure_21 (by decide) ?_
        refine ex_ireturn dL_measure_22 ⟨_, rfl, rfl⟩ ?_
        exact ⟨2, f, rfl, Or.inr ⟨rfl, rfl⟩, hO1, q2, hF⟩
theorem ca_mend_1 : mm_Ca G mL_mend 5 cx_a 13 := mm_ca1 rfl rfl (by decide) lc_a lk_a
theorem ca_mend_2 : mm_Ca G mL_mend 5 cx_s 17 := mm_ca2 rfl (by decide) lc_a nc_sa rfl (by decide) lc_s lk_s
theorem c_L_mend (hP : cl_P h s.1 s.2 c0 n0) (hO : lw_O h f) (p0 p1 : Int32) {x : cl_R × cl_S} (hc : mm_Ct l G mX8_mend [.ref 0, .int p0, .int p1] h (cl_A x c0 n0 h)) (hx : ∀ R, R = x.1 → lw_xi cx_a cx_s R) : mm_Ct l G mL_mend [.ref 0, .int p0, .int p1, .ref 65] h (lw_A cx_a cx_s x c0 n0 h) := by
  obtain ⟨R, s1⟩ := x
  replace hx := hx R rfl
  refine mm_ctH (by decide +kernel) (by decide +kernel) rfl (by decide) (by simp [Value.category]) (Nat.le_of_ble_eq_true rfl) rfl (fun E h' => by rintro ⟨k, f', z, -⟩; cases z) ?_
  refine ex_aload_n dL_mend_0 rfl ?_
  refine ex_iconst (v := 0) dL_mend_1 (by decide) ?_
  refine ex_aload_n dL_mend_2 rfl ?_
  refine ex_iload_n dL_mend_3 rfl ?_
  refine ex_iload_n dL_mend_4 rfl ?_
  refine ex_callVH (by decide +kernel) dL_mend_5 (mm_kv i_X8_mend l_L_60) ⟨(Nat.le_of_ble_eq_true rfl), (Nat.le_of_ble_eq_true rfl)⟩ rfl (cP_ow hP) (Nat.le_of_ble_eq_true rfl) hc rfl (fun ov h1 q => ?_) (fun E h1 q => ?_)
  · obtain ⟨q1, q2, q3⟩ := q
    have hO1 : lw_O h1 f := (q3 65 (by decide) (by decide)).trans hO
    have hF : ∀ p, 29 ≤ p → p < 65 → h1.1 p = h.1 p := fun p a b => q3 p a (by omega)
    cases R with
    | inr e => cases q1
    | inl w =>
      cases w with
      | none => exact hx.elim
      | some v =>
        have e1 : ov = some (.int v) := by cases q1; rfl
        subst e1
        refine ex_i2l dL_mend_8 ?_
        refine ex_lastore dL_mend_9 hO1 (show vp_in (0 : Int32) 1 by unfold vp_in; decide) ?_
        refine ex_goto (tgt := 21) dL_mend_10 (by decide) ?_
        refine ex_iconst (v := 0) dL_mend_21 (by decide) ?_
        refine ex_ireturn dL_mend_22 ⟨_, rfl, rfl⟩ ?_
        exact ⟨0, _, rfl, ⟨rfl, lw_up⟩, mm_set_at, cP_65 q2 _, fun p a b => mm_set_ne (by omega) (hF p a b)⟩
  · obtain ⟨q1, q2, q3⟩ := q
    have hO1 : lw_O h1 f := (q3 65 (by decide) (by decide)).trans hO
    have hF : ∀ p, 29 ≤ p → p < 65 → h1.1 p = h.1 p := fun p a b => q3 p a (by omega)
    cases R with
    | inl w => cases w <;> cases q1
    | inr e =>
      have e1 : E = e := by cases q1; rfl
      subst e1
      rcases hx with rfl | rfl
      · skip
        refine ⟨13, ca_mend_1, ?_⟩
        refine ex_astore_x dL_mend_13 (Nat.le_of_ble_eq_true rfl) ?_
        refine ex_iconst (v := 1) dL_mend_15 (by decide) ?_
        refine ex_ireturn dL_mend_16 ⟨_, rfl, rfl⟩ ?_
        exact ⟨1, f, rfl, Or.inl ⟨rfl, rfl⟩, hO1, q2, hF⟩
      · skip
        refine ⟨17, ca_mend_2, ?_⟩
        refine ex_astore_x dL_mend_17 (Nat.le_of_ble_eq_true rfl) ?_
        refine ex_iconst (v := 2) dL_mend_19 (by decide) ?_
        refine ex_ireturn dL_mend_20 ⟨_, rfl, rfl⟩ ?_
        exact ⟨2, f, rfl, Or.inr ⟨rfl, rfl⟩, hO1, q2, hF⟩
theorem ca_link_1 : mm_Ca G mL_link 7 cx_a 15 := mm_ca1 rfl rfl (by decide) lc_a lk_a
theorem ca_link_2 : mm_Ca G mL_link 7 cx_s 19 := mm_ca2 rfl (by decide) lc_a nc_sa rfl (by decide) lc_s lk_s
theorem c_L_link (hP : cl_P h s.1 s.2 c0 n0) (hO : lw_O h f) (p0 p1 p2 : Int32) {x : cl_R × cl_S} (hc : mm_Ct l G mX8_link [.ref 0, .int p0, .int p1, .int p2] h (cl_A x c0 n0 h)) (hx : ∀ R, R = x.1 → lw_xi cx_a cx_s R) : mm_Ct l G mL_link [.ref 0, .int p0, .int p1, .int p2, .ref 65] h (lw_A cx_a cx_s x c0 n0 h) := by
  obtain ⟨R, s1⟩ := x
  replace hx := hx R rfl
  refine mm_ctH (by decide +kernel) (by decide +kernel) rfl (by decide) (by simp [Value.category]) (Nat.le_of_ble_eq_true rfl) rfl (fun E h' => by rintro ⟨k, f', z, -⟩; cases z) ?_
  refine ex_aload dL_link_0 rfl ?_
  refine ex_iconst (v := 0) dL_link_2 (by decide) ?_
  refine ex_aload_n dL_link_3 rfl ?_
  refine ex_iload_n dL_link_4 rfl ?_
  refine ex_iload_n dL_link_5 rfl ?_
  refine ex_iload_n dL_link_6 rfl ?_
  refine ex_callVH (by decide +kernel) dL_link_7 (mm_kv i_X8_link l_L_63) ⟨(Nat.le_of_ble_eq_true rfl), (Nat.le_of_ble_eq_true rfl)⟩ rfl (cP_ow hP) (Nat.le_of_ble_eq_true rfl) hc rfl (fun ov h1 q => ?_) (fun E h1 q => ?_)
  · obtain ⟨q1, q2, q3⟩ := q
    have hO1 : lw_O h1 f := (q3 65 (by decide) (by decide)).trans hO
    have hF : ∀ p, 29 ≤ p → p < 65 → h1.1 p = h.1 p := fun p a b => q3 p a (by omega)
    cases R with
    | inr e => cases q1
    | inl w =>
      cases w with
      | none => exact hx.elim
      | some v =>
        have e1 : ov = some (.int v) := by cases q1; rfl
        subst e1
        refine ex_i2l dL_link_10 ?_
        refine ex_lastore dL_link_11 hO1 (show vp_in (0 : Int32) 1 by unfold vp_in; decide) ?_
        refine ex_goto (tgt := 23) dL_link_12 (by decide) ?_
        refine ex_iconst (v := 0) dL_link_23 (by decide) ?_
        refine ex_ireturn dL_link_24 ⟨_, rfl, rfl⟩ ?_
        exact ⟨0, _, rfl, ⟨rfl, lw_up⟩, mm_set_at, cP_65 q2 _, fun p a b => mm_set_ne (by omega) (hF p a b)⟩
  · obtain ⟨q1, q2, q3⟩ := q
    have hO1 : lw_O h1 f := (q3 65 (by decide) (by decide)).trans hO
    have hF : ∀ p, 29 ≤ p → p < 65 → h1.1 p = h.1 p := fun p a b => q3 p a (by omega)
    cases R with
    | inl w => cases w <;> cases q1
    | inr e =>
      have e1 : E = e := by cases q1; rfl
      subst e1
      rcases hx with rfl | rfl
      · skip
        refine ⟨15, ca_link_1, ?_⟩
        refine ex_astore_x dL_link_15 (Nat.le_of_ble_eq_true rfl) ?_
        refine ex_iconst (v := 1) dL_link_17 (by decide) ?_
        refine ex_ireturn dL_link_18 ⟨_, rfl, rfl⟩ ?_
        exact ⟨1, f, rfl, Or.inl ⟨rfl, rfl⟩, hO1, q2, hF⟩
      · skip
        refine ⟨19, ca_link_2, ?_⟩
        refine ex_astore_x dL_link_19 (Nat.le_of_ble_eq_true rfl) ?_
        refine ex_iconst (v := 2) dL_link_21 (by decide) ?_
        refine ex_ireturn dL_link_22 ⟨_, rfl, rfl⟩ ?_
        exact ⟨2, f, rfl, Or.inr ⟨rfl, rfl⟩, hO1, q2, hF⟩
theorem ca_dead_1 : mm_Ca G mL_dead 5 cx_i 20 := mm_ca1 rfl rfl (by decide) lc_i lk_i
theorem ca_dead_2 : mm_Ca G mL_dead 5 cx_a 24 := mm_ca2 rfl (by decide) lc_i nc_ai rfl (by decide) lc_a lk_a
theorem c_L_dead (hP : cl_P h s.1 s.2 c0 n0) (hO : lw_O h f) (p0 p1 : Int32) {x : cl_R × cl_S} (hc : mm_Ct l G mX8_dead [.ref 0, .int p0, .int p1] h (cl_A x c0 n0 h)) (hx : ∀ R, R = x.1 → lw_xb cx_i cx_a R) : mm_Ct l G mL_dead [.ref 0, .int p0, .int p1, .ref 65] h (lw_A cx_i cx_a x c0 n0 h) := by
  obtain ⟨R, s1⟩ := x
  replace hx := hx R rfl
  refine mm_ctH (by decide +kernel) (by decide +kernel) rfl (by decide) (by simp [Value.category]) (Nat.le_of_ble_eq_true rfl) rfl (fun E h' => by rintro ⟨k, f', z, -⟩; cases z) ?_
  refine ex_aload_n dL_dead_0 rfl ?_
  refine ex_iconst (v := 0) dL_dead_1 (by decide) ?_
  refine ex_aload_n dL_dead_2 rfl ?_
  refine ex_iload_n dL_dead_3 rfl ?_
  refine ex_iload_n dL_dead_4 rfl ?_
  refine ex_callVH (by decide +kernel) dL_dead_5 (mm_kv i_X8_dead l_L_66) ⟨(Nat.le_of_ble_eq_true rfl), (Nat.le_of_ble_eq_true rfl)⟩ rfl (cP_ow hP) (Nat.le_of_ble_eq_true rfl) hc rfl (fun ov h1 q => ?_) (fun E h1 q => ?_)
  · obtain ⟨q1, q2, q3⟩ := q
    have hO1 : lw_O h1 f := (q3 65 (by decide) (by decide)).trans hO
    have hF : ∀ p, 29 ≤ p → p < 65 → h1.1 p = h.1 p := fun p a b => q3 p a (by omega)
    cases R with
    | inr e => cases q1
    | inl w =>
      cases w with
      | none => exact hx.elim
      | some v =>
        have e1 : ov = some (.int v) := by cases q1; rfl
        subst e1
        rcases hx with rfl | rfl
        · skip
          refine ex_if_eq (tgt := 15) dL_dead_8 (by decide) (fun _ => ?_) (fun z => absurd rfl z)
          refine ex_lconst (v := 0) dL_dead_15 (by decide) ?_
          refine ex_lastore dL_dead_16 hO1 (show vp_in (0 : Int32) 1 by unfold vp_in; decide) ?_
          refine ex_goto (tgt := 28) dL_dead_17 (by decide) ?_
          refine ex_iconst (v := 0) dL_dead_28 (by decide) ?_
          refine ex_ireturn dL_dead_29 ⟨_, rfl, rfl⟩ ?_
          exact ⟨0, _, rfl, ⟨rfl, lw_up.trans (by decide)⟩, mm_set_at, cP_65 q2 _, fun p a b => mm_set_ne (by omega) (hF p a b)⟩
        · skip
          refine ex_if_eq (tgt := 15) dL_dead_8 (by decide) (fun z => absurd z (by decide)) (fun _ => ?_)
          refine ex_lconst (v := 1) dL_dead_11 (by decide) ?_
          refine ex_goto (tgt := 16) dL_dead_12 (by decide) ?_
          refine ex_lastore dL_dead_16 hO1 (show vp_in (0 : Int32) 1 by unfold vp_in; decide) ?_
          refine ex_goto (tgt := 28) dL_dead_17 (by decide) ?_
          refine ex_iconst (v := 0) dL_dead_28 (by decide) ?_
          refine ex_ireturn dL_dead_29 ⟨_, rfl, rfl⟩ ?_
          exact ⟨0, _, rfl, ⟨rfl, lw_up.trans (by decide)⟩, mm_set_at, cP_65 q2 _, fun p a b => mm_set_ne (by omega) (hF p a b)⟩
  · obtain ⟨q1, q2, q3⟩ := q
    have hO1 : lw_O h1 f := (q3 65 (by decide) (by decide)).trans hO
    have hF : ∀ p, 29 ≤ p → p < 65 → h1.1 p = h.1 p := fun p a b => q3 p a (by omega)
    cases R with
    | inl w => cases w <;> cases q1
    | inr e =>
      have e1 : E = e := by cases q1; rfl
      subst e1
      rcases hx with rfl | rfl
      · skip
        refine ⟨20, ca_dead_1, ?_⟩
        refine ex_astore_x dL_dead_20 (Nat.le_of_ble_eq_true rfl) ?_
        refine ex_iconst (v := 1) dL_dead_22 (by decide) ?_
        refine ex_ireturn dL_dead_23 ⟨_, rfl, rfl⟩ ?_
        exact ⟨1, f, rfl, Or.inl ⟨rfl, rfl⟩, hO1, q2, hF⟩
      · skip
        refine ⟨24, ca_dead_2, ?_⟩
        refine ex_astore_x dL_dead_24 (Nat.le_of_ble_eq_true rfl) ?_
        refine ex_iconst (v := 2) dL_dead_26 (by decide) ?_
        refine ex_ireturn dL_dead_27 ⟨_, rfl, rfl⟩ ?_
        exact ⟨2, f, rfl, Or.inr ⟨rfl, rfl⟩, hO1, q2, hF⟩
theorem ca_demand_1 : mm_Ca G mL_demand 7 cx_a 15 := mm_ca1 rfl rfl (by decide) lc_a lk_a
theorem ca_demand_2 : mm_Ca G mL_demand 7 cx_s 19 := mm_ca2 rfl (by decide) lc_a nc_sa rfl (by decide) lc_s lk_s
theorem c_L_demand (hP : cl_P h s.1 s.2 c0 n0) (hO : lw_O h f) (p0 p1 p2 : Int32) {x : cl_R × cl_S} (hc : mm_Ct l G mX8_demand [.ref 0, .int p0, .int p1, .int p2] h (cl_A x c0 n0 h)) (hx : ∀ R, R = x.1 → lw_xi cx_a cx_s R) : mm_Ct l G mL_demand [.ref 0, .int p0, .int p1, .int p2, .ref 65] h (lw_A cx_a cx_s x c0 n0 h) := by
  obtain ⟨R, s1⟩ := x
  replace hx := hx R rfl
  refine mm_ctH (by decide +kernel) (by decide +kernel) rfl (by decide) (by simp [Value.category]) (Nat.le_of_ble_eq_true rfl) rfl (fun E h' => by rintro ⟨k, f', z, -⟩; cases z) ?_
  refine ex_aload dL_demand_0 rfl ?_
  refine ex_iconst (v := 0) dL_demand_2 (by decide) ?_
  refine ex_aload_n dL_demand_3 rfl ?_
  refine ex_iload_n dL_demand_4 rfl ?_
  refine ex_iload_n dL_demand_5 rfl ?_
  refine ex_iload_n dL_demand_6 rfl ?_
  refine ex_callVH (by decide +kernel) dL_demand_7 (mm_kv i_X8_demand l_L_71) ⟨(Nat.le_of_ble_eq_true rfl), (Nat.le_of_ble_eq_true rfl)⟩ rfl (cP_ow hP) (Nat.le_of_ble_eq_true rfl) hc rfl (fun ov h1 q => ?_) (fun E h1 q => ?_)
  · obtain ⟨q1, q2, q3⟩ := q
    have hO1 : lw_O h1 f := (q3 65 (by decide) (by decide)).trans hO
    have hF : ∀ p, 29 ≤ p → p < 65 → h1.1 p = h.1 p := fun p a b => q3 p a (by omega)
    cases R with
    | inr e => cases q1
    | inl w =>
      cases w with
      | none => exact hx.elim
      | some v =>
        have e1 : ov = some (.int v) := by cases q1; rfl
        subst e1
        refine ex_i2l dL_demand_10 ?_
        refine ex_lastore dL_demand_11 hO1 (show vp_in (0 : Int32) 1 by unfold vp_in; decide) ?_
        refine ex_goto (tgt := 23) dL_demand_12 (by decide) ?_
        refine ex_iconst (v := 0) dL_demand_23 (by decide) ?_
        refine ex_ireturn dL_demand_24 ⟨_, rfl, rfl⟩ ?_
        exact ⟨0, _, rfl, ⟨rfl, lw_up⟩, mm_set_at, cP_65 q2 _, fun p a b => mm_set_ne (by omega) (hF p a b)⟩
  · obtain ⟨q1, q2, q3⟩ := q
    have hO1 : lw_O h1 f := (q3 65 (by decide) (by decide)).trans hO
    have hF : ∀ p, 29 ≤ p → p < 65 → h1.1 p = h.1 p := fun p a b => q3 p a (by omega)
    cases R with
    | inl w => cases w <;> cases q1
    | inr e =>
      have e1 : E = e := by cases q1; rfl
      subst e1
      rcases hx with rfl | rfl
      · skip
        refine ⟨15, ca_demand_1, ?_⟩
        refine ex_astore_x dL_demand_15 (Nat.le_of_ble_eq_true rfl) ?_
        refine ex_iconst (v := 1) dL_demand_17 (by decide) ?_
        refine ex_ireturn dL_demand_18 ⟨_, rfl, rfl⟩ ?_
        exact ⟨1, f, rfl, Or.inl ⟨rfl, rfl⟩, hO1, q2, hF⟩
      · skip
        refine ⟨19, ca_demand_2, ?_⟩
        refine ex_astore_x dL_demand_19 (Nat.le_of_ble_eq_true rfl) ?_
        refine ex_iconst (v := 2) dL_demand_21 (by decide) ?_
        refine ex_ireturn dL_demand_22 ⟨_, rfl, rfl⟩ ?_
        exact ⟨2, f, rfl, Or.inr ⟨rfl, rfl⟩, hO1, q2, hF⟩
theorem ca_way_1 : mm_Ca G mL_way 4 cx_i 12 := mm_ca1 rfl rfl (by decide) lc_i lk_i
theorem c_L_way (hP : cl_P h s.1 s.2 c0 n0) (hO : lw_O h f) (p0 : Int32) {x : cl_R × cl_S} (hc : mm_Ct l G mX8_way [.ref 0, .int p0] h (cl_A x c0 n0 h)) (hx : ∀ R, R = x.1 → lw_yi cx_i R) : mm_Ct l G mL_way [.ref 0, .int p0, .ref 65] h (lw_A cx_i cx_s x c0 n0 h) := by
  obtain ⟨R, s1⟩ := x
  replace hx := hx R rfl
  refine mm_ctH (by decide +kernel) (by decide +kernel) rfl (by decide) (by simp [Value.category]) (Nat.le_of_ble_eq_true rfl) rfl (fun E h' => by rintro ⟨k, f', z, -⟩; cases z) ?_
  refine ex_aload_n dL_way_0 rfl ?_
  refine ex_iconst (v := 0) dL_way_1 (by decide) ?_
  refine ex_aload_n dL_way_2 rfl ?_
  refine ex_iload_n dL_way_3 rfl ?_
  refine ex_callVH (by decide +kernel) dL_way_4 (mm_kv i_X8_way l_L_74) ⟨(Nat.le_of_ble_eq_true rfl), (Nat.le_of_ble_eq_true rfl)⟩ rfl (cP_ow hP) (Nat.le_of_ble_eq_true rfl) hc rfl (fun ov h1 q => ?_) (fun E h1 q => ?_)
  · obtain ⟨q1, q2, q3⟩ := q
    have hO1 : lw_O h1 f := (q3 65 (by decide) (by decide)).trans hO
    have hF : ∀ p, 29 ≤ p → p < 65 → h1.1 p = h.1 p := fun p a b => q3 p a (by omega)
    cases R with
    | inr e => cases q1
    | inl w =>
      cases w with
      | none => exact hx.elim
      | some v =>
        have e1 : ov = some (.int v) := by cases q1; rfl
        subst e1
        refine ex_i2l dL_way_7 ?_
        refine ex_lastore dL_way_8 hO1 (show vp_in (0 : Int32) 1 by unfold vp_in; decide) ?_
        refine ex_goto (tgt := 15) dL_way_9 (by decide) ?_
        refine ex_iconst (v := 0) dL_way_15 (by decide) ?_
        refine ex_ireturn dL_way_16 ⟨_, rfl, rfl⟩ ?_
        exact ⟨0, _, rfl, ⟨rfl, lw_up⟩, mm_set_at, cP_65 q2 _, fun p a b => mm_set_ne (by omega) (hF p a b)⟩
  · obtain ⟨q1, q2, q3⟩ := q
    have hO1 : lw_O h1 f := (q3 65 (by decide) (by decide)).trans hO
    have hF : ∀ p, 29 ≤ p → p < 65 → h1.1 p = h.1 p := fun p a b => q3 p a (by omega)
    cases R with
    | inl w => cases w <;> cases q1
    | inr e =>
      have e1 : E = e := by cases q1; rfl
      subst e1
      obtain rfl : E = cx_i := hx
      refine ⟨12, ca_way_1, ?_⟩
      refine ex_astore_xn dL_way_12 (Nat.le_of_ble_eq_true rfl) ?_
      refine ex_iconst (v := 1) dL_way_13 (by decide) ?_
      refine ex_ireturn dL_way_14 ⟨_, rfl, rfl⟩ ?_
      exact ⟨1, f, rfl, Or.inl ⟨rfl, rfl⟩, hO1, q2, hF⟩
theorem ca_isLit_1 : mm_Ca G mL_isLit 4 cx_i 19 := mm_ca1 rfl rfl (by decide) lc_i lk_i
theorem c_L_isLit (hP : cl_P h s.1 s.2 c0 n0) (hO : lw_O h f) (p0 : Int32) {x : cl_R × cl_S} (hc : mm_Ct l G mX8_isLit [.ref 0, .int p0] h (cl_A x c0 n0 h)) (hx : ∀ R, R = x.1 → lw_yb cx_i R) : mm_Ct l G mL_isLit [.ref 0, .int p0, .ref 65] h (lw_A cx_i cx_s x c0 n0 h) := by
  obtain ⟨R, s1⟩ := x
  replace hx := hx R rfl
  refine mm_ctH (by decide +kernel) (by decide +kernel) rfl (by decide) (by simp [Value.category]) (Nat.le_of_ble_eq_true rfl) rfl (fun E h' => by rintro ⟨k, f', z, -⟩; cases z) ?_
  refine ex_aload_n dL_isLit_0 rfl ?_
  refine ex_iconst (v := 0) dL_isLit_1 (by decide) ?_
  refine ex_aload_n dL_isLit_2 rfl ?_
  refine ex_iload_n dL_isLit_3 rfl ?_
  refine ex_callVH (by decide +kernel) dL_isLit_4 (mm_kv i_X8_isLit l_L_77) ⟨(Nat.le_of_ble_eq_true rfl), (Nat.le_of_ble_eq_true rfl)⟩ rfl (cP_ow hP) (Nat.le_of_ble_eq_true rfl) hc rfl (fun ov h1 q => ?_) (fun E h1 q => ?_)
  · obtain ⟨q1, q2, q3⟩ := q
    have hO1 : lw_O h1 f := (q3 65 (by decide) (by decide)).trans hO
    have hF : ∀ p, 29 ≤ p → p < 65 → h1.1 p = h.1 p := fun p a b => q3 p a (by omega)
    cases R with
    | inr e => cases q1
    | inl w =>
      cases w with
      | none => exact hx.elim
      | some v =>
        have e1 : ov = some (.int v) := by cases q1; rfl
        subst e1
        rcases hx with rfl | rfl
        · skip
          refine ex_if_eq (tgt := 14) dL_isLit_7 (by decide) (fun _ => ?_) (fun z => absurd rfl z)
          refine ex_lconst (v := 0) dL_isLit_14 (by decide) ?_
          refine ex_lastore dL_isLit_15 hO1 (show vp_in (0 : Int32) 1 by unfold vp_in; decide) ?_
          refine ex_goto (tgt := 22) dL_isLit_16 (by decide) ?_
          refine ex_iconst (v := 0) dL_isLit_22 (by decide) ?_
          refine ex_ireturn dL_isLit_23 ⟨_, rfl, rfl⟩ ?_
          exact ⟨0, _, rfl, ⟨rfl, lw_up.trans (by decide)⟩, mm_set_at, cP_65 q2 _, fun p a b => mm_set_ne (by omega) (hF p a b)⟩
        · skip
          refine ex_if_eq (tgt := 14) dL_isLit_7 (by decide) (fun z => absurd z (by decide)) (fun _ => ?_)
          refine ex_lconst (v := 1) dL_isLit_10 (by decide) ?_
          refine ex_goto (tgt := 15) dL_isLit_11 (by decide) ?_
          refine ex_lastore dL_isLit_15 hO1 (show vp_in (0 : Int32) 1 by unfold vp_in; decide) ?_
          refine ex_goto (tgt := 22) dL_isLit_16 (by decide) ?_
          refine ex_iconst (v := 0) dL_isLit_22 (by decide) ?_
          refine ex_ireturn dL_isLit_23 ⟨_, rfl, rfl⟩ ?_
          exact ⟨0, _, rfl, ⟨rfl, lw_up.trans (by decide)⟩, mm_set_at, cP_65 q2 _, fun p a b => mm_set_ne (by omega) (hF p a b)⟩
  · obtain ⟨q1, q2, q3⟩ := q
    have hO1 : lw_O h1 f := (q3 65 (by decide) (by decide)).trans hO
    have hF : ∀ p, 29 ≤ p → p < 65 → h1.1 p = h.1 p := fun p a b => q3 p a (by omega)
    cases R with
    | inl w => cases w <;> cases q1
    | inr e =>
      have e1 : E = e := by cases q1; rfl
      subst e1
      obtain rfl : E = cx_i := hx
      refine ⟨19, ca_isLit_1, ?_⟩
      refine ex_astore_xn dL_isLit_19 (Nat.le_of_ble_eq_true rfl) ?_
      refine ex_iconst (v := 1) dL_isLit_20 (by decide) ?_
      refine ex_ireturn dL_isLit_21 ⟨_, rfl, rfl⟩ ?_
      exact ⟨1, f, rfl, Or.inl ⟨rfl, rfl⟩, hO1, q2, hF⟩
theorem ca_cell_1 : mm_Ca G mL_cell 5 cx_a 13 := mm_ca1 rfl rfl (by decide) lc_a lk_a
theorem c_L_cell (hP : cl_P h s.1 s.2 c0 n0) (hO : lw_O h f) (p0 p1 : Int32) {x : cl_R × cl_S} (hc : mm_Ct l G mX8_cell [.ref 0, .int p0, .int p1] h (cl_A x c0 n0 h)) (hx : ∀ R, R = x.1 → lw_yi cx_a R) : mm_Ct l G mL_cell [.ref 0, .int p0, .int p1, .ref 65] h (lw_A cx_a cx_s x c0 n0 h) := by
  obtain ⟨R, s1⟩ := x
  replace hx := hx R rfl
  refine mm_ctH (by decide +kernel) (by decide +kernel) rfl (by decide) (by simp [Value.category]) (Nat.le_of_ble_eq_true rfl) rfl (fun E h' => by rintro ⟨k, f', z, -⟩; cases z) ?_
  refine ex_aload_n dL_cell_0 rfl ?_
  refine ex_iconst (v := 0) dL_cell_1 (by decide) ?_
  refine ex_aload_n dL_cell_2 rfl ?_
  refine ex_iload_n dL_cell_3 rfl ?_
  refine ex_iload_n dL_cell_4 rfl ?_
  refine ex_callVH (by decide +kernel) dL_cell_5 (mm_kv i_X8_cell l_L_80) ⟨(Nat.le_of_ble_eq_true rfl), (Nat.le_of_ble_eq_true rfl)⟩ rfl (cP_ow hP) (Nat.le_of_ble_eq_true rfl) hc rfl (fun ov h1 q => ?_) (fun E h1 q => ?_)
  · obtain ⟨q1, q2, q3⟩ := q
    have hO1 : lw_O h1 f := (q3 65 (by decide) (by decide)).trans hO
    have hF : ∀ p, 29 ≤ p → p < 65 → h1.1 p = h.1 p := fun p a b => q3 p a (by omega)
    cases R with
    | inr e => cases q1
    | inl w =>
      cases w with
      | none => exact hx.elim
      | some v =>
        have e1 : ov = some (.int v) := by cases q1; rfl
        subst e1
        refine ex_i2l dL_cell_8 ?_
        refine ex_lastore dL_cell_9 hO1 (show vp_in (0 : Int32) 1 by unfold vp_in; decide) ?_
        refine ex_goto (tgt := 17) dL_cell_10 (by decide) ?_
        refine ex_iconst (v := 0) dL_cell_17 (by decide) ?_
        refine ex_ireturn dL_cell_18 ⟨_, rfl, rfl⟩ ?_
        exact ⟨0, _, rfl, ⟨rfl, lw_up⟩, mm_set_at, cP_65 q2 _, fun p a b => mm_set_ne (by omega) (hF p a b)⟩
  · obtain ⟨q1, q2, q3⟩ := q
    have hO1 : lw_O h1 f := (q3 65 (by decide) (by decide)).trans hO
    have hF : ∀ p, 29 ≤ p → p < 65 → h1.1 p = h.1 p := fun p a b => q3 p a (by omega)
    cases R with
    | inl w => cases w <;> cases q1
    | inr e =>
      have e1 : E = e := by cases q1; rfl
      subst e1
      obtain rfl : E = cx_a := hx
      refine ⟨13, ca_cell_1, ?_⟩
      refine ex_astore_x dL_cell_13 (Nat.le_of_ble_eq_true rfl) ?_
      refine ex_iconst (v := 1) dL_cell_15 (by decide) ?_
      refine ex_ireturn dL_cell_16 ⟨_, rfl, rfl⟩ ?_
      exact ⟨1, f, rfl, Or.inl ⟨rfl, rfl⟩, hO1, q2, hF⟩
theorem ca_tension_1 : mm_Ca G mL_tension 5 cx_a 13 := mm_ca1 rfl rfl (by decide) lc_a lk_a
theorem c_L_tension (hP : cl_P h s.1 s.2 c0 n0) (hO : lw_O h f) (p0 p1 : Int32) {x : cl_R × cl_S} (hc : mm_Ct l G mX8_tension [.ref 0, .int p0, .int p1] h (cl_A x c0 n0 h)) (hx : ∀ R, R = x.1 → lw_yi cx_a R) : mm_Ct l G mL_tension [.ref 0, .int p0, .int p1, .ref 65] h (lw_A cx_a cx_s x c0 n0 h) := by
  obtain ⟨R, s1⟩ := x
  replace hx := hx R rfl
  refine mm_ctH (by decide +kernel) (by decide +kernel) rfl (by decide) (by simp [Value.category]) (Nat.le_of_ble_eq_true rfl) rfl (fun E h' => by rintro ⟨k, f', z, -⟩; cases z) ?_
  refine ex_aload_n dL_tension_0 rfl ?_
  refine ex_iconst (v := 0) dL_tension_1 (by decide) ?_
  refine ex_aload_n dL_tension_2 rfl ?_
  refine ex_iload_n dL_tension_3 rfl ?_
  refine ex_iload_n dL_tension_4 rfl ?_
  refine ex_callVH (by decide +kernel) dL_tension_5 (mm_kv i_X8_tension l_L_83) ⟨(Nat.le_of_ble_eq_true rfl), (Nat.le_of_ble_eq_true rfl)⟩ rfl (cP_ow hP) (Nat.le_of_ble_eq_true rfl) hc rfl (fun ov h1 q => ?_) (fun E h1 q => ?_)
  · obtain ⟨q1, q2, q3⟩ := q
    have hO1 : lw_O h1 f := (q3 65 (by decide) (by decide)).trans hO
    have hF : ∀ p, 29 ≤ p → p < 65 → h1.1 p = h.1 p := fun p a b => q3 p a (by omega)
    cases R with
    | inr e => cases q1
    | inl w =>
      cases w with
      | none => exact hx.elim
      | some v =>
        have e1 : ov = some (.int v) := by cases q1; rfl
        subst e1
        refine ex_i2l dL_tension_8 ?_
        refine ex_lastore dL_tension_9 hO1 (show vp_in (0 : Int32) 1 by unfold vp_in; decide) ?_
        refine ex_goto (tgt := 17) dL_tension_10 (by decide) ?_
        refine ex_iconst (v := 0) dL_tension_17 (by decide) ?_
        refine ex_ireturn dL_tension_18 ⟨_, rfl, rfl⟩ ?_
        exact ⟨0, _, rfl, ⟨rfl, lw_up⟩, mm_set_at, cP_65 q2 _, fun p a b => mm_set_ne (by omega) (hF p a b)⟩
  · obtain ⟨q1, q2, q3⟩ := q
    have hO1 : lw_O h1 f := (q3 65 (by decide) (by decide)).trans hO
    have hF : ∀ p, 29 ≤ p → p < 65 → h1.1 p = h.1 p := fun p a b => q3 p a (by omega)
    cases R with
    | inl w => cases w <;> cases q1
    | inr e =>
      have e1 : E = e := by cases q1; rfl
      subst e1
      obtain rfl : E = cx_a := hx
      refine ⟨13, ca_tension_1, ?_⟩
      refine ex_astore_x dL_tension_13 (Nat.le_of_ble_eq_true rfl) ?_
      refine ex_iconst (v := 1) dL_tension_15 (by decide) ?_
      refine ex_ireturn dL_tension_16 ⟨_, rfl, rfl⟩ ?_
      exact ⟨1, f, rfl, Or.inl ⟨rfl, rfl⟩, hO1, q2, hF⟩
theorem ca_tank_1 : mm_Ca G mL_tank 5 cx_a 13 := mm_ca1 rfl rfl (by decide) lc_a lk_a
theorem c_L_tank (hP : cl_P h s.1 s.2 c0 n0) (hO : lw_O h f) (p0 p1 : Int32) {x : cl_R × cl_S} (hc : mm_Ct l G mX8_tank [.ref 0, .int p0, .int p1] h (cl_A x c0 n0 h)) (hx : ∀ R, R = x.1 → lw_yi cx_a R) : mm_Ct l G mL_tank [.ref 0, .int p0, .int p1, .ref 65] h (lw_A cx_a cx_s x c0 n0 h) := by
  obtain ⟨R, s1⟩ := x
  replace hx := hx R rfl
  refine mm_ctH (by decide +kernel) (by decide +kernel) rfl (by decide) (by simp [Value.category]) (Nat.le_of_ble_eq_true rfl) rfl (fun E h' => by rintro ⟨k, f', z, -⟩; cases z) ?_
  refine ex_aload_n dL_tank_0 rfl ?_
  refine ex_iconst (v := 0) dL_tank_1 (by decide) ?_
  refine ex_aload_n dL_tank_2 rfl ?_
  refine ex_iload_n dL_tank_3 rfl ?_
  refine ex_iload_n dL_tank_4 rfl ?_
  refine ex_callVH (by decide +kernel) dL_tank_5 (mm_kv i_X8_tank l_L_86) ⟨(Nat.le_of_ble_eq_true rfl), (Nat.le_of_ble_eq_true rfl)⟩ rfl (cP_ow hP) (Nat.le_of_ble_eq_true rfl) hc rfl (fun ov h1 q => ?_) (fun E h1 q => ?_)
  · obtain ⟨q1, q2, q3⟩ := q
    have hO1 : lw_O h1 f := (q3 65 (by decide) (by decide)).trans hO
    have hF : ∀ p, 29 ≤ p → p < 65 → h1.1 p = h.1 p := fun p a b => q3 p a (by omega)
    cases R with
    | inr e => cases q1
    | inl w =>
      cases w with
      | none => exact hx.elim
      | some v =>
        have e1 : ov = some (.int v) := by cases q1; rfl
        subst e1
        refine ex_i2l dL_tank_8 ?_
        refine ex_lastore dL_tank_9 hO1 (show vp_in (0 : Int32) 1 by unfold vp_in; decide) ?_
        refine ex_goto (tgt := 17) dL_tank_10 (by decide) ?_
        refine ex_iconst (v := 0) dL_tank_17 (by decide) ?_
        refine ex_ireturn dL_tank_18 ⟨_, rfl, rfl⟩ ?_
        exact ⟨0, _, rfl, ⟨rfl, lw_up⟩, mm_set_at, cP_65 q2 _, fun p a b => mm_set_ne (by omega) (hF p a b)⟩
  · obtain ⟨q1, q2, q3⟩ := q
    have hO1 : lw_O h1 f := (q3 65 (by decide) (by decide)).trans hO
    have hF : ∀ p, 29 ≤ p → p < 65 → h1.1 p = h.1 p := fun p a b => q3 p a (by omega)
    cases R with
    | inl w => cases w <;> cases q1
    | inr e =>
      have e1 : E = e := by cases q1; rfl
      subst e1
      obtain rfl : E = cx_a := hx
      refine ⟨13, ca_tank_1, ?_⟩
      refine ex_astore_x dL_tank_13 (Nat.le_of_ble_eq_true rfl) ?_
      refine ex_iconst (v := 1) dL_tank_15 (by decide) ?_
      refine ex_ireturn dL_tank_16 ⟨_, rfl, rfl⟩ ?_
      exact ⟨1, f, rfl, Or.inl ⟨rfl, rfl⟩, hO1, q2, hF⟩
theorem ca_line_1 : mm_Ca G mL_line 4 cx_a 12 := mm_ca1 rfl rfl (by decide) lc_a lk_a
theorem c_L_line (hP : cl_P h s.1 s.2 c0 n0) (hO : lw_O h f) (p0 : Int32) {x : cl_R × cl_S} (hc : mm_Ct l G mX8_line [.ref 0, .int p0] h (cl_A x c0 n0 h)) (hx : ∀ R, R = x.1 → lw_yi cx_a R) : mm_Ct l G mL_line [.ref 0, .int p0, .ref 65] h (lw_A cx_a cx_s x c0 n0 h) := by
  obtain ⟨R, s1⟩ := x
  replace hx := hx R rfl
  refine mm_ctH (by decide +kernel) (by decide +kernel) rfl (by decide) (by simp [Value.category]) (Nat.le_of_ble_eq_true rfl) rfl (fun E h' => by rintro ⟨k, f', z, -⟩; cases z) ?_
  refine ex_aload_n dL_line_0 rfl ?_
  refine ex_iconst (v := 0) dL_line_1 (by decide) ?_
  refine ex_aload_n dL_line_2 rfl ?_
  refine ex_iload_n dL_line_3 rfl ?_
  refine ex_callVH (by decide +kernel) dL_line_4 (mm_kv i_X8_line l_L_89) ⟨(Nat.le_of_ble_eq_true rfl), (Nat.le_of_ble_eq_true rfl)⟩ rfl (cP_ow hP) (Nat.le_of_ble_eq_true rfl) hc rfl (fun ov h1 q => ?_) (fun E h1 q => ?_)
  · obtain ⟨q1, q2, q3⟩ := q
    have hO1 : lw_O h1 f := (q3 65 (by decide) (by decide)).trans hO
    have hF : ∀ p, 29 ≤ p → p < 65 → h1.1 p = h.1 p := fun p a b => q3 p a (by omega)
    cases R with
    | inr e => cases q1
    | inl w =>
      cases w with
      | none => exact hx.elim
      | some v =>
        have e1 : ov = some (.int v) := by cases q1; rfl
        subst e1
        refine ex_i2l dL_line_7 ?_
        refine ex_lastore dL_line_8 hO1 (show vp_in (0 : Int32) 1 by unfold vp_in; decide) ?_
        refine ex_goto (tgt := 15) dL_line_9 (by decide) ?_
        refine ex_iconst (v := 0) dL_line_15 (by decide) ?_
        refine ex_ireturn dL_line_16 ⟨_, rfl, rfl⟩ ?_
        exact ⟨0, _, rfl, ⟨rfl, lw_up⟩, mm_set_at, cP_65 q2 _, fun p a b => mm_set_ne (by omega) (hF p a b)⟩
  · obtain ⟨q1, q2, q3⟩ := q
    have hO1 : lw_O h1 f := (q3 65 (by decide) (by decide)).trans hO
    have hF : ∀ p, 29 ≤ p → p < 65 → h1.1 p = h.1 p := fun p a b => q3 p a (by omega)
    cases R with
    | inl w => cases w <;> cases q1
    | inr e =>
      have e1 : E = e := by cases q1; rfl
      subst e1
      obtain rfl : E = cx_a := hx
      refine ⟨12, ca_line_1, ?_⟩
      refine ex_astore_xn dL_line_12 (Nat.le_of_ble_eq_true rfl) ?_
      refine ex_iconst (v := 1) dL_line_13 (by decide) ?_
      refine ex_ireturn dL_line_14 ⟨_, rfl, rfl⟩ ?_
      exact ⟨1, f, rfl, Or.inl ⟨rfl, rfl⟩, hO1, q2, hF⟩
theorem ca_thing_1 : mm_Ca G mL_thing 5 cx_i 13 := mm_ca1 rfl rfl (by decide) lc_i lk_i
theorem ca_thing_2 : mm_Ca G mL_thing 5 cx_a 17 := mm_ca2 rfl (by decide) lc_i nc_ai rfl (by decide) lc_a lk_a
theorem c_L_thing (hP : cl_P h s.1 s.2 c0 n0) (hO : lw_O h f) (p0 p1 : Int32) {x : cl_R × cl_S} (hc : mm_Ct l G mX8_thing [.ref 0, .int p0, .int p1] h (cl_A x c0 n0 h)) (hx : ∀ R, R = x.1 → lw_xi cx_i cx_a R) : mm_Ct l G mL_thing [.ref 0, .int p0, .int p1, .ref 65] h (lw_A cx_i cx_a x c0 n0 h) := by
  obtain ⟨R, s1⟩ := x
  replace hx := hx R rfl
  refine mm_ctH (by decide +kernel) (by decide +kernel) rfl (by decide) (by simp [Value.category]) (Nat.le_of_ble_eq_true rfl) rfl (fun E h' => by rintro ⟨k, f', z, -⟩; cases z) ?_
  refine ex_aload_n dL_thing_0 rfl ?_
  refine ex_iconst (v := 0) dL_thing_1 (by decide) ?_
  refine ex_aload_n dL_thing_2 rfl ?_
  refine ex_iload_n dL_thing_3 rfl ?_
  refine ex_iload_n dL_thing_4 rfl ?_
  refine ex_callVH (by decide +kernel) dL_thing_5 (mm_kv i_X8_thing l_L_92) ⟨(Nat.le_of_ble_eq_true rfl), (Nat.le_of_ble_eq_true rfl)⟩ rfl (cP_ow hP) (Nat.le_of_ble_eq_true rfl) hc rfl (fun ov h1 q => ?_) (fun E h1 q => ?_)
  · obtain ⟨q1, q2, q3⟩ := q
    have hO1 : lw_O h1 f := (q3 65 (by decide) (by decide)).trans hO
    have hF : ∀ p, 29 ≤ p → p < 65 → h1.1 p = h.1 p := fun p a b => q3 p a (by omega)
    cases R with
    | inr e => cases q1
    | inl w =>
      cases w with
      | none => exact hx.elim
      | some v =>
        have e1 : ov = some (.int v) := by cases q1; rfl
        subst e1
        refine ex_i2l dL_thing_8 ?_
        refine ex_lastore dL_thing_9 hO1 (show vp_in (0 : Int32) 1 by unfold vp_in; decide) ?_
        refine ex_goto (tgt := 21) dL_thing_10 (by decide) ?_
        refine ex_iconst (v := 0) dL_thing_21 (by decide) ?_
        refine ex_ireturn dL_thing_22 ⟨_, rfl, rfl⟩ ?_
        exact ⟨0, _, rfl, ⟨rfl, lw_up⟩, mm_set_at, cP_65 q2 _, fun p a b => mm_set_ne (by omega) (hF p a b)⟩
  · obtain ⟨q1, q2, q3⟩ := q
    have hO1 : lw_O h1 f := (q3 65 (by decide) (by decide)).trans hO
    have hF : ∀ p, 29 ≤ p → p < 65 → h1.1 p = h.1 p := fun p a b => q3 p a (by omega)
    cases R with
    | inl w => cases w <;> cases q1
    | inr e =>
      have e1 : E = e := by cases q1; rfl
      subst e1
      rcases hx with rfl | rfl
      · skip
        refine ⟨13, ca_thing_1, ?_⟩
        refine ex_astore_x dL_thing_13 (Nat.le_of_ble_eq_true rfl) ?_
        refine ex_iconst (v := 1) dL_thing_15 (by decide) ?_
        refine ex_ireturn dL_thing_16 ⟨_, rfl, rfl⟩ ?_
        exact ⟨1, f, rfl, Or.inl ⟨rfl, rfl⟩, hO1, q2, hF⟩
      · skip
        refine ⟨17, ca_thing_2, ?_⟩
        refine ex_astore_x dL_thing_17 (Nat.le_of_ble_eq_true rfl) ?_
        refine ex_iconst (v := 2) dL_thing_19 (by decide) ?_
        refine ex_ireturn dL_thing_20 ⟨_, rfl, rfl⟩ ?_
        exact ⟨2, f, rfl, Or.inr ⟨rfl, rfl⟩, hO1, q2, hF⟩
theorem ca_metre_1 : mm_Ca G mL_metre 4 cx_i 12 := mm_ca1 rfl rfl (by decide) lc_i lk_i
theorem c_L_metre (hP : cl_P h s.1 s.2 c0 n0) (hO : lw_O h f) (p0 : Int32) {x : cl_R × cl_S} (hc : mm_Ct l G mX8_metre [.ref 0, .int p0] h (cl_A x c0 n0 h)) (hx : ∀ R, R = x.1 → lw_yi cx_i R) : mm_Ct l G mL_metre [.ref 0, .int p0, .ref 65] h (lw_A cx_i cx_s x c0 n0 h) := by
  obtain ⟨R, s1⟩ := x
  replace hx := hx R rfl
  refine mm_ctH (by decide +kernel) (by decide +kernel) rfl (by decide) (by simp [Value.category]) (Nat.le_of_ble_eq_true rfl) rfl (fun E h' => by rintro ⟨k, f', z, -⟩; cases z) ?_
  refine ex_aload_n dL_metre_0 rfl ?_
  refine ex_iconst (v := 0) dL_metre_1 (by decide) ?_
  refine ex_aload_n dL_metre_2 rfl ?_
  refine ex_iload_n dL_metre_3 rfl ?_
  refine ex_callVH (by decide +kernel) dL_metre_4 (mm_kv i_X8_metre l_L_95) ⟨(Nat.le_of_ble_eq_true rfl), (Nat.le_of_ble_eq_true rfl)⟩ rfl (cP_ow hP) (Nat.le_of_ble_eq_true rfl) hc rfl (fun ov h1 q => ?_) (fun E h1 q => ?_)
  · obtain ⟨q1, q2, q3⟩ := q
    have hO1 : lw_O h1 f := (q3 65 (by decide) (by decide)).trans hO
    have hF : ∀ p, 29 ≤ p → p < 65 → h1.1 p = h.1 p := fun p a b => q3 p a (by omega)
    cases R with
    | inr e => cases q1
    | inl w =>
      cases w with
      | none => exact hx.elim
      | some v =>
        have e1 : ov = some (.int v) := by cases q1; rfl
        subst e1
        refine ex_i2l dL_metre_7 ?_
        refine ex_lastore dL_metre_8 hO1 (show vp_in (0 : Int32) 1 by unfold vp_in; decide) ?_
        refine ex_goto (tgt := 15) dL_metre_9 (by decide) ?_
        refine ex_iconst (v := 0) dL_metre_15 (by decide) ?_
        refine ex_ireturn dL_metre_16 ⟨_, rfl, rfl⟩ ?_
        exact ⟨0, _, rfl, ⟨rfl, lw_up⟩, mm_set_at, cP_65 q2 _, fun p a b => mm_set_ne (by omega) (hF p a b)⟩
  · obtain ⟨q1, q2, q3⟩ := q
    have hO1 : lw_O h1 f := (q3 65 (by decide) (by decide)).trans hO
    have hF : ∀ p, 29 ≤ p → p < 65 → h1.1 p = h.1 p := fun p a b => q3 p a (by omega)
    cases R with
    | inl w => cases w <;> cases q1
    | inr e =>
      have e1 : E = e := by cases q1; rfl
      subst e1
      obtain rfl : E = cx_i := hx
      refine ⟨12, ca_metre_1, ?_⟩
      refine ex_astore_xn dL_metre_12 (Nat.le_of_ble_eq_true rfl) ?_
      refine ex_iconst (v := 1) dL_metre_13 (by decide) ?_
      refine ex_ireturn dL_metre_14 ⟨_, rfl, rfl⟩ ?_
      exact ⟨1, f, rfl, Or.inl ⟨rfl, rfl⟩, hO1, q2, hF⟩
theorem ca_metreAnew_1 : mm_Ca G mL_metreAnew 4 cx_i 12 := mm_ca1 rfl rfl (by decide) lc_i lk_i
theorem c_L_metreAnew (hP : cl_P h s.1 s.2 c0 n0) (hO : lw_O h f) (p0 : Int32) {x : cl_R × cl_S} (hc : mm_Ct l G mX8_metreAnew [.ref 0, .int p0] h (cl_A x c0 n0 h)) (hx : ∀ R, R = x.1 → lw_yi cx_i R) : mm_Ct l G mL_metreAnew [.ref 0, .int p0, .ref 65] h (lw_A cx_i cx_s x c0 n0 h) := by
  obtain ⟨R, s1⟩ := x
  replace hx := hx R rfl
  refine mm_ctH (by decide +kernel) (by decide +kernel) rfl (by decide) (by simp [Value.category]) (Nat.le_of_ble_eq_true rfl) rfl (fun E h' => by rintro ⟨k, f', z, -⟩; cases z) ?_
  refine ex_aload_n dL_metreAnew_0 rfl ?_
  refine ex_iconst (v := 0) dL_metreAnew_1 (by decide) ?_
  refine ex_aload_n dL_metreAnew_2 rfl ?_
  refine ex_iload_n dL_metreAnew_3 rfl ?_
  refine ex_callVH (by decide +kernel) dL_metreAnew_4 (mm_kv i_X8_metreAnew l_L_98) ⟨(Nat.le_of_ble_eq_true rfl), (Nat.le_of_ble_eq_true rfl)⟩ rfl (cP_ow hP) (Nat.le_of_ble_eq_true rfl) hc rfl (fun ov h1 q => ?_) (fun E h1 q => ?_)
  · obtain ⟨q1, q2, q3⟩ := q
    have hO1 : lw_O h1 f := (q3 65 (by decide) (by decide)).trans hO
    have hF : ∀ p, 29 ≤ p → p < 65 → h1.1 p = h.1 p := fun p a b => q3 p a (by omega)
    cases R with
    | inr e => cases q1
    | inl w =>
      cases w with
      | none => exact hx.elim
      | some v =>
        have e1 : ov = some (.int v) := by cases q1; rfl
        subst e1
        refine ex_i2l dL_metreAnew_7 ?_
        refine ex_lastore dL_metreAnew_8 hO1 (show vp_in (0 : Int32) 1 by unfold vp_in; decide) ?_
        refine ex_goto (tgt := 15) dL_metreAnew_9 (by decide) ?_
        refine ex_iconst (v := 0) dL_metreAnew_15 (by decide) ?_
        refine ex_ireturn dL_metreAnew_16 ⟨_, rfl, rfl⟩ ?_
        exact ⟨0, _, rfl, ⟨rfl, lw_up⟩, mm_set_at, cP_65 q2 _, fun p a b => mm_set_ne (by omega) (hF p a b)⟩
  · obtain ⟨q1, q2, q3⟩ := q
    have hO1 : lw_O h1 f := (q3 65 (by decide) (by decide)).trans hO
    have hF : ∀ p, 29 ≤ p → p < 65 → h1.1 p = h.1 p := fun p a b => q3 p a (by omega)
    cases R with
    | inl w => cases w <;> cases q1
    | inr e =>
      have e1 : E = e := by cases q1; rfl
      subst e1
      obtain rfl : E = cx_i := hx
      refine ⟨12, ca_metreAnew_1, ?_⟩
      refine ex_astore_xn dL_metreAnew_12 (Nat.le_of_ble_eq_true rfl) ?_
      refine ex_iconst (v := 1) dL_metreAnew_13 (by decide) ?_
      refine ex_ireturn dL_metreAnew_14 ⟨_, rfl, rfl⟩ ?_
      exact ⟨1, f, rfl, Or.inl ⟨rfl, rfl⟩, hO1, q2, hF⟩
theorem ca_ofFault_1 : mm_Ca G mL_ofFault 5 cx_i 13 := mm_ca1 rfl rfl (by decide) lc_i lk_i
theorem ca_ofFault_2 : mm_Ca G mL_ofFault 5 cx_a 17 := mm_ca2 rfl (by decide) lc_i nc_ai rfl (by decide) lc_a lk_a
theorem c_L_ofFault (hP : cl_P h s.1 s.2 c0 n0) (hO : lw_O h f) (p0 p1 : Int32) {x : cl_R × cl_S} (hc : mm_Ct l G mX8_ofFault [.ref 0, .int p0, .int p1] h (cl_A x c0 n0 h)) (hx : ∀ R, R = x.1 → lw_xi cx_i cx_a R) : mm_Ct l G mL_ofFault [.ref 0, .int p0, .int p1, .ref 65] h (lw_A cx_i cx_a x c0 n0 h) := by
  obtain ⟨R, s1⟩ := x
  replace hx := hx R rfl
  refine mm_ctH (by decide +kernel) (by decide +kernel) rfl (by decide) (by simp [Value.category]) (Nat.le_of_ble_eq_true rfl) rfl (fun E h' => by rintro ⟨k, f', z, -⟩; cases z) ?_
  refine ex_aload_n dL_ofFault_0 rfl ?_
  refine ex_iconst (v := 0) dL_ofFault_1 (by decide) ?_
  refine ex_aload_n dL_ofFault_2 rfl ?_
  refine ex_iload_n dL_ofFault_3 rfl ?_
  refine ex_iload_n dL_ofFault_4 rfl ?_
  refine ex_callVH (by decide +kernel) dL_ofFault_5 (mm_kv i_X8_ofFault l_L_101) ⟨(Nat.le_of_ble_eq_true rfl), (Nat.le_of_ble_eq_true rfl)⟩ rfl (cP_ow hP) (Nat.le_of_ble_eq_true rfl) hc rfl (fun ov h1 q => ?_) (fun E h1 q => ?_)
  · obtain ⟨q1, q2, q3⟩ := q
    have hO1 : lw_O h1 f := (q3 65 (by decide) (by decide)).trans hO
    have hF : ∀ p, 29 ≤ p → p < 65 → h1.1 p = h.1 p := fun p a b => q3 p a (by omega)
    cases R with
    | inr e => cases q1
    | inl w =>
      cases w with
      | none => exact hx.elim
      | some v =>
        have e1 : ov = some (.int v) := by cases q1; rfl
        subst e1
        refine ex_i2l dL_ofFault_8 ?_
        refine ex_lastore dL_ofFault_9 hO1 (show vp_in (0 : Int32) 1 by unfold vp_in; decide) ?_
        refine ex_goto (tgt := 21) dL_ofFault_10 (by decide) ?_
        refine ex_iconst (v := 0) dL_ofFault_21 (by decide) ?_
        refine ex_ireturn dL_ofFault_22 ⟨_, rfl, rfl⟩ ?_
        exact ⟨0, _, rfl, ⟨rfl, lw_up⟩, mm_set_at, cP_65 q2 _, fun p a b => mm_set_ne (by omega) (hF p a b)⟩
  · obtain ⟨q1, q2, q3⟩ := q
    have hO1 : lw_O h1 f := (q3 65 (by decide) (by decide)).trans hO
    have hF : ∀ p, 29 ≤ p → p < 65 → h1.1 p = h.1 p := fun p a b => q3 p a (by omega)
    cases R with
    | inl w => cases w <;> cases q1
    | inr e =>
      have e1 : E = e := by cases q1; rfl
      subst e1
      rcases hx with rfl | rfl
      · skip
        refine ⟨13, ca_ofFault_1, ?_⟩
        refine ex_astore_x dL_ofFault_13 (Nat.le_of_ble_eq_true rfl) ?_
        refine ex_iconst (v := 1) dL_ofFault_15 (by decide) ?_
        refine ex_ireturn dL_ofFault_16 ⟨_, rfl, rfl⟩ ?_
        exact ⟨1, f, rfl, Or.inl ⟨rfl, rfl⟩, hO1, q2, hF⟩
      · skip
        refine ⟨17, ca_ofFault_2, ?_⟩
        refine ex_astore_x dL_ofFault_17 (Nat.le_of_ble_eq_true rfl) ?_
        refine ex_iconst (v := 2) dL_ofFault_19 (by decide) ?_
        refine ex_ireturn dL_ofFault_20 ⟨_, rfl, rfl⟩ ?_
        exact ⟨2, f, rfl, Or.inr ⟨rfl, rfl⟩, hO1, q2, hF⟩
end LWB
