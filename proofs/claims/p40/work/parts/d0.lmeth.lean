/-! P40: THE LAW'S OWN METHODS -/
theorem lc_s : Cond.classLink RL 67 "java/lang/IllegalStateException" ∈ mm_W := mm_in3 197 (by decide +kernel) rfl
theorem lk_s : Cond.castable "java/lang/IllegalStateException" "java/lang/IllegalStateException" ∈ mm_N := mm_inN2 89 (by decide +kernel) rfl
theorem mm_ca1 {G : mm_G} {M : mm_M} {pc a b t c : Nat} {L : List (Nat × Nat × Nat × Nat)} {E : String} (hM : M.2.2.2.2.1 = (a, b, t, c) :: L) (hcov : covers ⟨a, b, t, c⟩ pc = true) (hc : c ≠ 0) (hl : Cond.classLink M.1.cls c E ∈ mm_W) (hk : Cond.castable E E ∈ mm_N) : mm_Ca G M pc E t :=
  ⟨[], ⟨a, b, t, c⟩, tableOf L, E, by rw [hM]; rfl, (fun z hz => nomatch hz), hcov, hc, hl, hk, rfl⟩
def dp (d : Nat → Int32) (j : Nat) : Int32 := if d j = 0 then 100 else d j
def gr_d (d : Nat → Int32) (j : Nat) : Int32 := 1000 + (dp d j - (if j = 0 then 0 else dp d (j - 1))) * (dp d j - (if j = 0 then 0 else dp d (j - 1))) / 2000
def du (d : Nat → Int32) (j : Nat) (sl : Int32) : Int32 := gr_d d j + gr_d d j * sl / 1000
abbrev lwk (t : Nat → Int32) : Prop := t 4 - t 4 / 10 * 10 < 7 ∧ t 10 ≤ t 3
/-- what a wrapper of the law answers: the class's answer, or -1 where it throws IllegalStateException -/
def wr_v (R : cl_R) : Int32 := match R with
  | .inl (some y) => y
  | _ => -1
def wr_ok (R : cl_R) : Prop := match R with
  | .inl (some _) => True
  | .inl none => False
  | .inr e => e = cx_s
def wr_A (x : cl_R × cl_S) (c0 n0 : Nat) (h : mm_H) : mm_R → mm_H → Prop := mm_qi (fun v h' => v = .int (wr_v x.1) ∧ cl_P h' x.2.1 x.2.2 (c0 + cl_e x.1) (n0 + 6 * cl_e x.1) ∧ cl_F h h')
theorem lo_and (v : Int32) : ∃ a, a < 2 ^ 31 ∧ v &&& 2147483647 = nI a := ⟨v.toBitVec.toNat % 2 ^ 31, Nat.mod_lt _ (by decide), pk_and v 31 (by decide)⟩
theorem lo_rem (v : Int32) {m : Nat} (h0 : 0 < m) (hm : m < 2 ^ 31) : ∃ y, y < m ∧ (v &&& 2147483647) - (v &&& 2147483647) / nI m * nI m = nI y := by
  obtain ⟨a, ha, e⟩ := lo_and v
  exact ⟨a % m, Nat.mod_lt _ h0, by rw [e]; exact pk_rem ha h0 hm⟩
section LM
variable {l : Launch} {G : mm_G} {h : mm_H}
theorem c_L_low (v : Int32) (m : Nat) (h0 : 0 < m) (hm : m < 2 ^ 31) (mv : Int32) (hmv : mv = nI m) : mm_Ct l G mL_low [.int v, .int mv] h (mm_qi (fun w h' => (∃ y, y < m ∧ w = .int (nI y)) ∧ h' = h)) := by
  subst hmv
  refine mm_ct (by decide +kernel) (by decide +kernel) rfl (by simp [Value.category]) (Nat.le_of_ble_eq_true rfl) rfl ?_
  refine ex_iload_n dL_low_0 rfl ?_
  refine ex_ldc dL_low_1 k_L_9 ?_
  refine ex_iand dL_low_3 ?_
  refine ex_iload_n dL_low_4 rfl ?_
  refine ex_irem dL_low_5 (nI_ne0 h0 hm) ?_
  refine ex_ireturn dL_low_6 ⟨_, rfl, rfl⟩ ?_
  exact (lo_rem v h0 hm).elim fun y hy => ⟨_, rfl, ⟨y, hy.1, congrArg _ hy.2⟩, rfl⟩
theorem c_L_cell {b : Nat} (hb : b = G.2.2.2.1) (hL : G.2.2.2.2.1 ≤ 260) (k : Nat) (hk : k < 1000) (kv : Int32) (hkv : kv = nI k) : mm_Ct l G mL_cell [.retAddr b, .int kv] h (mm_qi (fun w h' => (∃ x, w = .int x) ∧ h' = h)) := by
  subst hkv
  refine mm_ct (by decide +kernel) (by decide +kernel) rfl (by simp [Value.category]) (Nat.le_of_ble_eq_true rfl) rfl ?_
  refine ex_iload_n dL_cell_0 rfl ?_
  refine ex_aload_x dL_cell_1 rfl ?_
  refine ex_xlen dL_cell_2 hb ?_
  refine ex_icmp_ge (tgt := 12) dL_cell_3 (by decide) (fun c_3 => ?_) (fun c_3 => ?_)
  · skip
    refine ex_ldc dL_cell_12 k_L_7 ?_
    refine ex_iload_n dL_cell_14 rfl ?_
    refine ex_iconst (v := 1) dL_cell_15 (by decide) ?_
    refine ex_iadd dL_cell_16 ?_
    refine ex_imul dL_cell_17 ?_
    refine ex_ldc dL_cell_18 k_L_8 ?_
    refine ex_iadd dL_cell_20 ?_
    refine ex_ireturn dL_cell_21 ⟨_, rfl, rfl⟩ ?_
    exact ⟨_, rfl, ⟨_, rfl⟩, rfl⟩
  · refine ex_aload_x dL_cell_6 rfl ?_
    refine ex_iload_n dL_cell_7 rfl ?_
    refine ex_xload dL_cell_8 hb (vp_in_nI (Nat.lt_of_not_le (fun z => c_3 (nI_le z (by omega)))) (by omega)) ?_
    refine ex_goto (tgt := 21) dL_cell_9 (by decide) ?_
    refine ex_ireturn dL_cell_21 ⟨_, rfl, rfl⟩ ?_
    exact ⟨_, rfl, ⟨_, rfl⟩, rfl⟩
theorem c_L_depth {pd : Nat} {d : Nat → Int32} (hD : h.1 pd = some (.inl (.int, 64, .inl d))) (j : Nat) (hj : j < 64) (jv : Int32) (hjv : jv = nI j) : mm_Ct l G mL_depth [.ref pd, .int jv] h (mm_ri (.int (dp d j)) h) := by
  subst hjv
  refine mm_ct (by decide +kernel) (by decide +kernel) rfl (by simp [Value.category]) (Nat.le_of_ble_eq_true rfl) rfl ?_
  refine ex_aload_n dL_depth_0 rfl ?_
  refine ex_iload_n dL_depth_1 rfl ?_
  refine ex_iaload dL_depth_2 hD (vp_in_nI hj (by decide)) ?_
  refine ex_if_ne (tgt := 11) dL_depth_3 (by decide) (fun c_3 => ?_) (fun c_3 => ?_)
  · rw [nI_clamp (by omega)] at c_3
    refine ex_aload_n dL_depth_11 rfl ?_
    refine ex_iload_n dL_depth_12 rfl ?_
    refine ex_iaload dL_depth_13 hD (vp_in_nI hj (by decide)) ?_
    refine ex_ireturn dL_depth_14 ⟨_, rfl, rfl⟩ ?_
    first | exact ⟨by rw [nI_clamp (by omega), dp, if_neg c_3], rfl⟩ | exact ⟨by rw [dp, if_pos c_3], rfl⟩
  · rw [nI_clamp (by omega)] at c_3
    refine ex_bipush (v := 100) dL_depth_6 (by decide) ?_
    refine ex_goto (tgt := 14) dL_depth_8 (by decide) ?_
    refine ex_ireturn dL_depth_14 ⟨_, rfl, rfl⟩ ?_
    first | exact ⟨by rw [nI_clamp (by omega), dp, if_neg c_3], rfl⟩ | exact ⟨by rw [dp, if_pos c_3], rfl⟩
theorem c_L_due {pd : Nat} {d : Nat → Int32} (hD : h.1 pd = some (.inl (.int, 64, .inl d))) (j : Nat) (hj : j < 64) (jv : Int32) (hjv : jv = nI j) (sl : Int32) : mm_Ct l G mL_due [.ref pd, .int jv, .int sl] h (mm_ri (.int (du d j sl)) h) := by
  subst hjv
  refine mm_ct (by decide +kernel) (by decide +kernel) rfl (by simp [Value.category]) (Nat.le_of_ble_eq_true rfl) rfl ?_
  rcases Nat.eq_zero_or_pos j with z0 | z0
  · skip
    refine ex_aload_n dL_due_0 rfl ?_
    refine ex_iload_n dL_due_1 rfl ?_
    refine cS_f dL_due_2 (mm_ks i_L_depth l_L_10) ⟨(Nat.le_of_ble_eq_true rfl), (Nat.le_of_ble_eq_true rfl)⟩ (c_L_depth hD j hj _ rfl) rfl rfl (Nat.le_of_ble_eq_true rfl) rfl ?_
    refine ex_iload_n dL_due_5 rfl ?_
    refine ex_if_ne (tgt := 13) dL_due_6 (by decide) (fun z => absurd (by rw [z0]; decide) z) (fun _ => ?_)
    refine ex_iconst (v := 0) dL_due_9 (by decide) ?_
    refine ex_goto (tgt := 20) dL_due_10 (by decide) ?_
    refine ex_isub dL_due_20 ?_
    refine ex_istore_n dL_due_21 (Nat.le_of_ble_eq_true rfl) ?_
    refine ex_sipush (v := 1000) dL_due_22 (by decide) ?_
    refine ex_iload_n dL_due_25 rfl ?_
    refine ex_iload_n dL_due_26 rfl ?_
    refine ex_imul dL_due_27 ?_
    refine ex_sipush (v := 2000) dL_due_28 (by decide) ?_
    refine ex_idiv dL_due_31 (by decide) ?_
    refine ex_iadd dL_due_32 ?_
    refine ex_istore dL_due_33 (Nat.le_of_ble_eq_true rfl) ?_
    refine ex_iload dL_due_35 rfl ?_
    refine ex_iload dL_due_37 rfl ?_
    refine ex_iload_n dL_due_39 rfl ?_
    refine ex_imul dL_due_40 ?_
    refine ex_sipush (v := 1000) dL_due_41 (by decide) ?_
    refine ex_idiv dL_due_44 (by decide) ?_
    refine ex_iadd dL_due_45 ?_
    refine ex_ireturn dL_due_46 ⟨_, rfl, rfl⟩ ?_
    exact ⟨by subst z0; rfl, rfl⟩
  · skip
    refine ex_aload_n dL_due_0 rfl ?_
    refine ex_iload_n dL_due_1 rfl ?_
    refine cS_f dL_due_2 (mm_ks i_L_depth l_L_10) ⟨(Nat.le_of_ble_eq_true rfl), (Nat.le_of_ble_eq_true rfl)⟩ (c_L_depth hD j hj _ rfl) rfl rfl (Nat.le_of_ble_eq_true rfl) rfl ?_
    refine ex_iload_n dL_due_5 rfl ?_
    refine ex_if_ne (tgt := 13) dL_due_6 (by decide) (fun _ => ?_) (fun z => absurd z (nI_ne0 z0 (by omega)))
    refine ex_aload_n dL_due_13 rfl ?_
    refine ex_iload_n dL_due_14 rfl ?_
    refine ex_iconst (v := 1) dL_due_15 (by decide) ?_
    refine ex_isub dL_due_16 ?_
    refine cS_f dL_due_17 (mm_ks i_L_depth l_L_10) ⟨(Nat.le_of_ble_eq_true rfl), (Nat.le_of_ble_eq_true rfl)⟩ (c_L_depth hD (j - 1) (by omega) _ (pk_sub (a := j) (b := 1) z0)) rfl rfl (Nat.le_of_ble_eq_true rfl) rfl ?_
    refine ex_isub dL_due_20 ?_
    refine ex_istore_n dL_due_21 (Nat.le_of_ble_eq_true rfl) ?_
    refine ex_sipush (v := 1000) dL_due_22 (by decide) ?_
    refine ex_iload_n dL_due_25 rfl ?_
    refine ex_iload_n dL_due_26 rfl ?_
    refine ex_imul dL_due_27 ?_
    refine ex_sipush (v := 2000) dL_due_28 (by decide) ?_
    refine ex_idiv dL_due_31 (by decide) ?_
    refine ex_iadd dL_due_32 ?_
    refine ex_istore dL_due_33 (Nat.le_of_ble_eq_true rfl) ?_
    refine ex_iload dL_due_35 rfl ?_
    refine ex_iload dL_due_37 rfl ?_
    refine ex_iload_n dL_due_39 rfl ?_
    refine ex_imul dL_due_40 ?_
    refine ex_sipush (v := 1000) dL_due_41 (by decide) ?_
    refine ex_idiv dL_due_44 (by decide) ?_
    refine ex_iadd dL_due_45 ?_
    refine ex_ireturn dL_due_46 ⟨_, rfl, rfl⟩ ?_
    exact ⟨by rw [du, gr_d, if_neg (by omega)], rfl⟩
theorem c_L_works {pt : Nat} {t : Nat → Int32} (hT : h.1 pt = some (.inl (.int, 64, .inl t))) : mm_Ct l G mL_works [.ref pt] h (mm_ri (.int (bb (lwk t))) h) := by
  refine mm_ct (by decide +kernel) (by decide +kernel) rfl (by simp [Value.category]) (Nat.le_of_ble_eq_true rfl) rfl ?_
  refine ex_aload_n dL_works_0 rfl ?_
  refine ex_iconst (v := 4) dL_works_1 (by decide) ?_
  refine ex_iaload dL_works_2 hT (pk_in 4 64 (by decide)) ?_
  refine ex_bipush (v := 10) dL_works_3 (by decide) ?_
  refine ex_irem dL_works_5 (by decide) ?_
  refine ex_bipush (v := 7) dL_works_6 (by decide) ?_
  refine ex_icmp_ge (tgt := 25) dL_works_8 (by decide) (fun c_8 => ?_) (fun c_8 => ?_)
  · refine ex_iconst (v := 0) dL_works_25 (by decide) ?_
    refine ex_ireturn dL_works_26 ⟨_, rfl, rfl⟩ ?_
    first | exact ⟨by rw [bb_t (show lwk t from ⟨Int32.not_le.mp c_8, Int32.not_lt.mp c_18⟩)], rfl⟩ | exact ⟨by rw [bb_f (show ¬ lwk t from fun z => Int32.not_lt.mpr z.2 c_18)], rfl⟩ | exact ⟨by rw [bb_f (show ¬ lwk t from fun z => Int32.not_le.mpr z.1 c_8)], rfl⟩
  · refine ex_aload_n dL_works_11 rfl ?_
    refine ex_iconst (v := 3) dL_works_12 (by decide) ?_
    refine ex_iaload dL_works_13 hT (pk_in 3 64 (by decide)) ?_
    refine ex_aload_n dL_works_14 rfl ?_
    refine ex_bipush (v := 10) dL_works_15 (by decide) ?_
    refine ex_iaload dL_works_17 hT (pk_in 10 64 (by decide)) ?_
    refine ex_icmp_lt (tgt := 25) dL_works_18 (by decide) (fun c_18 => ?_) (fun c_18 => ?_)
    · refine ex_iconst (v := 0) dL_works_25 (by decide) ?_
      refine ex_ireturn dL_works_26 ⟨_, rfl, rfl⟩ ?_
      first | exact ⟨by rw [bb_t (show lwk t from ⟨Int32.not_le.mp c_8, Int32.not_lt.mp c_18⟩)], rfl⟩ | exact ⟨by rw [bb_f (show ¬ lwk t from fun z => Int32.not_lt.mpr z.2 c_18)], rfl⟩ | exact ⟨by rw [bb_f (show ¬ lwk t from fun z => Int32.not_le.mpr z.1 c_8)], rfl⟩
    · refine ex_iconst (v := 1) dL_works_21 (by decide) ?_
      refine ex_goto (tgt := 26) dL_works_22 (by decide) ?_
      refine ex_ireturn dL_works_26 ⟨_, rfl, rfl⟩ ?_
      first | exact ⟨by rw [bb_t (show lwk t from ⟨Int32.not_le.mp c_8, Int32.not_lt.mp c_18⟩)], rfl⟩ | exact ⟨by rw [bb_f (show ¬ lwk t from fun z => Int32.not_lt.mpr z.2 c_18)], rfl⟩ | exact ⟨by rw [bb_f (show ¬ lwk t from fun z => Int32.not_le.mpr z.1 c_8)], rfl⟩
theorem c_L_line {pm pt k : Nat} {m t : Nat → Int32} (hM : h.1 pm = some (.inl (.int, 64, .inl m))) (hT : h.1 pt = some (.inl (.int, 64, .inl t))) (h6 : t 6 = nI k) (hk : k ≤ 64) : mm_Ct l G mL_line [.ref pm, .ref pt] h (mm_ri (.int (ro_bs m k)) h) := by
  have key : mm_Ex l G mL_line (mm_ri (.int (ro_bs m k)) h) 4 [.ref pm, .ref pt, .int (ro_bs m 0), .int (nI 0)] [] h := by
    refine lp_nat k (fun i => mm_Ex l G mL_line (mm_ri (.int (ro_bs m k)) h) 4 [.ref pm, .ref pt, .int (ro_bs m i), .int (nI i)] [] h) ?_ ?_
    · skip
      refine ex_iload_n dL_line_4 rfl ?_
      refine ex_aload_n dL_line_5 rfl ?_
      refine ex_bipush (v := 6) dL_line_6 (by decide) ?_
      refine ex_iaload dL_line_8 hT (pk_in 6 64 (by decide)) ?_
      refine ex_icmp_ge (tgt := 24) dL_line_9 (by decide) (fun _ => ?_) (fun z => absurd (Int32.le_of_eq h6) z)
      refine ex_iload_n dL_line_24 rfl ?_
      refine ex_ireturn dL_line_25 ⟨_, rfl, rfl⟩ ?_
      exact ⟨rfl, rfl⟩
    · intro i hi ih
      refine ex_iload_n dL_line_4 rfl ?_
      refine ex_aload_n dL_line_5 rfl ?_
      refine ex_bipush (v := 6) dL_line_6 (by decide) ?_
      refine ex_iaload dL_line_8 hT (pk_in 6 64 (by decide)) ?_
      refine ex_icmp_ge (tgt := 24) dL_line_9 (by decide) (fun z => absurd z (fun z => nI_ge hi (by omega) (Int32.le_trans (Int32.le_of_eq h6.symm) z))) (fun _ => ?_)
      refine ex_iload_n dL_line_12 rfl ?_
      refine ex_aload_n dL_line_13 rfl ?_
      refine ex_iload_n dL_line_14 rfl ?_
      refine ex_iaload dL_line_15 hM (vp_in_nI (by omega) (by decide)) ?_
      refine ex_iadd dL_line_16 ?_
      refine ex_istore_n dL_line_17 (Nat.le_of_ble_eq_true rfl) ?_
      refine ex_iinc (d := 1) dL_line_18 rfl (by decide) ?_
      refine ex_goto (tgt := 4) dL_line_21 (by decide) ?_
      rw [nI_1, nI_clamp (by omega)]; exact ih
  refine mm_ct (by decide +kernel) (by decide +kernel) rfl (by simp [Value.category]) (Nat.le_of_ble_eq_true rfl) rfl ?_
  refine ex_iconst (v := 0) dL_line_0 (by decide) ?_
  refine ex_istore_n dL_line_1 (Nat.le_of_ble_eq_true rfl) ?_
  refine ex_iconst (v := 0) dL_line_2 (by decide) ?_
  refine ex_istore_n dL_line_3 (Nat.le_of_ble_eq_true rfl) ?_
  exact key
theorem ca_taken : mm_Ca G mL_taken 2 cx_s 6 := mm_ca1 rfl (by decide) (by decide) lc_s lk_s
theorem c_L_taken {s : cl_S} {c0 n0 : Nat} (hP : cl_P h s.1 s.2 c0 n0) (p0 : Int32) {x : cl_R × cl_S} (hc : mm_Ct l G mX8_takeUp [.ref 0, .int p0] h (cl_A x c0 n0 h)) (hx : wr_ok x.1) : mm_Ct l G mL_taken [.ref 0, .int p0] h (wr_A x c0 n0 h) := by
  obtain ⟨R, s1⟩ := x
  refine mm_ctH (by decide +kernel) (by decide +kernel) rfl (by decide) (by simp [Value.category]) (Nat.le_of_ble_eq_true rfl) rfl (fun E h' => by rintro ⟨k, z, -⟩; cases z) ?_
  refine ex_aload_n dL_taken_0 rfl ?_
  refine ex_iload_n dL_taken_1 rfl ?_
  refine ex_callVH (by decide +kernel) dL_taken_2 (mm_kv i_X8_takeUp l_L_69) ⟨(Nat.le_of_ble_eq_true rfl), (Nat.le_of_ble_eq_true rfl)⟩ rfl (cP_ow hP) (Nat.le_of_ble_eq_true rfl) hc rfl (fun ov h1 q => ?_) (fun E h1 q => ?_)
  · obtain ⟨q1, q2, q3⟩ := q
    cases R with
    | inr e => cases q1
    | inl w =>
      cases w with
      | none => exact hx.elim
      | some v =>
        have e1 : ov = some (.int v) := by cases q1; rfl
        subst e1
        refine ex_ireturn dL_taken_5 ⟨_, rfl, rfl⟩ ?_
        exact ⟨_, rfl, rfl, q2, q3⟩
  · obtain ⟨q1, q2, q3⟩ := q
    cases R with
    | inl w => cases w <;> cases q1
    | inr e =>
      have e1 : E = e := by cases q1; rfl
      subst e1
      have e2 : E = cx_s := hx
      subst e2
      refine ⟨6, ca_taken, ?_⟩
      refine ex_astore_xn dL_taken_6 (Nat.le_of_ble_eq_true rfl) ?_
      refine ex_iconst (v := (-1)) dL_taken_7 (by decide) ?_
      refine ex_ireturn dL_taken_8 ⟨_, rfl, rfl⟩ ?_
      exact ⟨_, rfl, rfl, q2, q3⟩
theorem ca_mended : mm_Ca G mL_mended 3 cx_s 7 := mm_ca1 rfl (by decide) (by decide) lc_s lk_s
theorem c_L_mended {s : cl_S} {c0 n0 : Nat} (hP : cl_P h s.1 s.2 c0 n0) (p0 p1 : Int32) {x : cl_R × cl_S} (hc : mm_Ct l G mX8_mend [.ref 0, .int p0, .int p1] h (cl_A x c0 n0 h)) (hx : wr_ok x.1) : mm_Ct l G mL_mended [.ref 0, .int p0, .int p1] h (wr_A x c0 n0 h) := by
  obtain ⟨R, s1⟩ := x
  refine mm_ctH (by decide +kernel) (by decide +kernel) rfl (by decide) (by simp [Value.category]) (Nat.le_of_ble_eq_true rfl) rfl (fun E h' => by rintro ⟨k, z, -⟩; cases z) ?_
  refine ex_aload_n dL_mended_0 rfl ?_
  refine ex_iload_n dL_mended_1 rfl ?_
  refine ex_iload_n dL_mended_2 rfl ?_
  refine ex_callVH (by decide +kernel) dL_mended_3 (mm_kv i_X8_mend l_L_64) ⟨(Nat.le_of_ble_eq_true rfl), (Nat.le_of_ble_eq_true rfl)⟩ rfl (cP_ow hP) (Nat.le_of_ble_eq_true rfl) hc rfl (fun ov h1 q => ?_) (fun E h1 q => ?_)
  · obtain ⟨q1, q2, q3⟩ := q
    cases R with
    | inr e => cases q1
    | inl w =>
      cases w with
      | none => exact hx.elim
      | some v =>
        have e1 : ov = some (.int v) := by cases q1; rfl
        subst e1
        refine ex_ireturn dL_mended_6 ⟨_, rfl, rfl⟩ ?_
        exact ⟨_, rfl, rfl, q2, q3⟩
  · obtain ⟨q1, q2, q3⟩ := q
    cases R with
    | inl w => cases w <;> cases q1
    | inr e =>
      have e1 : E = e := by cases q1; rfl
      subst e1
      have e2 : E = cx_s := hx
      subst e2
      refine ⟨7, ca_mended, ?_⟩
      refine ex_astore_xn dL_mended_7 (Nat.le_of_ble_eq_true rfl) ?_
      refine ex_iconst (v := (-1)) dL_mended_8 (by decide) ?_
      refine ex_ireturn dL_mended_9 ⟨_, rfl, rfl⟩ ?_
      exact ⟨_, rfl, rfl, q2, q3⟩
theorem ca_repeated : mm_Ca G mL_repeated 1 cx_s 5 := mm_ca1 rfl (by decide) (by decide) lc_s lk_s
theorem c_L_repeated {s : cl_S} {c0 n0 : Nat} (hP : cl_P h s.1 s.2 c0 n0) {x : cl_R × cl_S} (hc : mm_Ct l G mX8_repeater [.ref 0] h (cl_A x c0 n0 h)) (hx : wr_ok x.1) : mm_Ct l G mL_repeated [.ref 0] h (wr_A x c0 n0 h) := by
  obtain ⟨R, s1⟩ := x
  refine mm_ctH (by decide +kernel) (by decide +kernel) rfl (by decide) (by simp [Value.category]) (Nat.le_of_ble_eq_true rfl) rfl (fun E h' => by rintro ⟨k, z, -⟩; cases z) ?_
  refine ex_aload_n dL_repeated_0 rfl ?_
  refine ex_callVH (by decide +kernel) dL_repeated_1 (mm_kv i_X8_repeater l_L_72) ⟨(Nat.le_of_ble_eq_true rfl), (Nat.le_of_ble_eq_true rfl)⟩ rfl (cP_ow hP) (Nat.le_of_ble_eq_true rfl) hc rfl (fun ov h1 q => ?_) (fun E h1 q => ?_)
  · obtain ⟨q1, q2, q3⟩ := q
    cases R with
    | inr e => cases q1
    | inl w =>
      cases w with
      | none => exact hx.elim
      | some v =>
        have e1 : ov = some (.int v) := by cases q1; rfl
        subst e1
        refine ex_ireturn dL_repeated_4 ⟨_, rfl, rfl⟩ ?_
        exact ⟨_, rfl, rfl, q2, q3⟩
  · obtain ⟨q1, q2, q3⟩ := q
    cases R with
    | inl w => cases w <;> cases q1
    | inr e =>
      have e1 : E = e := by cases q1; rfl
      subst e1
      have e2 : E = cx_s := hx
      subst e2
      refine ⟨5, ca_repeated, ?_⟩
      refine ex_astore_xn dL_repeated_5 (Nat.le_of_ble_eq_true rfl) ?_
      refine ex_iconst (v := (-1)) dL_repeated_6 (by decide) ?_
      refine ex_ireturn dL_repeated_7 ⟨_, rfl, rfl⟩ ?_
      exact ⟨_, rfl, rfl, q2, q3⟩
end LM
