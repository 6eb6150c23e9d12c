/-! THE MODEL, by its parts: how its fields stand for the class's state -/
def mo_q (h0 : mm_H) (v : Int32) (s : mo_S) : mm_R → mm_H → Prop := mm_qi (fun w h' => w = .int v ∧ mo_P h0 h' s)
def mo_v (h0 : mm_H) (s : mo_S) : mm_R → mm_H → Prop := mm_qv (fun h' => mo_P h0 h' s)
/-- all but the fields and arrays of these numbers is kept -/
def mo_F (K : List Nat) (s s' : mo_S) : Prop := (∀ k, K.elem k = false → s'.1 k = s.1 k) ∧ s'.2.1 = s.2.1 ∧ ∀ k, K.elem k = false → s'.2.2 k = s.2.2 k
theorem mo_F.refl (K : List Nat) (s : mo_S) : mo_F K s s := ⟨fun _ _ => rfl, rfl, fun _ _ => rfl⟩
theorem mo_F.trans {K : List Nat} {s s1 s2 : mo_S} (h1 : mo_F K s s1) (h2 : mo_F K s1 s2) : mo_F K s s2 := ⟨fun k hk => (h2.1 k hk).trans (h1.1 k hk), h2.2.1.trans h1.2.1, fun k hk => (h2.2.2 k hk).trans (h1.2.2 k hk)⟩
theorem mo_F.f {K : List Nat} {s s1 : mo_S} (h : mo_F K s s1) (j : Nat) (hj : K.elem j = true) {x : Int32} : mo_F K s (mo_sf s1 j x) := ⟨fun k hk => by
  by_cases e : k = j
  · rw [e, hj] at hk; cases hk
  · show upd s1.1 j x k = _; rw [pk_un e]; exact h.1 k hk, h.2.1, h.2.2⟩
theorem mo_F.a {K : List Nat} {s s1 : mo_S} (h : mo_F K s s1) (j : Nat) (hj : K.elem j = true) {i : Nat} {x : Int32} : mo_F K s (mo_sa s1 j i x) := ⟨h.1, h.2.1, fun k hk => by
  by_cases e : k = j
  · rw [e, hj] at hk; cases hk
  · show va_up s1.2.2 j _ k = _; unfold va_up; rw [if_neg e]; exact h.2.2 k hk⟩
theorem mo_F.mono {K K' : List Nat} {s s' : mo_S} (h : mo_F K s s') (hk : ∀ k, K'.elem k = false → K.elem k = false) : mo_F K' s s' := ⟨fun k z => h.1 k (hk k z), h.2.1, fun k z => h.2.2 k (hk k z)⟩
def r_rows (a0 a1 a2 a3 : Nat → Int32) (L : List tt_R) : Prop := ∀ (i : Nat) (r : tt_R), L[i]? = some r → a0 i = r.1 ∧ a1 i = r.2.1 ∧ a2 i = r.2.2.1 ∧ a3 i = r.2.2.2
/-- the sea -/
def r_sea (S : se_T) (a : Nat → Nat → Int32) : Prop := (∀ i, i < 100 → a 1 i = 0 ∧ S.1 i = 100 ∧ S.2.1 i = 501 ∨ a 1 i = 1 ∧ a 3 i = S.1 i ∧ a 2 i = S.2.1 i ∧ S.2.1 i ≤ 500) ∧ a 4 = S.2.2.1 ∧ a 5 = S.2.2.2 ∧ ∀ i, a 4 i = 0 ∨ a 4 i = 1
/-- the line: spans, joints, repeaters -/
def ln_to (r : tt_R) : Int32 := if r.1 = 0 then r.2.2.1 + r.2.2.2 - 1 else -1
def ln_w (r : tt_R) : Prop := (r.1 = 0 ∧ ∃ p f n : Nat, r.2 = (nI p, nI f, nI n) ∧ p < 30 ∧ 1 ≤ n ∧ f + n ≤ 90000) ∨ ((r.1 = 1 ∨ r.1 = 2) ∧ r.2 = (-1, -1, 0))
def r_line (s : mo_S) (T : List tt_R) : Prop := s.1 21 = nI T.length ∧ ∀ (i : Nat) (r : tt_R), T[i]? = some r → s.2.2 22 i = r.1 ∧ s.2.2 23 i = r.2.1 ∧ s.2.2 24 i = r.2.2.1 ∧ s.2.2 25 i = ln_to r
def ln_W (T : List tt_R) : Prop := T.length ≤ 8000 ∧ ∀ (i : Nat) (r : tt_R), T[i]? = some r → ln_w r
def ln_m : List tt_R → Int32 → Int32
  | [], s => s
  | r :: L, s => ln_m L (s + r.2.2.2)
/-- what would go out -/
def r_out (s : mo_S) (g : List tt_R) : Prop := s.1 17 = nI g.length ∧ ∀ (i : Nat) (r : tt_R), g[i]? = some r → s.2.2 18 i = r.2.1 ∧ s.2.2 19 i = r.2.2.1 ∧ s.2.2 20 i = r.2.2.1 + r.2.2.2 - 1
/-- the tanks -/
def tf (t : Int32) (W : List tt_R) : List tt_R := W.filter (fun r => decide (r.1 = t))
def r_tk (s : mo_S) (t : Nat) (L : List tt_R) : Prop := s.2.2 13 t = nI L.length ∧ L.length ≤ 30 ∧ ∀ (i : Nat) (r : tt_R), L[i]? = some r → s.2.2 14 (30 * t + i) = r.2.1 ∧ s.2.2 15 (30 * t + i) = r.2.2.1 ∧ s.2.2 16 (30 * t + i) = r.2.2.1 + r.2.2.2 - 1
def r_tank (s : mo_S) (W : List tt_R) : Prop := ∀ t, t < 3 → r_tk s t (tf (nI t) W)
theorem r_line.fr {K : List Nat} {s s' : mo_S} {T : List tt_R} (h : r_line s T) (f : mo_F K s s') (h1 : K.elem 21 = false := by rfl) (h2 : K.elem 22 = false := by rfl) (h3 : K.elem 23 = false := by rfl) (h4 : K.elem 24 = false := by rfl) (h5 : K.elem 25 = false := by rfl) : r_line s' T := by
  unfold r_line
  rw [f.1 21 h1, f.2.2 22 h2, f.2.2 23 h3, f.2.2 24 h4, f.2.2 25 h5]
  exact h
theorem r_out.fr {K : List Nat} {s s' : mo_S} {T : List tt_R} (h : r_out s T) (f : mo_F K s s') (h1 : K.elem 17 = false := by rfl) (h2 : K.elem 18 = false := by rfl) (h3 : K.elem 19 = false := by rfl) (h4 : K.elem 20 = false := by rfl) : r_out s' T := by
  unfold r_out
  rw [f.1 17 h1, f.2.2 18 h2, f.2.2 19 h3, f.2.2 20 h4]
  exact h
theorem r_tank.fr {K : List Nat} {s s' : mo_S} {T : List tt_R} (h : r_tank s T) (f : mo_F K s s') (h1 : K.elem 13 = false := by rfl) (h2 : K.elem 14 = false := by rfl) (h3 : K.elem 15 = false := by rfl) (h4 : K.elem 16 = false := by rfl) : r_tank s' T := by
  unfold r_tank r_tk
  rw [f.2.2 13 h1, f.2.2 14 h2, f.2.2 15 h3, f.2.2 16 h4]
  exact h
theorem ln_w.len {r : tt_R} (h : ln_w r) : (if r.1 = 0 then ln_to r - r.2.2.1 + 1 else 0) = r.2.2.2 := by
  rcases h with ⟨h, -⟩ | ⟨h1, h2⟩
  · rw [if_pos h, ln_to, if_pos h]; grind
  · rw [if_neg (by rcases h1 with e | e <;> rw [e] <;> decide), h2]
section MOAV
variable {l : Launch} {G : mm_G} {M : mm_M} {Q : mm_R → mm_H → Prop} {pc : Nat} {ls st : List Value} {h : mm_H}
theorem ex_ialoadv {o n : Nat} {f : Nat → Int32} {i v : Int32} (hd : decode M.2.1 pc = .ok (.iaload, 1)) (he : h.1 o = some (.inl (.int, n, .inl f))) (hi : vp_in i n) (hv : f i.toNatClampNeg = v) (k : mm_Ex l G M Q (pc + 1) ls (.int v :: st) h) : mm_Ex l G M Q pc ls (.int i :: .ref o :: st) h := by
  subst hv; exact ex_iaload hd he hi k
theorem ex_baloadv {o n : Nat} {f : Nat → Int32} {i v : Int32} (hd : decode M.2.1 pc = .ok (.baload, 1)) (he : h.1 o = some (.inl (.boolean, n, .inl f))) (hi : vp_in i n) (hv : f i.toNatClampNeg = v) (k : mm_Ex l G M Q (pc + 1) ls (.int v :: st) h) : mm_Ex l G M Q pc ls (.int i :: .ref o :: st) h := by
  subst hv; exact ex_baload hd he hi k
end MOAV
theorem mo_F.g {K : List Nat} {s s1 : mo_S} (h : mo_F K s s1) {k : Nat} {x : Int32} (e : s.1 k = x) (hk : K.elem k = false := by rfl) : s1.1 k = x := (h.1 k hk).trans e
theorem mo_F.v {K : List Nat} {s s1 : mo_S} (h : mo_F K s s1) {k i : Nat} {x iv : Int32} (e : s.2.2 k i = x) (hiv : iv = nI i) (hi : i < 2 ^ 31) (hk : K.elem k = false := by rfl) : s1.2.2 k iv.toNatClampNeg = x := by
  subst hiv
  rw [nI_clamp hi, h.2.2 k hk]; exact e
theorem mo_av {f : Nat → Int32} {i : Nat} {x iv : Int32} (e : f i = x) (hiv : iv = nI i) (hi : i < 2 ^ 31) : f iv.toNatClampNeg = x := by
  subst hiv; rw [nI_clamp hi]; exact e
section MOA
variable {l : Launch} {G : mm_G} {h0 h : mm_H} {s : mo_S} {S : se_T} {T : List tt_R}
theorem c_X9_thrown (p : mo_P h0 h s) : mm_Ct l G mX9_thrown [.ref 29] h (mm_ri (.int (s.1 0)) h) := by
  refine mm_ct (by decide +kernel) (by decide +kernel) rfl (by simp [Value.category]) (Nat.le_of_ble_eq_true rfl) rfl ?_
  refine ex_aload_n dX9_thrown_0 rfl ?_
  refine ex_getfield dX9_thrown_1 g_X9_120 (mP_o p) rfl ?_
  refine ex_ireturn dX9_thrown_4 ⟨_, rfl, rfl⟩ ?_
  exact ⟨rfl, rfl⟩
theorem c_X9_isIn (v a b : Int32) : mm_Ct l G mX9_isIn [.int v, .int a, .int b] h (mm_ri (.int (bb (ii v a b))) h) := by
  refine mm_ct (by decide +kernel) (by decide +kernel) rfl (by simp [Value.category]) (Nat.le_of_ble_eq_true rfl) rfl ?_
  refine ex_iload_n dX9_isIn_0 rfl ?_
  refine ex_iload_n dX9_isIn_1 rfl ?_
  refine ex_icmp_lt (tgt := 14) dX9_isIn_2 (by decide) (fun c_2 => ?_) (fun c_2 => ?_)
  · refine ex_iconst (v := 0) dX9_isIn_14 (by decide) ?_
    refine ex_ireturn dX9_isIn_15 ⟨_, rfl, (by first | rfl | exact bb_r)⟩ ?_
    first | exact bq_f (fun z => Int32.not_lt.mpr z.1 c_2) | exact bq_f (fun z => Int32.not_lt.mpr z.2 c_7) | exact bq_t ⟨Int32.not_lt.mp c_2, Int32.not_lt.mp c_7⟩
  · refine ex_iload_n dX9_isIn_5 rfl ?_
    refine ex_iload_n dX9_isIn_6 rfl ?_
    refine ex_icmp_gt (tgt := 14) dX9_isIn_7 (by decide) (fun c_7 => ?_) (fun c_7 => ?_)
    · refine ex_iconst (v := 0) dX9_isIn_14 (by decide) ?_
      refine ex_ireturn dX9_isIn_15 ⟨_, rfl, (by first | rfl | exact bb_r)⟩ ?_
      first | exact bq_f (fun z => Int32.not_lt.mpr z.1 c_2) | exact bq_f (fun z => Int32.not_lt.mpr z.2 c_7) | exact bq_t ⟨Int32.not_lt.mp c_2, Int32.not_lt.mp c_7⟩
    · refine ex_iconst (v := 1) dX9_isIn_10 (by decide) ?_
      refine ex_goto (tgt := 15) dX9_isIn_11 (by decide) ?_
      refine ex_ireturn dX9_isIn_15 ⟨_, rfl, (by first | rfl | exact bb_r)⟩ ?_
      first | exact bq_f (fun z => Int32.not_lt.mpr z.1 c_2) | exact bq_f (fun z => Int32.not_lt.mpr z.2 c_7) | exact bq_t ⟨Int32.not_lt.mp c_2, Int32.not_lt.mp c_7⟩
theorem c_X9_isCell (v : Int32) : mm_Ct l G mX9_isCell [.int v] h (mm_ri (.int (bb (ii v 0 99))) h) := by
  refine mm_ct (by decide +kernel) (by decide +kernel) rfl (by simp [Value.category]) (Nat.le_of_ble_eq_true rfl) rfl ?_
  refine ex_iload_n dX9_isCell_0 rfl ?_
  refine ex_iconst (v := 0) dX9_isCell_1 (by decide) ?_
  refine ex_bipush (v := 99) dX9_isCell_2 (by decide) ?_
  refine cS_f dX9_isCell_4 (mm_ks i_X9_isIn l_X9_123) ⟨(Nat.le_of_ble_eq_true rfl), (Nat.le_of_ble_eq_true rfl)⟩ (c_X9_isIn _ _ _) rfl rfl (Nat.le_of_ble_eq_true rfl) rfl ?_
  refine ex_ireturn dX9_isCell_7 ⟨_, rfl, (by first | rfl | exact bb_r)⟩ ?_
  exact ⟨rfl, rfl⟩
theorem c_X9_depthOf (p : mo_P h0 h s) (hs : r_sea S s.2.2) {i : Nat} (hi : i < 100) : mm_Ct l G mX9_depthOf [.ref 29, .int (nI i)] h (mm_ri (.int (se_d S (nI i))) h) := by
  have e : se_d S (nI i) = S.1 i := by
    rw [se_d, if_pos ⟨nI_pos' (by omega), nI_le (b := 99) (by omega) (by decide)⟩, nI_clamp (by omega)]
  refine mm_ct (by decide +kernel) (by decide +kernel) rfl (by simp [Value.category]) (Nat.le_of_ble_eq_true rfl) rfl ?_
  rw [e]
  have h1 := hs.1 i hi
  refine ex_aload_n dX9_depthOf_0 rfl ?_
  refine ex_getfield dX9_depthOf_1 g_X9_7 (mP_o p) rfl ?_
  refine ex_iload_n dX9_depthOf_4 rfl ?_
  refine ex_baload dX9_depthOf_5 (mA_1 p) (by first | assumption | exact vp_in_nI (by omega) (by decide)) ?_
  rw [nI_clamp (show i < 2 ^ 31 by omega)]
  refine ex_if_eq (tgt := 18) dX9_depthOf_6 (by decide) (fun c_6 => ?_) (fun c_6 => ?_)
  · refine ex_bipush (v := 100) dX9_depthOf_18 (by decide) ?_
    refine ex_ireturn dX9_depthOf_20 ⟨_, rfl, rfl⟩ ?_
    rcases h1 with ⟨a1, a2, a3⟩ | ⟨a1, a2, a3⟩ <;> first | exact mm_rq a2 | exact mm_rq a2.symm | exact absurd a1 c_6 | exact absurd (a1.symm.trans c_6) (by decide)
  · refine ex_aload_n dX9_depthOf_9 rfl ?_
    refine ex_getfield dX9_depthOf_10 g_X9_17 (mP_o p) rfl ?_
    refine ex_iload_n dX9_depthOf_13 rfl ?_
    refine ex_iaload dX9_depthOf_14 (mA_3 p) (by first | assumption | exact vp_in_nI (by omega) (by decide)) ?_
    rw [nI_clamp (show i < 2 ^ 31 by omega)]
    refine ex_goto (tgt := 20) dX9_depthOf_15 (by decide) ?_
    refine ex_ireturn dX9_depthOf_20 ⟨_, rfl, rfl⟩ ?_
    rcases h1 with ⟨a1, a2, a3⟩ | ⟨a1, a2, a3⟩ <;> first | exact mm_rq a2 | exact mm_rq a2.symm | exact absurd a1 c_6 | exact absurd (a1.symm.trans c_6) (by decide)
theorem c_X9_ground (p : mo_P h0 h s) (hs : r_sea S s.2.2) {i : Nat} (hi : i < 100) : mm_Ct l G mX9_ground [.ref 29, .int (nI i)] h (mm_ri (.int (se_g S (nI i))) h) := by
  refine mm_ct (by decide +kernel) (by decide +kernel) rfl (by simp [Value.category]) (Nat.le_of_ble_eq_true rfl) rfl ?_
  refine mm_viaJ (se_d S (nI i) - se_d S (nI i - 1)) (pc' := 21) (ls' := [.ref 29, .int (nI i), .null]) (st := []) ?_ (fun k => ?_)
  · skip
    refine ex_istore_n dX9_ground_21 (Nat.le_of_ble_eq_true rfl) ?_
    refine ex_sipush (v := 1000) dX9_ground_22 (by decide) ?_
    refine ex_iload_n dX9_ground_25 rfl ?_
    refine ex_iload_n dX9_ground_26 rfl ?_
    refine ex_imul dX9_ground_27 ?_
    refine ex_sipush (v := 2000) dX9_ground_28 (by decide) ?_
    refine ex_idiv dX9_ground_31 (by decide) ?_
    refine ex_iadd dX9_ground_32 ?_
    refine ex_ireturn dX9_ground_33 ⟨_, rfl, rfl⟩ ?_
    exact ⟨rfl, rfl⟩
  · skip
    refine ex_aload_n dX9_ground_0 rfl ?_
    refine ex_iload_n dX9_ground_1 rfl ?_
    refine cV_f dX9_ground_2 (mm_kv i_X9_depthOf l_X9_127) ⟨(Nat.le_of_ble_eq_true rfl), (Nat.le_of_ble_eq_true rfl)⟩ (c_X9_depthOf p hs hi) rfl rfl (mP_o p) (Nat.le_of_ble_eq_true rfl) rfl ?_
    refine ex_iload_n dX9_ground_5 rfl ?_
    skip
    by_cases h0 : i = 0
    · subst h0
      refine ex_if_ne (tgt := 13) dX9_ground_6 (by decide) (fun z => absurd rfl z) (fun _ => ?_)
      refine ex_iconst (v := 0) dX9_ground_9 (by decide) ?_
      refine ex_goto (tgt := 20) dX9_ground_10 (by decide) ?_
      refine ex_isub dX9_ground_20 ?_
      exact k _ rfl
    · have e1 : nI i - 1 = nI (i - 1) := by
        obtain ⟨j, rfl⟩ : ∃ j, i = j + 1 := ⟨i - 1, by omega⟩
        exact nI_m1 j
      rw [e1] at k
      refine ex_if_ne (tgt := 13) dX9_ground_6 (by decide) (fun _ => ?_) (fun z => absurd z (nI_ne0 (by omega) (by omega)))
      refine ex_aload_n dX9_ground_13 rfl ?_
      refine ex_iload_n dX9_ground_14 rfl ?_
      refine ex_iconst (v := 1) dX9_ground_15 (by decide) ?_
      refine ex_isub dX9_ground_16 ?_
      rw [e1]
      refine cV_f dX9_ground_17 (mm_kv i_X9_depthOf l_X9_127) ⟨(Nat.le_of_ble_eq_true rfl), (Nat.le_of_ble_eq_true rfl)⟩ (c_X9_depthOf p hs (show i - 1 < 100 by omega)) rfl rfl (mP_o p) (Nat.le_of_ble_eq_true rfl) rfl ?_
      refine ex_isub dX9_ground_20 ?_
      exact k _ rfl
theorem c_X9_liesAtB (p : mo_P h0 h s) : mm_Ct l G mX9_liesAtB [.ref 29] h (mm_ri (.int (bb (s.1 31 = 100))) h) := by
  refine mm_ct (by decide +kernel) (by decide +kernel) rfl (by simp [Value.category]) (Nat.le_of_ble_eq_true rfl) rfl ?_
  refine ex_aload_n dX9_liesAtB_0 rfl ?_
  refine ex_getfield dX9_liesAtB_1 g_X9_135 (mP_o p) rfl ?_
  refine ex_bipush (v := 100) dX9_liesAtB_4 (by decide) ?_
  refine ex_icmp_ne (tgt := 13) dX9_liesAtB_6 (by decide) (fun c_6 => ?_) (fun c_6 => ?_)
  · refine ex_iconst (v := 0) dX9_liesAtB_13 (by decide) ?_
    refine ex_ireturn dX9_liesAtB_14 ⟨_, rfl, (by first | rfl | exact bb_r)⟩ ?_
    first | exact bq_t c_6 | exact bq_f c_6
  · refine ex_iconst (v := 1) dX9_liesAtB_9 (by decide) ?_
    refine ex_goto (tgt := 14) dX9_liesAtB_10 (by decide) ?_
    refine ex_ireturn dX9_liesAtB_14 ⟨_, rfl, (by first | rfl | exact bb_r)⟩ ?_
    first | exact bq_t c_6 | exact bq_f c_6
theorem c_X9_ships (p : mo_P h0 h s) {c : ca_T} (e1 : s.1 6 = c.1) (e2 : s.1 7 = c.2.1) (e3 : s.1 8 = c.2.2) : mm_Ct l G mX9_ships [.ref 29] h (mm_ri (.int (bb (ca_w c ≤ 6 ∧ c.2.2 ≤ c.1))) h) := by
  refine mm_ct (by decide +kernel) (by decide +kernel) rfl (by simp [Value.category]) (Nat.le_of_ble_eq_true rfl) rfl ?_
  refine ex_aload_n dX9_ships_0 rfl ?_
  refine ex_getfield dX9_ships_1 g_X9_142 (mP_o p) rfl ?_
  rw [e2]
  refine ex_bipush (v := 10) dX9_ships_4 (by decide) ?_
  refine ex_irem dX9_ships_6 (by decide) ?_
  refine ex_bipush (v := 6) dX9_ships_7 (by decide) ?_
  refine ex_icmp_gt (tgt := 27) dX9_ships_9 (by decide) (fun c_9 => ?_) (fun c_9 => ?_)
  · refine ex_iconst (v := 0) dX9_ships_27 (by decide) ?_
    refine ex_ireturn dX9_ships_28 ⟨_, rfl, (by first | rfl | exact bb_r)⟩ ?_
    first | exact bq_f (fun z => Int32.not_lt.mpr z.1 c_9) | exact bq_f (fun z => Int32.not_lt.mpr z.2 c_20) | exact bq_t ⟨Int32.not_lt.mp c_9, Int32.not_lt.mp c_20⟩
  · refine ex_aload_n dX9_ships_12 rfl ?_
    refine ex_getfield dX9_ships_13 g_X9_139 (mP_o p) rfl ?_
    rw [e1]
    refine ex_aload_n dX9_ships_16 rfl ?_
    refine ex_getfield dX9_ships_17 g_X9_183 (mP_o p) rfl ?_
    rw [e3]
    refine ex_icmp_lt (tgt := 27) dX9_ships_20 (by decide) (fun c_20 => ?_) (fun c_20 => ?_)
    · refine ex_iconst (v := 0) dX9_ships_27 (by decide) ?_
      refine ex_ireturn dX9_ships_28 ⟨_, rfl, (by first | rfl | exact bb_r)⟩ ?_
      first | exact bq_f (fun z => Int32.not_lt.mpr z.1 c_9) | exact bq_f (fun z => Int32.not_lt.mpr z.2 c_20) | exact bq_t ⟨Int32.not_lt.mp c_9, Int32.not_lt.mp c_20⟩
    · refine ex_iconst (v := 1) dX9_ships_23 (by decide) ?_
      refine ex_goto (tgt := 28) dX9_ships_24 (by decide) ?_
      refine ex_ireturn dX9_ships_28 ⟨_, rfl, (by first | rfl | exact bb_r)⟩ ?_
      first | exact bq_f (fun z => Int32.not_lt.mpr z.1 c_9) | exact bq_f (fun z => Int32.not_lt.mpr z.2 c_20) | exact bq_t ⟨Int32.not_lt.mp c_9, Int32.not_lt.mp c_20⟩
theorem c_X9_pull (t d : Int32) : mm_Ct l G mX9_pull [.int t, .int d] h (mm_ri (.int (ho_pl t d)) h) := by
  refine mm_ct (by decide +kernel) (by decide +kernel) rfl (by simp [Value.category]) (Nat.le_of_ble_eq_true rfl) rfl ?_
  refine ex_bipush (v := 12) dX9_pull_0 (by decide) ?_
  refine ex_iconst (v := 3) dX9_pull_2 (by decide) ?_
  refine ex_iload_n dX9_pull_3 rfl ?_
  refine ex_imul dX9_pull_4 ?_
  refine ex_isub dX9_pull_5 ?_
  refine ex_iload_n dX9_pull_6 rfl ?_
  refine ex_imul dX9_pull_7 ?_
  refine ex_bipush (v := 100) dX9_pull_8 (by decide) ?_
  refine ex_idiv dX9_pull_10 (by decide) ?_
  refine ex_ireturn dX9_pull_11 ⟨_, rfl, rfl⟩ ?_
  exact ⟨rfl, rfl⟩
theorem c_X9_lengthOf (p : mo_P h0 h s) (hl : r_line s T) (hw : ln_W T) {i : Nat} {r : tt_R} (hr : T[i]? = some r) (iv : Int32) (hiv : iv = nI i) : mm_Ct l G mX9_lengthOf [.ref 29, .int iv] h (mm_ri (.int r.2.2.2) h) := by
  subst hiv
  have hi := (List.getElem?_eq_some_iff.mp hr).1
  have hL := hw.1
  have e := (hw.2 i r hr).len
  obtain ⟨a1, a2, a3, a4⟩ := hl.2 i r hr
  refine mm_ct (by decide +kernel) (by decide +kernel) rfl (by simp [Value.category]) (Nat.le_of_ble_eq_true rfl) rfl ?_
  refine ex_aload_n dX9_lengthOf_0 rfl ?_
  refine ex_getfield dX9_lengthOf_1 g_X9_50 (mP_o p) rfl ?_
  refine ex_iload_n dX9_lengthOf_4 rfl ?_
  refine ex_iaload dX9_lengthOf_5 (mA_22 p) (by first | assumption | exact vp_in_nI (by omega) (by decide)) ?_
  rw [nI_clamp (show i < 2 ^ 31 by omega), a1]
  refine ex_if_ne (tgt := 27) dX9_lengthOf_6 (by decide) (fun c_6 => ?_) (fun c_6 => ?_)
  · refine ex_iconst (v := 0) dX9_lengthOf_27 (by decide) ?_
    refine ex_ireturn dX9_lengthOf_28 ⟨_, rfl, rfl⟩ ?_
    first | (rw [if_neg c_6] at e; exact mm_rq e.symm) | (rw [if_pos c_6] at e; exact mm_rq e.symm)
  · refine ex_aload_n dX9_lengthOf_9 rfl ?_
    refine ex_getfield dX9_lengthOf_10 g_X9_59 (mP_o p) rfl ?_
    refine ex_iload_n dX9_lengthOf_13 rfl ?_
    refine ex_iaload dX9_lengthOf_14 (mA_25 p) (by first | assumption | exact vp_in_nI (by omega) (by decide)) ?_
    rw [nI_clamp (show i < 2 ^ 31 by omega), a4]
    refine ex_aload_n dX9_lengthOf_15 rfl ?_
    refine ex_getfield dX9_lengthOf_16 g_X9_56 (mP_o p) rfl ?_
    refine ex_iload_n dX9_lengthOf_19 rfl ?_
    refine ex_iaload dX9_lengthOf_20 (mA_24 p) (by first | assumption | exact vp_in_nI (by omega) (by decide)) ?_
    rw [nI_clamp (show i < 2 ^ 31 by omega), a3]
    refine ex_isub dX9_lengthOf_21 ?_
    refine ex_iconst (v := 1) dX9_lengthOf_22 (by decide) ?_
    refine ex_iadd dX9_lengthOf_23 ?_
    refine ex_goto (tgt := 28) dX9_lengthOf_24 (by decide) ?_
    refine ex_ireturn dX9_lengthOf_28 ⟨_, rfl, rfl⟩ ?_
    first | (rw [if_neg c_6] at e; exact mm_rq e.symm) | (rw [if_pos c_6] at e; exact mm_rq e.symm)
theorem c_X9_metres (p : mo_P h0 h s) (hl : r_line s T) (hw : ln_W T) : mm_Ct l G mX9_metres [.ref 29] h (mm_ri (.int (ln_m T 0)) h) := by
  have hL := hw.1
  have key : ∀ a : Int32, mm_Ex l G mX9_metres (mm_ri (.int (ln_m T a)) h) 4 [.ref 29, .int a, .int (nI 0)] [] h := by
    refine lp_fwd T (fun i R => ∀ a : Int32, mm_Ex l G mX9_metres (mm_ri (.int (ln_m R a)) h) 4 [.ref 29, .int a, .int (nI i)] [] h) ?_ ?_
    · intro a
      refine ex_iload_n dX9_metres_4 rfl ?_
      refine ex_aload_n dX9_metres_5 rfl ?_
      refine ex_getfield dX9_metres_6 g_X9_171 (mP_o p) rfl ?_
      rw [hl.1]
      refine ex_icmp_ge (tgt := 26) dX9_metres_9 (by decide) (fun _ => ?_) (fun z => absurd (Int32.le_refl _) z)
      refine ex_iload_n dX9_metres_26 rfl ?_
      refine ex_ireturn dX9_metres_27 ⟨_, rfl, rfl⟩ ?_
      exact ⟨rfl, rfl⟩
    · intro i r R hr hR hi ih a
      refine ex_iload_n dX9_metres_4 rfl ?_
      refine ex_aload_n dX9_metres_5 rfl ?_
      refine ex_getfield dX9_metres_6 g_X9_171 (mP_o p) rfl ?_
      rw [hl.1]
      refine ex_icmp_ge (tgt := 26) dX9_metres_9 (by decide) (fun z => absurd z (nI_ge hi (by omega))) (fun _ => ?_)
      refine ex_iload_n dX9_metres_12 rfl ?_
      refine ex_aload_n dX9_metres_13 rfl ?_
      refine ex_iload_n dX9_metres_14 rfl ?_
      refine cV_f dX9_metres_15 (mm_kv i_X9_lengthOf l_X9_174) ⟨(Nat.le_of_ble_eq_true rfl), (Nat.le_of_ble_eq_true rfl)⟩ (c_X9_lengthOf p hl hw hr _ rfl) rfl rfl (mP_o p) (Nat.le_of_ble_eq_true rfl) rfl ?_
      refine ex_iadd dX9_metres_18 ?_
      refine ex_istore_n dX9_metres_19 (Nat.le_of_ble_eq_true rfl) ?_
      refine ex_iinc (d := 1) dX9_metres_20 rfl (by decide) ?_
      refine ex_goto (tgt := 4) dX9_metres_23 (by decide) ?_
      rw [nI_1]; exact ih _
  refine mm_ct (by decide +kernel) (by decide +kernel) rfl (by simp [Value.category]) (Nat.le_of_ble_eq_true rfl) rfl ?_
  refine ex_iconst (v := 0) dX9_metres_0 (by decide) ?_
  refine ex_istore_n dX9_metres_1 (Nat.le_of_ble_eq_true rfl) ?_
  refine ex_iconst (v := 0) dX9_metres_2 (by decide) ?_
  refine ex_istore_n dX9_metres_3 (Nat.le_of_ble_eq_true rfl) ?_
  exact key 0
theorem c_X9_many (p : mo_P h0 h s) (hl : r_line s T) (hw : ln_W T) (k : Int32) : mm_Ct l G mX9_many [.ref 29, .int k] h (mm_ri (.int (ro_n k T 0)) h) := by
  have hL := hw.1
  have key : ∀ a : Int32, mm_Ex l G mX9_many (mm_ri (.int (ro_n k T a)) h) 4 [.ref 29, .int k, .int a, .int (nI 0)] [] h := by
    refine lp_fwd T (fun i R => ∀ a : Int32, mm_Ex l G mX9_many (mm_ri (.int (ro_n k R a)) h) 4 [.ref 29, .int k, .int a, .int (nI i)] [] h) ?_ ?_
    · intro a
      refine ex_iload_n dX9_many_4 rfl ?_
      refine ex_aload_n dX9_many_5 rfl ?_
      refine ex_getfield dX9_many_6 g_X9_171 (mP_o p) rfl ?_
      rw [hl.1]
      refine ex_icmp_ge (tgt := 36) dX9_many_9 (by decide) (fun _ => ?_) (fun z => absurd (Int32.le_refl _) z)
      refine ex_iload_n dX9_many_36 rfl ?_
      refine ex_ireturn dX9_many_37 ⟨_, rfl, rfl⟩ ?_
      exact ⟨rfl, rfl⟩
    · intro i r R hr hR hi ih a
      refine ex_iload_n dX9_many_4 rfl ?_
      refine ex_aload_n dX9_many_5 rfl ?_
      refine ex_getfield dX9_many_6 g_X9_171 (mP_o p) rfl ?_
      rw [hl.1]
      refine ex_icmp_ge (tgt := 36) dX9_many_9 (by decide) (fun z => absurd z (nI_ge hi (by omega))) (fun _ => ?_)
      refine ex_iload_n dX9_many_12 rfl ?_
      refine ex_aload_n dX9_many_13 rfl ?_
      refine ex_getfield dX9_many_14 g_X9_50 (mP_o p) rfl ?_
      refine ex_iload_n dX9_many_17 rfl ?_
      refine ex_iaload dX9_many_18 (mA_22 p) (by first | assumption | exact vp_in_nI (by omega) (by decide)) ?_
      rw [nI_clamp (show i < 2 ^ 31 by omega), (hl.2 i r hr).1]
      refine ex_iload_n dX9_many_19 rfl ?_
      refine ex_icmp_ne (tgt := 27) dX9_many_20 (by decide) (fun c_20 => ?_) (fun c_20 => ?_)
      · refine ex_iconst (v := 0) dX9_many_27 (by decide) ?_
        refine ex_iadd dX9_many_28 ?_
        refine ex_istore_n dX9_many_29 (Nat.le_of_ble_eq_true rfl) ?_
        refine ex_iinc (d := 1) dX9_many_30 rfl (by decide) ?_
        refine ex_goto (tgt := 4) dX9_many_33 (by decide) ?_
        rw [nI_1, ro_n]; first | (rw [if_pos c_20]; exact ih _) | (rw [if_neg c_20]; exact mm_rw (x := ro_n k R (a + 0)) (by rw [show a + 0 = a by grind]) (ih (a + 0)))
      · refine ex_iconst (v := 1) dX9_many_23 (by decide) ?_
        refine ex_goto (tgt := 28) dX9_many_24 (by decide) ?_
        refine ex_iadd dX9_many_28 ?_
        refine ex_istore_n dX9_many_29 (Nat.le_of_ble_eq_true rfl) ?_
        refine ex_iinc (d := 1) dX9_many_30 rfl (by decide) ?_
        refine ex_goto (tgt := 4) dX9_many_33 (by decide) ?_
        rw [nI_1, ro_n]; first | (rw [if_pos c_20]; exact ih _) | (rw [if_neg c_20]; exact mm_rw (x := ro_n k R (a + 0)) (by rw [show a + 0 = a by grind]) (ih (a + 0)))
  refine mm_ct (by decide +kernel) (by decide +kernel) rfl (by simp [Value.category]) (Nat.le_of_ble_eq_true rfl) rfl ?_
  refine ex_iconst (v := 0) dX9_many_0 (by decide) ?_
  refine ex_istore_n dX9_many_1 (Nat.le_of_ble_eq_true rfl) ?_
  refine ex_iconst (v := 0) dX9_many_2 (by decide) ?_
  refine ex_istore_n dX9_many_3 (Nat.le_of_ble_eq_true rfl) ?_
  exact key 0
end MOA
