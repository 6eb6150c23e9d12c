/-! SMALL METHODS: tests, what must be, the sea, the calendar -/
def bb (p : Prop) [Decidable p] : Int32 := if p then 1 else 0
theorem bb_0 {p : Prop} [Decidable p] : bb p = 0 ↔ ¬ p := by unfold bb; split <;> simp_all
theorem bb_n {p : Prop} [Decidable p] : ¬ bb p = 0 ↔ p := by rw [bb_0]; exact Decidable.not_not
theorem bb_t {p : Prop} [Decidable p] (h : p) : bb p = 1 := if_pos h
theorem bb_f {p : Prop} [Decidable p] (h : ¬ p) : bb p = 0 := if_neg h
theorem bb_r {p : Prop} [Decidable p] : narrow .boolean (.int (bb p)) = .int (bb p) := by unfold bb; split <;> rfl
theorem bq_f {p : Prop} [Decidable p] {hh : mm_H} (h : ¬ p) : mm_ri (.int (bb p)) hh (.inl (some (.int 0))) hh := ⟨by rw [bb_f h], rfl⟩
theorem bq_t {p : Prop} [Decidable p] {hh : mm_H} (h : p) : mm_ri (.int (bb p)) hh (.inl (some (.int 1))) hh := ⟨by rw [bb_t h], rfl⟩
theorem mm_set_set {h : mm_H} {k : Nat} {a b : mm_E} : mm_set (mm_set h k a) k b = mm_set h k b := by
  unfold mm_set
  refine Prod.ext (funext fun j => ?_) rfl
  by_cases hj : j = k
  · simp [hj]
  · simp [hj]
abbrev ii (v a b : Int32) : Prop := a ≤ v ∧ v ≤ b
theorem c_X8_isIn {l : Launch} {G : mm_G} {h : mm_H} (v a b : Int32) : mm_Ct l G mX8_isIn [.int v, .int a, .int b] h (mm_ri (.int (bb (ii v a b))) h) := by
  refine mm_ct (by decide +kernel) (by decide +kernel) rfl (by simp [Value.category]) (Nat.le_of_ble_eq_true rfl) rfl ?_
  refine ex_iload_n dX8_isIn_0 rfl ?_
  refine ex_iload_n dX8_isIn_1 rfl ?_
  refine ex_icmp_lt (tgt := 14) dX8_isIn_2 (by decide) (fun c_2 => ?_) (fun c_2 => ?_)
  · refine ex_iconst (v := 0) dX8_isIn_14 (by decide) ?_
    refine ex_ireturn dX8_isIn_15 ⟨_, rfl, rfl⟩ ?_
    first | exact bq_f (fun z => Int32.not_lt.mpr z.1 c_2) | exact bq_f (fun z => Int32.not_lt.mpr z.2 c_7) | exact bq_t ⟨Int32.not_lt.mp c_2, Int32.not_lt.mp c_7⟩
  · refine ex_iload_n dX8_isIn_5 rfl ?_
    refine ex_iload_n dX8_isIn_6 rfl ?_
    refine ex_icmp_gt (tgt := 14) dX8_isIn_7 (by decide) (fun c_7 => ?_) (fun c_7 => ?_)
    · refine ex_iconst (v := 0) dX8_isIn_14 (by decide) ?_
      refine ex_ireturn dX8_isIn_15 ⟨_, rfl, rfl⟩ ?_
      first | exact bq_f (fun z => Int32.not_lt.mpr z.1 c_2) | exact bq_f (fun z => Int32.not_lt.mpr z.2 c_7) | exact bq_t ⟨Int32.not_lt.mp c_2, Int32.not_lt.mp c_7⟩
    · refine ex_iconst (v := 1) dX8_isIn_10 (by decide) ?_
      refine ex_goto (tgt := 15) dX8_isIn_11 (by decide) ?_
      refine ex_ireturn dX8_isIn_15 ⟨_, rfl, rfl⟩ ?_
      first | exact bq_f (fun z => Int32.not_lt.mpr z.1 c_2) | exact bq_f (fun z => Int32.not_lt.mpr z.2 c_7) | exact bq_t ⟨Int32.not_lt.mp c_2, Int32.not_lt.mp c_7⟩
theorem c_X8_isCell {l : Launch} {G : mm_G} {h : mm_H} (v : Int32) : mm_Ct l G mX8_isCell [.int v] h (mm_ri (.int (bb (ii v 0 99))) h) := by
  refine mm_ct (by decide +kernel) (by decide +kernel) rfl (by simp [Value.category]) (Nat.le_of_ble_eq_true rfl) rfl ?_
  refine ex_iload_n dX8_isCell_0 rfl ?_
  refine ex_iconst (v := 0) dX8_isCell_1 (by decide) ?_
  refine ex_bipush (v := 99) dX8_isCell_2 (by decide) ?_
  refine cS_f dX8_isCell_4 (mm_ks i_X8_isIn l_X8_55) ⟨(Nat.le_of_ble_eq_true rfl), (Nat.le_of_ble_eq_true rfl)⟩ (c_X8_isIn _ _ _) rfl rfl (Nat.le_of_ble_eq_true rfl) rfl ?_
  refine ex_ireturn dX8_isCell_7 ⟨_, rfl, bb_r⟩ ?_
  exact ⟨rfl, rfl⟩
theorem c_X8_isTank {l : Launch} {G : mm_G} {h : mm_H} (v : Int32) : mm_Ct l G mX8_isTank [.int v] h (mm_ri (.int (bb (ii v 0 2))) h) := by
  refine mm_ct (by decide +kernel) (by decide +kernel) rfl (by simp [Value.category]) (Nat.le_of_ble_eq_true rfl) rfl ?_
  refine ex_iload_n dX8_isTank_0 rfl ?_
  refine ex_iconst (v := 0) dX8_isTank_1 (by decide) ?_
  refine ex_iconst (v := 2) dX8_isTank_2 (by decide) ?_
  refine cS_f dX8_isTank_3 (mm_ks i_X8_isIn l_X8_55) ⟨(Nat.le_of_ble_eq_true rfl), (Nat.le_of_ble_eq_true rfl)⟩ (c_X8_isIn _ _ _) rfl rfl (Nat.le_of_ble_eq_true rfl) rfl ?_
  refine ex_ireturn dX8_isTank_6 ⟨_, rfl, bb_r⟩ ?_
  exact ⟨rfl, rfl⟩
theorem c_X8_isType {l : Launch} {G : mm_G} {h : mm_H} (v : Int32) : mm_Ct l G mX8_isType [.int v] h (mm_ri (.int (bb (ii v 0 3))) h) := by
  refine mm_ct (by decide +kernel) (by decide +kernel) rfl (by simp [Value.category]) (Nat.le_of_ble_eq_true rfl) rfl ?_
  refine ex_iload_n dX8_isType_0 rfl ?_
  refine ex_iconst (v := 0) dX8_isType_1 (by decide) ?_
  refine ex_iconst (v := 3) dX8_isType_2 (by decide) ?_
  refine cS_f dX8_isType_3 (mm_ks i_X8_isIn l_X8_55) ⟨(Nat.le_of_ble_eq_true rfl), (Nat.le_of_ble_eq_true rfl)⟩ (c_X8_isIn _ _ _) rfl rfl (Nat.le_of_ble_eq_true rfl) rfl ?_
  refine ex_ireturn dX8_isType_6 ⟨_, rfl, bb_r⟩ ?_
  exact ⟨rfl, rfl⟩
theorem c_X8_needArgument {l : Launch} {G : mm_G} {h : mm_H} (hl : l.stackTraces = false) (b : Int32) : mm_Ct l G mX8_needArgument [.int b] h (mm_qn b "java/lang/IllegalArgumentException" h) := by
  refine mm_ct (by decide +kernel) (by decide +kernel) rfl (by simp [Value.category]) (Nat.le_of_ble_eq_true rfl) rfl ?_
  refine ex_iload_n dX8_needArgument_0 rfl ?_
  refine ex_if_ne (tgt := 15) dX8_needArgument_1 (by decide) (fun c_1 => ?_) (fun c_1 => ?_)
  · refine ex_return dX8_needArgument_15 rfl ?_
    exact Or.inr ⟨c_1, rfl, rfl⟩
  · refine ex_throw hl (th_arg rfl) (Or.inl ⟨c_1, rfl, rfl⟩)
theorem c_X8_needState {l : Launch} {G : mm_G} {h : mm_H} (hl : l.stackTraces = false) (b : Int32) : mm_Ct l G mX8_needState [.int b] h (mm_qn b "java/lang/IllegalStateException" h) := by
  refine mm_ct (by decide +kernel) (by decide +kernel) rfl (by simp [Value.category]) (Nat.le_of_ble_eq_true rfl) rfl ?_
  refine ex_iload_n dX8_needState_0 rfl ?_
  refine ex_if_ne (tgt := 15) dX8_needState_1 (by decide) (fun c_1 => ?_) (fun c_1 => ?_)
  · refine ex_return dX8_needState_15 rfl ?_
    exact Or.inr ⟨c_1, rfl, rfl⟩
  · refine ex_throw hl (th_state rfl) (Or.inl ⟨c_1, rfl, rfl⟩)
theorem c_X8_needIndex {l : Launch} {G : mm_G} {h : mm_H} (hl : l.stackTraces = false) (i n : Int32) : mm_Ct l G mX8_needIndex [.int i, .int n] h (mm_qn (bb (0 ≤ i ∧ i < n)) "java/lang/IndexOutOfBoundsException" h) := by
  refine mm_ct (by decide +kernel) (by decide +kernel) rfl (by simp [Value.category]) (Nat.le_of_ble_eq_true rfl) rfl ?_
  refine ex_iload_n dX8_needIndex_0 rfl ?_
  refine ex_if_lt (tgt := 9) dX8_needIndex_1 (by decide) (fun c_1 => ?_) (fun c_1 => ?_)
  · first | exact ex_throw hl (th_index rfl) (Or.inl ⟨bb_f (fun z => Int32.not_lt.mpr z.1 c_1), rfl, rfl⟩) | exact ex_throw hl (th_index rfl) (Or.inl ⟨bb_f (fun z => c_6 z.2), rfl, rfl⟩)
  · refine ex_iload_n dX8_needIndex_4 rfl ?_
    refine ex_iload_n dX8_needIndex_5 rfl ?_
    refine ex_icmp_lt (tgt := 20) dX8_needIndex_6 (by decide) (fun c_6 => ?_) (fun c_6 => ?_)
    · refine ex_return dX8_needIndex_20 rfl ?_
      exact Or.inr ⟨bb_n.mpr ⟨Int32.not_lt.mp c_1, c_6⟩, rfl, rfl⟩
    · first | exact ex_throw hl (th_index rfl) (Or.inl ⟨bb_f (fun z => Int32.not_lt.mpr z.1 c_1), rfl, rfl⟩) | exact ex_throw hl (th_index rfl) (Or.inl ⟨bb_f (fun z => c_6 z.2), rfl, rfl⟩)
/-- the sea: depths, errors, wrecks, crossings -/
abbrev se_T : Type := (Nat → Int32) × (Nat → Int32) × (Nat → Int32) × (Nat → Int32)
def se_P (h : mm_H) (S : se_T) : Prop := h.1 1 = some (.inr (6, [.ref 2, .ref 3, .ref 4, .ref 5])) ∧ h.1 2 = some (.inl (.int, 100, .inl S.1)) ∧ h.1 3 = some (.inl (.int, 100, .inl S.2.1)) ∧ h.1 4 = some (.inl (.boolean, 100, .inl S.2.2.1)) ∧ h.1 5 = some (.inl (.int, 100, .inl S.2.2.2))
def se_d (S : se_T) (i : Int32) : Int32 := if ii i 0 99 then S.1 i.toNatClampNeg else 0
def se_g (S : se_T) (i : Int32) : Int32 := 1000 + (se_d S i - se_d S (i - 1)) * (se_d S i - se_d S (i - 1)) / 2000
theorem ii_in {i a : Int32} {n : Nat} (h : ii i 0 a) (ha : a = nI n) (hn : n < 2 ^ 30) : vp_in i (n + 1) := by
  subst ha
  have h0 : ¬ i < 0 := Int32.not_lt.mpr h.1
  obtain ⟨j, hj, rfl⟩ := nI_of h0
  exact vp_in_nI (Nat.lt_succ_of_le ((nI_leI hj (by omega)).mp h.2)) (by omega)
theorem ii_99 {i : Int32} (h : ii i 0 99) : vp_in i 100 := ii_in (n := 99) h rfl (by decide)
section SEA
variable {l : Launch} {G : mm_G} {h : mm_H} {S : se_T}
theorem c_X6_depthOf (hS : se_P h S) (i : Int32) : mm_Ct l G mX6_depthOf [.ref 1, .int i] h (mm_ri (.int (se_d S i)) h) := by
  refine mm_ct (by decide +kernel) (by decide +kernel) rfl (by simp [Value.category]) (Nat.le_of_ble_eq_true rfl) rfl ?_
  refine ex_iload_n dX6_depthOf_0 rfl ?_
  refine cSN_f dX6_depthOf_1 (mm_ksn i_X8_isCell l_X6_31) ⟨(Nat.le_of_ble_eq_true rfl), (Nat.le_of_ble_eq_true rfl)⟩ (c_X8_isCell _) rfl rfl (Nat.le_of_ble_eq_true rfl) rfl ?_
  refine ex_if_eq (tgt := 16) dX6_depthOf_4 (by decide) (fun c_4 => ?_) (fun c_4 => ?_)
  · refine ex_iconst (v := 0) dX6_depthOf_16 (by decide) ?_
    refine ex_ireturn dX6_depthOf_17 ⟨_, rfl, rfl⟩ ?_
    first | exact ⟨by rw [se_d, if_neg (bb_0.mp c_4)], rfl⟩ | exact ⟨by rw [se_d, if_pos (bb_n.mp c_4)], rfl⟩
  · refine ex_aload_n dX6_depthOf_7 rfl ?_
    refine ex_getfield dX6_depthOf_8 g_X6_9 hS.1 rfl ?_
    refine ex_iload_n dX6_depthOf_11 rfl ?_
    refine ex_iaload dX6_depthOf_12 hS.2.1 (ii_99 (bb_n.mp c_4)) ?_
    refine ex_goto (tgt := 17) dX6_depthOf_13 (by decide) ?_
    refine ex_ireturn dX6_depthOf_17 ⟨_, rfl, rfl⟩ ?_
    first | exact ⟨by rw [se_d, if_neg (bb_0.mp c_4)], rfl⟩ | exact ⟨by rw [se_d, if_pos (bb_n.mp c_4)], rfl⟩
theorem c_X6_crossingOf (hS : se_P h S) (i : Int32) : mm_Ct l G mX6_crossingOf [.ref 1, .int i] h (mm_ri (.int (if ii i 0 99 then S.2.2.2 i.toNatClampNeg else 0)) h) := by
  refine mm_ct (by decide +kernel) (by decide +kernel) rfl (by simp [Value.category]) (Nat.le_of_ble_eq_true rfl) rfl ?_
  refine ex_iload_n dX6_crossingOf_0 rfl ?_
  refine cSN_f dX6_crossingOf_1 (mm_ksn i_X8_isCell l_X6_31) ⟨(Nat.le_of_ble_eq_true rfl), (Nat.le_of_ble_eq_true rfl)⟩ (c_X8_isCell _) rfl rfl (Nat.le_of_ble_eq_true rfl) rfl ?_
  refine ex_if_eq (tgt := 16) dX6_crossingOf_4 (by decide) (fun c_4 => ?_) (fun c_4 => ?_)
  · refine ex_iconst (v := 0) dX6_crossingOf_16 (by decide) ?_
    refine ex_ireturn dX6_crossingOf_17 ⟨_, rfl, rfl⟩ ?_
    first | exact ⟨by rw [if_neg (bb_0.mp c_4)], rfl⟩ | exact ⟨by rw [if_pos (bb_n.mp c_4)], rfl⟩
  · refine ex_aload_n dX6_crossingOf_7 rfl ?_
    refine ex_getfield dX6_crossingOf_8 g_X6_22 hS.1 rfl ?_
    refine ex_iload_n dX6_crossingOf_11 rfl ?_
    refine ex_iaload dX6_crossingOf_12 hS.2.2.2.2 (ii_99 (bb_n.mp c_4)) ?_
    refine ex_goto (tgt := 17) dX6_crossingOf_13 (by decide) ?_
    refine ex_ireturn dX6_crossingOf_17 ⟨_, rfl, rfl⟩ ?_
    first | exact ⟨by rw [if_neg (bb_0.mp c_4)], rfl⟩ | exact ⟨by rw [if_pos (bb_n.mp c_4)], rfl⟩
theorem c_X6_hasWreck (hS : se_P h S) (i : Int32) : mm_Ct l G mX6_hasWreck [.ref 1, .int i] h (mm_ri (.int (bb (ii i 0 99 ∧ ¬ S.2.2.1 i.toNatClampNeg = 0))) h) := by
  refine mm_ct (by decide +kernel) (by decide +kernel) rfl (by simp [Value.category]) (Nat.le_of_ble_eq_true rfl) rfl ?_
  refine ex_iload_n dX6_hasWreck_0 rfl ?_
  refine cSN_f dX6_hasWreck_1 (mm_ksn i_X8_isCell l_X6_31) ⟨(Nat.le_of_ble_eq_true rfl), (Nat.le_of_ble_eq_true rfl)⟩ (c_X8_isCell _) rfl rfl (Nat.le_of_ble_eq_true rfl) rfl ?_
  refine ex_if_eq (tgt := 20) dX6_hasWreck_4 (by decide) (fun c_4 => ?_) (fun c_4 => ?_)
  · refine ex_iconst (v := 0) dX6_hasWreck_20 (by decide) ?_
    refine ex_ireturn dX6_hasWreck_21 ⟨_, rfl, rfl⟩ ?_
    first | exact bq_f (fun z => bb_0.mp c_4 z.1) | exact bq_f (fun z => z.2 c_13) | exact bq_t ⟨bb_n.mp c_4, c_13⟩
  · refine ex_aload_n dX6_hasWreck_7 rfl ?_
    refine ex_getfield dX6_hasWreck_8 g_X6_18 hS.1 rfl ?_
    refine ex_iload_n dX6_hasWreck_11 rfl ?_
    refine ex_baload dX6_hasWreck_12 hS.2.2.2.1 (ii_99 (bb_n.mp c_4)) ?_
    refine ex_if_eq (tgt := 20) dX6_hasWreck_13 (by decide) (fun c_13 => ?_) (fun c_13 => ?_)
    · refine ex_iconst (v := 0) dX6_hasWreck_20 (by decide) ?_
      refine ex_ireturn dX6_hasWreck_21 ⟨_, rfl, rfl⟩ ?_
      first | exact bq_f (fun z => bb_0.mp c_4 z.1) | exact bq_f (fun z => z.2 c_13) | exact bq_t ⟨bb_n.mp c_4, c_13⟩
    · refine ex_iconst (v := 1) dX6_hasWreck_16 (by decide) ?_
      refine ex_goto (tgt := 21) dX6_hasWreck_17 (by decide) ?_
      refine ex_ireturn dX6_hasWreck_21 ⟨_, rfl, rfl⟩ ?_
      first | exact bq_f (fun z => bb_0.mp c_4 z.1) | exact bq_f (fun z => z.2 c_13) | exact bq_t ⟨bb_n.mp c_4, c_13⟩
theorem c_X6_groundOf (hS : se_P h S) (i : Int32) : mm_Ct l G mX6_groundOf [.ref 1, .int i] h (mm_ri (.int (se_g S i)) h) := by
  refine mm_ct (by decide +kernel) (by decide +kernel) rfl (by simp [Value.category]) (Nat.le_of_ble_eq_true rfl) rfl ?_
  refine ex_aload_n dX6_groundOf_0 rfl ?_
  refine ex_iload_n dX6_groundOf_1 rfl ?_
  refine cV_f dX6_groundOf_2 (mm_kv i_X6_depthOf l_X6_35) ⟨(Nat.le_of_ble_eq_true rfl), (Nat.le_of_ble_eq_true rfl)⟩ (c_X6_depthOf hS _) rfl rfl hS.1 (Nat.le_of_ble_eq_true rfl) rfl ?_
  refine ex_aload_n dX6_groundOf_5 rfl ?_
  refine ex_iload_n dX6_groundOf_6 rfl ?_
  refine ex_iconst (v := 1) dX6_groundOf_7 (by decide) ?_
  refine ex_isub dX6_groundOf_8 ?_
  refine cV_f dX6_groundOf_9 (mm_kv i_X6_depthOf l_X6_35) ⟨(Nat.le_of_ble_eq_true rfl), (Nat.le_of_ble_eq_true rfl)⟩ (c_X6_depthOf hS _) rfl rfl hS.1 (Nat.le_of_ble_eq_true rfl) rfl ?_
  refine ex_isub dX6_groundOf_12 ?_
  refine ex_istore_n dX6_groundOf_13 (Nat.le_of_ble_eq_true rfl) ?_
  refine ex_sipush (v := 1000) dX6_groundOf_14 (by decide) ?_
  refine ex_iload_n dX6_groundOf_17 rfl ?_
  refine ex_iload_n dX6_groundOf_18 rfl ?_
  refine ex_imul dX6_groundOf_19 ?_
  refine ex_sipush (v := 2000) dX6_groundOf_20 (by decide) ?_
  refine ex_idiv dX6_groundOf_23 (by decide) ?_
  refine ex_iadd dX6_groundOf_24 ?_
  refine ex_ireturn dX6_groundOf_25 ⟨_, rfl, rfl⟩ ?_
  exact ⟨rfl, rfl⟩
theorem c_X6_isOpen (hS : se_P h S) (i : Int32) : mm_Ct l G mX6_isOpen [.ref 1, .int i] h (mm_ri (.int (bb (¬ (ii i 0 99 ∧ ¬ S.2.2.1 i.toNatClampNeg = 0) ∧ ¬ (if ii i 0 99 then S.2.2.2 i.toNatClampNeg else 0) = 1))) h) := by
  refine mm_ct (by decide +kernel) (by decide +kernel) rfl (by simp [Value.category]) (Nat.le_of_ble_eq_true rfl) rfl ?_
  refine ex_aload_n dX6_isOpen_0 rfl ?_
  refine ex_iload_n dX6_isOpen_1 rfl ?_
  refine cV_f dX6_isOpen_2 (mm_kv i_X6_hasWreck l_X6_39) ⟨(Nat.le_of_ble_eq_true rfl), (Nat.le_of_ble_eq_true rfl)⟩ (c_X6_hasWreck hS _) rfl rfl hS.1 (Nat.le_of_ble_eq_true rfl) rfl ?_
  refine ex_if_ne (tgt := 21) dX6_isOpen_5 (by decide) (fun c_5 => ?_) (fun c_5 => ?_)
  · refine ex_iconst (v := 0) dX6_isOpen_21 (by decide) ?_
    refine ex_ireturn dX6_isOpen_22 ⟨_, rfl, rfl⟩ ?_
    first | exact bq_f (fun z => z.1 (bb_n.mp c_5)) | exact bq_f (fun z => z.2 c_14) | exact bq_t ⟨bb_0.mp c_5, c_14⟩
  · refine ex_aload_n dX6_isOpen_8 rfl ?_
    refine ex_iload_n dX6_isOpen_9 rfl ?_
    refine cV_f dX6_isOpen_10 (mm_kv i_X6_crossingOf l_X6_42) ⟨(Nat.le_of_ble_eq_true rfl), (Nat.le_of_ble_eq_true rfl)⟩ (c_X6_crossingOf hS _) rfl rfl hS.1 (Nat.le_of_ble_eq_true rfl) rfl ?_
    refine ex_iconst (v := 1) dX6_isOpen_13 (by decide) ?_
    refine ex_icmp_eq (tgt := 21) dX6_isOpen_14 (by decide) (fun c_14 => ?_) (fun c_14 => ?_)
    · refine ex_iconst (v := 0) dX6_isOpen_21 (by decide) ?_
      refine ex_ireturn dX6_isOpen_22 ⟨_, rfl, rfl⟩ ?_
      first | exact bq_f (fun z => z.1 (bb_n.mp c_5)) | exact bq_f (fun z => z.2 c_14) | exact bq_t ⟨bb_0.mp c_5, c_14⟩
    · refine ex_iconst (v := 1) dX6_isOpen_17 (by decide) ?_
      refine ex_goto (tgt := 22) dX6_isOpen_18 (by decide) ?_
      refine ex_ireturn dX6_isOpen_22 ⟨_, rfl, rfl⟩ ?_
      first | exact bq_f (fun z => z.1 (bb_n.mp c_5)) | exact bq_f (fun z => z.2 c_14) | exact bq_t ⟨bb_0.mp c_5, c_14⟩
theorem c_X6_takeSounding (hS : se_P h S) (i d e : Int32) (hi : ii i 0 99) : mm_Ct l G mX6_takeSounding [.ref 1, .int i, .int d, .int e] h (mm_rv (if e ≤ S.2.1 i.toNatClampNeg then mm_set (mm_set h 2 (.inl (.int, 100, .inl (upd S.1 i.toNatClampNeg d)))) 3 (.inl (.int, 100, .inl (upd S.2.1 i.toNatClampNeg e))) else h)) := by
  refine mm_ct (by decide +kernel) (by decide +kernel) rfl (by simp [Value.category]) (Nat.le_of_ble_eq_true rfl) rfl ?_
  refine ex_iload_n dX6_takeSounding_0 rfl ?_
  refine cSN_f dX6_takeSounding_1 (mm_ksn i_X8_isCell l_X6_31) ⟨(Nat.le_of_ble_eq_true rfl), (Nat.le_of_ble_eq_true rfl)⟩ (c_X8_isCell _) rfl rfl (Nat.le_of_ble_eq_true rfl) rfl ?_
  refine ex_if_eq (tgt := 31) dX6_takeSounding_4 (by decide) (fun c_4 => ?_) (fun c_4 => ?_)
  · refine ex_return dX6_takeSounding_31 rfl ?_
    first | exact absurd hi (bb_0.mp c_4) | exact ⟨rfl, by rw [if_neg (Int32.not_le.mpr c_14)]⟩ | exact ⟨rfl, by rw [if_pos (Int32.not_lt.mp c_14)]⟩
  · refine ex_iload_n dX6_takeSounding_7 rfl ?_
    refine ex_aload_n dX6_takeSounding_8 rfl ?_
    refine ex_getfield dX6_takeSounding_9 g_X6_15 hS.1 rfl ?_
    refine ex_iload_n dX6_takeSounding_12 rfl ?_
    refine ex_iaload dX6_takeSounding_13 hS.2.2.1 (ii_99 (bb_n.mp c_4)) ?_
    refine ex_icmp_gt (tgt := 31) dX6_takeSounding_14 (by decide) (fun c_14 => ?_) (fun c_14 => ?_)
    · refine ex_return dX6_takeSounding_31 rfl ?_
      first | exact absurd hi (bb_0.mp c_4) | exact ⟨rfl, by rw [if_neg (Int32.not_le.mpr c_14)]⟩ | exact ⟨rfl, by rw [if_pos (Int32.not_lt.mp c_14)]⟩
    · refine ex_aload_n dX6_takeSounding_17 rfl ?_
      refine ex_getfield dX6_takeSounding_18 g_X6_9 hS.1 rfl ?_
      refine ex_iload_n dX6_takeSounding_21 rfl ?_
      refine ex_iload_n dX6_takeSounding_22 rfl ?_
      refine ex_iastore dX6_takeSounding_23 hS.2.1 (ii_99 (bb_n.mp c_4)) ?_
      refine ex_aload_n dX6_takeSounding_24 rfl ?_
      refine ex_getfield dX6_takeSounding_25 g_X6_15 (mm_set_ne (by decide) hS.1) rfl ?_
      refine ex_iload_n dX6_takeSounding_28 rfl ?_
      refine ex_iload_n dX6_takeSounding_29 rfl ?_
      refine ex_iastore dX6_takeSounding_30 (mm_set_ne (by decide) hS.2.2.1) (ii_99 (bb_n.mp c_4)) ?_
      refine ex_return dX6_takeSounding_31 rfl ?_
      first | exact absurd hi (bb_0.mp c_4) | exact ⟨rfl, by rw [if_neg (Int32.not_le.mpr c_14)]⟩ | exact ⟨rfl, by rw [if_pos (Int32.not_lt.mp c_14)]⟩
end SEA
/-- the calendar: today, draw, busy until -/
abbrev ca_T : Type := Int32 × Int32 × Int32
def ca_C (c : ca_T) : mm_E := .inr (0, [.int c.1, .int c.2.1, .int c.2.2])
def ca_w (c : ca_T) : Int32 := c.2.1 - c.2.1 / 10 * 10
def ca_n (c : ca_T) : ca_T := (c.1 + 1, (75 * c.2.1 + 74) - (75 * c.2.1 + 74) / 65537 * 65537, c.2.2)
section CAL
variable {l : Launch} {G : mm_G} {h : mm_H} {c : ca_T}
theorem c_X0_wavesToday (hC : h.1 6 = some (ca_C c)) : mm_Ct l G mX0_wavesToday [.ref 6] h (mm_ri (.int (ca_w c)) h) := by
  refine mm_ct (by decide +kernel) (by decide +kernel) rfl (by simp [Value.category]) (Nat.le_of_ble_eq_true rfl) rfl ?_
  refine ex_aload_n dX0_wavesToday_0 rfl ?_
  refine ex_getfield dX0_wavesToday_1 g_X0_13 hC rfl ?_
  refine ex_bipush (v := 10) dX0_wavesToday_4 (by decide) ?_
  refine ex_irem dX0_wavesToday_6 (by decide) ?_
  refine ex_ireturn dX0_wavesToday_7 ⟨_, rfl, rfl⟩ ?_
  exact ⟨rfl, rfl⟩
theorem c_X0_isForWork (hC : h.1 6 = some (ca_C c)) : mm_Ct l G mX0_isForWork [.ref 6] h (mm_ri (.int (bb (ca_w c ≤ 6 ∧ c.2.2 ≤ c.1))) h) := by
  refine mm_ct (by decide +kernel) (by decide +kernel) rfl (by simp [Value.category]) (Nat.le_of_ble_eq_true rfl) rfl ?_
  refine ex_aload_n dX0_isForWork_0 rfl ?_
  refine cV_f dX0_isForWork_1 (mm_kv i_X0_wavesToday l_X0_17) ⟨(Nat.le_of_ble_eq_true rfl), (Nat.le_of_ble_eq_true rfl)⟩ (c_X0_wavesToday hC) rfl rfl hC (Nat.le_of_ble_eq_true rfl) rfl ?_
  refine ex_bipush (v := 6) dX0_isForWork_4 (by decide) ?_
  refine ex_icmp_gt (tgt := 24) dX0_isForWork_6 (by decide) (fun c_6 => ?_) (fun c_6 => ?_)
  · refine ex_iconst (v := 0) dX0_isForWork_24 (by decide) ?_
    refine ex_ireturn dX0_isForWork_25 ⟨_, rfl, rfl⟩ ?_
    first | exact bq_f (fun z => Int32.not_lt.mpr z.1 c_6) | exact bq_f (fun z => Int32.not_lt.mpr z.2 c_17) | exact bq_t ⟨Int32.not_lt.mp c_6, Int32.not_lt.mp c_17⟩
  · refine ex_aload_n dX0_isForWork_9 rfl ?_
    refine ex_getfield dX0_isForWork_10 g_X0_21 hC rfl ?_
    refine ex_aload_n dX0_isForWork_13 rfl ?_
    refine ex_getfield dX0_isForWork_14 g_X0_7 hC rfl ?_
    refine ex_icmp_gt (tgt := 24) dX0_isForWork_17 (by decide) (fun c_17 => ?_) (fun c_17 => ?_)
    · refine ex_iconst (v := 0) dX0_isForWork_24 (by decide) ?_
      refine ex_ireturn dX0_isForWork_25 ⟨_, rfl, rfl⟩ ?_
      first | exact bq_f (fun z => Int32.not_lt.mpr z.1 c_6) | exact bq_f (fun z => Int32.not_lt.mpr z.2 c_17) | exact bq_t ⟨Int32.not_lt.mp c_6, Int32.not_lt.mp c_17⟩
    · refine ex_iconst (v := 1) dX0_isForWork_20 (by decide) ?_
      refine ex_goto (tgt := 25) dX0_isForWork_21 (by decide) ?_
      refine ex_ireturn dX0_isForWork_25 ⟨_, rfl, rfl⟩ ?_
      first | exact bq_f (fun z => Int32.not_lt.mpr z.1 c_6) | exact bq_f (fun z => Int32.not_lt.mpr z.2 c_17) | exact bq_t ⟨Int32.not_lt.mp c_6, Int32.not_lt.mp c_17⟩
theorem c_X0_nextDay (hC : h.1 6 = some (ca_C c)) : mm_Ct l G mX0_nextDay [.ref 6] h (mm_rv (mm_set h 6 (ca_C (ca_n c)))) := by
  refine mm_ct (by decide +kernel) (by decide +kernel) rfl (by simp [Value.category]) (Nat.le_of_ble_eq_true rfl) rfl ?_
  refine ex_aload_n dX0_nextDay_0 rfl ?_
  refine ex_dup dX0_nextDay_1 rfl ?_
  refine ex_getfield dX0_nextDay_2 g_X0_7 hC rfl ?_
  refine ex_iconst (v := 1) dX0_nextDay_5 (by decide) ?_
  refine ex_iadd dX0_nextDay_6 ?_
  refine ex_put dX0_nextDay_7 p_X0_7 hC (Nat.le_of_ble_eq_true rfl) (fun z => nomatch z) (mm_fi _) ?_
  refine ex_aload_n dX0_nextDay_10 rfl ?_
  refine ex_bipush (v := 75) dX0_nextDay_11 (by decide) ?_
  refine ex_aload_n dX0_nextDay_13 rfl ?_
  refine ex_getfield dX0_nextDay_14 g_X0_13 mm_set_at rfl ?_
  refine ex_imul dX0_nextDay_17 ?_
  refine ex_bipush (v := 74) dX0_nextDay_18 (by decide) ?_
  refine ex_iadd dX0_nextDay_20 ?_
  refine ex_ldc dX0_nextDay_21 k_X0_16 ?_
  refine ex_irem dX0_nextDay_23 (by decide) ?_
  refine ex_put dX0_nextDay_24 p_X0_13 mm_set_at (Nat.le_of_ble_eq_true rfl) (fun z => nomatch z) (mm_fi _) ?_
  refine ex_return dX0_nextDay_27 rfl ?_
  exact ⟨rfl, mm_set_set⟩
end CAL
