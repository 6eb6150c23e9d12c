/-! THE NETWORK: what reads it -/
theorem mm_set_id {h : mm_H} {k : Nat} {e : mm_E} (hs : h.1 k = some e) : mm_set h k e = h := by
  unfold mm_set
  refine Prod.ext (funext fun j => ?_) rfl
  by_cases hj : j = k
  · subst hj; simp [hs]
  · simp [hj]
def ne_b (u : Int32) (i : Nat) : Int32 := (u >>> (nI i &&& 31)) &&& 1
def ne_1 (i : Nat) : Int32 := (1 : Int32) <<< (nI i &&& 31)
def ne_td : List tt_R → Nat → Int32 → Int32
  | [], _, a => a
  | r :: L, i, a => if r.2.2.2 = 1 then ne_td L (i + 1) (a ||| ne_1 i) else ne_td L (i + 1) a
def ne_fr (j : Nat) : List tt_R → Int32 → Int32
  | [], f => f
  | q :: D, f => if ne_b q.2.2.2 j = 1 then ne_fr j D (f - q.2.2.1) else ne_fr j D f
def ne_us (D : List tt_R) (w d : Int32) : List tt_R → Nat → Int32 → Int32
  | [], _, a => a
  | r :: L, i, a => if ne_b d i = 0 then (if ne_fr i D r.2.2.1 < w then ne_us D w d L (i + 1) a else ne_us D w d L (i + 1) (a ||| ne_1 i)) else ne_us D w d L (i + 1) a
def ne_sf (st : Nat → Int32) (s : Int32) : Int32 := if s < 0 then 4 else if 4 ≤ s then 4 else st s.toNatClampNeg
def ne_oe (r : tt_R) (s : Int32) : Int32 := if r.1 = s then r.2.1 else if r.2.1 = s then r.1 else -1
section NET
variable {l : Launch} {G : mm_G} {h : mm_H} {tb : Nat → List tt_R} {c0 n0 : Nat} {st : Nat → Int32}
theorem c_X4_wayOf (hT : tt_S h tb c0 n0) (nO : h.1 23 = some (.inr (4, [.ref 24, .ref 26, .ref 28]))) (n : Int32) : mm_Ct l G mX4_wayOf [.ref 23, .int n] h (mm_ri (.int (tt_g (tb 6) n 3)) h) := by
  obtain ⟨v, hv⟩ := tS_row hT 6 (by decide)
  refine mm_ct (by decide +kernel) (by decide +kernel) rfl (by simp [Value.category]) (Nat.le_of_ble_eq_true rfl) rfl ?_
  refine ex_aload_n dX4_wayOf_0 rfl ?_
  refine ex_getfield dX4_wayOf_1 g_X4_18 nO rfl ?_
  refine ex_iload_n dX4_wayOf_4 rfl ?_
  refine ex_iconst (v := 3) dX4_wayOf_5 (by decide) ?_
  refine cV_f dX4_wayOf_6 (mm_kv i_X7_get l_X4_29) ⟨(Nat.le_of_ble_eq_true rfl), (Nat.le_of_ble_eq_true rfl)⟩ (tS_get hT 6 (by decide) _ 3 _ rfl (by decide)) rfl rfl hv (Nat.le_of_ble_eq_true rfl) rfl ?_
  refine ex_ireturn dX4_wayOf_9 ⟨_, rfl, rfl⟩ ?_
  exact ⟨rfl, rfl⟩
theorem c_X4_toldDead (hT : tt_S h tb c0 n0) (nO : h.1 23 = some (.inr (4, [.ref 24, .ref 26, .ref 28]))) : mm_Ct l G mX4_toldDead [.ref 23] h (mm_ri (.int (ne_td (tb 5) 0 0)) h) := by
  obtain ⟨v, hv⟩ := tS_row hT 5 (by decide)
  have hlen := tS_len hT 5 (by decide)
  have key : ∀ (a : Int32), mm_Ex l G mX4_toldDead (mm_ri (.int (ne_td (tb 5) 0 a)) h) 4 [.ref 23, .int a, .int (nI 0)] [] h := by
    refine lp_fwd (tb 5) (fun i R => ∀ (a : Int32), mm_Ex l G mX4_toldDead (mm_ri (.int (ne_td R i a)) h) 4 [.ref 23, .int a, .int (nI i)] [] h) ?_ ?_
    · intro a
      refine ex_iload_n dX4_toldDead_4 rfl ?_
      refine ex_aload_n dX4_toldDead_5 rfl ?_
      refine ex_getfield dX4_toldDead_6 g_X4_12 nO rfl ?_
      refine ex_getfield dX4_toldDead_9 g_X4_33 hv rfl ?_
      refine ex_icmp_ge (tgt := 40) dX4_toldDead_12 (by decide) (fun _ => ?_) (fun z => absurd (Int32.le_refl _) z)
      refine ex_iload_n dX4_toldDead_40 rfl ?_
      refine ex_ireturn dX4_toldDead_41 ⟨_, rfl, rfl⟩ ?_
      exact ⟨rfl, rfl⟩
    · intro i r R hr hR hi ih a
      refine ex_iload_n dX4_toldDead_4 rfl ?_
      refine ex_aload_n dX4_toldDead_5 rfl ?_
      refine ex_getfield dX4_toldDead_6 g_X4_12 nO rfl ?_
      refine ex_getfield dX4_toldDead_9 g_X4_33 hv rfl ?_
      refine ex_icmp_ge (tgt := 40) dX4_toldDead_12 (by decide) (fun z => absurd z (nI_ge hi (by omega))) (fun _ => ?_)
      refine ex_aload_n dX4_toldDead_15 rfl ?_
      refine ex_getfield dX4_toldDead_16 g_X4_12 nO rfl ?_
      refine ex_iload_n dX4_toldDead_19 rfl ?_
      refine ex_iconst (v := 3) dX4_toldDead_20 (by decide) ?_
      refine cV_f dX4_toldDead_21 (mm_kv i_X7_get l_X4_29) ⟨(Nat.le_of_ble_eq_true rfl), (Nat.le_of_ble_eq_true rfl)⟩ (tS_getr hT 5 (by decide) rfl hr 3 _ rfl (by decide) _ rfl) rfl rfl hv (Nat.le_of_ble_eq_true rfl) rfl ?_
      refine ex_iconst (v := 1) dX4_toldDead_24 (by decide) ?_
      refine ex_icmp_ne (tgt := 34) dX4_toldDead_25 (by decide) (fun c_25 => ?_) (fun c_25 => ?_)
      · refine ex_iinc (d := 1) dX4_toldDead_34 rfl (by decide) ?_
        refine ex_goto (tgt := 4) dX4_toldDead_37 (by decide) ?_
        rw [nI_1]; first | exact mm_rw (if_pos c_25) (ih _) | exact mm_rw (if_neg c_25) (ih _)
      · refine ex_iload_n dX4_toldDead_28 rfl ?_
        refine ex_iconst (v := 1) dX4_toldDead_29 (by decide) ?_
        refine ex_iload_n dX4_toldDead_30 rfl ?_
        refine ex_ishl dX4_toldDead_31 ?_
        refine ex_ior dX4_toldDead_32 ?_
        refine ex_istore_n dX4_toldDead_33 (Nat.le_of_ble_eq_true rfl) ?_
        refine ex_iinc (d := 1) dX4_toldDead_34 rfl (by decide) ?_
        refine ex_goto (tgt := 4) dX4_toldDead_37 (by decide) ?_
        rw [nI_1]; first | exact mm_rw (if_pos c_25) (ih _) | exact mm_rw (if_neg c_25) (ih _)
  refine mm_ct (by decide +kernel) (by decide +kernel) rfl (by simp [Value.category]) (Nat.le_of_ble_eq_true rfl) rfl ?_
  refine ex_iconst (v := 0) dX4_toldDead_0 (by decide) ?_
  refine ex_istore_n dX4_toldDead_1 (Nat.le_of_ble_eq_true rfl) ?_
  refine ex_iconst (v := 0) dX4_toldDead_2 (by decide) ?_
  refine ex_istore_n dX4_toldDead_3 (Nat.le_of_ble_eq_true rfl) ?_
  exact key _
theorem c_X4_freeOn (hT : tt_S h tb c0 n0) (nO : h.1 23 = some (.inr (4, [.ref 24, .ref 26, .ref 28]))) {j : Nat} {r0 : tt_R} (hr0 : (tb 5)[j]? = some r0) : mm_Ct l G mX4_freeOn [.ref 23, .int (nI j)] h (mm_ri (.int (ne_fr j (tb 6) r0.2.2.1)) h) := by
  obtain ⟨v, hv⟩ := tS_row hT 6 (by decide)
  obtain ⟨w, hw⟩ := tS_row hT 5 (by decide)
  have hlen := tS_len hT 6 (by decide)
  have key : ∀ (f : Int32), mm_Ex l G mX4_freeOn (mm_ri (.int (ne_fr j (tb 6) f)) h) 12 [.ref 23, .int (nI j), .int f, .int (nI 0)] [] h := by
    refine lp_fwd (tb 6) (fun i R => ∀ (f : Int32), mm_Ex l G mX4_freeOn (mm_ri (.int (ne_fr j R f)) h) 12 [.ref 23, .int (nI j), .int f, .int (nI i)] [] h) ?_ ?_
    · intro f
      refine ex_iload_n dX4_freeOn_12 rfl ?_
      refine ex_aload_n dX4_freeOn_13 rfl ?_
      refine ex_getfield dX4_freeOn_14 g_X4_18 nO rfl ?_
      refine ex_getfield dX4_freeOn_17 g_X4_33 hv rfl ?_
      refine ex_icmp_ge (tgt := 54) dX4_freeOn_20 (by decide) (fun _ => ?_) (fun z => absurd (Int32.le_refl _) z)
      refine ex_iload_n dX4_freeOn_54 rfl ?_
      refine ex_ireturn dX4_freeOn_55 ⟨_, rfl, rfl⟩ ?_
      exact ⟨rfl, rfl⟩
    · intro i r R hr hR hi ih f
      refine ex_iload_n dX4_freeOn_12 rfl ?_
      refine ex_aload_n dX4_freeOn_13 rfl ?_
      refine ex_getfield dX4_freeOn_14 g_X4_18 nO rfl ?_
      refine ex_getfield dX4_freeOn_17 g_X4_33 hv rfl ?_
      refine ex_icmp_ge (tgt := 54) dX4_freeOn_20 (by decide) (fun z => absurd z (nI_ge hi (by omega))) (fun _ => ?_)
      refine ex_aload_n dX4_freeOn_23 rfl ?_
      refine ex_iload_n dX4_freeOn_24 rfl ?_
      have hgv : tt_g (tb 6) (nI i) 3 = r.2.2.2 := tt_g_nI hr (by omega)
      refine cV_f dX4_freeOn_25 (mm_kv i_X4_wayOf l_X4_37) ⟨(Nat.le_of_ble_eq_true rfl), (Nat.le_of_ble_eq_true rfl)⟩ (c_X4_wayOf hT nO _) rfl rfl nO (Nat.le_of_ble_eq_true rfl) rfl ?_
      rw [hgv]
      refine ex_iload_n dX4_freeOn_28 rfl ?_
      refine ex_ishr dX4_freeOn_29 ?_
      refine ex_iconst (v := 1) dX4_freeOn_30 (by decide) ?_
      refine ex_iand dX4_freeOn_31 ?_
      refine ex_iconst (v := 1) dX4_freeOn_32 (by decide) ?_
      refine ex_icmp_ne (tgt := 48) dX4_freeOn_33 (by decide) (fun c_33 => ?_) (fun c_33 => ?_)
      · refine ex_iinc (d := 1) dX4_freeOn_48 rfl (by decide) ?_
        refine ex_goto (tgt := 12) dX4_freeOn_51 (by decide) ?_
        rw [nI_1]; first | exact mm_rw (if_pos c_33) (ih _) | exact mm_rw (if_neg c_33) (ih _)
      · refine ex_iload_n dX4_freeOn_36 rfl ?_
        refine ex_aload_n dX4_freeOn_37 rfl ?_
        refine ex_getfield dX4_freeOn_38 g_X4_18 nO rfl ?_
        refine ex_iload_n dX4_freeOn_41 rfl ?_
        refine ex_iconst (v := 2) dX4_freeOn_42 (by decide) ?_
        refine cV_f dX4_freeOn_43 (mm_kv i_X7_get l_X4_29) ⟨(Nat.le_of_ble_eq_true rfl), (Nat.le_of_ble_eq_true rfl)⟩ (tS_getr hT 6 (by decide) rfl hr 2 _ rfl (by decide) _ rfl) rfl rfl hv (Nat.le_of_ble_eq_true rfl) rfl ?_
        refine ex_isub dX4_freeOn_46 ?_
        refine ex_istore_n dX4_freeOn_47 (Nat.le_of_ble_eq_true rfl) ?_
        refine ex_iinc (d := 1) dX4_freeOn_48 rfl (by decide) ?_
        refine ex_goto (tgt := 12) dX4_freeOn_51 (by decide) ?_
        rw [nI_1]; first | exact mm_rw (if_pos c_33) (ih _) | exact mm_rw (if_neg c_33) (ih _)
  refine mm_ct (by decide +kernel) (by decide +kernel) rfl (by simp [Value.category]) (Nat.le_of_ble_eq_true rfl) rfl ?_
  refine ex_aload_n dX4_freeOn_0 rfl ?_
  refine ex_getfield dX4_freeOn_1 g_X4_12 nO rfl ?_
  refine ex_iload_n dX4_freeOn_4 rfl ?_
  refine ex_iconst (v := 2) dX4_freeOn_5 (by decide) ?_
  refine cV_f dX4_freeOn_6 (mm_kv i_X7_get l_X4_29) ⟨(Nat.le_of_ble_eq_true rfl), (Nat.le_of_ble_eq_true rfl)⟩ (tS_getr hT 5 (by decide) rfl hr0 2 _ rfl (by decide) _ rfl) rfl rfl hw (Nat.le_of_ble_eq_true rfl) rfl ?_
  refine ex_istore_n dX4_freeOn_9 (Nat.le_of_ble_eq_true rfl) ?_
  refine ex_iconst (v := 0) dX4_freeOn_10 (by decide) ?_
  refine ex_istore_n dX4_freeOn_11 (Nat.le_of_ble_eq_true rfl) ?_
  exact key _
theorem c_X4_usableLinks (hT : tt_S h tb c0 n0) (nO : h.1 23 = some (.inr (4, [.ref 24, .ref 26, .ref 28]))) (w d : Int32) : mm_Ct l G mX4_usableLinks [.ref 23, .int w, .int d] h (mm_ri (.int (ne_us (tb 6) w d (tb 5) 0 0)) h) := by
  obtain ⟨v, hv⟩ := tS_row hT 5 (by decide)
  have hlen := tS_len hT 5 (by decide)
  have key : ∀ (a : Int32), mm_Ex l G mX4_usableLinks (mm_ri (.int (ne_us (tb 6) w d (tb 5) 0 a)) h) 5 [.ref 23, .int w, .int d, .int a, .int (nI 0)] [] h := by
    refine lp_fwd (tb 5) (fun i R => ∀ (a : Int32), mm_Ex l G mX4_usableLinks (mm_ri (.int (ne_us (tb 6) w d R i a)) h) 5 [.ref 23, .int w, .int d, .int a, .int (nI i)] [] h) ?_ ?_
    · intro a
      refine ex_iload dX4_usableLinks_5 rfl ?_
      refine ex_aload_n dX4_usableLinks_7 rfl ?_
      refine ex_getfield dX4_usableLinks_8 g_X4_12 nO rfl ?_
      refine ex_getfield dX4_usableLinks_11 g_X4_33 hv rfl ?_
      refine ex_icmp_ge (tgt := 49) dX4_usableLinks_14 (by decide) (fun _ => ?_) (fun z => absurd (Int32.le_refl _) z)
      refine ex_iload_n dX4_usableLinks_49 rfl ?_
      refine ex_ireturn dX4_usableLinks_50 ⟨_, rfl, rfl⟩ ?_
      exact ⟨rfl, rfl⟩
    · intro i r R hr hR hi ih a
      refine ex_iload dX4_usableLinks_5 rfl ?_
      refine ex_aload_n dX4_usableLinks_7 rfl ?_
      refine ex_getfield dX4_usableLinks_8 g_X4_12 nO rfl ?_
      refine ex_getfield dX4_usableLinks_11 g_X4_33 hv rfl ?_
      refine ex_icmp_ge (tgt := 49) dX4_usableLinks_14 (by decide) (fun z => absurd z (nI_ge hi (by omega))) (fun _ => ?_)
      refine ex_iload_n dX4_usableLinks_17 rfl ?_
      refine ex_iload dX4_usableLinks_18 rfl ?_
      refine ex_ishr dX4_usableLinks_20 ?_
      refine ex_iconst (v := 1) dX4_usableLinks_21 (by decide) ?_
      refine ex_iand dX4_usableLinks_22 ?_
      refine ex_if_ne (tgt := 43) dX4_usableLinks_23 (by decide) (fun c_23 => ?_) (fun c_23 => ?_)
      · refine ex_iinc (d := 1) dX4_usableLinks_43 rfl (by decide) ?_
        refine ex_goto (tgt := 5) dX4_usableLinks_46 (by decide) ?_
        rw [nI_1]; first | exact mm_rw (if_neg c_23) (ih _) | exact mm_rw ((if_pos c_23).trans (if_pos c_33)) (ih _) | exact mm_rw ((if_pos c_23).trans (if_neg c_33)) (ih _)
      · refine ex_aload_n dX4_usableLinks_26 rfl ?_
        refine ex_iload dX4_usableLinks_27 rfl ?_
        refine cV_f dX4_usableLinks_29 (mm_kv i_X4_freeOn l_X4_58) ⟨(Nat.le_of_ble_eq_true rfl), (Nat.le_of_ble_eq_true rfl)⟩ (c_X4_freeOn hT nO hr) rfl rfl nO (Nat.le_of_ble_eq_true rfl) rfl ?_
        refine ex_iload_n dX4_usableLinks_32 rfl ?_
        refine ex_icmp_lt (tgt := 43) dX4_usableLinks_33 (by decide) (fun c_33 => ?_) (fun c_33 => ?_)
        · refine ex_iinc (d := 1) dX4_usableLinks_43 rfl (by decide) ?_
          refine ex_goto (tgt := 5) dX4_usableLinks_46 (by decide) ?_
          rw [nI_1]; first | exact mm_rw (if_neg c_23) (ih _) | exact mm_rw ((if_pos c_23).trans (if_pos c_33)) (ih _) | exact mm_rw ((if_pos c_23).trans (if_neg c_33)) (ih _)
        · refine ex_iload_n dX4_usableLinks_36 rfl ?_
          refine ex_iconst (v := 1) dX4_usableLinks_37 (by decide) ?_
          refine ex_iload dX4_usableLinks_38 rfl ?_
          refine ex_ishl dX4_usableLinks_40 ?_
          refine ex_ior dX4_usableLinks_41 ?_
          refine ex_istore_n dX4_usableLinks_42 (Nat.le_of_ble_eq_true rfl) ?_
          refine ex_iinc (d := 1) dX4_usableLinks_43 rfl (by decide) ?_
          refine ex_goto (tgt := 5) dX4_usableLinks_46 (by decide) ?_
          rw [nI_1]; first | exact mm_rw (if_neg c_23) (ih _) | exact mm_rw ((if_pos c_23).trans (if_pos c_33)) (ih _) | exact mm_rw ((if_pos c_23).trans (if_neg c_33)) (ih _)
  refine mm_ct (by decide +kernel) (by decide +kernel) rfl (by simp [Value.category]) (Nat.le_of_ble_eq_true rfl) rfl ?_
  refine ex_iconst (v := 0) dX4_usableLinks_0 (by decide) ?_
  refine ex_istore_n dX4_usableLinks_1 (Nat.le_of_ble_eq_true rfl) ?_
  refine ex_iconst (v := 0) dX4_usableLinks_2 (by decide) ?_
  refine ex_istore dX4_usableLinks_3 (Nat.le_of_ble_eq_true rfl) ?_
  exact key _
theorem c_X4_stepsFrom (nO : h.1 23 = some (.inr (4, [.ref 24, .ref 26, .ref 28]))) (sO : h.1 28 = some (.inl (.int, 4, .inl st))) (s : Int32) : mm_Ct l G mX4_stepsFrom [.ref 23, .int s] h (mm_ri (.int (ne_sf st s)) h) := by
  refine mm_ct (by decide +kernel) (by decide +kernel) rfl (by simp [Value.category]) (Nat.le_of_ble_eq_true rfl) rfl ?_
  refine ex_iload_n dX4_stepsFrom_0 rfl ?_
  refine ex_if_lt (tgt := 22) dX4_stepsFrom_1 (by decide) (fun c_1 => ?_) (fun c_1 => ?_)
  · refine ex_iconst (v := 4) dX4_stepsFrom_22 (by decide) ?_
    refine ex_ireturn dX4_stepsFrom_23 ⟨_, rfl, rfl⟩ ?_
    first | exact mm_rq (if_pos c_1) | exact mm_rq ((if_neg c_1).trans (if_pos c_10)) | exact mm_rq ((if_neg c_1).trans (if_neg c_10))
  · refine ex_iload_n dX4_stepsFrom_4 rfl ?_
    refine ex_aload_n dX4_stepsFrom_5 rfl ?_
    refine ex_getfield dX4_stepsFrom_6 g_X4_21 nO rfl ?_
    refine ex_alen dX4_stepsFrom_9 sO (Or.inl rfl) ?_
    refine ex_icmp_ge (tgt := 22) dX4_stepsFrom_10 (by decide) (fun c_10 => ?_) (fun c_10 => ?_)
    · refine ex_iconst (v := 4) dX4_stepsFrom_22 (by decide) ?_
      refine ex_ireturn dX4_stepsFrom_23 ⟨_, rfl, rfl⟩ ?_
      first | exact mm_rq (if_pos c_1) | exact mm_rq ((if_neg c_1).trans (if_pos c_10)) | exact mm_rq ((if_neg c_1).trans (if_neg c_10))
    · refine ex_aload_n dX4_stepsFrom_13 rfl ?_
      refine ex_getfield dX4_stepsFrom_14 g_X4_21 nO rfl ?_
      refine ex_iload_n dX4_stepsFrom_17 rfl ?_
      refine ex_iaload dX4_stepsFrom_18 sO (by obtain ⟨j, hj, rfl⟩ := nI_of c_1; exact vp_in_nI ((nI_ltI hj (by decide)).mp (Int32.not_le.mp c_10)) (by decide)) ?_
      refine ex_goto (tgt := 23) dX4_stepsFrom_19 (by decide) ?_
      refine ex_ireturn dX4_stepsFrom_23 ⟨_, rfl, rfl⟩ ?_
      first | exact mm_rq (if_pos c_1) | exact mm_rq ((if_neg c_1).trans (if_pos c_10)) | exact mm_rq ((if_neg c_1).trans (if_neg c_10))
theorem c_X4_otherEnd (hT : tt_S h tb c0 n0) (nO : h.1 23 = some (.inr (4, [.ref 24, .ref 26, .ref 28]))) {j : Nat} {r : tt_R} (hr : (tb 5)[j]? = some r) (s : Int32) : mm_Ct l G mX4_otherEnd [.ref 23, .int (nI j), .int s] h (mm_ri (.int (ne_oe r s)) h) := by
  obtain ⟨v, hv⟩ := tS_row hT 5 (by decide)
  refine mm_ct (by decide +kernel) (by decide +kernel) rfl (by simp [Value.category]) (Nat.le_of_ble_eq_true rfl) rfl ?_
  refine ex_aload_n dX4_otherEnd_0 rfl ?_
  refine ex_getfield dX4_otherEnd_1 g_X4_12 nO rfl ?_
  refine ex_iload_n dX4_otherEnd_4 rfl ?_
  refine ex_iconst (v := 0) dX4_otherEnd_5 (by decide) ?_
  refine cV_f dX4_otherEnd_6 (mm_kv i_X7_get l_X4_29) ⟨(Nat.le_of_ble_eq_true rfl), (Nat.le_of_ble_eq_true rfl)⟩ (tS_getr hT 5 (by decide) rfl hr 0 _ rfl (by decide) _ rfl) rfl rfl hv (Nat.le_of_ble_eq_true rfl) rfl ?_
  refine ex_iload_n dX4_otherEnd_9 rfl ?_
  refine ex_icmp_ne (tgt := 23) dX4_otherEnd_10 (by decide) (fun c_10 => ?_) (fun c_10 => ?_)
  · refine ex_aload_n dX4_otherEnd_23 rfl ?_
    refine ex_getfield dX4_otherEnd_24 g_X4_12 nO rfl ?_
    refine ex_iload_n dX4_otherEnd_27 rfl ?_
    refine ex_iconst (v := 1) dX4_otherEnd_28 (by decide) ?_
    refine cV_f dX4_otherEnd_29 (mm_kv i_X7_get l_X4_29) ⟨(Nat.le_of_ble_eq_true rfl), (Nat.le_of_ble_eq_true rfl)⟩ (tS_getr hT 5 (by decide) rfl hr 1 _ rfl (by decide) _ rfl) rfl rfl hv (Nat.le_of_ble_eq_true rfl) rfl ?_
    refine ex_iload_n dX4_otherEnd_32 rfl ?_
    refine ex_icmp_ne (tgt := 48) dX4_otherEnd_33 (by decide) (fun c_33 => ?_) (fun c_33 => ?_)
    · refine ex_iconst (v := (-1)) dX4_otherEnd_48 (by decide) ?_
      refine ex_ireturn dX4_otherEnd_49 ⟨_, rfl, rfl⟩ ?_
      first | exact mm_rq (if_pos c_10) | exact mm_rq ((if_neg c_10).trans (if_pos c_33)) | exact mm_rq ((if_neg c_10).trans (if_neg c_33))
    · refine ex_aload_n dX4_otherEnd_36 rfl ?_
      refine ex_getfield dX4_otherEnd_37 g_X4_12 nO rfl ?_
      refine ex_iload_n dX4_otherEnd_40 rfl ?_
      refine ex_iconst (v := 0) dX4_otherEnd_41 (by decide) ?_
      refine cV_f dX4_otherEnd_42 (mm_kv i_X7_get l_X4_29) ⟨(Nat.le_of_ble_eq_true rfl), (Nat.le_of_ble_eq_true rfl)⟩ (tS_getr hT 5 (by decide) rfl hr 0 _ rfl (by decide) _ rfl) rfl rfl hv (Nat.le_of_ble_eq_true rfl) rfl ?_
      refine ex_goto (tgt := 49) dX4_otherEnd_45 (by decide) ?_
      refine ex_ireturn dX4_otherEnd_49 ⟨_, rfl, rfl⟩ ?_
      first | exact mm_rq (if_pos c_10) | exact mm_rq ((if_neg c_10).trans (if_pos c_33)) | exact mm_rq ((if_neg c_10).trans (if_neg c_33))
  · refine ex_aload_n dX4_otherEnd_13 rfl ?_
    refine ex_getfield dX4_otherEnd_14 g_X4_12 nO rfl ?_
    refine ex_iload_n dX4_otherEnd_17 rfl ?_
    refine ex_iconst (v := 1) dX4_otherEnd_18 (by decide) ?_
    refine cV_f dX4_otherEnd_19 (mm_kv i_X7_get l_X4_29) ⟨(Nat.le_of_ble_eq_true rfl), (Nat.le_of_ble_eq_true rfl)⟩ (tS_getr hT 5 (by decide) rfl hr 1 _ rfl (by decide) _ rfl) rfl rfl hv (Nat.le_of_ble_eq_true rfl) rfl ?_
    refine ex_ireturn dX4_otherEnd_22 ⟨_, rfl, rfl⟩ ?_
    first | exact mm_rq (if_pos c_10) | exact mm_rq ((if_neg c_10).trans (if_pos c_33)) | exact mm_rq ((if_neg c_10).trans (if_neg c_33))
end NET
