/-! THE HOLD -/
theorem lp_fwd (L : List tt_R) (P : Nat → List tt_R → Prop) (h0 : P L.length []) (hs : ∀ (i : Nat) (r : tt_R) (R : List tt_R), L[i]? = some r → L.drop (i + 1) = R → i < L.length → P (i + 1) R → P i (r :: R)) : P 0 L := by
  have key : ∀ k i : Nat, i + k = L.length → P i (L.drop i) := by
    intro k
    induction k with
    | zero => intro i hi; rw [Nat.add_zero] at hi; subst hi; rw [List.drop_length]; exact h0
    | succ k ih =>
      intro i hi
      have hl : i < L.length := by omega
      rw [List.drop_eq_getElem_cons hl]
      exact hs i _ _ (List.getElem?_eq_getElem hl) rfl hl (ih (i + 1) (by omega))
  have := key L.length 0 (by omega)
  rwa [List.drop_zero] at this
theorem lp_bwd (L : List tt_R) (P : Nat → List tt_R → Prop) (h0 : P 0 []) (hs : ∀ (i : Nat) (r : tt_R) (R : List tt_R), L[i]? = some r → (L.take i).reverse = R → i < L.length → P i R → P (i + 1) (r :: R)) : P L.length L.reverse := by
  have key : ∀ i : Nat, i ≤ L.length → P i (L.take i).reverse := by
    intro i
    induction i with
    | zero => intro _; exact h0
    | succ i ih =>
      intro hi
      have hl : i < L.length := by omega
      rw [List.take_succ_eq_append_getElem hl, List.reverse_append]
      exact hs i _ _ (List.getElem?_eq_getElem hl) rfl hl (ih (by omega))
  have := key L.length (Nat.le_refl _)
  rwa [List.take_length] at this
theorem nI_m1 (i : Nat) : nI (i + 1) - 1 = nI i := nI_pred i
theorem nI_m2 (i : Nat) : nI i + -1 = nI i - 1 := by rw [Int32.sub_eq_add_neg]
theorem mm_rq {x y : Int32} {h : mm_H} (e : y = x) : mm_ri (.int y) h (.inl (some (.int x))) h := ⟨by rw [e], rfl⟩
theorem nI_neg1 : nI 0 - 1 < 0 := by decide
section TS2
variable {l : Launch} {G : mm_G} {h : mm_H} {tb : Nat → List tt_R} {c0 n0 : Nat}
theorem tS_getr (hS : tt_S h tb c0 n0) (i : Nat) (hi : i < 7) {L : List tt_R} (hL : tb i = L) {j : Nat} {r : tt_R} (hr : L[j]? = some r) (c : Nat) (cv : Int32) (hcv : cv = nI c) (hc : c < 4) (jv : Int32) (hjv : jv = nI j) : mm_Ct l G mX7_get [.ref (tp i), .int jv, .int cv] h (mm_ri (.int (tt_c r c)) h) := by
  subst hL hjv
  have hj := (List.getElem?_eq_some_iff.mp hr).1
  have hl := tS_len hS i hi
  have := tS_get (l := l) (G := G) hS i hi (nI j) c cv hcv hc
  rwa [tt_g_nI hr (by omega)] at this
end TS2
theorem va_uu {α : Type} (f : Nat → α) (k : Nat) (a b : α) : va_up (va_up f k a) k b = va_up f k b := bx_uu f k a b
def ho_C (pieces made : Int32) : mm_E := .inr (3, [.ref 8, .ref 9, .ref 11, .int pieces, .int made])
def ho_ty (types : Nat → Int32) (pieces p : Int32) : Int32 := if 0 ≤ p ∧ p < pieces ∧ p < 30 then types p.toNatClampNeg else -1
def ho_m (tank : Int32) : List tt_R → Int32 → Int32
  | [], s => s
  | r :: L, s => ho_m tank L (if r.1 = tank then s + r.2.2.2 else s)
def ho_p (tank : Int32) : List tt_R → Int32 → Int32
  | [], s => s
  | r :: L, s => ho_p tank L (if r.1 = tank then s + 1 else s)
def ho_top (tank : Int32) (c : Nat) : List tt_R → Int32
  | [] => -1
  | r :: L => if r.1 = tank then tt_c r c else ho_top tank c L
def mn (x y : Int32) : Int32 := if y < x then y else x
def ho_ga (tank : Int32) : List tt_R → Int32 → List tt_R → List tt_R × Int32
  | [], m, g => (g, m)
  | r :: L, m, g => if m ≤ 0 then (g, m) else if r.1 = tank then ho_ga tank L (m - mn m r.2.2.2) (g ++ [(tank, r.2.1, r.2.2.1, mn m r.2.2.2)]) else ho_ga tank L m g
def ho_so (tank : Int32) : List tt_R → Int32 → List tt_R → List tt_R
  | [], _, d => d
  | r :: R, m, d => if m ≤ 0 then (r :: R).reverse ++ d else if r.1 = tank then (if mn m r.2.2.2 = r.2.2.2 then ho_so tank R (m - mn m r.2.2.2) d else ho_so tank R (m - mn m r.2.2.2) ((r.1, r.2.1, r.2.2.1 + mn m r.2.2.2, r.2.2.2 - mn m r.2.2.2) :: d)) else ho_so tank R m (r :: d)
def ho_pl (t d : Int32) : Int32 := (12 - 3 * t) * d / 100
def ho_mp (t : Int32) : Int32 := if t = 0 then 60 else if t = 1 then 90 else if t = 2 then 150 else 200
def ho_nr (a b : Int32) : Bool := decide (a = -1) || (decide (b = -1) || decide ((if 0 ≤ a - b then a - b else 0 - (a - b)) ≤ 1))
theorem nr_1 {a b : Int32} (c : a = -1) : ho_nr a b = true := by rw [ho_nr, decide_eq_true c, Bool.true_or]
theorem nr_2 {a b : Int32} (c : b = -1) : ho_nr a b = true := by rw [ho_nr, decide_eq_true c, Bool.true_or, Bool.or_true]
theorem nr_3 {a b : Int32} (c : ¬ (1 : Int32) < (if 0 ≤ a - b then a - b else 0 - (a - b))) : ho_nr a b = true := by rw [ho_nr, decide_eq_true (Int32.not_lt.mp c), Bool.or_true, Bool.or_true]
theorem nr_4 {a b : Int32} (c1 : ¬ a = -1) (c2 : ¬ b = -1) (c : (1 : Int32) < (if 0 ≤ a - b then a - b else 0 - (a - b))) : ¬ ho_nr a b = true := by rw [ho_nr, decide_eq_false c1, decide_eq_false c2, decide_eq_false (fun z => Int32.not_lt.mpr z c)]; decide
theorem ty_1 {t : Nat → Int32} {n p : Int32} (c : p < 0) : ho_ty t n p = -1 := if_neg (fun z => Int32.not_lt.mpr z.1 c)
theorem ty_2 {t : Nat → Int32} {n p : Int32} (c : n ≤ p) : ho_ty t n p = -1 := if_neg (fun z => Int32.not_le.mpr z.2.1 c)
theorem ty_3 {t : Nat → Int32} {n p : Int32} (c : 30 ≤ p) : ho_ty t n p = -1 := if_neg (fun z => Int32.not_le.mpr z.2.2 c)
theorem ty_4 {t : Nat → Int32} {n p : Int32} (c1 : ¬ p < 0) (c2 : ¬ n ≤ p) (c3 : ¬ 30 ≤ p) : ho_ty t n p = t p.toNatClampNeg := if_pos ⟨Int32.not_lt.mp c1, Int32.not_le.mp c2, Int32.not_le.mp c3⟩
def ho_fi (ty : Int32 → Int32) : List tt_R → Int32 → Int32 → Bool
  | [], last, b => ho_nr last b
  | r :: L, last, b => ho_nr last (ty r.2.1) && ho_fi ty L (ty r.2.1) b
def ho_ha (ty : Int32 → Int32) (d : Int32) : List tt_R → Bool
  | [] => true
  | r :: L => decide (ho_pl (ty r.2.1) d ≤ ho_mp (ty r.2.1)) && ho_ha ty d L
section HOLD
variable {l : Launch} {G : mm_G} {h : mm_H} {tb : Nat → List tt_R} {c0 n0 : Nat} {types : Nat → Int32} {pieces made : Int32}
theorem c_X3_pull (t d : Int32) : mm_Ct l G mX3_pull [.int t, .int d] h (mm_ri (.int (ho_pl t d)) h) := by
  refine mm_ct (by decide +kernel) (by decide +kernel) rfl (by simp [Value.category]) (Nat.le_of_ble_eq_true rfl) rfl ?_
  refine ex_bipush (v := 12) dX3_pull_0 (by decide) ?_
  refine ex_iconst (v := 3) dX3_pull_2 (by decide) ?_
  refine ex_iload_n dX3_pull_3 rfl ?_
  refine ex_imul dX3_pull_4 ?_
  refine ex_isub dX3_pull_5 ?_
  refine ex_iload_n dX3_pull_6 rfl ?_
  refine ex_imul dX3_pull_7 ?_
  refine ex_bipush (v := 100) dX3_pull_8 (by decide) ?_
  refine ex_idiv dX3_pull_10 (by decide) ?_
  refine ex_ireturn dX3_pull_11 ⟨_, rfl, rfl⟩ ?_
  exact ⟨rfl, rfl⟩
theorem c_X3_isNear (a b : Int32) : mm_Ct l G mX3_isNear [.int a, .int b] h (mm_ri (.int (bb (ho_nr a b = true))) h) := by
  refine mm_ct (by decide +kernel) (by decide +kernel) rfl (by simp [Value.category]) (Nat.le_of_ble_eq_true rfl) rfl ?_
  refine ex_iload_n dX3_isNear_0 rfl ?_
  refine ex_iconst (v := (-1)) dX3_isNear_1 (by decide) ?_
  refine ex_icmp_eq (tgt := 20) dX3_isNear_2 (by decide) (fun c_2 => ?_) (fun c_2 => ?_)
  · refine ex_iconst (v := 1) dX3_isNear_20 (by decide) ?_
    refine ex_goto (tgt := 25) dX3_isNear_21 (by decide) ?_
    refine ex_ireturn dX3_isNear_25 ⟨_, rfl, rfl⟩ ?_
    first | exact bq_t (nr_1 c_2) | exact bq_t (nr_2 c_7) | exact bq_f (nr_4 c_2 c_7 c_17) | exact bq_t (nr_3 c_17)
  · refine ex_iload_n dX3_isNear_5 rfl ?_
    refine ex_iconst (v := (-1)) dX3_isNear_6 (by decide) ?_
    refine ex_icmp_eq (tgt := 20) dX3_isNear_7 (by decide) (fun c_7 => ?_) (fun c_7 => ?_)
    · refine ex_iconst (v := 1) dX3_isNear_20 (by decide) ?_
      refine ex_goto (tgt := 25) dX3_isNear_21 (by decide) ?_
      refine ex_ireturn dX3_isNear_25 ⟨_, rfl, rfl⟩ ?_
      first | exact bq_t (nr_1 c_2) | exact bq_t (nr_2 c_7) | exact bq_f (nr_4 c_2 c_7 c_17) | exact bq_t (nr_3 c_17)
    · refine ex_iload_n dX3_isNear_10 rfl ?_
      refine ex_iload_n dX3_isNear_11 rfl ?_
      refine ex_isub dX3_isNear_12 ?_
      refine ex_abs dX3_isNear_13 i_J9_abs_0f7a4 l_X3_73 (Nat.le_of_ble_eq_true rfl) (Nat.le_of_ble_eq_true rfl) ?_
      refine ex_iconst (v := 1) dX3_isNear_16 (by decide) ?_
      refine ex_icmp_gt (tgt := 24) dX3_isNear_17 (by decide) (fun c_17 => ?_) (fun c_17 => ?_)
      · refine ex_iconst (v := 0) dX3_isNear_24 (by decide) ?_
        refine ex_ireturn dX3_isNear_25 ⟨_, rfl, rfl⟩ ?_
        first | exact bq_t (nr_1 c_2) | exact bq_t (nr_2 c_7) | exact bq_f (nr_4 c_2 c_7 c_17) | exact bq_t (nr_3 c_17)
      · refine ex_iconst (v := 1) dX3_isNear_20 (by decide) ?_
        refine ex_goto (tgt := 25) dX3_isNear_21 (by decide) ?_
        refine ex_ireturn dX3_isNear_25 ⟨_, rfl, rfl⟩ ?_
        first | exact bq_t (nr_1 c_2) | exact bq_t (nr_2 c_7) | exact bq_f (nr_4 c_2 c_7 c_17) | exact bq_t (nr_3 c_17)
theorem c_X3_typeOf (hO : h.1 7 = some (ho_C pieces made)) (hY : h.1 8 = some (.inl (.int, 30, .inl types))) (p : Int32) : mm_Ct l G mX3_typeOf [.ref 7, .int p] h (mm_ri (.int (ho_ty types pieces p)) h) := by
  refine mm_ct (by decide +kernel) (by decide +kernel) rfl (by simp [Value.category]) (Nat.le_of_ble_eq_true rfl) rfl ?_
  refine ex_iload_n dX3_typeOf_0 rfl ?_
  refine ex_if_lt (tgt := 30) dX3_typeOf_1 (by decide) (fun c_1 => ?_) (fun c_1 => ?_)
  · refine ex_iconst (v := (-1)) dX3_typeOf_30 (by decide) ?_
    refine ex_ireturn dX3_typeOf_31 ⟨_, rfl, rfl⟩ ?_
    first | exact mm_rq (ty_1 c_1) | exact mm_rq (ty_2 c_9) | exact mm_rq (ty_3 c_18) | exact mm_rq (ty_4 c_1 c_9 c_18)
  · refine ex_iload_n dX3_typeOf_4 rfl ?_
    refine ex_aload_n dX3_typeOf_5 rfl ?_
    refine ex_getfield dX3_typeOf_6 g_X3_25 hO rfl ?_
    refine ex_icmp_ge (tgt := 30) dX3_typeOf_9 (by decide) (fun c_9 => ?_) (fun c_9 => ?_)
    · refine ex_iconst (v := (-1)) dX3_typeOf_30 (by decide) ?_
      refine ex_ireturn dX3_typeOf_31 ⟨_, rfl, rfl⟩ ?_
      first | exact mm_rq (ty_1 c_1) | exact mm_rq (ty_2 c_9) | exact mm_rq (ty_3 c_18) | exact mm_rq (ty_4 c_1 c_9 c_18)
    · refine ex_iload_n dX3_typeOf_12 rfl ?_
      refine ex_aload_n dX3_typeOf_13 rfl ?_
      refine ex_getfield dX3_typeOf_14 g_X3_11 hO rfl ?_
      refine ex_alen dX3_typeOf_17 hY (Or.inl rfl) ?_
      refine ex_icmp_ge (tgt := 30) dX3_typeOf_18 (by decide) (fun c_18 => ?_) (fun c_18 => ?_)
      · refine ex_iconst (v := (-1)) dX3_typeOf_30 (by decide) ?_
        refine ex_ireturn dX3_typeOf_31 ⟨_, rfl, rfl⟩ ?_
        first | exact mm_rq (ty_1 c_1) | exact mm_rq (ty_2 c_9) | exact mm_rq (ty_3 c_18) | exact mm_rq (ty_4 c_1 c_9 c_18)
      · refine ex_aload_n dX3_typeOf_21 rfl ?_
        refine ex_getfield dX3_typeOf_22 g_X3_11 hO rfl ?_
        refine ex_iload_n dX3_typeOf_25 rfl ?_
        refine ex_iaload dX3_typeOf_26 hY (by obtain ⟨j, hj, rfl⟩ := nI_of c_1; exact vp_in_nI ((nI_ltI hj (by decide)).mp (Int32.not_le.mp c_18)) (by decide)) ?_
        refine ex_goto (tgt := 31) dX3_typeOf_27 (by decide) ?_
        refine ex_ireturn dX3_typeOf_31 ⟨_, rfl, rfl⟩ ?_
        first | exact mm_rq (ty_1 c_1) | exact mm_rq (ty_2 c_9) | exact mm_rq (ty_3 c_18) | exact mm_rq (ty_4 c_1 c_9 c_18)
theorem c_X3_metresIn (hT : tt_S h tb c0 n0) (hO : h.1 7 = some (ho_C pieces made)) (tank : Int32) : mm_Ct l G mX3_metresIn [.ref 7, .int tank] h (mm_ri (.int (ho_m tank (tb 0) 0)) h) := by
  obtain ⟨v, hv⟩ := tS_row hT 0 (by decide)
  have hlen := tS_len hT 0 (by decide)
  have key : ∀ s : Int32, mm_Ex l G mX3_metresIn (mm_ri (.int (ho_m tank (tb 0) s)) h) 4 [.ref 7, .int tank, .int s, .int (nI 0)] [] h := by
    refine lp_fwd (tb 0) (fun i R => ∀ s, mm_Ex l G mX3_metresIn (mm_ri (.int (ho_m tank R s)) h) 4 [.ref 7, .int tank, .int s, .int (nI i)] [] h) ?_ ?_
    · intro s
      refine ex_iload_n dX3_metresIn_4 rfl ?_
      refine ex_aload_n dX3_metresIn_5 rfl ?_
      refine ex_getfield dX3_metresIn_6 g_X3_18 hO rfl ?_
      refine ex_getfield dX3_metresIn_9 g_X3_36 hv rfl ?_
      refine ex_icmp_ge (tgt := 46) dX3_metresIn_12 (by decide) (fun _ => ?_) (fun z => absurd (Int32.le_refl _) z)
      refine ex_iload_n dX3_metresIn_46 rfl ?_
      refine ex_ireturn dX3_metresIn_47 ⟨_, rfl, rfl⟩ ?_
      exact ⟨rfl, rfl⟩
    · intro i r R hr hR hi ih s
      refine ex_iload_n dX3_metresIn_4 rfl ?_
      refine ex_aload_n dX3_metresIn_5 rfl ?_
      refine ex_getfield dX3_metresIn_6 g_X3_18 hO rfl ?_
      refine ex_getfield dX3_metresIn_9 g_X3_36 hv rfl ?_
      refine ex_icmp_ge (tgt := 46) dX3_metresIn_12 (by decide) (fun z => absurd z (nI_ge hi (by omega))) (fun _ => ?_)
      refine ex_aload_n dX3_metresIn_15 rfl ?_
      refine ex_getfield dX3_metresIn_16 g_X3_18 hO rfl ?_
      refine ex_iload_n dX3_metresIn_19 rfl ?_
      refine ex_iconst (v := 0) dX3_metresIn_20 (by decide) ?_
      refine cV_f dX3_metresIn_21 (mm_kv i_X7_get l_X3_39) ⟨(Nat.le_of_ble_eq_true rfl), (Nat.le_of_ble_eq_true rfl)⟩ (tS_getr hT 0 (by decide) rfl hr 0 _ rfl (by decide) _ rfl) rfl rfl hv (Nat.le_of_ble_eq_true rfl) rfl ?_
      refine ex_iload_n dX3_metresIn_24 rfl ?_
      refine ex_icmp_ne (tgt := 40) dX3_metresIn_25 (by decide) (fun c_25 => ?_) (fun c_25 => ?_)
      · refine ex_iinc (d := 1) dX3_metresIn_40 rfl (by decide) ?_
        refine ex_goto (tgt := 4) dX3_metresIn_43 (by decide) ?_
        rw [nI_1, ho_m]; first | (rw [if_neg (show ¬ r.1 = tank from c_25)]; exact ih _) | (rw [if_pos (show r.1 = tank from c_25)]; exact ih _)
      · refine ex_iload_n dX3_metresIn_28 rfl ?_
        refine ex_aload_n dX3_metresIn_29 rfl ?_
        refine ex_getfield dX3_metresIn_30 g_X3_18 hO rfl ?_
        refine ex_iload_n dX3_metresIn_33 rfl ?_
        refine ex_iconst (v := 3) dX3_metresIn_34 (by decide) ?_
        refine cV_f dX3_metresIn_35 (mm_kv i_X7_get l_X3_39) ⟨(Nat.le_of_ble_eq_true rfl), (Nat.le_of_ble_eq_true rfl)⟩ (tS_getr hT 0 (by decide) rfl hr 3 _ rfl (by decide) _ rfl) rfl rfl hv (Nat.le_of_ble_eq_true rfl) rfl ?_
        refine ex_iadd dX3_metresIn_38 ?_
        refine ex_istore_n dX3_metresIn_39 (Nat.le_of_ble_eq_true rfl) ?_
        refine ex_iinc (d := 1) dX3_metresIn_40 rfl (by decide) ?_
        refine ex_goto (tgt := 4) dX3_metresIn_43 (by decide) ?_
        rw [nI_1, ho_m]; first | (rw [if_neg (show ¬ r.1 = tank from c_25)]; exact ih _) | (rw [if_pos (show r.1 = tank from c_25)]; exact ih _)
  refine mm_ct (by decide +kernel) (by decide +kernel) rfl (by simp [Value.category]) (Nat.le_of_ble_eq_true rfl) rfl ?_
  refine ex_iconst (v := 0) dX3_metresIn_0 (by decide) ?_
  refine ex_istore_n dX3_metresIn_1 (Nat.le_of_ble_eq_true rfl) ?_
  refine ex_iconst (v := 0) dX3_metresIn_2 (by decide) ?_
  refine ex_istore_n dX3_metresIn_3 (Nat.le_of_ble_eq_true rfl) ?_
  exact key 0
theorem c_X3_piecesIn (hT : tt_S h tb c0 n0) (hO : h.1 7 = some (ho_C pieces made)) (tank : Int32) : mm_Ct l G mX3_piecesIn [.ref 7, .int tank] h (mm_ri (.int (ho_p tank (tb 0) 0)) h) := by
  obtain ⟨v, hv⟩ := tS_row hT 0 (by decide)
  have hlen := tS_len hT 0 (by decide)
  have key : ∀ s : Int32, mm_Ex l G mX3_piecesIn (mm_ri (.int (ho_p tank (tb 0) s)) h) 4 [.ref 7, .int tank, .int s, .int (nI 0)] [] h := by
    refine lp_fwd (tb 0) (fun i R => ∀ s, mm_Ex l G mX3_piecesIn (mm_ri (.int (ho_p tank R s)) h) 4 [.ref 7, .int tank, .int s, .int (nI i)] [] h) ?_ ?_
    · intro s
      refine ex_iload_n dX3_piecesIn_4 rfl ?_
      refine ex_aload_n dX3_piecesIn_5 rfl ?_
      refine ex_getfield dX3_piecesIn_6 g_X3_18 hO rfl ?_
      refine ex_getfield dX3_piecesIn_9 g_X3_36 hv rfl ?_
      refine ex_icmp_ge (tgt := 37) dX3_piecesIn_12 (by decide) (fun _ => ?_) (fun z => absurd (Int32.le_refl _) z)
      refine ex_iload_n dX3_piecesIn_37 rfl ?_
      refine ex_ireturn dX3_piecesIn_38 ⟨_, rfl, rfl⟩ ?_
      exact ⟨rfl, rfl⟩
    · intro i r R hr hR hi ih s
      refine ex_iload_n dX3_piecesIn_4 rfl ?_
      refine ex_aload_n dX3_piecesIn_5 rfl ?_
      refine ex_getfield dX3_piecesIn_6 g_X3_18 hO rfl ?_
      refine ex_getfield dX3_piecesIn_9 g_X3_36 hv rfl ?_
      refine ex_icmp_ge (tgt := 37) dX3_piecesIn_12 (by decide) (fun z => absurd z (nI_ge hi (by omega))) (fun _ => ?_)
      refine ex_aload_n dX3_piecesIn_15 rfl ?_
      refine ex_getfield dX3_piecesIn_16 g_X3_18 hO rfl ?_
      refine ex_iload_n dX3_piecesIn_19 rfl ?_
      refine ex_iconst (v := 0) dX3_piecesIn_20 (by decide) ?_
      refine cV_f dX3_piecesIn_21 (mm_kv i_X7_get l_X3_39) ⟨(Nat.le_of_ble_eq_true rfl), (Nat.le_of_ble_eq_true rfl)⟩ (tS_getr hT 0 (by decide) rfl hr 0 _ rfl (by decide) _ rfl) rfl rfl hv (Nat.le_of_ble_eq_true rfl) rfl ?_
      refine ex_iload_n dX3_piecesIn_24 rfl ?_
      refine ex_icmp_ne (tgt := 31) dX3_piecesIn_25 (by decide) (fun c_25 => ?_) (fun c_25 => ?_)
      · refine ex_iinc (d := 1) dX3_piecesIn_31 rfl (by decide) ?_
        refine ex_goto (tgt := 4) dX3_piecesIn_34 (by decide) ?_
        rw [nI_1, ho_p]; first | (rw [if_neg (show ¬ r.1 = tank from c_25)]; exact ih _) | (rw [if_pos (show r.1 = tank from c_25)]; exact ih _)
      · refine ex_iinc (d := 1) dX3_piecesIn_28 rfl (by decide) ?_
        refine ex_iinc (d := 1) dX3_piecesIn_31 rfl (by decide) ?_
        refine ex_goto (tgt := 4) dX3_piecesIn_34 (by decide) ?_
        rw [nI_1, ho_p]; first | (rw [if_neg (show ¬ r.1 = tank from c_25)]; exact ih _) | (rw [if_pos (show r.1 = tank from c_25)]; exact ih _)
  refine mm_ct (by decide +kernel) (by decide +kernel) rfl (by simp [Value.category]) (Nat.le_of_ble_eq_true rfl) rfl ?_
  refine ex_iconst (v := 0) dX3_piecesIn_0 (by decide) ?_
  refine ex_istore_n dX3_piecesIn_1 (Nat.le_of_ble_eq_true rfl) ?_
  refine ex_iconst (v := 0) dX3_piecesIn_2 (by decide) ?_
  refine ex_istore_n dX3_piecesIn_3 (Nat.le_of_ble_eq_true rfl) ?_
  exact key 0
theorem c_X3_top (hT : tt_S h tb c0 n0) (hO : h.1 7 = some (ho_C pieces made)) (tank : Int32) (c : Nat) (cv : Int32) (hcv : cv = nI c) (hc : c < 4) : mm_Ct l G mX3_top [.ref 7, .int tank, .int cv] h (mm_ri (.int (ho_top tank c (tb 0).reverse)) h) := by
  obtain ⟨v, hv⟩ := tS_row hT 0 (by decide)
  have hlen := tS_len hT 0 (by decide)
  have key : mm_Ex l G mX3_top (mm_ri (.int (ho_top tank c (tb 0).reverse)) h) 10 [.ref 7, .int tank, .int cv, .int (nI (tb 0).length - 1)] [] h := by
    refine lp_bwd (tb 0) (fun i R => mm_Ex l G mX3_top (mm_ri (.int (ho_top tank c R)) h) 10 [.ref 7, .int tank, .int cv, .int (nI i - 1)] [] h) ?_ ?_
    · skip
      refine ex_iload_n dX3_top_10 rfl ?_
      refine ex_if_lt (tgt := 43) dX3_top_11 (by decide) (fun _ => ?_) (fun z => absurd nI_neg1 z)
      refine ex_iconst (v := (-1)) dX3_top_43 (by decide) ?_
      refine ex_ireturn dX3_top_44 ⟨_, rfl, rfl⟩ ?_
      exact ⟨rfl, rfl⟩
    · intro i r R hr hR hi ih
      rw [nI_m1]
      refine ex_iload_n dX3_top_10 rfl ?_
      refine ex_if_lt (tgt := 43) dX3_top_11 (by decide) (fun z => absurd z (nI_pos (by omega))) (fun _ => ?_)
      refine ex_aload_n dX3_top_14 rfl ?_
      refine ex_getfield dX3_top_15 g_X3_18 hO rfl ?_
      refine ex_iload_n dX3_top_18 rfl ?_
      refine ex_iconst (v := 0) dX3_top_19 (by decide) ?_
      refine cV_f dX3_top_20 (mm_kv i_X7_get l_X3_39) ⟨(Nat.le_of_ble_eq_true rfl), (Nat.le_of_ble_eq_true rfl)⟩ (tS_getr hT 0 (by decide) rfl hr 0 _ rfl (by decide) _ rfl) rfl rfl hv (Nat.le_of_ble_eq_true rfl) rfl ?_
      refine ex_iload_n dX3_top_23 rfl ?_
      refine ex_icmp_ne (tgt := 37) dX3_top_24 (by decide) (fun c_24 => ?_) (fun c_24 => ?_)
      · refine ex_iinc (d := (-1)) dX3_top_37 rfl (by decide) ?_
        refine ex_goto (tgt := 10) dX3_top_40 (by decide) ?_
        rw [nI_m2, ho_top, if_neg (show ¬ r.1 = tank from c_24)]; exact ih
      · refine ex_aload_n dX3_top_27 rfl ?_
        refine ex_getfield dX3_top_28 g_X3_18 hO rfl ?_
        refine ex_iload_n dX3_top_31 rfl ?_
        refine ex_iload_n dX3_top_32 rfl ?_
        refine cV_f dX3_top_33 (mm_kv i_X7_get l_X3_39) ⟨(Nat.le_of_ble_eq_true rfl), (Nat.le_of_ble_eq_true rfl)⟩ (tS_getr hT 0 (by decide) rfl hr c _ hcv hc _ rfl) rfl rfl hv (Nat.le_of_ble_eq_true rfl) rfl ?_
        refine ex_ireturn dX3_top_36 ⟨_, rfl, rfl⟩ ?_
        exact mm_rq (if_pos (show r.1 = tank from c_24))
  refine mm_ct (by decide +kernel) (by decide +kernel) rfl (by simp [Value.category]) (Nat.le_of_ble_eq_true rfl) rfl ?_
  refine ex_aload_n dX3_top_0 rfl ?_
  refine ex_getfield dX3_top_1 g_X3_18 hO rfl ?_
  refine ex_getfield dX3_top_4 g_X3_36 hv rfl ?_
  refine ex_iconst (v := 1) dX3_top_7 (by decide) ?_
  refine ex_isub dX3_top_8 ?_
  refine ex_istore_n dX3_top_9 (Nat.le_of_ble_eq_true rfl) ?_
  exact key
end HOLD
