/-! THE TABLE: rows of four ints -/
abbrev tt_R : Type := Int32 × Int32 × Int32 × Int32
def tt_c (r : tt_R) (c : Nat) : Int32 := match c with
  | 0 => r.1
  | 1 => r.2.1
  | 2 => r.2.2.1
  | _ => r.2.2.2
def tt_s (r : tt_R) (c : Nat) (x : Int32) : tt_R := match c with
  | 0 => (x, r.2)
  | 1 => (r.1, x, r.2.2)
  | 2 => (r.1, r.2.1, x, r.2.2.2)
  | _ => (r.1, r.2.1, r.2.2.1, x)
def tt_A (f : Nat → Int32) (L : List tt_R) : Prop := ∀ (i : Nat) (r : tt_R), L[i]? = some r → ∀ c, c < 4 → f (4 * i + c) = tt_c r c
/-- the table at t, its values at v, an array of n -/
def tt_T (h : mm_H) (t v n : Nat) (L : List tt_R) : Prop := h.1 t = some (.inr (7, [.ref v, .int (nI L.length)])) ∧ 4 * L.length ≤ n ∧ n ≤ 400000 ∧ ∃ f : Nat → Int32, h.1 v = some (.inl (.int, n, .inl f)) ∧ tt_A f L
def tt_g (L : List tt_R) (i : Int32) (c : Nat) : Int32 := if i < 0 then -1 else match L[i.toNatClampNeg]? with
  | some r => tt_c r c
  | none => -1
theorem tt_g_nI {L : List tt_R} {j c : Nat} {r : tt_R} (h : L[j]? = some r) (hj : j < 2 ^ 31) : tt_g L (nI j) c = tt_c r c := by
  unfold tt_g
  rw [if_neg (nI_pos hj), nI_clamp hj, h]
theorem tt_g_neg {L : List tt_R} {i : Int32} {c : Nat} (h : i < 0) : tt_g L i c = -1 := by
  unfold tt_g
  rw [if_pos h]
theorem tt_g_ge {L : List tt_R} {i : Int32} {c : Nat} (hL : L.length < 2 ^ 31) (h : nI L.length ≤ i) : tt_g L i c = -1 := by
  unfold tt_g
  by_cases hi : i < 0
  · rw [if_pos hi]
  · rw [if_neg hi]
    obtain ⟨j, hj, rfl⟩ := nI_of hi
    rw [nI_clamp hj, List.getElem?_eq_none]
    exact (nI_leI hL hj).mp h
theorem tt_ix {j n c : Nat} (hj : j < n) (hc : c < 4) (hn : n ≤ 100000) : nI j * 4 + nI c = nI (4 * j + c) := by
  rw [show (4 : Int32) = nI 4 from rfl, pk_mul, nI_add, Nat.mul_comm]
theorem c_X7_get {l : Launch} {G : mm_G} {h : mm_H} {t v n : Nat} {L : List tt_R} (hT : tt_T h t v n L) (i : Int32) (c : Nat) (cv : Int32) (hcv : cv = nI c) (hc : c < 4) : mm_Ct l G mX7_get [.ref t, .int i, .int cv] h (mm_ri (.int (tt_g L i c)) h) := by
  subst hcv
  obtain ⟨hT1, hT2, hT3, f, hT4, hT5⟩ := hT
  have hc0 : ¬ nI c < 0 := nI_pos (by omega)
  have hc4 : ¬ (4 : Int32) ≤ nI c := nI_ge (a := c) (b := 4) hc (by decide)
  refine mm_ct (by decide +kernel) (by decide +kernel) rfl (by simp [Value.category]) (Nat.le_of_ble_eq_true rfl) rfl ?_
  rcases pk_ix i (n := L.length) (by omega) with hi | hi | ⟨j, hj, rfl⟩
  · skip
    refine ex_iload_n dX7_get_0 rfl ?_
    refine ex_iconst (v := 4) dX7_get_1 (by decide) ?_
    refine ex_imul dX7_get_2 ?_
    refine ex_iload_n dX7_get_3 rfl ?_
    refine ex_iadd dX7_get_4 ?_
    refine ex_istore_n dX7_get_5 (Nat.le_of_ble_eq_true rfl) ?_
    refine ex_iload_n dX7_get_6 rfl ?_
    refine ex_if_lt (tgt := 36) dX7_get_7 (by decide) (fun _ => ?_) (fun z => absurd hi z)
    refine ex_iconst (v := (-1)) dX7_get_36 (by decide) ?_
    refine ex_ireturn dX7_get_37 ⟨_, rfl, rfl⟩ ?_
    exact ⟨by rw [tt_g_neg hi], rfl⟩
  · skip
    refine ex_iload_n dX7_get_0 rfl ?_
    refine ex_iconst (v := 4) dX7_get_1 (by decide) ?_
    refine ex_imul dX7_get_2 ?_
    refine ex_iload_n dX7_get_3 rfl ?_
    refine ex_iadd dX7_get_4 ?_
    refine ex_istore_n dX7_get_5 (Nat.le_of_ble_eq_true rfl) ?_
    refine ex_iload_n dX7_get_6 rfl ?_
    refine ex_if_lt (tgt := 36) dX7_get_7 (by decide) (fun z => absurd z (fun z => absurd (Int32.lt_of_le_of_lt hi z) (nI_pos (n := L.length) (by omega)))) (fun _ => ?_)
    refine ex_iload_n dX7_get_10 rfl ?_
    refine ex_aload_n dX7_get_11 rfl ?_
    refine ex_getfield dX7_get_12 g_X7_15 hT1 rfl ?_
    refine ex_icmp_ge (tgt := 36) dX7_get_15 (by decide) (fun _ => ?_) (fun z => absurd hi z)
    refine ex_iconst (v := (-1)) dX7_get_36 (by decide) ?_
    refine ex_ireturn dX7_get_37 ⟨_, rfl, rfl⟩ ?_
    exact ⟨by rw [tt_g_ge (by omega) hi], rfl⟩
  · have h33 : nI j * 4 + nI c < Int32.ofNat n := by rw [tt_ix hj hc (by omega)]; exact nI_lt (by omega) (by omega)
    refine ex_iload_n dX7_get_0 rfl ?_
    refine ex_iconst (v := 4) dX7_get_1 (by decide) ?_
    refine ex_imul dX7_get_2 ?_
    refine ex_iload_n dX7_get_3 rfl ?_
    refine ex_iadd dX7_get_4 ?_
    refine ex_istore_n dX7_get_5 (Nat.le_of_ble_eq_true rfl) ?_
    refine ex_iload_n dX7_get_6 rfl ?_
    refine ex_if_lt (tgt := 36) dX7_get_7 (by decide) (fun z => absurd z (nI_pos (by omega))) (fun _ => ?_)
    refine ex_iload_n dX7_get_10 rfl ?_
    refine ex_aload_n dX7_get_11 rfl ?_
    refine ex_getfield dX7_get_12 g_X7_15 hT1 rfl ?_
    refine ex_icmp_ge (tgt := 36) dX7_get_15 (by decide) (fun z => absurd z (nI_ge hj (by omega))) (fun _ => ?_)
    refine ex_iload_n dX7_get_18 rfl ?_
    refine ex_if_lt (tgt := 36) dX7_get_19 (by decide) (fun z => absurd z hc0) (fun _ => ?_)
    refine ex_iload_n dX7_get_22 rfl ?_
    refine ex_iconst (v := 4) dX7_get_23 (by decide) ?_
    refine ex_icmp_ge (tgt := 36) dX7_get_24 (by decide) (fun z => absurd z hc4) (fun _ => ?_)
    refine ex_iload_n dX7_get_27 rfl ?_
    refine ex_aload_n dX7_get_28 rfl ?_
    refine ex_getfield dX7_get_29 g_X7_11 hT1 rfl ?_
    refine ex_alen dX7_get_32 hT4 (Or.inl rfl) ?_
    refine ex_icmp_lt (tgt := 38) dX7_get_33 (by decide) (fun _ => ?_) (fun z => absurd h33 z)
    refine ex_aload_n dX7_get_38 rfl ?_
    refine ex_getfield dX7_get_39 g_X7_11 hT1 rfl ?_
    refine ex_iload_n dX7_get_42 rfl ?_
    refine ex_iaload dX7_get_43 hT4 (by rw [tt_ix hj hc (by omega)]; exact vp_in_nI (by omega) (by omega)) ?_
    refine ex_ireturn dX7_get_44 ⟨_, rfl, rfl⟩ ?_
    exact ⟨by rw [tt_ix hj hc (by omega), nI_clamp (by omega), hT5 j _ (List.getElem?_eq_getElem hj) c hc, tt_g_nI (List.getElem?_eq_getElem hj) (by omega)], rfl⟩

