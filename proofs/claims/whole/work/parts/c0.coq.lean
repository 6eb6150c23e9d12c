/-! THE CONSTRUCTORS: the ship, the model -/
def kz : Nat → Int32 := fun _ => 0
def k_u : cl_U := ((fl_N (fun _ => 0) 100 100, fl_N (fun _ => 0) 501 100, fun _ => 0, fun _ => 0), (0, 0, 0), (fun _ => 0, 0, 0), (fun _ => 0, 0, 0), fun _ => 0, (0, 0, 0, 0, 0, 0))
def k_tb (i : Nat) : List tt_R := if i = 5 then [(0, 1, 8, 0)] else []
def k_Q (h : mm_H) : Prop := cl_Q h k_u ∧ (∀ i, i < 7 → tt_T h (tp i) (tp i + 1) 64 (k_tb i)) ∧ h.2.1 = 29 ∧ h.2.2.1 ≤ 29 ∧ h.2.2.2 ≤ 2000 ∧ ∀ p, 29 ≤ p → h.1 p = none
section COQ
variable {l : Launch} {G : mm_G} {M : mm_M} {Q : mm_R → mm_H → Prop} {pc : Nat} {ls st : List Value} {q c n : Nat} {h : mm_H} {fs : List Value} {A : List mm_E}
theorem k_tab {h : mm_H} {t : Nat} (h1 : h.1 t = some (.inr (7, [.ref (t + 1), .int 0]))) (h2 : h.1 (t + 1) = some (.inl (.int, 64, .inl (fun _ => 0)))) : tt_T h t (t + 1) 64 [] := ⟨h1, by decide, by decide, _, h2, fun i r hr => by simp at hr⟩
theorem k_g {h60 h : mm_H} {k a b : Nat} {e e0 : mm_E} (f : ∀ q, ¬ q = a → ¬ q = b → h60.1 q = h.1 q) (z1 : ¬ k = 0) (z2 : ¬ k = a) (z3 : ¬ k = b) (z4 : h.1 k = some e) : (mm_set h60 0 e0).1 k = some e := mm_set_ne z1 ((f k z2 z3).trans z4)
theorem c_X8_init : mm_Ct l G mX8_init [.ref 0] (hp [.inr (8, [.null, .null, .null, .null, .null, .null, .int 0, .int 0, .int 0, .int 0, .int 0, .int 0])] 1 12) (mm_qv k_Q) := by
  have h0 : ([] : List mm_E).length = 0 := rfl
  refine mm_ct (by decide +kernel) (by decide +kernel) rfl (by simp [Value.category]) (Nat.le_of_ble_eq_true rfl) rfl ?_
  change mm_Ex l G mX8_init _ 0 _ _ (hp ([] ++ [_]) 1 12)
  refine ex_aload_n dX8_init_0 rfl ?_
  refine ex_objInit dX8_init_1 l_X8_1 (Nat.le_of_ble_eq_true rfl) (Nat.le_of_ble_eq_true rfl) ?_
  refine ex_aload_n dX8_init_4 rfl ?_
  refine pr_new h0 (q := 0 + 1) dX8_init_5 n_X8_7 rfl rfl ?_
  refine ex_dup dX8_init_8 rfl ?_
  refine cI_v dX8_init_9 (mm_ki i_X6_init l_X8_9) ⟨(Nat.le_of_ble_eq_true rfl), (Nat.le_of_ble_eq_true rfl)⟩ (c_X6_init (P := [_]) (p := 1) rfl) rfl rfl (Nat.le_of_ble_eq_true rfl) rfl ?_
  refine pr_put h0 dX8_init_12 p_X8_10 rfl (Nat.le_of_ble_eq_true rfl) (fun _ => rfl) (mm_fo _ _) rfl ?_
  skip
  refine ex_aload_n dX8_init_15 rfl ?_
  refine pr_new h0 (q := 0 + 6) dX8_init_16 n_X8_16 rfl rfl ?_
  refine ex_dup dX8_init_19 rfl ?_
  refine cIN_v dX8_init_20 (mm_kin i_X0_init l_X8_18) ⟨(Nat.le_of_ble_eq_true rfl), (Nat.le_of_ble_eq_true rfl)⟩ (c_X0_init (P := [_, _, _, _, _, _]) (p := 6) rfl) rfl rfl (Nat.le_of_ble_eq_true rfl) rfl ?_
  refine pr_put h0 dX8_init_23 p_X8_19 rfl (Nat.le_of_ble_eq_true rfl) (fun _ => rfl) (mm_fo _ _) rfl ?_
  skip
  refine ex_aload_n dX8_init_26 rfl ?_
  refine pr_new h0 (q := 0 + 7) dX8_init_27 n_X8_23 rfl rfl ?_
  refine ex_dup dX8_init_30 rfl ?_
  refine cIN_v dX8_init_31 (mm_kin i_X3_init l_X8_25) ⟨(Nat.le_of_ble_eq_true rfl), (Nat.le_of_ble_eq_true rfl)⟩ (c_X3_init (P := [_, _, _, _, _, _, _]) (p := 7) rfl) rfl rfl (Nat.le_of_ble_eq_true rfl) rfl ?_
  refine pr_put h0 dX8_init_34 p_X8_26 rfl (Nat.le_of_ble_eq_true rfl) (fun _ => rfl) (mm_fo _ _) rfl ?_
  skip
  refine ex_aload_n dX8_init_37 rfl ?_
  refine pr_new h0 (q := 0 + 13) dX8_init_38 n_X8_30 rfl rfl ?_
  refine ex_dup dX8_init_41 rfl ?_
  refine cIN_v dX8_init_42 (mm_kin i_X5_init l_X8_32) ⟨(Nat.le_of_ble_eq_true rfl), (Nat.le_of_ble_eq_true rfl)⟩ (c_X5_init (P := [_, _, _, _, _, _, _, _, _, _, _, _, _]) (p := 13) rfl) rfl rfl (Nat.le_of_ble_eq_true rfl) rfl ?_
  refine pr_put h0 dX8_init_45 p_X8_33 rfl (Nat.le_of_ble_eq_true rfl) (fun _ => rfl) (mm_fo _ _) rfl ?_
  skip
  refine ex_aload_n dX8_init_48 rfl ?_
  refine pr_new h0 (q := 0 + 20) dX8_init_49 n_X8_37 rfl rfl ?_
  refine ex_dup dX8_init_52 rfl ?_
  refine cIN_v dX8_init_53 (mm_kin i_X2_init l_X8_39) ⟨(Nat.le_of_ble_eq_true rfl), (Nat.le_of_ble_eq_true rfl)⟩ (c_X2_init (P := [_, _, _, _, _, _, _, _, _, _, _, _, _, _, _, _, _, _, _, _]) (p := 20) rfl) rfl rfl (Nat.le_of_ble_eq_true rfl) rfl ?_
  refine pr_put h0 dX8_init_56 p_X8_40 rfl (Nat.le_of_ble_eq_true rfl) (fun _ => rfl) (mm_fo _ _) rfl ?_
  skip
  refine ex_aload_n dX8_init_59 rfl ?_
  refine pr_new h0 (q := 0 + 23) dX8_init_60 n_X8_44 rfl rfl ?_
  refine ex_dup dX8_init_63 rfl ?_
  refine cI_y dX8_init_64 (mm_ki i_X4_init l_X8_46) ⟨(Nat.le_of_ble_eq_true rfl), (Nat.le_of_ble_eq_true rfl)⟩ (c_X4_init (P := [_, _, _, _, _, _, _, _, _, _, _, _, _, _, _, _, _, _, _, _, _, _, _]) (p := 23) rfl) rfl rfl (Nat.le_of_ble_eq_true rfl) rfl ?_
  rintro h60 ⟨t60, e60, f60⟩
  skip
  refine ex_put dX8_init_67 p_X8_47 ((f60 0 (by decide) (by decide)).trans (show (c4_h _ 23 _ _).1 0 = some _ from rfl)) (Nat.le_of_ble_eq_true rfl) (fun _ => rfl) (mm_fo _ _) ?_
  refine ex_return dX8_init_70 rfl ?_
  refine ⟨rfl, ⟨⟨k_g f60 (by decide) (by decide) (by decide) rfl, k_g f60 (by decide) (by decide) (by decide) rfl, k_g f60 (by decide) (by decide) (by decide) rfl, k_g f60 (by decide) (by decide) (by decide) rfl, k_g f60 (by decide) (by decide) (by decide) rfl⟩, k_g f60 (by decide) (by decide) (by decide) rfl, k_g f60 (by decide) (by decide) (by decide) rfl, k_g f60 (by decide) (by decide) (by decide) rfl, k_g f60 (by decide) (by decide) (by decide) rfl, k_g f60 (by decide) (by decide) (by decide) rfl, k_g f60 (by decide) (by decide) (by decide) rfl, mm_set_at, k_g f60 (by decide) (by decide) (by decide) rfl, k_g f60 (by decide) (by decide) (by decide) rfl, k_g f60 (by decide) (by decide) (by decide) rfl⟩, fun i hi => ?_, ?_, ?_, ?_, fun p hp => ?_⟩
  · rcases (by omega : i = 0 ∨ i = 1 ∨ i = 2 ∨ i = 3 ∨ i = 4 ∨ i = 5 ∨ i = 6) with rfl | rfl | rfl | rfl | rfl | rfl | rfl
    · exact k_tab (k_g f60 (by decide) (by decide) (by decide) rfl) (k_g f60 (by decide) (by decide) (by decide) rfl)
    · exact k_tab (k_g f60 (by decide) (by decide) (by decide) rfl) (k_g f60 (by decide) (by decide) (by decide) rfl)
    · exact k_tab (k_g f60 (by decide) (by decide) (by decide) rfl) (k_g f60 (by decide) (by decide) (by decide) rfl)
    · exact k_tab (k_g f60 (by decide) (by decide) (by decide) rfl) (k_g f60 (by decide) (by decide) (by decide) rfl)
    · exact k_tab (k_g f60 (by decide) (by decide) (by decide) rfl) (k_g f60 (by decide) (by decide) (by decide) rfl)
    · exact t60.kept (mm_set_ne (by decide) rfl) (mm_set_ne (by decide) rfl)
    · exact k_tab (k_g f60 (by decide) (by decide) (by decide) rfl) (k_g f60 (by decide) (by decide) (by decide) rfl)
  · show h60.2.1 = 29
    rw [e60]; rfl
  · show h60.2.2.1 ≤ 29
    rw [e60]; exact Nat.le_of_ble_eq_true rfl
  · show h60.2.2.2 ≤ 2000
    rw [e60]; exact Nat.le_of_ble_eq_true rfl
  · refine mm_set_ne (by omega) ((f60 p (by omega) (by omega)).trans ?_)
    exact List.getElem?_eq_none hp
/-- the model under way: its fields and its arrays -/
def h9 (h : mm_H) (fs : List Value) (A : List mm_E) (c n : Nat) : mm_H := (fun j => if j = 29 then some (.inr (9, fs)) else if j < 29 then h.1 j else A[j - 30]?, 30 + A.length, c, n)
theorem h9_new {e : mm_E} {N : Nat} : mm_new (h9 h fs A c n) e N = h9 h fs (A ++ [e]) (c + 1) (n + N) := by
  unfold mm_new h9
  refine Prod.ext (funext fun j => ?_) ?_
  · show (if j = 30 + A.length then some e else if j = 29 then _ else if j < 29 then _ else A[j - 30]?) = if j = 29 then _ else if j < 29 then _ else (A ++ [e])[j - 30]?
    by_cases h1 : j = 30 + A.length
    · rw [if_pos h1, if_neg (by omega), if_neg (by omega), List.getElem?_append_right (by omega), show j - 30 - A.length = 0 by omega]; rfl
    · rw [if_neg h1]
      by_cases h2 : j = 29
      · rw [if_pos h2, if_pos h2]
      · rw [if_neg h2, if_neg h2]
        by_cases h3 : j < 29
        · rw [if_pos h3, if_pos h3]
        · rw [if_neg h3, if_neg h3]
          rcases Nat.lt_or_ge (j - 30) A.length with z | z
          · rw [List.getElem?_append_left z]
          · rw [List.getElem?_eq_none z, List.getElem?_eq_none (by rw [List.length_append]; show A.length + 1 ≤ j - 30; omega)]
  · show (30 + A.length + 1, c + 1, n + N) = (30 + (A ++ [e]).length, c + 1, n + N)
    rw [List.length_append]; rfl
theorem h9_put {fs' : List Value} : mm_set (h9 h fs A c n) 29 (.inr (9, fs')) = h9 h fs' A c n := by
  unfold mm_set h9
  refine Prod.ext (funext fun j => ?_) rfl
  show (if j = 29 then _ else if j = 29 then _ else _) = if j = 29 then _ else _
  by_cases h2 : j = 29
  · rw [if_pos h2, if_pos h2]
  · rw [if_neg h2, if_neg h2, if_neg h2]
theorem h9_ar {i : Nat} {e e0 : mm_E} (he : A[i]? = some e0) : mm_set (h9 h fs A c n) (30 + i) e = h9 h fs (A.set i e) c n := by
  have hi := (List.getElem?_eq_some_iff.mp he).1
  unfold mm_set h9
  refine Prod.ext (funext fun j => ?_) ?_
  · show (if j = 30 + i then some e else if j = 29 then _ else if j < 29 then _ else A[j - 30]?) = if j = 29 then _ else if j < 29 then _ else (A.set i e)[j - 30]?
    by_cases h1 : j = 30 + i
    · rw [if_pos h1, if_neg (by omega), if_neg (by omega), show j - 30 = i by omega, List.getElem?_set_self hi]
    · rw [if_neg h1]
      by_cases h2 : j = 29
      · rw [if_pos h2, if_pos h2]
      · rw [if_neg h2, if_neg h2]
        by_cases h3 : j < 29
        · rw [if_pos h3, if_pos h3]
        · rw [if_neg h3, if_neg h3, List.getElem?_set_ne (by omega)]
  · show (30 + A.length, c, n) = (30 + (A.set i e).length, c, n)
    rw [List.length_set]
theorem q9_o : (h9 h fs A c n).1 29 = some (.inr (9, fs)) := by
  simp only [h9, if_true]
theorem q9_a {i : Nat} {e : mm_E} (he : A[i]? = some e) : (h9 h fs A c n).1 (30 + i) = some e := by
  show (if 30 + i = 29 then _ else if 30 + i < 29 then _ else A[30 + i - 30]?) = _
  rw [if_neg (by omega), if_neg (by omega), show 30 + i - 30 = i by omega]; exact he
theorem q9_newI {v : Int32} {N : Nat} (hd : decode M.2.1 pc = .ok (.newarray .int, 2)) (hw : Cond.arrayClass .int ∈ mm_W) (hn : ¬ v < 0) (hN : v.toNatClampNeg = N) (hb : N ≤ 100000000) (hq : 30 + A.length = q) (k : mm_Ex l G M Q (pc + 2) ls (.ref q :: st) (h9 h fs (A ++ [.inl (.int, N, .inl (fun _ => 0))]) (c + 1) (n + N))) : mm_Ex l G M Q pc ls (.int v :: st) (h9 h fs A c n) := by
  subst hq
  refine ex_newI hd hw hn hN hb ?_
  rw [h9_new]; exact k
theorem q9_newZ {v : Int32} {N : Nat} (hd : decode M.2.1 pc = .ok (.newarray .boolean, 2)) (hw : Cond.arrayClass .boolean ∈ mm_W) (hn : ¬ v < 0) (hN : v.toNatClampNeg = N) (hb : N ≤ 100000000) (hq : 30 + A.length = q) (k : mm_Ex l G M Q (pc + 2) ls (.ref q :: st) (h9 h fs (A ++ [.inl (.boolean, N, .inl (fun _ => 0))]) (c + 1) (n + N))) : mm_Ex l G M Q pc ls (.int v :: st) (h9 h fs A c n) := by
  subst hq
  refine ex_newZ hd hw hn hN hb ?_
  rw [h9_new]; exact k
theorem q9_put (h54 : fs.length = 54) {idx f : Nat} {v : Value} {fin : Bool} {ty : FieldType} (hd : decode M.2.1 pc = .ok (.putfield idx, 3)) (hg : mm_pf M.1.cls idx 9 f fin ty) (hl : f < 54) (hfin : fin = true → M.1.name = "<init>") (hf : ∀ (ws : va_W) (V : Value), mm_v ws v V → narrow ty V = V ∧ fits ty V = true) (k : (fs.set f v).length = 54 → mm_Ex l G M Q (pc + 3) ls st (h9 h (fs.set f v) A c n)) : mm_Ex l G M Q pc ls (v :: .ref 29 :: st) (h9 h fs A c n) := by
  refine ex_put hd hg q9_o (by rw [h54]; exact hl) hfin hf ?_
  rw [h9_put]; exact k (by rw [List.length_set]; exact h54)
theorem q9_ias {i j N o : Nat} {f : Nat → Int32} {ix x : Int32} (hd : decode M.2.1 pc = .ok (.iastore, 1)) (he : A[i]? = some (.inl (.int, N, .inl f))) (ho : 30 + i = o) (hi : vp_in ix N) (hj : ix.toNatClampNeg = j) (k : mm_Ex l G M Q (pc + 1) ls st (h9 h fs (A.set i (.inl (.int, N, .inl (upd f j x)))) c n)) : mm_Ex l G M Q pc ls (.int x :: .int ix :: .ref o :: st) (h9 h fs A c n) := by
  subst ho hj
  refine ex_iastore hd (q9_a he) hi ?_
  rw [h9_ar he]; exact k
def k_m : mo_S := (fun k => if k = 43 then 1 else 0, (0, 0), fun k => if k = 45 then upd (fun _ => 0) 0 1 else if k = 46 then upd (fun _ => 0) 0 8 else fun _ => 0)
set_option maxRecDepth 100000 in
theorem c_X9_init : mm_Ct l G mX9_init [.ref 29] (h9 h [.int 0, .null, .null, .null, .null, .null, .int 0, .int 0, .int 0, .int 0, .int 0, .null, .long 0, .null, .null, .null, .null, .int 0, .null, .null, .null, .int 0, .null, .null, .null, .null, .int 0, .null, .null, .null, .null, .int 0, .null, .long 0, .int 0, .int 0, .int 0, .int 0, .int 0, .null, .null, .null, .null, .int 0, .null, .null, .null, .null, .int 0, .null, .null, .null, .null, .null] [] c n) (mm_qv (fun h' => mo_P h' h' k_m ∧ (∀ p, p < 29 → h'.1 p = h.1 p) ∧ h'.2.1 = 65 ∧ h'.2.2.1 ≤ c + 35 ∧ h'.2.2.2 ≤ n + 70000)) := by
  have h54 : ([.int 0, .null, .null, .null, .null, .null, .int 0, .int 0, .int 0, .int 0, .int 0, .null, .long 0, .null, .null, .null, .null, .int 0, .null, .null, .null, .int 0, .null, .null, .null, .null, .int 0, .null, .null, .null, .null, .int 0, .null, .long 0, .int 0, .int 0, .int 0, .int 0, .int 0, .null, .null, .null, .null, .int 0, .null, .null, .null, .null, .int 0, .null, .null, .null, .null, .null] : List Value).length = 54 := rfl
  generalize hfs : ([.int 0, .null, .null, .null, .null, .null, .int 0, .int 0, .int 0, .int 0, .int 0, .null, .long 0, .null, .null, .null, .null, .int 0, .null, .null, .null, .int 0, .null, .null, .null, .null, .int 0, .null, .null, .null, .null, .int 0, .null, .long 0, .int 0, .int 0, .int 0, .int 0, .int 0, .null, .null, .null, .null, .int 0, .null, .null, .null, .null, .int 0, .null, .null, .null, .null, .null] : List Value) = fs at h54
  refine mm_ct (by decide +kernel) (by decide +kernel) rfl (by simp [Value.category]) (Nat.le_of_ble_eq_true rfl) rfl ?_
  refine ex_aload_n dX9_init_0 rfl ?_
  refine ex_objInit dX9_init_1 l_X9_1 (Nat.le_of_ble_eq_true rfl) (Nat.le_of_ble_eq_true rfl) ?_
  refine ex_aload_n dX9_init_4 rfl ?_
  refine ex_bipush (v := 100) dX9_init_5 (by decide) ?_
  refine q9_newZ (q := 30) (N := 100) dX9_init_7 a_boolean (by decide) rfl (by decide) rfl ?_
  refine q9_put h54 dX9_init_9 p_X9_7 (by decide) (fun _ => rfl) (mm_fa _ _) (fun g54 => ?_)
  clear h54
  have h54 := g54
  clear g54
  refine ex_aload_n dX9_init_12 rfl ?_
  refine ex_bipush (v := 100) dX9_init_13 (by decide) ?_
  refine q9_newI (q := 31) (N := 100) dX9_init_15 a_int (by decide) rfl (by decide) rfl ?_
  refine q9_put h54 dX9_init_17 p_X9_13 (by decide) (fun _ => rfl) (mm_fa _ _) (fun g54 => ?_)
  clear h54
  have h54 := g54
  clear g54
  refine ex_aload_n dX9_init_20 rfl ?_
  refine ex_bipush (v := 100) dX9_init_21 (by decide) ?_
  refine q9_newI (q := 32) (N := 100) dX9_init_23 a_int (by decide) rfl (by decide) rfl ?_
  refine q9_put h54 dX9_init_25 p_X9_17 (by decide) (fun _ => rfl) (mm_fa _ _) (fun g54 => ?_)
  clear h54
  have h54 := g54
  clear g54
  refine ex_aload_n dX9_init_28 rfl ?_
  refine ex_bipush (v := 100) dX9_init_29 (by decide) ?_
  refine q9_newZ (q := 33) (N := 100) dX9_init_31 a_boolean (by decide) rfl (by decide) rfl ?_
  refine q9_put h54 dX9_init_33 p_X9_20 (by decide) (fun _ => rfl) (mm_fa _ _) (fun g54 => ?_)
  clear h54
  have h54 := g54
  clear g54
  refine ex_aload_n dX9_init_36 rfl ?_
  refine ex_bipush (v := 100) dX9_init_37 (by decide) ?_
  refine q9_newI (q := 34) (N := 100) dX9_init_39 a_int (by decide) rfl (by decide) rfl ?_
  refine q9_put h54 dX9_init_41 p_X9_23 (by decide) (fun _ => rfl) (mm_fa _ _) (fun g54 => ?_)
  clear h54
  have h54 := g54
  clear g54
  refine ex_aload_n dX9_init_44 rfl ?_
  refine ex_bipush (v := 30) dX9_init_45 (by decide) ?_
  refine q9_newI (q := 35) (N := 30) dX9_init_47 a_int (by decide) rfl (by decide) rfl ?_
  refine q9_put h54 dX9_init_49 p_X9_26 (by decide) (fun _ => rfl) (mm_fa _ _) (fun g54 => ?_)
  clear h54
  have h54 := g54
  clear g54
  refine ex_aload_n dX9_init_52 rfl ?_
  refine ex_iconst (v := 3) dX9_init_53 (by decide) ?_
  refine q9_newI (q := 36) (N := 3) dX9_init_54 a_int (by decide) rfl (by decide) rfl ?_
  refine q9_put h54 dX9_init_56 p_X9_29 (by decide) (fun _ => rfl) (mm_fa _ _) (fun g54 => ?_)
  clear h54
  have h54 := g54
  clear g54
  refine ex_aload_n dX9_init_59 rfl ?_
  refine ex_bipush (v := 90) dX9_init_60 (by decide) ?_
  refine q9_newI (q := 37) (N := 90) dX9_init_62 a_int (by decide) rfl (by decide) rfl ?_
  refine q9_put h54 dX9_init_64 p_X9_32 (by decide) (fun _ => rfl) (mm_fa _ _) (fun g54 => ?_)
  clear h54
  have h54 := g54
  clear g54
  refine ex_aload_n dX9_init_67 rfl ?_
  refine ex_bipush (v := 90) dX9_init_68 (by decide) ?_
  refine q9_newI (q := 38) (N := 90) dX9_init_70 a_int (by decide) rfl (by decide) rfl ?_
  refine q9_put h54 dX9_init_72 p_X9_35 (by decide) (fun _ => rfl) (mm_fa _ _) (fun g54 => ?_)
  clear h54
  have h54 := g54
  clear g54
  refine ex_aload_n dX9_init_75 rfl ?_
  refine ex_bipush (v := 90) dX9_init_76 (by decide) ?_
  refine q9_newI (q := 39) (N := 90) dX9_init_78 a_int (by decide) rfl (by decide) rfl ?_
  refine q9_put h54 dX9_init_80 p_X9_38 (by decide) (fun _ => rfl) (mm_fa _ _) (fun g54 => ?_)
  clear h54
  have h54 := g54
  clear g54
  refine ex_aload_n dX9_init_83 rfl ?_
  refine ex_bipush (v := 32) dX9_init_84 (by decide) ?_
  refine q9_newI (q := 40) (N := 32) dX9_init_86 a_int (by decide) rfl (by decide) rfl ?_
  refine q9_put h54 dX9_init_88 p_X9_41 (by decide) (fun _ => rfl) (mm_fa _ _) (fun g54 => ?_)
  clear h54
  have h54 := g54
  clear g54
  refine ex_aload_n dX9_init_91 rfl ?_
  refine ex_bipush (v := 32) dX9_init_92 (by decide) ?_
  refine q9_newI (q := 41) (N := 32) dX9_init_94 a_int (by decide) rfl (by decide) rfl ?_
  refine q9_put h54 dX9_init_96 p_X9_44 (by decide) (fun _ => rfl) (mm_fa _ _) (fun g54 => ?_)
  clear h54
  have h54 := g54
  clear g54
  refine ex_aload_n dX9_init_99 rfl ?_
  refine ex_bipush (v := 32) dX9_init_100 (by decide) ?_
  refine q9_newI (q := 42) (N := 32) dX9_init_102 a_int (by decide) rfl (by decide) rfl ?_
  refine q9_put h54 dX9_init_104 p_X9_47 (by decide) (fun _ => rfl) (mm_fa _ _) (fun g54 => ?_)
  clear h54
  have h54 := g54
  clear g54
  refine ex_aload_n dX9_init_107 rfl ?_
  refine ex_sipush (v := 8192) dX9_init_108 (by decide) ?_
  refine q9_newI (q := 43) (N := 8192) dX9_init_111 a_int (by decide) rfl (by decide) rfl ?_
  refine q9_put h54 dX9_init_113 p_X9_50 (by decide) (fun _ => rfl) (mm_fa _ _) (fun g54 => ?_)
  clear h54
  have h54 := g54
  clear g54
  refine ex_aload_n dX9_init_116 rfl ?_
  refine ex_sipush (v := 8192) dX9_init_117 (by decide) ?_
  refine q9_newI (q := 44) (N := 8192) dX9_init_120 a_int (by decide) rfl (by decide) rfl ?_
  refine q9_put h54 dX9_init_122 p_X9_53 (by decide) (fun _ => rfl) (mm_fa _ _) (fun g54 => ?_)
  clear h54
  have h54 := g54
  clear g54
  refine ex_aload_n dX9_init_125 rfl ?_
  refine ex_sipush (v := 8192) dX9_init_126 (by decide) ?_
  refine q9_newI (q := 45) (N := 8192) dX9_init_129 a_int (by decide) rfl (by decide) rfl ?_
  refine q9_put h54 dX9_init_131 p_X9_56 (by decide) (fun _ => rfl) (mm_fa _ _) (fun g54 => ?_)
  clear h54
  have h54 := g54
  clear g54
  refine ex_aload_n dX9_init_134 rfl ?_
  refine ex_sipush (v := 8192) dX9_init_135 (by decide) ?_
  refine q9_newI (q := 46) (N := 8192) dX9_init_138 a_int (by decide) rfl (by decide) rfl ?_
  refine q9_put h54 dX9_init_140 p_X9_59 (by decide) (fun _ => rfl) (mm_fa _ _) (fun g54 => ?_)
  clear h54
  have h54 := g54
  clear g54
  refine ex_aload_n dX9_init_143 rfl ?_
  refine ex_sipush (v := 8192) dX9_init_144 (by decide) ?_
  refine q9_newI (q := 47) (N := 8192) dX9_init_147 a_int (by decide) rfl (by decide) rfl ?_
  refine q9_put h54 dX9_init_149 p_X9_62 (by decide) (fun _ => rfl) (mm_fa _ _) (fun g54 => ?_)
  clear h54
  have h54 := g54
  clear g54
  refine ex_aload_n dX9_init_152 rfl ?_
  refine ex_sipush (v := 8192) dX9_init_153 (by decide) ?_
  refine q9_newI (q := 48) (N := 8192) dX9_init_156 a_int (by decide) rfl (by decide) rfl ?_
  refine q9_put h54 dX9_init_158 p_X9_65 (by decide) (fun _ => rfl) (mm_fa _ _) (fun g54 => ?_)
  clear h54
  have h54 := g54
  clear g54
  refine ex_aload_n dX9_init_161 rfl ?_
  refine ex_sipush (v := 8192) dX9_init_162 (by decide) ?_
  refine q9_newI (q := 49) (N := 8192) dX9_init_165 a_int (by decide) rfl (by decide) rfl ?_
  refine q9_put h54 dX9_init_167 p_X9_68 (by decide) (fun _ => rfl) (mm_fa _ _) (fun g54 => ?_)
  clear h54
  have h54 := g54
  clear g54
  refine ex_aload_n dX9_init_170 rfl ?_
  refine ex_sipush (v := 8192) dX9_init_171 (by decide) ?_
  refine q9_newI (q := 50) (N := 8192) dX9_init_174 a_int (by decide) rfl (by decide) rfl ?_
  refine q9_put h54 dX9_init_176 p_X9_71 (by decide) (fun _ => rfl) (mm_fa _ _) (fun g54 => ?_)
  clear h54
  have h54 := g54
  clear g54
  refine ex_aload_n dX9_init_179 rfl ?_
  refine ex_bipush (v := 100) dX9_init_180 (by decide) ?_
  refine q9_newI (q := 51) (N := 100) dX9_init_182 a_int (by decide) rfl (by decide) rfl ?_
  refine q9_put h54 dX9_init_184 p_X9_74 (by decide) (fun _ => rfl) (mm_fa _ _) (fun g54 => ?_)
  clear h54
  have h54 := g54
  clear g54
  refine ex_aload_n dX9_init_187 rfl ?_
  refine ex_iconst (v := 4) dX9_init_188 (by decide) ?_
  refine q9_newI (q := 52) (N := 4) dX9_init_189 a_int (by decide) rfl (by decide) rfl ?_
  refine q9_put h54 dX9_init_191 p_X9_77 (by decide) (fun _ => rfl) (mm_fa _ _) (fun g54 => ?_)
  clear h54
  have h54 := g54
  clear g54
  refine ex_aload_n dX9_init_194 rfl ?_
  refine ex_iconst (v := 4) dX9_init_195 (by decide) ?_
  refine q9_newI (q := 53) (N := 4) dX9_init_196 a_int (by decide) rfl (by decide) rfl ?_
  refine q9_put h54 dX9_init_198 p_X9_80 (by decide) (fun _ => rfl) (mm_fa _ _) (fun g54 => ?_)
  clear h54
  have h54 := g54
  clear g54
  refine ex_aload_n dX9_init_201 rfl ?_
  refine ex_iconst (v := 4) dX9_init_202 (by decide) ?_
  refine q9_newI (q := 54) (N := 4) dX9_init_203 a_int (by decide) rfl (by decide) rfl ?_
  refine q9_put h54 dX9_init_205 p_X9_83 (by decide) (fun _ => rfl) (mm_fa _ _) (fun g54 => ?_)
  clear h54
  have h54 := g54
  clear g54
  refine ex_aload_n dX9_init_208 rfl ?_
  refine ex_iconst (v := 4) dX9_init_209 (by decide) ?_
  refine q9_newI (q := 55) (N := 4) dX9_init_210 a_int (by decide) rfl (by decide) rfl ?_
  refine q9_put h54 dX9_init_212 p_X9_86 (by decide) (fun _ => rfl) (mm_fa _ _) (fun g54 => ?_)
  clear h54
  have h54 := g54
  clear g54
  refine ex_aload_n dX9_init_215 rfl ?_
  refine ex_iconst (v := 1) dX9_init_216 (by decide) ?_
  refine q9_put h54 dX9_init_217 p_X9_89 (by decide) (fun _ => rfl) (mm_fi _) (fun g54 => ?_)
  clear h54
  have h54 := g54
  clear g54
  refine ex_aload_n dX9_init_220 rfl ?_
  refine ex_bipush (v := 6) dX9_init_221 (by decide) ?_
  refine q9_newI (q := 56) (N := 6) dX9_init_223 a_int (by decide) rfl (by decide) rfl ?_
  refine q9_put h54 dX9_init_225 p_X9_93 (by decide) (fun _ => rfl) (mm_fa _ _) (fun g54 => ?_)
  clear h54
  have h54 := g54
  clear g54
  refine ex_aload_n dX9_init_228 rfl ?_
  refine ex_bipush (v := 6) dX9_init_229 (by decide) ?_
  refine q9_newI (q := 57) (N := 6) dX9_init_231 a_int (by decide) rfl (by decide) rfl ?_
  refine q9_put h54 dX9_init_233 p_X9_96 (by decide) (fun _ => rfl) (mm_fa _ _) (fun g54 => ?_)
  clear h54
  have h54 := g54
  clear g54
  refine ex_aload_n dX9_init_236 rfl ?_
  refine ex_bipush (v := 6) dX9_init_237 (by decide) ?_
  refine q9_newI (q := 58) (N := 6) dX9_init_239 a_int (by decide) rfl (by decide) rfl ?_
  refine q9_put h54 dX9_init_241 p_X9_99 (by decide) (fun _ => rfl) (mm_fa _ _) (fun g54 => ?_)
  clear h54
  have h54 := g54
  clear g54
  refine ex_aload_n dX9_init_244 rfl ?_
  refine ex_bipush (v := 6) dX9_init_245 (by decide) ?_
  refine q9_newZ (q := 59) (N := 6) dX9_init_247 a_boolean (by decide) rfl (by decide) rfl ?_
  refine q9_put h54 dX9_init_249 p_X9_102 (by decide) (fun _ => rfl) (mm_fa _ _) (fun g54 => ?_)
  clear h54
  have h54 := g54
  clear g54
  refine ex_aload_n dX9_init_252 rfl ?_
  refine ex_bipush (v := 10) dX9_init_253 (by decide) ?_
  refine q9_newI (q := 60) (N := 10) dX9_init_255 a_int (by decide) rfl (by decide) rfl ?_
  refine q9_put h54 dX9_init_257 p_X9_105 (by decide) (fun _ => rfl) (mm_fa _ _) (fun g54 => ?_)
  clear h54
  have h54 := g54
  clear g54
  refine ex_aload_n dX9_init_260 rfl ?_
  refine ex_bipush (v := 10) dX9_init_261 (by decide) ?_
  refine q9_newI (q := 61) (N := 10) dX9_init_263 a_int (by decide) rfl (by decide) rfl ?_
  refine q9_put h54 dX9_init_265 p_X9_108 (by decide) (fun _ => rfl) (mm_fa _ _) (fun g54 => ?_)
  clear h54
  have h54 := g54
  clear g54
  refine ex_aload_n dX9_init_268 rfl ?_
  refine ex_bipush (v := 10) dX9_init_269 (by decide) ?_
  refine q9_newI (q := 62) (N := 10) dX9_init_271 a_int (by decide) rfl (by decide) rfl ?_
  refine q9_put h54 dX9_init_273 p_X9_111 (by decide) (fun _ => rfl) (mm_fa _ _) (fun g54 => ?_)
  clear h54
  have h54 := g54
  clear g54
  refine ex_aload_n dX9_init_276 rfl ?_
  refine ex_bipush (v := 10) dX9_init_277 (by decide) ?_
  refine q9_newI (q := 63) (N := 10) dX9_init_279 a_int (by decide) rfl (by decide) rfl ?_
  refine q9_put h54 dX9_init_281 p_X9_114 (by decide) (fun _ => rfl) (mm_fa _ _) (fun g54 => ?_)
  clear h54
  have h54 := g54
  clear g54
  refine ex_aload_n dX9_init_284 rfl ?_
  refine ex_iconst (v := 4) dX9_init_285 (by decide) ?_
  refine q9_newI (q := 64) (N := 4) dX9_init_286 a_int (by decide) rfl (by decide) rfl ?_
  refine q9_put h54 dX9_init_288 p_X9_117 (by decide) (fun _ => rfl) (mm_fa _ _) (fun g54 => ?_)
  clear h54
  have h54 := g54
  clear g54
  skip
  clear h54
  subst hfs
  refine ex_aload_n dX9_init_291 rfl ?_
  refine ex_getfield dX9_init_292 g_X9_96 q9_o rfl ?_
  refine ex_iconst (v := 0) dX9_init_295 (by decide) ?_
  refine ex_iconst (v := 1) dX9_init_296 (by decide) ?_
  refine q9_ias (i := 27) (j := 0) dX9_init_297 rfl rfl (show vp_in (0 : Int32) 6 by unfold vp_in; decide) (by decide) ?_
  refine ex_aload_n dX9_init_298 rfl ?_
  refine ex_getfield dX9_init_299 g_X9_99 q9_o rfl ?_
  refine ex_iconst (v := 0) dX9_init_302 (by decide) ?_
  refine ex_bipush (v := 8) dX9_init_303 (by decide) ?_
  refine q9_ias (i := 28) (j := 0) dX9_init_305 rfl rfl (show vp_in (0 : Int32) 6 by unfold vp_in; decide) (by decide) ?_
  refine ex_return dX9_init_306 rfl ?_
  refine ⟨rfl, ⟨q9_o.trans rfl, ⟨q9_a (i := 0) rfl, q9_a (i := 1) rfl, q9_a (i := 2) rfl, q9_a (i := 3) rfl, q9_a (i := 4) rfl, q9_a (i := 5) rfl, q9_a (i := 6) rfl, q9_a (i := 7) rfl, q9_a (i := 8) rfl, q9_a (i := 9) rfl, q9_a (i := 10) rfl, q9_a (i := 11) rfl, q9_a (i := 12) rfl, q9_a (i := 13) rfl, q9_a (i := 14) rfl, q9_a (i := 15) rfl, q9_a (i := 16) rfl, q9_a (i := 17) rfl, q9_a (i := 18) rfl, q9_a (i := 19) rfl, q9_a (i := 20) rfl, q9_a (i := 21) rfl, q9_a (i := 22) rfl, q9_a (i := 23) rfl, q9_a (i := 24) rfl, q9_a (i := 25) rfl, q9_a (i := 26) rfl, q9_a (i := 27) rfl, q9_a (i := 28) rfl, q9_a (i := 29) rfl, q9_a (i := 30) rfl, q9_a (i := 31) rfl, q9_a (i := 32) rfl, q9_a (i := 33) rfl, q9_a (i := 34) rfl⟩, rfl, fun _ _ => rfl⟩, fun p hp => ?_, rfl, ?_, ?_⟩
  · show (if p = 29 then _ else if p < 29 then h.1 p else _) = _
    rw [if_neg (by omega), if_pos hp]
  · exact Nat.le_refl (c + 35)
  · show n + 100 + 100 + 100 + 100 + 100 + 30 + 3 + 90 + 90 + 90 + 32 + 32 + 32 + 8192 + 8192 + 8192 + 8192 + 8192 + 8192 + 8192 + 8192 + 100 + 4 + 4 + 4 + 4 + 6 + 6 + 6 + 6 + 10 + 10 + 10 + 10 + 4 ≤ n + 70000
    omega
end COQ
