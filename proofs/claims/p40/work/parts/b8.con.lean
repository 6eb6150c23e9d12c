/-! THE CONSTRUCTORS: heaps as lists of cells -/
def hp (L : List mm_E) (c n : Nat) : mm_H := (fun j => L[j]?, L.length, c, n)
theorem hp_new {L : List mm_E} {c n N : Nat} {e : mm_E} : mm_new (hp L c n) e N = hp (L ++ [e]) (c + 1) (n + N) := by
  unfold mm_new hp
  refine Prod.ext (funext fun j => ?_) ?_
  · show (if j = L.length then some e else L[j]?) = (L ++ [e])[j]?
    by_cases h : j = L.length
    · rw [if_pos h, h, List.getElem?_append_right (Nat.le_refl _), Nat.sub_self]; rfl
    · rw [if_neg h]
      rcases Nat.lt_or_ge j L.length with z | z
      · rw [List.getElem?_append_left z]
      · rw [List.getElem?_eq_none z, List.getElem?_eq_none (by rw [List.length_append]; show L.length + 1 ≤ j; omega)]
  · show (L.length + 1, c + 1, n + N) = ((L ++ [e]).length, c + 1, n + N)
    rw [List.length_append]; rfl
theorem hp_set {L : List mm_E} {c n k : Nat} {e : mm_E} (hk : k < L.length) : mm_set (hp L c n) k e = hp (L.set k e) c n := by
  unfold mm_set hp
  refine Prod.ext (funext fun j => ?_) ?_
  · show (if j = k then some e else L[j]?) = (L.set k e)[j]?
    by_cases h : j = k
    · rw [if_pos h, h, List.getElem?_set_self hk]
    · rw [if_neg h, List.getElem?_set_ne (Ne.symm h)]
  · show (L.length, c, n) = ((L.set k e).length, c, n)
    rw [List.length_set]
theorem pr_g {P R : List mm_E} {p i c n : Nat} {e : mm_E} (hP : P.length = p) (he : R[i]? = some e) : (hp (P ++ R) c n).1 (p + i) = some e := by
  show (P ++ R)[p + i]? = some e
  rw [List.getElem?_append_right (by omega), show p + i - P.length = i by omega]; exact he
theorem pr_s {P R : List mm_E} {p i c n : Nat} {e e0 : mm_E} (hP : P.length = p) (he : R[i]? = some e0) : mm_set (hp (P ++ R) c n) (p + i) e = hp (P ++ R.set i e) c n := by
  have hi := (List.getElem?_eq_some_iff.mp he).1
  rw [hp_set (by rw [List.length_append]; omega), List.set_append_right _ _ (by omega), show p + i - P.length = i by omega]
section CON
variable {l : Launch} {G : mm_G} {M : mm_M} {Q : mm_R → mm_H → Prop} {pc : Nat} {ls st : List Value} {P R R' : List mm_E} {p q c n : Nat}
theorem pr_new (hP : P.length = p) {idx ci N : Nat} {fs : List Value} (hd : decode M.2.1 pc = .ok (.new idx, 3)) (hg : mm_nw M.1.cls idx ci N fs) (hq : p + R.length = q) (hR : R ++ [.inr (ci, fs)] = R') (k : mm_Ex l G M Q (pc + 3) ls (.ref q :: st) (hp (P ++ R') (c + 1) (n + N))) : mm_Ex l G M Q pc ls st (hp (P ++ R) c n) := by
  subst hR hq
  refine ex_new hd hg ?_
  rw [hp_new, List.append_assoc, show (hp (P ++ R) c n).2.1 = p + R.length by show (P ++ R).length = _; rw [List.length_append, hP]]
  exact k
theorem pr_newI (hP : P.length = p) {v : Int32} {N : Nat} (hd : decode M.2.1 pc = .ok (.newarray .int, 2)) (hw : Cond.arrayClass .int ∈ mm_W) (hn : ¬ v < 0) (hN : v.toNatClampNeg = N) (hb : N ≤ 100000000) (hq : p + R.length = q) (hR : R ++ [.inl (.int, N, .inl (fun _ => 0))] = R') (k : mm_Ex l G M Q (pc + 2) ls (.ref q :: st) (hp (P ++ R') (c + 1) (n + N))) : mm_Ex l G M Q pc ls (.int v :: st) (hp (P ++ R) c n) := by
  subst hR hq
  refine ex_newI hd hw hn hN hb ?_
  rw [hp_new, List.append_assoc, show (hp (P ++ R) c n).2.1 = p + R.length by show (P ++ R).length = _; rw [List.length_append, hP]]
  exact k
theorem pr_newZ (hP : P.length = p) {v : Int32} {N : Nat} (hd : decode M.2.1 pc = .ok (.newarray .boolean, 2)) (hw : Cond.arrayClass .boolean ∈ mm_W) (hn : ¬ v < 0) (hN : v.toNatClampNeg = N) (hb : N ≤ 100000000) (hq : p + R.length = q) (hR : R ++ [.inl (.boolean, N, .inl (fun _ => 0))] = R') (k : mm_Ex l G M Q (pc + 2) ls (.ref q :: st) (hp (P ++ R') (c + 1) (n + N))) : mm_Ex l G M Q pc ls (.int v :: st) (hp (P ++ R) c n) := by
  subst hR hq
  refine ex_newZ hd hw hn hN hb ?_
  rw [hp_new, List.append_assoc, show (hp (P ++ R) c n).2.1 = p + R.length by show (P ++ R).length = _; rw [List.length_append, hP]]
  exact k
theorem pr_put (hP : P.length = p) {idx ci f : Nat} {fs : List Value} {v : Value} {fin : Bool} {ty : FieldType} (hd : decode M.2.1 pc = .ok (.putfield idx, 3)) (hg : mm_pf M.1.cls idx ci f fin ty) (he : R[0]? = some (.inr (ci, fs))) (hl : f < fs.length) (hfin : fin = true → M.1.name = "<init>") (hf : ∀ (ws : va_W) (V : Value), mm_v ws v V → narrow ty V = V ∧ fits ty V = true) (hR : R.set 0 (.inr (ci, fs.set f v)) = R') (k : mm_Ex l G M Q (pc + 3) ls st (hp (P ++ R') c n)) : mm_Ex l G M Q pc ls (v :: .ref p :: st) (hp (P ++ R) c n) := by
  subst hR
  refine ex_put hd hg (pr_g (i := 0) hP he) hl hfin hf ?_
  rw [show p = p + 0 from rfl, pr_s hP he]; exact k
/-- all of an array is filled -/
def fl_N (f : Nat → Int32) (v : Int32) (n : Nat) : Nat → Int32 := fun i => if i < n then v else f i
theorem fl_N0 (f : Nat → Int32) (v : Int32) : fl_N f v 0 = f := funext fun i => if_neg (Nat.not_lt_zero i)
theorem fl_Ns (f : Nat → Int32) (v : Int32) (n : Nat) : upd (fl_N f v n) n v = fl_N f v (n + 1) := funext fun i => by
  by_cases e : i = n
  · subst e; rw [pk_us]; exact (if_pos (Nat.lt_succ_self i)).symm
  · rw [pk_un e]
    unfold fl_N
    by_cases h : i < n
    · rw [if_pos h, if_pos (by omega)]
    · rw [if_neg h, if_neg (by omega)]
theorem c_J7_fillN {h : mm_H} {o N : Nat} {v : Int32} {f : Nat → Int32} (ho : h.1 o = some (.inl (.int, N, .inl f))) (hN : N ≤ 1000) : mm_Ct l G mJ7_fill_53178 [.ref o, .int v] h (mm_rv (mm_set h o (.inl (.int, N, .inl (fl_N f v N))))) := by
  have key : mm_Ex l G mJ7_fill_53178 (mm_rv (mm_set h o (.inl (.int, N, .inl (fl_N f v N))))) 5 [.ref o, .int v, .int (nI 0), .int (nI N)] [] (mm_set h o (.inl (.int, N, .inl (fl_N f v 0)))) := by
    refine lp_nat N (fun i => mm_Ex l G mJ7_fill_53178 (mm_rv (mm_set h o (.inl (.int, N, .inl (fl_N f v N))))) 5 [.ref o, .int v, .int (nI i), .int (nI N)] [] (mm_set h o (.inl (.int, N, .inl (fl_N f v i))))) ?_ ?_
    · skip
      refine ex_iload_n dJ7_fill_53178_5 rfl ?_
      refine ex_iload_n dJ7_fill_53178_6 rfl ?_
      refine ex_icmp_ge (tgt := 20) dJ7_fill_53178_7 (by decide) (fun _ => ?_) (fun z => absurd (Int32.le_refl _) z)
      refine ex_return dJ7_fill_53178_20 rfl ?_
      exact ⟨rfl, rfl⟩
    · intro i hi ih
      refine ex_iload_n dJ7_fill_53178_5 rfl ?_
      refine ex_iload_n dJ7_fill_53178_6 rfl ?_
      refine ex_icmp_ge (tgt := 20) dJ7_fill_53178_7 (by decide) (fun z => absurd z (nI_ge hi (by omega))) (fun _ => ?_)
      refine ex_aload_n dJ7_fill_53178_10 rfl ?_
      refine ex_iload_n dJ7_fill_53178_11 rfl ?_
      refine ex_iload_n dJ7_fill_53178_12 rfl ?_
      refine ex_iastore dJ7_fill_53178_13 mm_set_at (vp_in_nI hi (by omega)) ?_
      refine ex_iinc (d := 1) dJ7_fill_53178_14 rfl (by decide) ?_
      refine ex_goto (tgt := 5) dJ7_fill_53178_17 (by decide) ?_
      rw [mm_set_set, nI_clamp (show i < 2 ^ 31 by omega), fl_Ns, nI_1]; exact ih
  refine mm_ct (by decide +kernel) (by decide +kernel) rfl (by simp [Value.category]) (Nat.le_of_ble_eq_true rfl) rfl ?_
  refine ex_iconst (v := 0) dJ7_fill_53178_0 (by decide) ?_
  refine ex_istore_n dJ7_fill_53178_1 (Nat.le_of_ble_eq_true rfl) ?_
  refine ex_aload_n dJ7_fill_53178_2 rfl ?_
  refine ex_alen dJ7_fill_53178_3 ho (Or.inl rfl) ?_
  refine ex_istore_n dJ7_fill_53178_4 (Nat.le_of_ble_eq_true rfl) ?_
  rw [fl_N0, mm_set_id ho] at key; exact key
theorem c_fillP (hP : P.length = p) {i N o : Nat} {v : Int32} {f : Nat → Int32} (he : R[i]? = some (.inl (.int, N, .inl f))) (ho : p + i = o) (hN : N ≤ 1000) (hR : R.set i (.inl (.int, N, .inl (fl_N f v N))) = R') : mm_Ct l G mJ7_fill_53178 [.ref o, .int v] (hp (P ++ R) c n) (mm_rv (hp (P ++ R') c n)) := by
  subst hR ho
  rw [← pr_s hP he]
  exact c_J7_fillN (pr_g hP he) hN
theorem c_X7_init (hP : P.length = p) : mm_Ct l G mX7_init [.ref p] (hp (P ++ [.inr (7, [.null, .int 0])]) c n) (mm_rv (hp (P ++ [.inr (7, [.ref (p + 1), .int 0]), .inl (.int, 64, .inl (fun _ => 0))]) (c + 1) (n + 64))) := by
  refine mm_ct (by decide +kernel) (by decide +kernel) rfl (by simp [Value.category]) (Nat.le_of_ble_eq_true rfl) rfl ?_
  refine ex_aload_n dX7_init_0 rfl ?_
  refine ex_objInit dX7_init_1 l_X7_3 (Nat.le_of_ble_eq_true rfl) (Nat.le_of_ble_eq_true rfl) ?_
  refine ex_aload_n dX7_init_4 rfl ?_
  refine ex_bipush (v := 64) dX7_init_5 (by decide) ?_
  refine pr_newI hP (q := p + 1) (N := 64) dX7_init_7 a_int (by decide) rfl (by decide) rfl rfl ?_
  refine pr_put hP dX7_init_9 p_X7_11 rfl (Nat.le_of_ble_eq_true rfl) (fun _ => rfl) (mm_fa _ _) rfl ?_
  refine ex_return dX7_init_12 rfl ?_
  exact ⟨rfl, rfl⟩
theorem c_X0_init (hP : P.length = p) : mm_Ct l G mX0_init [.ref p] (hp (P ++ [.inr (0, [.int 0, .int 0, .int 0])]) c n) (mm_rv (hp (P ++ [.inr (0, [.int 0, .int 0, .int 0])]) c n)) := by
  refine mm_ct (by decide +kernel) (by decide +kernel) rfl (by simp [Value.category]) (Nat.le_of_ble_eq_true rfl) rfl ?_
  refine ex_aload_n dX0_init_0 rfl ?_
  refine ex_objInit dX0_init_1 l_X0_1 (Nat.le_of_ble_eq_true rfl) (Nat.le_of_ble_eq_true rfl) ?_
  refine ex_return dX0_init_4 rfl ?_
  exact ⟨rfl, rfl⟩
/-- a table made behind R -/
theorem c_tab (hP : P.length = p) {R0 : List mm_E} (hq : p + R0.length = q) (hR : R0 ++ [.inr (7, [.null, .int 0])] = R) (hR' : R0 ++ [.inr (7, [.ref (q + 1), .int 0]), .inl (.int, 64, .inl (fun _ => 0))] = R') : mm_Ct l G mX7_init [.ref q] (hp (P ++ R) c n) (mm_rv (hp (P ++ R') (c + 1) (n + 64))) := by
  subst hR hR'
  rw [← List.append_assoc, ← List.append_assoc]
  exact c_X7_init (by rw [List.length_append, hP]; exact hq)
theorem c_X1_init (hP : P.length = p) : mm_Ct l G mX1_init [.ref p] (hp (P ++ [.inr (1, [.null])]) c n) (mm_rv (hp (P ++ [.inr (1, [.ref (p + 1)]), .inr (7, [.ref (p + 2), .int 0]), .inl (.int, 64, .inl (fun _ => 0))]) (c + 1 + 1) (n + 2 + 64))) := by
  refine mm_ct (by decide +kernel) (by decide +kernel) rfl (by simp [Value.category]) (Nat.le_of_ble_eq_true rfl) rfl ?_
  refine ex_aload_n dX1_init_0 rfl ?_
  refine ex_objInit dX1_init_1 l_X1_3 (Nat.le_of_ble_eq_true rfl) (Nat.le_of_ble_eq_true rfl) ?_
  refine ex_aload_n dX1_init_4 rfl ?_
  refine pr_new hP (q := p + 1) dX1_init_5 n_X1_9 rfl rfl ?_
  refine ex_dup dX1_init_8 rfl ?_
  refine cI_v dX1_init_9 (mm_ki i_X7_init l_X1_11) ⟨(Nat.le_of_ble_eq_true rfl), (Nat.le_of_ble_eq_true rfl)⟩ (c_tab (R0 := [_]) hP rfl rfl rfl) rfl rfl (Nat.le_of_ble_eq_true rfl) rfl ?_
  refine pr_put hP dX1_init_12 p_X1_12 rfl (Nat.le_of_ble_eq_true rfl) (fun _ => rfl) (mm_fo _ _) rfl ?_
  refine ex_return dX1_init_15 rfl ?_
  exact ⟨rfl, rfl⟩
theorem c_X2_init (hP : P.length = p) : mm_Ct l G mX2_init [.ref p] (hp (P ++ [.inr (2, [.null])]) c n) (mm_rv (hp (P ++ [.inr (2, [.ref (p + 1)]), .inr (7, [.ref (p + 2), .int 0]), .inl (.int, 64, .inl (fun _ => 0))]) (c + 1 + 1) (n + 2 + 64))) := by
  refine mm_ct (by decide +kernel) (by decide +kernel) rfl (by simp [Value.category]) (Nat.le_of_ble_eq_true rfl) rfl ?_
  refine ex_aload_n dX2_init_0 rfl ?_
  refine ex_objInit dX2_init_1 l_X2_3 (Nat.le_of_ble_eq_true rfl) (Nat.le_of_ble_eq_true rfl) ?_
  refine ex_aload_n dX2_init_4 rfl ?_
  refine pr_new hP (q := p + 1) dX2_init_5 n_X2_9 rfl rfl ?_
  refine ex_dup dX2_init_8 rfl ?_
  refine cI_v dX2_init_9 (mm_ki i_X7_init l_X2_11) ⟨(Nat.le_of_ble_eq_true rfl), (Nat.le_of_ble_eq_true rfl)⟩ (c_tab (R0 := [_]) hP rfl rfl rfl) rfl rfl (Nat.le_of_ble_eq_true rfl) rfl ?_
  refine pr_put hP dX2_init_12 p_X2_12 rfl (Nat.le_of_ble_eq_true rfl) (fun _ => rfl) (mm_fo _ _) rfl ?_
  refine ex_return dX2_init_15 rfl ?_
  exact ⟨rfl, rfl⟩
end CON
