/-! THE CONSTRUCTORS: the ship, the model -/
def k_u : cl_U := ((fl_N (fun _ => 0) 100 100, fl_N (fun _ => 0) 501 100, fun _ => 0, fun _ => 0), (0, 0, 0), (fun _ => 0, 0, 0), (fun _ => 0, 0, 0), fun _ => 0, (0, 0, 0, 0, 0, 0))
def k_tb (i : Nat) : List tt_R := if i = 5 then [(0, 1, 8, 0)] else []
def k_Q (h : mm_H) : Prop := cl_Q h k_u ∧ (∀ i, i < 7 → tt_T h (tp i) (tp i + 1) 64 (k_tb i)) ∧ h.2.1 = 29 ∧ h.2.2.1 ≤ 29 ∧ h.2.2.2 ≤ 2000 ∧ ∀ p, 29 ≤ p → h.1 p = none
section COQ
variable {l : Launch} {G : mm_G} {M : mm_M} {Q : mm_R → mm_H → Prop} {pc : Nat} {ls st : List Value} {q c n : Nat} {h : mm_H} {fs : List Value} {A : List mm_E}
theorem k_tab {h : mm_H} {t : Nat} (h1 : h.1 t = some (.inr (7, [.ref (t + 1), .int 0]))) (h2 : h.1 (t + 1) = some (.inl (.int, 64, .inl (fun _ => 0)))) : tt_T h t (t + 1) 64 [] := ⟨h1, by decide, by decide, _, h2, fun i r hr => by simp at hr⟩
theorem k_g {h60 h : mm_H} {k a b : Nat} {e e0 : mm_E} (f : ∀ q, ¬ q = a → ¬ q = b → h60.1 q = h.1 q) (z1 : ¬ k = 0) (z2 : ¬ k = a) (z3 : ¬ k = b) (z4 : h.1 k = some e) : (mm_set h60 0 e0).1 k = some e := mm_set_ne z1 ((f k z2 z3).trans z4)
theorem c_X8_init : mm_Ct l G mX8_init [.ref 0] (hp [.inr (8, [.null, .null, .null, .null, .null, .null, .int 0, .int 0, .int 0, .int 0, .int 0, .int 0])] 1 12) (mm_qv k_Q) := by
  have h0 : ([] : List mm_E).length = 0 := rfl
  refine mm_ct (by decide +kernel) (by decide +kernel) rfl (by simp [Value.category]) (Nat.le_of_ble_eq_true rfl) rfl ?_
  change mm_Ex l G mX8_init _ 0 _ _ (hp ([] ++ [_]) 1 12)
  refine ex_aload_n dX8_init_0 rfl ?_
  refine ex_objInit dX8_init_1 l_X8_1 (Nat.le_of_ble_eq_true rfl) (Nat.le_of_ble_eq_true rfl) ?_
  refine ex_aload_n dX8_init_4 rfl ?_
  refine pr_new h0 (q := 0 + 1) dX8_init_5 n_X8_7 rfl rfl ?_
  refine ex_dup dX8_init_8 rfl ?_
  refine cI_v dX8_init_9 (mm_ki i_X6_init l_X8_9) ⟨(Nat.le_of_ble_eq_true rfl), (Nat.le_of_ble_eq_true rfl)⟩ (c_X6_init (P := [_]) (p := 1) rfl) rfl rfl (Nat.le_of_ble_eq_true rfl) rfl ?_
  refine pr_put h0 dX8_init_12 p_X8_10 rfl (Nat.le_of_ble_eq_true rfl) (fun _ => rfl) (mm_fo _ _) rfl ?_
  skip
  refine ex_aload_n dX8_init_15 rfl ?_
  refine pr_new h0 (q := 0 + 6) dX8_init_16 n_X8_16 rfl rfl ?_
  refine ex_dup dX8_init_19 rfl ?_
  refine cIN_v dX8_init_20 (mm_kin i_X0_init l_X8_18) ⟨(Nat.le_of_ble_eq_true rfl), (Nat.le_of_ble_eq_true rfl)⟩ (c_X0_init (P := [_, _, _, _, _, _]) (p := 6) rfl) rfl rfl (Nat.le_of_ble_eq_true rfl) rfl ?_
  refine pr_put h0 dX8_init_23 p_X8_19 rfl (Nat.le_of_ble_eq_true rfl) (fun _ => rfl) (mm_fo _ _) rfl ?_
  skip
  refine ex_aload_n dX8_init_26 rfl ?_
  refine pr_new h0 (q := 0 + 7) dX8_init_27 n_X8_23 rfl rfl ?_
  refine ex_dup dX8_init_30 rfl ?_
  refine cIN_v dX8_init_31 (mm_kin i_X3_init l_X8_25) ⟨(Nat.le_of_ble_eq_true rfl), (Nat.le_of_ble_eq_true rfl)⟩ (c_X3_init (P := [_, _, _, _, _, _, _]) (p := 7) rfl) rfl rfl (Nat.le_of_ble_eq_true rfl) rfl ?_
  refine pr_put h0 dX8_init_34 p_X8_26 rfl (Nat.le_of_ble_eq_true rfl) (fun _ => rfl) (mm_fo _ _) rfl ?_
  skip
  refine ex_aload_n dX8_init_37 rfl ?_
  refine pr_new h0 (q := 0 + 13) dX8_init_38 n_X8_30 rfl rfl ?_
  refine ex_dup dX8_init_41 rfl ?_
  refine cIN_v dX8_init_42 (mm_kin i_X5_init l_X8_32) ⟨(Nat.le_of_ble_eq_true rfl), (Nat.le_of_ble_eq_true rfl)⟩ (c_X5_init (P := [_, _, _, _, _, _, _, _, _, _, _, _, _]) (p := 13) rfl) rfl rfl (Nat.le_of_ble_eq_true rfl) rfl ?_
  refine pr_put h0 dX8_init_45 p_X8_33 rfl (Nat.le_of_ble_eq_true rfl) (fun _ => rfl) (mm_fo _ _) rfl ?_
  skip
  refine ex_aload_n dX8_init_48 rfl ?_
  refine pr_new h0 (q := 0 + 20) dX8_init_49 n_X8_37 rfl rfl ?_
  refine ex_dup dX8_init_52 rfl ?_
  refine cIN_v dX8_init_53 (mm_kin i_X2_init l_X8_39) ⟨(Nat.le_of_ble_eq_true rfl), (Nat.le_of_ble_eq_true rfl)⟩ (c_X2_init (P := [_, _, _, _, _, _, _, _, _, _, _, _, _, _, _, _, _, _, _, _]) (p := 20) rfl) rfl rfl (Nat.le_of_ble_eq_true rfl) rfl ?_
  refine pr_put h0 dX8_init_56 p_X8_40 rfl (Nat.le_of_ble_eq_true rfl) (fun _ => rfl) (mm_fo _ _) rfl ?_
  skip
  refine ex_aload_n dX8_init_59 rfl ?_
  refine pr_new h0 (q := 0 + 23) dX8_init_60 n_X8_44 rfl rfl ?_
  refine ex_dup dX8_init_63 rfl ?_
  refine cI_y dX8_init_64 (mm_ki i_X4_init l_X8_46) ⟨(Nat.le_of_ble_eq_true rfl), (Nat.le_of_ble_eq_true rfl)⟩ (c_X4_init (P := [_, _, _, _, _, _, _, _, _, _, _, _, _, _, _, _, _, _, _, _, _, _, _]) (p := 23) rfl) rfl rfl (Nat.le_of_ble_eq_true rfl) rfl ?_
  rintro h60 ⟨t60, e60, f60⟩
  skip
  refine ex_put dX8_init_67 p_X8_47 ((f60 0 (by decide) (by decide)).trans (show (c4_h _ 23 _ _).1 0 = some _ from rfl)) (Nat.le_of_ble_eq_true rfl) (fun _ => rfl) (mm_fo _ _) ?_
  refine ex_return dX8_init_70 rfl ?_
  refine ⟨rfl, ⟨⟨k_g f60 (by decide) (by decide) (by decide) rfl, k_g f60 (by decide) (by decide) (by decide) rfl, k_g f60 (by decide) (by decide) (by decide) rfl, k_g f60 (by decide) (by decide) (by decide) rfl, k_g f60 (by decide) (by decide) (by decide) rfl⟩, k_g f60 (by decide) (by decide) (by decide) rfl, k_g f60 (by decide) (by decide) (by decide) rfl, k_g f60 (by decide) (by decide) (by decide) rfl, k_g f60 (by decide) (by decide) (by decide) rfl, k_g f60 (by decide) (by decide) (by decide) rfl, k_g f60 (by decide) (by decide) (by decide) rfl, mm_set_at, k_g f60 (by decide) (by decide) (by decide) rfl, k_g f60 (by decide) (by decide) (by decide) rfl, k_g f60 (by decide) (by decide) (by decide) rfl⟩, fun i hi => ?_, ?_, ?_, ?_, fun p hp => ?_⟩
  · rcases (by omega : i = 0 ∨ i = 1 ∨ i = 2 ∨ i = 3 ∨ i = 4 ∨ i = 5 ∨ i = 6) with rfl | rfl | rfl | rfl | rfl | rfl | rfl
    · exact k_tab (k_g f60 (by decide) (by decide) (by decide) rfl) (k_g f60 (by decide) (by decide) (by decide) rfl)
    · exact k_tab (k_g f60 (by decide) (by decide) (by decide) rfl) (k_g f60 (by decide) (by decide) (by decide) rfl)
    · exact k_tab (k_g f60 (by decide) (by decide) (by decide) rfl) (k_g f60 (by decide) (by decide) (by decide) rfl)
    · exact k_tab (k_g f60 (by decide) (by decide) (by decide) rfl) (k_g f60 (by decide) (by decide) (by decide) rfl)
    · exact k_tab (k_g f60 (by decide) (by decide) (by decide) rfl) (k_g f60 (by decide) (by decide) (by decide) rfl)
    · exact t60.kept (mm_set_ne (by decide) rfl) (mm_set_ne (by decide) rfl)
    · exact k_tab (k_g f60 (by decide) (by decide) (by decide) rfl) (k_g f60 (by decide) (by decide) (by decide) rfl)
  · show h60.2.1 = 29
    rw [e60]; rfl
  · show h60.2.2.1 ≤ 29
    rw [e60]; exact Nat.le_of_ble_eq_true rfl
  · show h60.2.2.2 ≤ 2000
    rw [e60]; exact Nat.le_of_ble_eq_true rfl
  · refine mm_set_ne (by omega) ((f60 p (by omega) (by omega)).trans ?_)
    exact List.getElem?_eq_none hp
/-- the model under way: its fields and its arrays -/
def h9 (h : mm_H) (fs : List Value) (A : List mm_E) (c n : Nat) : mm_H := (fun j => if j = 29 then some (.inr (9, fs)) else if j < 29 then h.1 j else A[j - 30]?, 30 + A.length, c, n)
end COQ
