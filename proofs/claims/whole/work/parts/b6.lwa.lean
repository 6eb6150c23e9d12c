/-! THE LAW: its calls of the class, with what they throw -/
def lw_an (E1 E2 : String) (R : cl_R) (k : Int32) (f : Nat → Int64) : Prop := match R with
  | .inl (some x) => k = 0 ∧ f 0 = x.toInt64
  | .inl none => k = 0
  | .inr e => (e = E1 ∧ k = 1) ∨ (e = E2 ∧ k = 2)
def lw_O (h : mm_H) (f : Nat → Int64) : Prop := h.1 65 = some (.inl (.long, 1, .inr (.inl f)))
def lw_A (E1 E2 : String) (x : cl_R × cl_S) (c0 n0 : Nat) (h : mm_H) : mm_R → mm_H → Prop := fun r h' => ∃ k f, r = .inl (some (.int k)) ∧ lw_an E1 E2 x.1 k f ∧ lw_O h' f ∧ cl_P h' x.2.1 x.2.2 (c0 + cl_e x.1) (n0 + 6 * cl_e x.1) ∧ ∀ p, 29 ≤ p → p < 65 → h'.1 p = h.1 p
/-- what the class may answer: an int, a boolean, nothing; two or one exceptions -/
def lw_xi (E1 E2 : String) (R : cl_R) : Prop := match R with
  | .inl (some _) => True
  | .inl none => False
  | .inr e => e = E1 ∨ e = E2
def lw_xb (E1 E2 : String) (R : cl_R) : Prop := match R with
  | .inl (some x) => x = 0 ∨ x = 1
  | .inl none => False
  | .inr e => e = E1 ∨ e = E2
def lw_yi (E1 : String) (R : cl_R) : Prop := match R with
  | .inl (some _) => True
  | .inl none => False
  | .inr e => e = E1
def lw_yb (E1 : String) (R : cl_R) : Prop := match R with
  | .inl (some x) => x = 0 ∨ x = 1
  | .inl none => False
  | .inr e => e = E1
def lw_yv (E1 : String) (R : cl_R) : Prop := match R with
  | .inl (some _) => False
  | .inl none => True
  | .inr e => e = E1
theorem lw_up {f : Nat → Int64} {v : Int64} : vp_updL f (0 : Int32).toNatClampNeg v 0 = v := if_pos (by decide)
theorem cP_65 {h : mm_H} {tb : Nat → List tt_R} {u : cl_U} {c0 n0 : Nat} (hP : cl_P h tb u c0 n0) (e : mm_E) : cl_P (mm_set h 65 e) tb u c0 n0 := by
  obtain ⟨hS, ⟨a1, a2, a3, a4, a5⟩, b1, b2, b3, b4, b5, b6, b7, b8, b9, b10⟩ := hP
  exact ⟨tS_fix hS rfl, ⟨mm_set_ne (by decide) a1, mm_set_ne (by decide) a2, mm_set_ne (by decide) a3, mm_set_ne (by decide) a4, mm_set_ne (by decide) a5⟩, mm_set_ne (by decide) b1, mm_set_ne (by decide) b2, mm_set_ne (by decide) b3, mm_set_ne (by decide) b4, mm_set_ne (by decide) b5, mm_set_ne (by decide) b6, mm_set_ne (by decide) b7, mm_set_ne (by decide) b8, mm_set_ne (by decide) b9, mm_set_ne (by decide) b10⟩
theorem mm_ca1 {G : mm_G} {M : mm_M} {pc a b t c : Nat} {L : List (Nat × Nat × Nat × Nat)} {E : String} (hM : M.2.2.2.2.1 = (a, b, t, c) :: L) (hcov : covers ⟨a, b, t, c⟩ pc = true) (hc : c ≠ 0) (hl : Cond.classLink M.1.cls c E ∈ mm_W) (hk : Cond.castable E E ∈ mm_N) : mm_Ca G M pc E t :=
  ⟨[], ⟨a, b, t, c⟩, tableOf L, E, by rw [hM]; rfl, (fun z hz => nomatch hz), hcov, hc, hl, hk, rfl⟩
theorem mm_ca2 {G : mm_G} {M : mm_M} {pc a1 b1 t1 c1 a b t c : Nat} {L : List (Nat × Nat × Nat × Nat)} {E1 E : String} (hM : M.2.2.2.2.1 = (a1, b1, t1, c1) :: (a, b, t, c) :: L) (h1 : c1 ≠ 0) (hl1 : Cond.classLink M.1.cls c1 E1 ∈ mm_W) (hn : ∀ s : State, mm_V G s → va_Nc E E1 s) (hcov : covers ⟨a, b, t, c⟩ pc = true) (hc : c ≠ 0) (hl : Cond.classLink M.1.cls c E ∈ mm_W) (hk : Cond.castable E E ∈ mm_N) : mm_Ca G M pc E t :=
  ⟨[⟨a1, b1, t1, c1⟩], ⟨a, b, t, c⟩, tableOf L, E, by rw [hM]; rfl, (fun z hz => Or.inr (by rw [List.mem_singleton.mp hz]; exact ⟨h1, E1, hl1, hn⟩)), hcov, hc, hl, hk, rfl⟩
theorem nc_sa {G : mm_G} : ∀ s : State, mm_V G s → va_Nc cx_s cx_a s := fun s h => h.2.2.2.2.1
theorem nc_ai {G : mm_G} : ∀ s : State, mm_V G s → va_Nc cx_a cx_i s := fun s h => h.2.2.2.2.2.1
theorem lc_a : Cond.classLink RL 13 cx_a ∈ mm_W := mm_in2 184 (by decide +kernel) rfl
theorem lk_a : Cond.castable cx_a cx_a ∈ mm_N := mm_inN2 201 (by decide +kernel) rfl
theorem lc_s : Cond.classLink RL 15 cx_s ∈ mm_W := mm_in2 185 (by decide +kernel) rfl
theorem lk_s : Cond.castable cx_s cx_s ∈ mm_N := mm_inN3 32 (by decide +kernel) rfl
theorem lc_i : Cond.classLink RL 69 cx_i ∈ mm_W := mm_in4 152 (by decide +kernel) rfl
theorem lk_i : Cond.castable cx_i cx_i ∈ mm_N := mm_inN4 162 (by decide +kernel) rfl
def lw_s : Unit := ()
