/-! THE WHOLE STATE OF THE CLASS -/
abbrev cl_U : Type := se_T × ca_T × ((Nat → Int32) × Int32 × Int32) × ((Nat → Int32) × Int32 × Int32) × (Nat → Int32) × (Int32 × Int32 × Int32 × Int32 × Int32 × Int32)
def cl_own (w : Int32 × Int32 × Int32 × Int32 × Int32 × Int32) : mm_E := .inr (8, [.ref 1, .ref 6, .ref 7, .ref 13, .ref 20, .ref 23, .int w.1, .int w.2.1, .int w.2.2.1, .int w.2.2.2.1, .int w.2.2.2.2.1, .int w.2.2.2.2.2])
def cl_Q (h : mm_H) (u : cl_U) : Prop := (h.1 1 = some (.inr (6, [.ref 2, .ref 3, .ref 4, .ref 5])) ∧ h.1 2 = some (.inl (.int, 100, .inl u.1.1)) ∧ h.1 3 = some (.inl (.int, 100, .inl u.1.2.1)) ∧ h.1 4 = some (.inl (.boolean, 100, .inl u.1.2.2.1)) ∧ h.1 5 = some (.inl (.int, 100, .inl u.1.2.2.2))) ∧ h.1 6 = some (ca_C u.2.1) ∧ h.1 7 = some (ho_C u.2.2.1.2.1 u.2.2.1.2.2) ∧ h.1 8 = some (.inl (.int, 30, .inl u.2.2.1.1)) ∧ h.1 13 = some (ro_C u.2.2.2.1.2.1 u.2.2.2.1.2.2) ∧ h.1 19 = some (.inl (.int, 100, .inl u.2.2.2.1.1)) ∧ h.1 28 = some (.inl (.int, 4, .inl u.2.2.2.2.1)) ∧ h.1 0 = some (cl_own u.2.2.2.2.2) ∧ h.1 16 = some (.inr (1, [.ref 17])) ∧ h.1 20 = some (.inr (2, [.ref 21])) ∧ h.1 23 = some (.inr (4, [.ref 24, .ref 26, .ref 28]))
def cl_P (h : mm_H) (tb : Nat → List tt_R) (u : cl_U) (c0 n0 : Nat) : Prop := tt_S h tb c0 n0 ∧ cl_Q h u
def cl_F (h h' : mm_H) : Prop := ∀ p, 29 ≤ p → p < 32 → h'.1 p = h.1 p
theorem cl_F.refl (h : mm_H) : cl_F h h := fun _ _ _ => rfl
theorem cl_F.trans {a b c : mm_H} (h1 : cl_F a b) (h2 : cl_F b c) : cl_F a c := fun p hp hq => (h2 p hp hq).trans (h1 p hp hq)
theorem cl_fy : ∀ p, p < 32 → 29 ≤ p → fy p = true := by decide
theorem cl_Ft {h h' : mm_H} (hF : tt_F h h') : cl_F h h' := fun p hp hq => hF p (cl_fy p hq hp)
theorem cl_Fs {h : mm_H} {k : Nat} {e : mm_E} (hk : k < 29) : cl_F h (mm_set h k e) := fun p hp hq => mm_set_ne (by omega) rfl
section CQ
variable {h : mm_H} {tb : Nat → List tt_R} {u : cl_U} {c0 n0 : Nat}
theorem cP_se (hP : cl_P h tb u c0 n0) : se_P h u.1 := hP.2.1
theorem cP_ca (hP : cl_P h tb u c0 n0) : h.1 6 = some (ca_C u.2.1) := hP.2.2.1
theorem cP_ho (hP : cl_P h tb u c0 n0) : h.1 7 = some (ho_C u.2.2.1.2.1 u.2.2.1.2.2) := hP.2.2.2.1
theorem cP_ty (hP : cl_P h tb u c0 n0) : h.1 8 = some (.inl (.int, 30, .inl u.2.2.1.1)) := hP.2.2.2.2.1
theorem cP_ro (hP : cl_P h tb u c0 n0) : h.1 13 = some (ro_C u.2.2.2.1.2.1 u.2.2.2.1.2.2) := hP.2.2.2.2.2.1
theorem cP_cm (hP : cl_P h tb u c0 n0) : h.1 19 = some (.inl (.int, 100, .inl u.2.2.2.1.1)) := hP.2.2.2.2.2.2.1
theorem cP_ow (hP : cl_P h tb u c0 n0) : h.1 0 = some (cl_own u.2.2.2.2.2) := hP.2.2.2.2.2.2.2.2.1
theorem cP_de (hP : cl_P h tb u c0 n0) : h.1 16 = some (.inr (1, [.ref 17])) := hP.2.2.2.2.2.2.2.2.2.1
theorem cP_bk (hP : cl_P h tb u c0 n0) : h.1 20 = some (.inr (2, [.ref 21])) := hP.2.2.2.2.2.2.2.2.2.2.1
theorem cP_tab {h' : mm_H} {tb' : Nat → List tt_R} (hP : cl_P h tb u c0 n0) (hS : tt_S h' tb' c0 n0) (hF : tt_F h h') : cl_P h' tb' u c0 n0 := by
  obtain ⟨-, ⟨a1, a2, a3, a4, a5⟩, b1, b2, b3, b4, b5, b6, b7, b8, b9, b10⟩ := hP
  exact ⟨hS, ⟨(hF 1 rfl).trans a1, (hF 2 rfl).trans a2, (hF 3 rfl).trans a3, (hF 4 rfl).trans a4, (hF 5 rfl).trans a5⟩, (hF 6 rfl).trans b1, (hF 7 rfl).trans b2, (hF 8 rfl).trans b3, (hF 13 rfl).trans b4, (hF 19 rfl).trans b5, (hF 28 rfl).trans b6, (hF 0 rfl).trans b7, (hF 16 rfl).trans b8, (hF 20 rfl).trans b9, (hF 23 rfl).trans b10⟩
theorem cP_exc (hP : cl_P h tb u c0 n0) : cl_P (mm_exc h) tb u (c0 + 1) (n0 + 6) := ⟨tS_exc hP.1, hP.2⟩
end CQ
section CS
variable {h : mm_H} {tb : Nat → List tt_R} {c0 n0 : Nat} {S : se_T} {c : ca_T} {ty cm st : Nat → Int32} {pc mk ce me : Int32} {ho ro : (Nat → Int32) × Int32 × Int32} {ow : Int32 × Int32 × Int32 × Int32 × Int32 × Int32}
theorem cs_2 (hP : cl_P h tb (S, c, ho, ro, st, ow) c0 n0) (f : Nat → Int32) : cl_P (mm_set h 2 (.inl (.int, 100, .inl f))) tb ((f, S.2), c, ho, ro, st, ow) c0 n0 ∧ cl_F h (mm_set h 2 (.inl (.int, 100, .inl f))) := by
  obtain ⟨hS, ⟨a1, a2, a3, a4, a5⟩, b1, b2, b3, b4, b5, b6, b7, b8, b9, b10⟩ := hP
  refine ⟨⟨tS_fix (by assumption) rfl, ⟨?_, ?_, ?_, ?_, ?_⟩, ?_, ?_, ?_, ?_, ?_, ?_, ?_, ?_, ?_, ?_⟩, cl_Fs (by decide)⟩ <;> first | exact mm_set_at | exact mm_set_ne (by decide) (by assumption)
theorem cs_3 (hP : cl_P h tb (S, c, ho, ro, st, ow) c0 n0) (f : Nat → Int32) : cl_P (mm_set h 3 (.inl (.int, 100, .inl f))) tb ((S.1, f, S.2.2), c, ho, ro, st, ow) c0 n0 ∧ cl_F h (mm_set h 3 (.inl (.int, 100, .inl f))) := by
  obtain ⟨hS, ⟨a1, a2, a3, a4, a5⟩, b1, b2, b3, b4, b5, b6, b7, b8, b9, b10⟩ := hP
  refine ⟨⟨tS_fix (by assumption) rfl, ⟨?_, ?_, ?_, ?_, ?_⟩, ?_, ?_, ?_, ?_, ?_, ?_, ?_, ?_, ?_, ?_⟩, cl_Fs (by decide)⟩ <;> first | exact mm_set_at | exact mm_set_ne (by decide) (by assumption)
theorem cs_6 (hP : cl_P h tb (S, c, ho, ro, st, ow) c0 n0) (c' : ca_T) : cl_P (mm_set h 6 (ca_C c')) tb (S, c', ho, ro, st, ow) c0 n0 ∧ cl_F h (mm_set h 6 (ca_C c')) := by
  obtain ⟨hS, ⟨a1, a2, a3, a4, a5⟩, b1, b2, b3, b4, b5, b6, b7, b8, b9, b10⟩ := hP
  refine ⟨⟨tS_fix (by assumption) rfl, ⟨?_, ?_, ?_, ?_, ?_⟩, ?_, ?_, ?_, ?_, ?_, ?_, ?_, ?_, ?_, ?_⟩, cl_Fs (by decide)⟩ <;> first | exact mm_set_at | exact mm_set_ne (by decide) (by assumption)
theorem cs_7 (hP : cl_P h tb (S, c, ho, ro, st, ow) c0 n0) (p m : Int32) : cl_P (mm_set h 7 (ho_C p m)) tb (S, c, (ho.1, p, m), ro, st, ow) c0 n0 ∧ cl_F h (mm_set h 7 (ho_C p m)) := by
  obtain ⟨hS, ⟨a1, a2, a3, a4, a5⟩, b1, b2, b3, b4, b5, b6, b7, b8, b9, b10⟩ := hP
  refine ⟨⟨tS_fix (by assumption) rfl, ⟨?_, ?_, ?_, ?_, ?_⟩, ?_, ?_, ?_, ?_, ?_, ?_, ?_, ?_, ?_, ?_⟩, cl_Fs (by decide)⟩ <;> first | exact mm_set_at | exact mm_set_ne (by decide) (by assumption)
theorem cs_8 (hP : cl_P h tb (S, c, ho, ro, st, ow) c0 n0) (f : Nat → Int32) : cl_P (mm_set h 8 (.inl (.int, 30, .inl f))) tb (S, c, (f, ho.2), ro, st, ow) c0 n0 ∧ cl_F h (mm_set h 8 (.inl (.int, 30, .inl f))) := by
  obtain ⟨hS, ⟨a1, a2, a3, a4, a5⟩, b1, b2, b3, b4, b5, b6, b7, b8, b9, b10⟩ := hP
  refine ⟨⟨tS_fix (by assumption) rfl, ⟨?_, ?_, ?_, ?_, ?_⟩, ?_, ?_, ?_, ?_, ?_, ?_, ?_, ?_, ?_, ?_⟩, cl_Fs (by decide)⟩ <;> first | exact mm_set_at | exact mm_set_ne (by decide) (by assumption)
theorem cs_13 (hP : cl_P h tb (S, c, ho, ro, st, ow) c0 n0) (p m : Int32) : cl_P (mm_set h 13 (ro_C p m)) tb (S, c, ho, (ro.1, p, m), st, ow) c0 n0 ∧ cl_F h (mm_set h 13 (ro_C p m)) := by
  obtain ⟨hS, ⟨a1, a2, a3, a4, a5⟩, b1, b2, b3, b4, b5, b6, b7, b8, b9, b10⟩ := hP
  refine ⟨⟨tS_fix (by assumption) rfl, ⟨?_, ?_, ?_, ?_, ?_⟩, ?_, ?_, ?_, ?_, ?_, ?_, ?_, ?_, ?_, ?_⟩, cl_Fs (by decide)⟩ <;> first | exact mm_set_at | exact mm_set_ne (by decide) (by assumption)
theorem cs_19 (hP : cl_P h tb (S, c, ho, ro, st, ow) c0 n0) (f : Nat → Int32) : cl_P (mm_set h 19 (.inl (.int, 100, .inl f))) tb (S, c, ho, (f, ro.2), st, ow) c0 n0 ∧ cl_F h (mm_set h 19 (.inl (.int, 100, .inl f))) := by
  obtain ⟨hS, ⟨a1, a2, a3, a4, a5⟩, b1, b2, b3, b4, b5, b6, b7, b8, b9, b10⟩ := hP
  refine ⟨⟨tS_fix (by assumption) rfl, ⟨?_, ?_, ?_, ?_, ?_⟩, ?_, ?_, ?_, ?_, ?_, ?_, ?_, ?_, ?_, ?_⟩, cl_Fs (by decide)⟩ <;> first | exact mm_set_at | exact mm_set_ne (by decide) (by assumption)
theorem cs_0 (hP : cl_P h tb (S, c, ho, ro, st, ow) c0 n0) (w : Int32 × Int32 × Int32 × Int32 × Int32 × Int32) : cl_P (mm_set h 0 (cl_own w)) tb (S, c, ho, ro, st, w) c0 n0 ∧ cl_F h (mm_set h 0 (cl_own w)) := by
  obtain ⟨hS, ⟨a1, a2, a3, a4, a5⟩, b1, b2, b3, b4, b5, b6, b7, b8, b9, b10⟩ := hP
  refine ⟨⟨tS_fix (by assumption) rfl, ⟨?_, ?_, ?_, ?_, ?_⟩, ?_, ?_, ?_, ?_, ?_, ?_, ?_, ?_, ?_, ?_⟩, cl_Fs (by decide)⟩ <;> first | exact mm_set_at | exact mm_set_ne (by decide) (by assumption)
end CS
