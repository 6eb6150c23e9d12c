/-! THE LAW: the contracts of class and model in one form -/
section K8
variable {l : Launch} {G : mm_G} {h h0 : mm_H} {m : mo_S} {s : cl_S} {n c0 n0 : Nat}
theorem iv.F (h : iv n s) (hn : n ≤ 512) : ∃ k kp, cl_ce s = nI k ∧ k ≤ 100 ∧ (0 < cl_me s → 1 ≤ k) ∧ (0 < cl_lo s → 1 ≤ k) ∧ s.2.2.2.1.2.1 = nI kp ∧ kp ≤ 30 ∧ (s.1 0).length ≤ 30 ∧ (s.1 2).length ≤ 8000 ∧ (s.1 3).length ≤ 8000 ∧ (s.1 4).length ≤ 4 ∧ (s.1 5).length ≤ 6 ∧ (s.1 6).length ≤ 10 := by
  obtain ⟨k, kp, lo, wa, mk, c, b1, b2, b3, b4, b5, b6, b7, b8, b9, b10, b11, b12⟩ := h
  have e2 := b2.2.1
  have e1 := b1.2.1
  have e3 := b3.1
  have e4 := b4.2
  have e9 := b9.2
  refine ⟨k, kp, b1.1, e1, fun z => ?_, fun z => ?_, b2.1, e2, by omega, by omega, by omega, b10.1, b12.1.2.1, b12.2.1⟩
  · rcases Nat.eq_zero_or_pos k with y | y
    · have e0 : cl_me s = nI (ln_N (s.1 2)) := b8
      rw [b1.2.2 y] at e0
      rw [e0] at z
      exact absurd z (by decide)
    · exact y
  · rcases Nat.eq_zero_or_pos k with y | y
    · rw [b6.2.1, b6.2.2.2 y] at z
      exact absurd z (by decide)
    · exact y
end K8
