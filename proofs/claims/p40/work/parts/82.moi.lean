/-! THE MODEL: the sea, days, feeding -/
theorem ii_nI {i : Int32} (h : ii i 0 99) : ∃ j : Nat, j < 100 ∧ i = nI j := by
  obtain ⟨j, hj, rfl⟩ := nI_of (x := i) (Int32.not_lt.mpr h.1)
  exact ⟨j, by have := (nI_leI hj (by decide : 99 < 2 ^ 31)).mp h.2; omega, rfl⟩
section MOI
variable {l : Launch} {G : mm_G} {h0 h : mm_H} {m : mo_S} {s : cl_S} {n : Nat}
end MOI
