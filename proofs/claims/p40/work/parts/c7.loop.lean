/-! THE LAW: its loop, its start -/
theorem lw_J.up {n : Nat} {h : mm_H} (hJ : lw_J n h) : lw_J (n + 1) h := by
  obtain ⟨s, m, f, e, he, P, p, r, hi, hy, O⟩ := hJ
  exact ⟨s, m, f, e, by omega, P, p, r, hi.up, hy, O⟩
section LOOP
variable {l : Launch} {G : mm_G} {b : Nat}
end LOOP
