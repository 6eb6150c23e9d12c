/-! THE MODEL: measuring -/
theorem r_fau.set {m : mo_S} {L : List tt_R} (h : r_fau m L) {j : Nat} {r : tt_R} (hr : L[j]? = some r) (x y : Int32) : r_fau (mo_sa (mo_sa m 41 j x) 42 j y) (L.set j (r.1, r.2.1, x, y)) := by
  obtain ⟨h1, h2⟩ := h
  refine ⟨by rw [List.length_set]; exact h1, fun i q hq => ?_⟩
  by_cases e : j = i
  · subst e
    rw [List.getElem?_set_self (List.getElem?_eq_some_iff.mp hr).1] at hq
    cases hq
    exact ⟨(h2 j r hr).1, (h2 j r hr).2.1, pk_us, pk_us⟩
  · rw [List.getElem?_set_ne e] at hq
    have := h2 i q hq
    exact ⟨this.1, this.2.1, (pk_un (fun z => e z.symm)).trans this.2.2.1, (pk_un (fun z => e z.symm)).trans this.2.2.2⟩
section MOT
variable {l : Launch} {G : mm_G} {h0 h : mm_H} {m : mo_S} {s : cl_S} {n : Nat} {T L : List tt_R}
end MOT
