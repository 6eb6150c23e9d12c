/-! THE MODEL: days -/
section FR
variable {K : List Nat} {m m' : mo_S} {s : cl_S} {S : se_T} {T : List tt_R}
end FR
section IVD
variable {n k kp lo wa mk : Nat} {s : cl_S} {c : Nat → Nat} {m m' : mo_S}
theorem ivx_d1 (h : ivx n s k kp lo wa mk c) : ivx n (cl_d1 s) k kp lo wa mk c := by
  obtain ⟨a1, a2, a3, a4, a5, a6, a7, a8, a9, a10, a11, a12⟩ := h
  exact ⟨a1, a2, a3, a4, a5, a6, a7, a8, a9, a10, ⟨⟨0, Nat.zero_le _, rfl⟩, a11.2⟩, a12⟩
theorem iv_day (h : iv n s) (hn : n ≤ 513) : iv n (cl_day s) := by
  obtain ⟨k, kp, lo, wa, mk, c, h⟩ := h
  unfold cl_day
  by_cases e : s.2.2.2.2.2.2.2.1 = 0 ∧ ¬ cl_ce s = 100 ∧ ca_w (ca_n s.2.2.1) = 9
  · rw [if_pos e]; exact iv_buoy (ivx_d1 h) hn e.1
  · rw [if_neg e]; exact ⟨k, kp, lo, wa, mk, c, ivx_d1 h⟩
end IVD
section MOH
variable {l : Launch} {G : mm_G} {h0 h : mm_H} {m : mo_S} {s : cl_S} {n : Nat}
end MOH
