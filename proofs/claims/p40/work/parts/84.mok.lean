/-! THE MODEL: questions of the line -/
theorem ln_c_none : ∀ (T : List tt_R) (q : Nat), ln_N T ≤ q → ln_c T q = -1 ∧ ∀ types, ln_ta types T q = -1
  | [], q, _ => ⟨rfl, fun _ => rfl⟩
  | r :: T, q, h => by
    rw [ln_N] at h
    obtain ⟨a, b⟩ := ln_c_none T (q - rl r) (by omega)
    exact ⟨by rw [ln_c, if_neg (by omega), a], fun types => by rw [ln_ta, if_neg (by omega), b]⟩
section TYA
variable {n k kp lo wa mk : Nat} {s : cl_S} {c : Nat → Nat}
theorem bs_cs (h : ivx n s k kp lo wa mk c) : ∀ i, i ≤ k → ro_bs s.2.2.2.2.1.1 i = nI (cs c i)
  | 0, _ => rfl
  | i + 1, hi => by
    rw [ro_bs, bs_cs h i (by omega), h.2.2.2.2.1.1 i (by omega), nI_add]; rfl
theorem cs_mono {c : Nat → Nat} : ∀ (i j : Nat), i ≤ j → cs c i ≤ cs c j
  | i, 0, h => by rw [show i = 0 by omega]; exact Nat.le_refl _
  | i, j + 1, h => by
    by_cases e : i = j + 1
    · rw [e]; exact Nat.le_refl _
    · exact Nat.le_trans (cs_mono i j (by omega)) (Nat.le_add_right _ _)
theorem cs_le (h : ivx n s k kp lo wa mk c) {i : Nat} (hi : i < k) : cs c i + c i ≤ ln_N (s.1 2) := by
  have := cs_mono (c := c) (i + 1) k hi
  rw [← h.2.2.2.2.1.2.1]; exact this
end TYA
section MOK
variable {l : Launch} {G : mm_G} {h0 h : mm_H} {m : mo_S} {s : cl_S} {n : Nat} {T : List tt_R}
end MOK
