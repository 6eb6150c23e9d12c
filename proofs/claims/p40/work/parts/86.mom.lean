/-! THE MODEL: what is kept, the earth, faults, repeaters, links -/
theorem ln_mS : ∀ (L : List tt_R) (a : Nat), (∀ r ∈ L, r.2.2.2 = nI (rl r)) → ln_m L (nI a) = nI (a + ln_N L)
  | [], a, _ => rfl
  | r :: L, a, h => by
    rw [ln_m, h r List.mem_cons_self, nI_add, ln_mS L _ (fun q hq => h q (List.mem_cons_of_mem _ hq)), ln_N, Nat.add_assoc]
theorem st_w.ln {kp : Nat} {r : tt_R} (h : st_w kp r) : r.2.2.2 = nI (rl r) ∧ rl r ≤ 90000 ∧ 1 ≤ rl r := by
  obtain ⟨t, p, f, n, rfl, -, -, h3, h4⟩ := h
  unfold rl
  dsimp only
  rw [nI_clamp (show n < 2 ^ 31 by omega)]
  exact ⟨rfl, by omega, h3⟩
section MOM
variable {l : Launch} {G : mm_G} {h0 h : mm_H} {m : mo_S} {s : cl_S} {n : Nat} {T L : List tt_R}
end MOM
