/-! THE START: new objects, and the claim -/
theorem fl_at {f : Nat → Int32} {v : Int32} {n i : Nat} (h : i < n) : fl_N f v n i = v := if_pos h
theorem k_iv : iv 0 (k_tb, k_u) := by
  refine ⟨0, 0, 0, 0, 0, fun _ => 0, ⟨rfl, by decide, fun _ => rfl⟩, ⟨rfl, by decide, fun p hp => absurd hp (by omega)⟩, ⟨Nat.le_refl _, fun r hr => by simp [k_tb] at hr⟩, ⟨fun r hr => by simp [k_tb] at hr, Nat.le_refl _⟩, ⟨fun i hi => absurd hi (by omega), rfl, fun i hi => absurd hi (by omega)⟩, ⟨Or.inl ⟨rfl, rfl⟩, rfl, by decide, fun _ => rfl⟩, ⟨rfl, rfl, rfl, Nat.le_refl _⟩, rfl, ⟨fun q hq => absurd (show q < 0 from hq) (by omega), by decide⟩, ⟨Nat.zero_le _, fun r hr => by simp [k_tb] at hr⟩, ⟨⟨0, by decide, rfl⟩, fun i hi => ⟨100, by decide, (show fl_N (fun _ => 0) 100 100 i = 100 from fl_at hi)⟩, 0, 0, by decide, by decide, rfl, rfl⟩, ⟨⟨Nat.le_refl _, by decide, rfl, fun r hr => ?_⟩, Nat.zero_le _, fun r hr => by simp [k_tb] at hr⟩⟩
  have hr' : r ∈ ([(0, 1, 8, 0)] : List tt_R) := hr
  rw [List.mem_singleton.mp hr']
  exact ⟨0, 1, 8, 0, rfl, by decide, by decide, by decide, by decide, by decide, by decide⟩
