/-! THE START: new objects, and the claim -/
theorem fl_at {f : Nat → Int32} {v : Int32} {n i : Nat} (h : i < n) : fl_N f v n i = v := if_pos h
theorem k_iv : iv 0 (k_tb, k_u) := by
  refine ⟨0, 0, 0, 0, 0, fun _ => 0, ⟨rfl, by decide, fun _ => rfl⟩, ⟨rfl, by decide, fun p hp => absurd hp (by omega)⟩, ⟨Nat.le_refl _, fun r hr => by simp [k_tb] at hr⟩, ⟨fun r hr => by simp [k_tb] at hr, Nat.le_refl _⟩, ⟨fun i hi => absurd hi (by omega), rfl, fun i hi => absurd hi (by omega)⟩, ⟨Or.inl ⟨rfl, rfl⟩, rfl, by decide, fun _ => rfl⟩, ⟨rfl, rfl, rfl, Nat.le_refl _⟩, rfl, ⟨fun q hq => absurd (show q < 0 from hq) (by omega), by decide⟩, ⟨Nat.zero_le _, fun r hr => by simp [k_tb] at hr⟩, ⟨⟨0, by decide, rfl⟩, fun i hi => ⟨100, by decide, (show fl_N (fun _ => 0) 100 100 i = 100 from fl_at hi)⟩, 0, 0, by decide, by decide, rfl, rfl⟩, ⟨⟨Nat.le_refl _, by decide, rfl, fun r hr => ?_⟩, Nat.zero_le _, fun r hr => by simp [k_tb] at hr⟩⟩
  have hr' : r ∈ ([(0, 1, 8, 0)] : List tt_R) := hr
  rw [List.mem_singleton.mp hr']
  exact ⟨0, 1, 8, 0, rfl, by decide, by decide, by decide, by decide, by decide, by decide⟩
theorem k_P {h h2 h3 : mm_H} (q : k_Q h) (f : ∀ p, p < 29 → h3.1 p = h.1 p) (e1 : h3.2.1 = 32) (e2 : h3.2.2.1 ≤ 70) (e3 : h3.2.2.2 ≤ 80000) : cl_P h3 k_tb k_u 70 80000 := by
  obtain ⟨⟨⟨a1, a2, a3, a4, a5⟩, b1, b2, b3, b4, b5, b6, b7, b8, b9, b10⟩, hT, -⟩ := q
  have g : ∀ (p : Nat) (e : mm_E), p < 29 → h.1 p = some e → h3.1 p = some e := fun p e hp z => (f p hp).trans z
  have t1 : ∀ i, i < 7 → tp i < 29 ∧ tp i + 1 < 29 ∧ fx (tp i + 1) = false := by decide
  refine ⟨⟨fun i => tp i + 1, fun _ => 64, ⟨fun i hi => ⟨by rw [e1]; have := (t1 i hi).2.1; show tp i + 1 < 32; omega, (t1 i hi).2.2⟩, fun i j hi hj z => tp_inj i hi j hj (Nat.succ.inj z), by rw [e1]; exact Nat.le_refl _⟩, fun i hi => (hT i hi).kept (f _ (t1 i hi).1) (f _ (t1 i hi).2.1), ⟨fun _ => 0, fun i hi => Nat.le_of_ble_eq_true rfl, e2⟩, Nat.le_trans e3 (Nat.le_add_right _ _)⟩, ⟨g 1 _ (by decide) a1, g 2 _ (by decide) a2, g 3 _ (by decide) a3, g 4 _ (by decide) a4, g 5 _ (by decide) a5⟩, g 6 _ (by decide) b1, g 7 _ (by decide) b2, g 8 _ (by decide) b3, g 13 _ (by decide) b4, g 19 _ (by decide) b5, g 28 _ (by decide) b6, g 0 _ (by decide) b7, g 16 _ (by decide) b8, g 20 _ (by decide) b9, g 23 _ (by decide) b10⟩
