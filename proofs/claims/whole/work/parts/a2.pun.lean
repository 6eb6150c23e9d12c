/-! PURE: sets of links as bits -/
def bt (m : Int32) (i : Nat) : Bool := m.toBitVec.getLsbD i
theorem bt_sh (m : Int32) {k : Nat} (hk : k < 6) : (m >>> (nI k &&& 31)).toBitVec = m.toBitVec.sshiftRight k := by
  rw [Int32.toBitVec_shiftRight]
  rcases k with _ | _ | _ | _ | _ | _ | k
  · rfl
  · rfl
  · rfl
  · rfl
  · rfl
  · rfl
  · omega
theorem bt_b (m : Int32) {i : Nat} (hi : i < 6) : ne_b m i = if bt m i = true then 1 else 0 := by
  apply Int32.toBitVec_inj.mp
  unfold ne_b
  rw [Int32.toBitVec_and, bt_sh m hi]
  apply BitVec.eq_of_getLsbD_eq
  intro j hj
  rw [BitVec.getLsbD_and, BitVec.getLsbD_sshiftRight]
  unfold bt
  by_cases e : j = 0
  · subst e
    have h1 : (1 : Int32).toBitVec.getLsbD 0 = true := by decide
    have h2 : (0 : Int32).toBitVec.getLsbD 0 = false := by decide
    rw [h1, if_pos (by omega : i + 0 < 32)]
    cases hb : m.toBitVec.getLsbD i
    · simp [hb, h2]
    · simp [hb, h1]
  · have h1 : (1 : Int32).toBitVec.getLsbD j = false := by
      have : ∀ j : Fin 32, ¬ j.val = 0 → (1 : Int32).toBitVec.getLsbD j.val = false := by decide
      exact this ⟨j, hj⟩ e
    have h2 : (0 : Int32).toBitVec.getLsbD j = false := by
      have : ∀ j : Fin 32, (0 : Int32).toBitVec.getLsbD j.val = false := by decide
      exact this ⟨j, hj⟩
    rw [h1, Bool.and_false]
    split
    · exact h1.symm
    · exact h2.symm
theorem bt_1 {t : Nat} (ht : t < 6) {i : Nat} (hi : i < 32) : bt (ne_1 t) i = decide (t = i) := by
  have : ∀ t : Fin 6, ∀ i : Fin 32, bt (ne_1 t.val) i.val = decide (t.val = i.val) := by decide
  exact this ⟨t, ht⟩ ⟨i, hi⟩
theorem bt_or (a b : Int32) (i : Nat) : bt (a ||| b) i = (bt a i || bt b i) := by
  unfold bt; rw [Int32.toBitVec_or, BitVec.getLsbD_or]
theorem bt_and (a b : Int32) (i : Nat) : bt (a &&& b) i = (bt a i && bt b i) := by
  unfold bt; rw [Int32.toBitVec_and, BitVec.getLsbD_and]
theorem bt_z (i : Nat) : bt 0 i = false := by
  unfold bt; rw [show (0 : Int32).toBitVec = 0#32 from rfl]; exact BitVec.getLsbD_zero
theorem bt_ext {a b : Int32} (h : ∀ i, i < 32 → bt a i = bt b i) : a = b := by
  apply Int32.toBitVec_inj.mp
  exact BitVec.eq_of_getLsbD_eq (fun i hi => h i hi)
theorem bt_o1 {m : Int32} {t i : Nat} (ht : t < 6) (hi : i < 32) : bt (m ||| ne_1 t) i = (bt m i || decide (t = i)) := by rw [bt_or, bt_1 ht hi]
theorem bt_ne {m : Int32} {t : Nat} (ht : t < 6) : ¬ m ||| ne_1 t = 0 := fun z => by
  have := bt_o1 (m := m) ht (show t < 32 by omega)
  rw [z, bt_z, decide_eq_true rfl, Bool.or_true] at this
  cases this
theorem bt_b1 {m : Int32} {i : Nat} (hi : i < 6) : ne_b m i = 1 ↔ bt m i = true := by
  rw [bt_b m hi]
  cases bt m i <;> decide
theorem bt_b0 {m : Int32} {i : Nat} (hi : i < 6) : ne_b m i = 0 ↔ bt m i = false := by
  rw [bt_b m hi]
  cases bt m i <;> decide
theorem bt_nI {z i : Nat} (hz : z < 64) (h6 : 6 ≤ i) : bt (nI z) i = false := by
  have : ∀ z : Fin 64, ∀ i : Fin 32, 6 ≤ i.val → bt (nI z.val) i.val = false := by decide +kernel
  by_cases hi : i < 32
  · exact this ⟨z, hz⟩ ⟨i, hi⟩ h6
  · exact BitVec.getLsbD_of_ge _ _ (by omega)
