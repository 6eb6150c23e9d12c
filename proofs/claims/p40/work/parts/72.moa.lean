/-! THE MODEL, by its parts: how its fields stand for the class's state -/
/-- all but the fields and arrays of these numbers is kept -/
def mo_F (K : List Nat) (s s' : mo_S) : Prop := (∀ k, K.elem k = false → s'.1 k = s.1 k) ∧ s'.2.1 = s.2.1 ∧ ∀ k, K.elem k = false → s'.2.2 k = s.2.2 k
theorem mo_F.refl (K : List Nat) (s : mo_S) : mo_F K s s := ⟨fun _ _ => rfl, rfl, fun _ _ => rfl⟩
theorem mo_F.trans {K : List Nat} {s s1 s2 : mo_S} (h1 : mo_F K s s1) (h2 : mo_F K s1 s2) : mo_F K s s2 := ⟨fun k hk => (h2.1 k hk).trans (h1.1 k hk), h2.2.1.trans h1.2.1, fun k hk => (h2.2.2 k hk).trans (h1.2.2 k hk)⟩
theorem mo_F.mono {K K' : List Nat} {s s' : mo_S} (h : mo_F K s s') (hk : ∀ k, K'.elem k = false → K.elem k = false) : mo_F K' s s' := ⟨fun k z => h.1 k (hk k z), h.2.1, fun k z => h.2.2 k (hk k z)⟩
def r_rows (a0 a1 a2 a3 : Nat → Int32) (L : List tt_R) : Prop := ∀ (i : Nat) (r : tt_R), L[i]? = some r → a0 i = r.1 ∧ a1 i = r.2.1 ∧ a2 i = r.2.2.1 ∧ a3 i = r.2.2.2
/-- the line: spans, joints, repeaters -/
def ln_to (r : tt_R) : Int32 := if r.1 = 0 then r.2.2.1 + r.2.2.2 - 1 else -1
def ln_w (r : tt_R) : Prop := (r.1 = 0 ∧ ∃ p f n : Nat, r.2 = (nI p, nI f, nI n) ∧ p < 30 ∧ 1 ≤ n ∧ f + n ≤ 90000) ∨ ((r.1 = 1 ∨ r.1 = 2) ∧ r.2 = (-1, -1, 0))
def ln_W (T : List tt_R) : Prop := T.length ≤ 8000 ∧ ∀ (i : Nat) (r : tt_R), T[i]? = some r → ln_w r
def ln_m : List tt_R → Int32 → Int32
  | [], s => s
  | r :: L, s => ln_m L (s + r.2.2.2)
theorem ln_w.len {r : tt_R} (h : ln_w r) : (if r.1 = 0 then ln_to r - r.2.2.1 + 1 else 0) = r.2.2.2 := by
  rcases h with ⟨h, -⟩ | ⟨h1, h2⟩
  · rw [if_pos h, ln_to, if_pos h]; grind
  · rw [if_neg (by rcases h1 with e | e <;> rw [e] <;> decide), h2]
section MOAV
variable {l : Launch} {G : mm_G} {M : mm_M} {Q : mm_R → mm_H → Prop} {pc : Nat} {ls st : List Value} {h : mm_H}
end MOAV
section MOA
variable {l : Launch} {G : mm_G} {h0 h : mm_H} {s : mo_S} {S : se_T} {T : List tt_R}
end MOA
