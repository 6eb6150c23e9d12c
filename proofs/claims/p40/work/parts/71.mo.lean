/-! THE MODEL: its object and its arrays as one pure state: int fields by number, the two longs, arrays by number -/
abbrev mo_S : Type := (Nat → Int32) × (Int64 × Int64) × (Nat → Nat → Int32)
def mo_a (p : Nat) (t : FieldType) (n k : Nat) (h : mm_H) (a : Nat → Nat → Int32) : Prop := h.1 p = some (.inl (t, n, .inl (a k)))
def mo_sa (s : mo_S) (k i : Nat) (x : Int32) : mo_S := (s.1, s.2.1, va_up s.2.2 k (upd (s.2.2 k) i x))
theorem mo_a.up {p : Nat} {t : FieldType} {n k j : Nat} {h : mm_H} {a : Nat → Nat → Int32} {x : Nat → Int32} (h1 : mo_a p t n k h a) (hn : ¬ k = j) : mo_a p t n k h (va_up a j x) := by unfold mo_a va_up; rw [if_neg hn]; exact h1
section MO
variable {l : Launch} {G : mm_G} {M : mm_M} {Q : mm_R → mm_H → Prop} {pc : Nat} {ls st : List Value} {h0 h : mm_H} {s : mo_S}
end MO
