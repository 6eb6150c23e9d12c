/-! THE LAW: its calls of the class, with what they throw -/
def lw_O (h : mm_H) (f : Nat → Int64) : Prop := h.1 65 = some (.inl (.long, 1, .inr (.inl f)))
