/-! THE NETWORK: what reads it -/
theorem mm_set_id {h : mm_H} {k : Nat} {e : mm_E} (hs : h.1 k = some e) : mm_set h k e = h := by
  unfold mm_set
  refine Prod.ext (funext fun j => ?_) rfl
  by_cases hj : j = k
  · subst hj; simp [hs]
  · simp [hj]
def ne_1 (i : Nat) : Int32 := (1 : Int32) <<< (nI i &&& 31)
def ne_oe (r : tt_R) (s : Int32) : Int32 := if r.1 = s then r.2.1 else if r.2.1 = s then r.1 else -1
section NET
variable {l : Launch} {G : mm_G} {h : mm_H} {tb : Nat → List tt_R} {c0 n0 : Nat} {st : Nat → Int32}
end NET
