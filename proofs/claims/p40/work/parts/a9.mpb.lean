/-! THE MODEL: carrying demands -/
section MPB1
variable {m : mo_S} {s : cl_S} {n : Nat}
end MPB1
section MPB
variable {l : Launch} {G : mm_G} {h0 h : mm_H} {m : mo_S} {s : cl_S} {n : Nat}
/-- is a demand carried by links of which none is dead -/
def ic (w d : Int32) : Nat → Nat → Bool → Bool
  | 0, _, b => b
  | t + 1, k, b => ic w d t (k + 1) (b && (!(bt w k) || !(bt d k)))
end MPB
