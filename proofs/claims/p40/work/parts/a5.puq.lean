/-! PURE: the search of the model finds the way of the class -/
def ms (L : List tt_R) (u : Int32) (k a b : Nat) : Nat → Nat → Int32
  | 0, _ => 0
  | n + 1, x => if (mw L u k x (nI a) (ne_1 a) 0).1 = nI b then (mw L u k x (nI a) (ne_1 a) 0).2 else ms L u k a b n (x + 1)
section SR
variable {L : List tt_R} {u : Int32} {a b : Nat}
end SR
