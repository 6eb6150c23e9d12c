/-! PURE: sets of links as bits -/
def bt (m : Int32) (i : Nat) : Bool := m.toBitVec.getLsbD i
