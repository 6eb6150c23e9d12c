/-! PURE: the first of all ways is the one that is gone step by step -/
def mw_t (L : List tt_R) (u : Int32) (i : Nat) (nd vis : Int32) : Int32 := if bt u i = true then (match L[i]? with | none => -1 | some r => if ne_oe r nd = -1 then -1 else if (vis >>> (ne_oe r nd &&& 31)) &&& 1 = 0 then ne_oe r nd else -1) else -1
def mw (L : List tt_R) (u : Int32) : Nat → Nat → Int32 → Int32 → Int32 → Int32 × Int32
  | 0, _, nd, _, us => (nd, us)
  | k + 1, x, nd, vis, us => if nd = -1 then (nd, us) else mw L u k x (mw_t L u (x / 6 ^ k % 6) nd vis) (vis ||| (if mw_t L u (x / 6 ^ k % 6) nd vis = -1 then 0 else (1 : Int32) <<< (mw_t L u (x / 6 ^ k % 6) nd vis &&& 31))) (us ||| ne_1 (x / 6 ^ k % 6))
section GR
variable {L : List tt_R} {u : Int32} {b : Nat}
theorem p6 {k : Nat} (h : k ≤ 2) : 6 ^ k = 1 ∨ 6 ^ k = 6 ∨ 6 ^ k = 36 := by
  rcases k with _ | _ | _ | k
  · exact Or.inl rfl
  · exact Or.inr (Or.inl rfl)
  · exact Or.inr (Or.inr rfl)
  · omega
end GR
