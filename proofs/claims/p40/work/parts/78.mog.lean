def mm0 (T : List tt_R) : Nat := min (ln_N T) 200
theorem mn_200 {N : Nat} (h : N < 2 ^ 31) : mn 200 (nI N) = nI (min N 200) := by
  unfold mn
  by_cases e : N < 200
  · rw [if_pos (show nI N < 200 from nI_lt (b := 200) e (by decide)), Nat.min_eq_left (by omega)]
  · rw [if_neg (show ¬ nI N < 200 from nI_nlt (b := 200) (by omega) (by omega)), Nat.min_eq_right (by omega)]; rfl
def bu_T (T : List tt_R) : List tt_R := ro_le T.reverse (nI (mm0 T))
def bu_L (T L : List tt_R) : List tt_R := (L.filter (fun r => decide (r.2.1 < ln_m (bu_T T) 0))).map (fa_an (ln_m (bu_T T) 0))
section MOG
variable {l : Launch} {G : mm_G} {h0 h : mm_H} {s : mo_S} {S : se_T} {T W g L : List tt_R}
end MOG
