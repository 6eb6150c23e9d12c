/-! THE MODEL: faults, a buoyed line -/
def r_fau (s : mo_S) (L : List tt_R) : Prop := s.1 38 = nI L.length ∧ r_rows (s.2.2 39) (s.2.2 40) (s.2.2 41) (s.2.2 42) L
def fa_an (me : Int32) (r : tt_R) : tt_R := (r.1, r.2.1, 0, me)
theorem fa_k_f {p : Int32} : ∀ (R d : List tt_R), fa_k p R d = R.reverse.filter (fun r => decide (r.2.1 < p)) ++ d
  | [], d => rfl
  | r :: R, d => by
    rw [fa_k, List.reverse_cons, List.filter_append]
    by_cases e : r.2.1 < p
    · rw [if_pos e, fa_k_f R, List.filter_cons, if_pos (decide_eq_true e)]; simp
    · rw [if_neg e, fa_k_f R, List.filter_cons, if_neg (fun z => e (of_decide_eq_true z))]; simp
section MOF
variable {l : Launch} {G : mm_G} {h0 h : mm_H} {s : mo_S} {S : se_T} {T W g L : List tt_R}
end MOF
