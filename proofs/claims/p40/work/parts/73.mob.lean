/-! THE MODEL: tanks, and what goes out of them -/
theorem ho_ga_0 {t : Int32} {R : List tt_R} {m : Int32} {g : List tt_R} (hm : m ≤ 0) : ho_ga t R m g = (g, m) := by
  cases R with
  | nil => rfl
  | cons q R => rw [ho_ga, if_pos hm]
section MOB
variable {l : Launch} {G : mm_G} {h0 h : mm_H} {s : mo_S} {S : se_T} {T W : List tt_R}
end MOB
