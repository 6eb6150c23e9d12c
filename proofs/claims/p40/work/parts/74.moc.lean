/-! THE MODEL: what goes out, whether types fit, whether it holds -/
theorem ho_ga_acc {t : Int32} : ∀ (R : List tt_R) (m : Int32) (g : List tt_R), ho_ga t R m g = (g ++ (ho_ga t R m []).1, (ho_ga t R m []).2)
  | [], m, g => by show (g, m) = (g ++ [], m); rw [List.append_nil]
  | r :: R, m, g => by
    by_cases hm : m ≤ 0
    · rw [ho_ga_0 hm, ho_ga_0 hm]; simp
    rw [ho_ga, ho_ga, if_neg hm, if_neg hm]
    by_cases e : r.1 = t
    · rw [if_pos e, if_pos e, ho_ga_acc R _ (g ++ _), ho_ga_acc R _ ([] ++ _)]; simp
    · rw [if_neg e, if_neg e]; exact ho_ga_acc R m g
theorem ho_so_0 {t : Int32} {R : List tt_R} {m : Int32} {d : List tt_R} (hm : m ≤ 0) : ho_so t R m d = R.reverse ++ d := by
  cases R with
  | nil => rfl
  | cons q R => rw [ho_so, if_pos hm]
section MOC
variable {l : Launch} {G : mm_G} {h0 h : mm_H} {s : mo_S} {S : se_T} {T W g : List tt_R}
end MOC
