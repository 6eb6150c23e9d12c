/-! THE LAW: what holds between two calls -/
def lw_J (n : Nat) (h : mm_H) : Prop := ∃ (s : cl_S) (m : mo_S) (f : Nat → Int64) (e : Nat), e ≤ n ∧ cl_P h s.1 s.2 (70 + e) (80000 + 6 * e) ∧ mo_P h h m ∧ r_all s m ∧ iv n s ∧ iv_y s ∧ lw_O h f
/-! the days -/
theorem iy_of {s s' : cl_S} (h : s'.2.2.1.1 = s.2.2.1.1) (y : iv_y s) : iv_y s' := by
  obtain ⟨d, h1, h2⟩ := y
  exact ⟨d, h1, h.trans h2⟩
theorem td_day (s : cl_S) : (cl_day s).2.2.1.1 = s.2.2.1.1 + 1 := by
  unfold cl_day
  split
  · unfold cl_buoy
    split <;> rfl
  · rfl
theorem td_days {d : Nat} : ∀ (N : Nat) (s : cl_S), s.2.2.1.1 = nI d → (cl_days N s).2.2.1.1 = nI (d + N)
  | 0, s, h => h
  | N + 1, s, h => by
    have := td_days (d := d + 1) N (cl_day s) (by rw [td_day, h, nI_1])
    rw [show d + (N + 1) = d + 1 + N by omega]
    exact this
theorem iy_pass {s : cl_S} (y : iv_y s) (x : Int32) : iv_y (cm_pass s x).2 := by
  obtain ⟨d, h1, h2⟩ := y
  unfold cm_pass
  split
  · rename_i z
    split
    · rename_i z2
      obtain ⟨x, hx1, hx, rfl⟩ := ii_1 (b := 400) (by decide) z
      rw [h2, nI_add] at z2
      have z3 := (nI_leI (b := 20000) (by omega) (by decide)).mp z2
      exact ⟨d + x, z3, by
        show (cl_days (nI x).toNatClampNeg s).2.2.1.1 = _
        rw [nI_clamp (by omega)]
        exact td_days x s h2⟩
    · exact ⟨d, h1, h2⟩
  · exact ⟨d, h1, h2⟩
theorem td_l1 (s : cl_S) (sl t : Int32) : (cl_l1 s sl t).2.2.2.1.1 = s.2.2.1.1 := by
  unfold cl_l1
  split
  · split <;> rfl
  · rfl
theorem td_ly {sl t : Int32} : ∀ (N d : Nat) (s : cl_S), (cl_ly sl t N d s).2.2.2.1.1 = s.2.2.1.1
  | 0, d, s => rfl
  | N + 1, d, s => by
    rw [cl_ly]
    split
    · exact (td_ly N (d + 1) _).trans (td_l1 s sl t)
    · exact td_l1 s sl t
theorem iy_lay {s : cl_S} (y : iv_y s) (x sl t : Int32) : iv_y (cm_lay s x sl t).2 := by
  refine iy_of ?_ y
  unfold cm_lay
  split
  · split
    · rfl
    · exact td_ly _ _ s
  · rfl
theorem iy_sound {s : cl_S} (y : iv_y s) (a0 a1 a2 : Int32) : iv_y (cm_sound s a0 a1 a2).2 := by
  refine iy_of ?_ y
  unfold cm_sound
  repeat (first | rfl | split)
theorem iy_weather {s : cl_S} (y : iv_y s) (a0 : Int32) : iv_y (cm_weather s a0).2 := by
  refine iy_of ?_ y
  unfold cm_weather
  repeat (first | rfl | split)
theorem iy_make {s : cl_S} (y : iv_y s) (a0 a1 a2 : Int32) : iv_y (cm_make s a0 a1 a2).2 := by
  refine iy_of ?_ y
  unfold cm_make
  repeat (first | rfl | split)
theorem iy_repeater {s : cl_S} (y : iv_y s) : iv_y (cm_repeater s).2 := by
  refine iy_of ?_ y
  unfold cm_repeater
  repeat (first | rfl | split)
theorem iy_takeUp {s : cl_S} (y : iv_y s) (a0 : Int32) : iv_y (cm_takeUp s a0).2 := by
  refine iy_of ?_ y
  unfold cm_takeUp
  repeat (first | rfl | split)
theorem iy_mend {s : cl_S} (y : iv_y s) (a0 a1 : Int32) : iv_y (cm_mend s a0 a1).2 := by
  refine iy_of ?_ y
  unfold cm_mend
  repeat (first | rfl | split)
theorem sm_cell {s : cl_S} (a0 a1 : Int32) : (cm_cell s a0 a1).2 = s := by
  unfold cm_cell
  repeat (first | rfl | split)
theorem sm_tank {s : cl_S} (a0 a1 : Int32) : (cm_tank s a0 a1).2 = s := by
  unfold cm_tank
  repeat (first | rfl | split)
theorem sm_line {s : cl_S} (a0 : Int32) : (cm_line s a0).2 = s := by
  unfold cm_line
  repeat (first | rfl | split)
theorem sm_thing {s : cl_S} (a0 a1 : Int32) : (cm_thing s a0 a1).2 = s := by
  unfold cm_thing
  repeat (first | rfl | split)
theorem sm_metre {s : cl_S} (a0 : Int32) : (cm_metre s a0).2 = s := by
  unfold cm_metre
  repeat (first | rfl | split)
theorem sm_metreAnew {s : cl_S} (a0 : Int32) : (cm_metreAnew s a0).2 = s := by
  unfold cm_metreAnew
  repeat (first | rfl | split)
