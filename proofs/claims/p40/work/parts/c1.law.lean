/-! THE LAW: what holds between two calls -/
theorem fx_29 : ∀ p, p < 32 → fx p = false → p < 29 ∨ 32 ≤ p := by decide
theorem cP_mv {h h2 : mm_H} {tb : Nat → List tt_R} {u : cl_U} {c0 n0 : Nat} (hP : cl_P h tb u c0 n0) (e : h2.2 = h.2) (f : ∀ p, p < 29 ∨ 32 ≤ p → h2.1 p = h.1 p) : cl_P h2 tb u c0 n0 := by
  obtain ⟨⟨vs, ns, ⟨v1, v2, v3⟩, hT, hc, hn⟩, ⟨a1, a2, a3, a4, a5⟩, b1, b2, b3, b4, b5, b6, b7, b8, b9, b10⟩ := hP
  have g : ∀ (p : Nat) (e : mm_E), p < 29 → h.1 p = some e → h2.1 p = some e := fun p e hp z => (f p (Or.inl hp)).trans z
  refine ⟨⟨vs, ns, ⟨fun i hi => ⟨by rw [e]; exact (v1 i hi).1, (v1 i hi).2⟩, v2, by rw [e]; exact v3⟩, fun i hi => (hT i hi).kept (f _ (Or.inl ?_)) (f _ ?_), by rw [e]; exact hc, by rw [e]; exact hn⟩, ⟨g 1 _ (by decide) a1, g 2 _ (by decide) a2, g 3 _ (by decide) a3, g 4 _ (by decide) a4, g 5 _ (by decide) a5⟩, g 6 _ (by decide) b1, g 7 _ (by decide) b2, g 8 _ (by decide) b3, g 13 _ (by decide) b4, g 19 _ (by decide) b5, g 28 _ (by decide) b6, g 0 _ (by decide) b7, g 16 _ (by decide) b8, g 20 _ (by decide) b9, g 23 _ (by decide) b10⟩
  · have : ∀ i, i < 7 → tp i < 29 := by decide
    exact this i hi
  · rcases Nat.lt_or_ge (vs i) 32 with z | z
    · exact fx_29 _ z (v1 i hi).2
    · exact Or.inr (by omega)
theorem ne_as : ¬ cx_a = cx_s := by decide
theorem ne_sa : ¬ cx_s = cx_a := by decide
/-! the days -/
theorem iy_of {s s' : cl_S} (h : s'.2.2.1.1 = s.2.2.1.1) (y : iv_y s) : iv_y s' := by
  obtain ⟨d, h1, h2⟩ := y
  exact ⟨d, h1, h.trans h2⟩
theorem td_day (s : cl_S) : (cl_day s).2.2.1.1 = s.2.2.1.1 + 1 := by
  unfold cl_day
  split
  · unfold cl_buoy
    split <;> rfl
  · rfl
theorem td_days {d : Nat} : ∀ (N : Nat) (s : cl_S), s.2.2.1.1 = nI d → (cl_days N s).2.2.1.1 = nI (d + N)
  | 0, s, h => h
  | N + 1, s, h => by
    have := td_days (d := d + 1) N (cl_day s) (by rw [td_day, h, nI_1])
    rw [show d + (N + 1) = d + 1 + N by omega]
    exact this
theorem iy_pass {s : cl_S} (y : iv_y s) (x : Int32) : iv_y (cm_pass s x).2 := by
  obtain ⟨d, h1, h2⟩ := y
  unfold cm_pass
  split
  · rename_i z
    split
    · rename_i z2
      obtain ⟨x, hx1, hx, rfl⟩ := ii_1 (b := 400) (by decide) z
      rw [h2, nI_add] at z2
      have z3 := (nI_leI (b := 20000) (by omega) (by decide)).mp z2
      exact ⟨d + x, z3, by
        show (cl_days (nI x).toNatClampNeg s).2.2.1.1 = _
        rw [nI_clamp (by omega)]
        exact td_days x s h2⟩
    · exact ⟨d, h1, h2⟩
  · exact ⟨d, h1, h2⟩
theorem td_l1 (s : cl_S) (sl t : Int32) : (cl_l1 s sl t).2.2.2.1.1 = s.2.2.1.1 := by
  unfold cl_l1
  split
  · split <;> rfl
  · rfl
theorem td_ly {sl t : Int32} : ∀ (N d : Nat) (s : cl_S), (cl_ly sl t N d s).2.2.2.1.1 = s.2.2.1.1
  | 0, d, s => rfl
  | N + 1, d, s => by
    rw [cl_ly]
    split
    · exact (td_ly N (d + 1) _).trans (td_l1 s sl t)
    · exact td_l1 s sl t
theorem iy_lay {s : cl_S} (y : iv_y s) (x sl t : Int32) : iv_y (cm_lay s x sl t).2 := by
  refine iy_of ?_ y
  unfold cm_lay
  split
  · split
    · rfl
    · exact td_ly _ _ s
  · rfl
theorem iy_sound {s : cl_S} (y : iv_y s) (a0 a1 a2 : Int32) : iv_y (cm_sound s a0 a1 a2).2 := by
  refine iy_of ?_ y
  unfold cm_sound
  repeat (first | rfl | split)
theorem iy_weather {s : cl_S} (y : iv_y s) (a0 : Int32) : iv_y (cm_weather s a0).2 := by
  refine iy_of ?_ y
  unfold cm_weather
  repeat (first | rfl | split)
theorem iy_make {s : cl_S} (y : iv_y s) (a0 a1 a2 : Int32) : iv_y (cm_make s a0 a1 a2).2 := by
  refine iy_of ?_ y
  unfold cm_make
  repeat (first | rfl | split)
theorem iy_repeater {s : cl_S} (y : iv_y s) : iv_y (cm_repeater s).2 := by
  refine iy_of ?_ y
  unfold cm_repeater
  repeat (first | rfl | split)
theorem iy_takeUp {s : cl_S} (y : iv_y s) (a0 : Int32) : iv_y (cm_takeUp s a0).2 := by
  refine iy_of ?_ y
  unfold cm_takeUp
  repeat (first | rfl | split)
theorem iy_mend {s : cl_S} (y : iv_y s) (a0 a1 : Int32) : iv_y (cm_mend s a0 a1).2 := by
  refine iy_of ?_ y
  unfold cm_mend
  repeat (first | rfl | split)
theorem sm_cell {s : cl_S} (a0 a1 : Int32) : (cm_cell s a0 a1).2 = s := by
  unfold cm_cell
  repeat (first | rfl | split)
theorem sm_tank {s : cl_S} (a0 a1 : Int32) : (cm_tank s a0 a1).2 = s := by
  unfold cm_tank
  repeat (first | rfl | split)
theorem sm_line {s : cl_S} (a0 : Int32) : (cm_line s a0).2 = s := by
  unfold cm_line
  repeat (first | rfl | split)
theorem sm_thing {s : cl_S} (a0 a1 : Int32) : (cm_thing s a0 a1).2 = s := by
  unfold cm_thing
  repeat (first | rfl | split)
theorem sm_metre {s : cl_S} (a0 : Int32) : (cm_metre s a0).2 = s := by
  unfold cm_metre
  repeat (first | rfl | split)
theorem sm_metreAnew {s : cl_S} (a0 : Int32) : (cm_metreAnew s a0).2 = s := by
  unfold cm_metreAnew
  repeat (first | rfl | split)
