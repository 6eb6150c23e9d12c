/-! THE LAW: what holds between two calls -/
theorem fx_29 : ∀ p, p < 66 → fx p = false → p < 29 ∨ 65 ≤ p := by decide
theorem cP_mv {h h2 : mm_H} {tb : Nat → List tt_R} {u : cl_U} {c0 n0 : Nat} (hP : cl_P h tb u c0 n0) (e : h2.2 = h.2) (f : ∀ p, p < 29 ∨ 65 ≤ p → h2.1 p = h.1 p) : cl_P h2 tb u c0 n0 := by
  obtain ⟨⟨vs, ns, ⟨v1, v2, v3⟩, hT, hc, hn⟩, ⟨a1, a2, a3, a4, a5⟩, b1, b2, b3, b4, b5, b6, b7, b8, b9, b10⟩ := hP
  have g : ∀ (p : Nat) (e : mm_E), p < 29 → h.1 p = some e → h2.1 p = some e := fun p e hp z => (f p (Or.inl hp)).trans z
  refine ⟨⟨vs, ns, ⟨fun i hi => ⟨by rw [e]; exact (v1 i hi).1, (v1 i hi).2⟩, v2, by rw [e]; exact v3⟩, fun i hi => (hT i hi).kept (f _ (Or.inl ?_)) (f _ ?_), by rw [e]; exact hc, by rw [e]; exact hn⟩, ⟨g 1 _ (by decide) a1, g 2 _ (by decide) a2, g 3 _ (by decide) a3, g 4 _ (by decide) a4, g 5 _ (by decide) a5⟩, g 6 _ (by decide) b1, g 7 _ (by decide) b2, g 8 _ (by decide) b3, g 13 _ (by decide) b4, g 19 _ (by decide) b5, g 28 _ (by decide) b6, g 0 _ (by decide) b7, g 16 _ (by decide) b8, g 20 _ (by decide) b9, g 23 _ (by decide) b10⟩
  · have : ∀ i, i < 7 → tp i < 29 := by decide
    exact this i hi
  · rcases Nat.lt_or_ge (vs i) 66 with z | z
    · exact fx_29 _ z (v1 i hi).2
    · exact Or.inr (by omega)
theorem mP_mv {h h1 : mm_H} {m : mo_S} (p : mo_P h h m) (f : ∀ p, 29 ≤ p → p < 65 → h1.1 p = h.1 p) : mo_P h1 h1 m := by
  obtain ⟨p1, ⟨q1, q2, q3, q4, q5, q11, q13, q14, q15, q16, q18, q19, q20, q22, q23, q24, q25, q27, q28, q29, q30, q32, q39, q40, q41, q42, q44, q45, q46, q47, q49, q50, q51, q52, q53⟩, -, -⟩ := p
  exact ⟨(f 29 (by decide) (by decide)).trans p1, ⟨(f 30 (by decide) (by decide)).trans q1, (f 31 (by decide) (by decide)).trans q2, (f 32 (by decide) (by decide)).trans q3, (f 33 (by decide) (by decide)).trans q4, (f 34 (by decide) (by decide)).trans q5, (f 35 (by decide) (by decide)).trans q11, (f 36 (by decide) (by decide)).trans q13, (f 37 (by decide) (by decide)).trans q14, (f 38 (by decide) (by decide)).trans q15, (f 39 (by decide) (by decide)).trans q16, (f 40 (by decide) (by decide)).trans q18, (f 41 (by decide) (by decide)).trans q19, (f 42 (by decide) (by decide)).trans q20, (f 43 (by decide) (by decide)).trans q22, (f 44 (by decide) (by decide)).trans q23, (f 45 (by decide) (by decide)).trans q24, (f 46 (by decide) (by decide)).trans q25, (f 47 (by decide) (by decide)).trans q27, (f 48 (by decide) (by decide)).trans q28, (f 49 (by decide) (by decide)).trans q29, (f 50 (by decide) (by decide)).trans q30, (f 51 (by decide) (by decide)).trans q32, (f 52 (by decide) (by decide)).trans q39, (f 53 (by decide) (by decide)).trans q40, (f 54 (by decide) (by decide)).trans q41, (f 55 (by decide) (by decide)).trans q42, (f 56 (by decide) (by decide)).trans q44, (f 57 (by decide) (by decide)).trans q45, (f 58 (by decide) (by decide)).trans q46, (f 59 (by decide) (by decide)).trans q47, (f 60 (by decide) (by decide)).trans q49, (f 61 (by decide) (by decide)).trans q50, (f 62 (by decide) (by decide)).trans q51, (f 63 (by decide) (by decide)).trans q52, (f 64 (by decide) (by decide)).trans q53⟩, rfl, fun _ _ => rfl⟩
theorem mP_id {h h1 : mm_H} {m : mo_S} (p : mo_P h h1 m) : mo_P h1 h1 m := ⟨p.1, p.2.1, rfl, fun _ _ => rfl⟩
def lw_J (n : Nat) (h : mm_H) : Prop := ∃ (s : cl_S) (m : mo_S) (f : Nat → Int64) (e : Nat), e ≤ n ∧ cl_P h s.1 s.2 (70 + e) (80000 + 6 * e) ∧ mo_P h h m ∧ r_all s m ∧ iv n s ∧ iv_y s ∧ lw_O h f
theorem lw_next {n e : Nat} {h1 h2 : mm_H} {x : cl_R × cl_S} {m2 : mo_S} {f : Nat → Int64} (he : e ≤ n) (P : cl_P h1 x.2.1 x.2.2 (70 + e + cl_e x.1) (80000 + 6 * e + 6 * cl_e x.1)) (p : mo_P h1 h2 m2) (r : r_all x.2 m2) (i : iv (n + 1) x.2) (y : iv_y x.2) (o : lw_O h1 f) : lw_J (n + 1) h2 := by
  have hx : cl_e x.1 ≤ 1 := by
    cases x.1 with
    | inl w => exact Nat.zero_le 1
    | inr w => exact Nat.le_refl 1
  refine ⟨x.2, m2, f, e + cl_e x.1, by omega, ?_, mP_id p, r, i, y, (p.2.2.2 65 (Or.inr (Nat.le_refl 65))).trans o⟩
  have := cP_mv P p.2.2.1 p.2.2.2
  rw [Nat.add_assoc, show 80000 + 6 * e + 6 * cl_e x.1 = 80000 + 6 * (e + cl_e x.1) by omega] at this
  exact this
theorem lw_eq {E1 E2 : String} {R : cl_R} {k t : Int32} {f : Nat → Int64} {v : Value} (hE : ¬ E1 = E2) (hR : ¬ R = .inl none) (a : lw_an E1 E2 R k f) (b : mo_an E1 E2 R t v) : ∃ y, v = .int y ∧ t = k ∧ (k = 0 → R = .inl (some y) ∧ f 0 = y.toInt64) := by
  cases R with
  | inl w =>
    cases w with
    | none => exact absurd rfl hR
    | some x => exact ⟨x, b.2, b.1.trans a.1.symm, fun _ => ⟨rfl, a.2⟩⟩
  | inr e =>
    obtain ⟨b1, y, hy⟩ := b
    rcases a with ⟨a1, a2⟩ | ⟨a1, a2⟩ <;> rcases b1 with ⟨b1, b2⟩ | ⟨b1, b2⟩
    · exact ⟨y, hy, b2.trans a2.symm, fun z => absurd (a2.symm.trans z) (by decide)⟩
    · exact absurd (a1.symm.trans b1) hE
    · exact absurd (b1.symm.trans a1) hE
    · exact ⟨y, hy, b2.trans a2.symm, fun z => absurd (a2.symm.trans z) (by decide)⟩
theorem lw_eqv {E1 E2 : String} {R : cl_R} {k t : Int32} {f : Nat → Int64} {v : Value} (hE : ¬ E1 = E2) (hR : ∀ x, ¬ R = .inl (some x)) (a : lw_an E1 E2 R k f) (b : mo_an E1 E2 R t v) : t = k := by
  cases R with
  | inl w =>
    cases w with
    | none => exact b.trans (show k = 0 from a).symm
    | some x => exact absurd rfl (hR x)
  | inr e =>
    obtain ⟨b1, -⟩ := b
    rcases a with ⟨a1, a2⟩ | ⟨a1, a2⟩ <;> rcases b1 with ⟨b1, b2⟩ | ⟨b1, b2⟩
    · exact b2.trans a2.symm
    · exact absurd (a1.symm.trans b1) hE
    · exact absurd (b1.symm.trans a1) hE
    · exact b2.trans a2.symm
theorem xi_n {E1 E2 : String} {R : cl_R} (h : lw_xi E1 E2 R) : ¬ R = .inl none := fun e => by rw [e] at h; exact h
theorem xb_n {E1 E2 : String} {R : cl_R} (h : lw_xb E1 E2 R) : ¬ R = .inl none := fun e => by rw [e] at h; exact h
theorem yi_n {E1 : String} {R : cl_R} (h : lw_yi E1 R) : ¬ R = .inl none := fun e => by rw [e] at h; exact h
theorem yb_n {E1 : String} {R : cl_R} (h : lw_yb E1 R) : ¬ R = .inl none := fun e => by rw [e] at h; exact h
theorem yv_n {E1 : String} {R : cl_R} (h : lw_yv E1 R) : ∀ x, ¬ R = .inl (some x) := fun x e => by rw [e] at h; exact h
theorem xb_v {E1 E2 : String} {R : cl_R} (h : lw_xb E1 E2 R) {x : Int32} (e : R = .inl (some x)) : x = 0 ∨ x = 1 := by rw [e] at h; exact h
theorem yb_v {E1 : String} {R : cl_R} (h : lw_yb E1 R) {x : Int32} (e : R = .inl (some x)) : x = 0 ∨ x = 1 := by rw [e] at h; exact h
theorem lg_c0 {x y : Int64} (h : x = y) : lg_cmp x y = 0 := by
  subst h
  unfold lg_cmp
  split
  · rename_i z; exact absurd z Int64.lt_irrefl
  · exact if_pos rfl
theorem lw_f0 {f : Nat → Int64} {y : Int32} (h : f 0 = y.toInt64) : f (0 : Int32).toNatClampNeg = y.toInt64 := by
  rw [show (0 : Int32).toNatClampNeg = 0 by decide]; exact h
theorem ne_ai : ¬ cx_a = cx_i := by decide
theorem ne_as : ¬ cx_a = cx_s := by decide
theorem ne_ia : ¬ cx_i = cx_a := by decide
theorem ne_is : ¬ cx_i = cx_s := by decide
theorem ne_sa : ¬ cx_s = cx_a := by decide
/-! the days -/
theorem iy_of {s s' : cl_S} (h : s'.2.2.1.1 = s.2.2.1.1) (y : iv_y s) : iv_y s' := by
  obtain ⟨d, h1, h2⟩ := y
  exact ⟨d, h1, h.trans h2⟩
theorem td_day (s : cl_S) : (cl_day s).2.2.1.1 = s.2.2.1.1 + 1 := by
  unfold cl_day
  split
  · unfold cl_buoy
    split <;> rfl
  · rfl
theorem td_days {d : Nat} : ∀ (N : Nat) (s : cl_S), s.2.2.1.1 = nI d → (cl_days N s).2.2.1.1 = nI (d + N)
  | 0, s, h => h
  | N + 1, s, h => by
    have := td_days (d := d + 1) N (cl_day s) (by rw [td_day, h, nI_1])
    rw [show d + (N + 1) = d + 1 + N by omega]
    exact this
theorem iy_pass {s : cl_S} (y : iv_y s) (x : Int32) : iv_y (cm_pass s x).2 := by
  obtain ⟨d, h1, h2⟩ := y
  unfold cm_pass
  split
  · rename_i z
    split
    · rename_i z2
      obtain ⟨x, hx1, hx, rfl⟩ := ii_1 (b := 400) (by decide) z
      rw [h2, nI_add] at z2
      have z3 := (nI_leI (b := 20000) (by omega) (by decide)).mp z2
      exact ⟨d + x, z3, by
        show (cl_days (nI x).toNatClampNeg s).2.2.1.1 = _
        rw [nI_clamp (by omega)]
        exact td_days x s h2⟩
    · exact ⟨d, h1, h2⟩
  · exact ⟨d, h1, h2⟩
theorem td_l1 (s : cl_S) (sl t : Int32) : (cl_l1 s sl t).2.2.2.1.1 = s.2.2.1.1 := by
  unfold cl_l1
  split
  · split <;> rfl
  · rfl
theorem td_ly {sl t : Int32} : ∀ (N d : Nat) (s : cl_S), (cl_ly sl t N d s).2.2.2.1.1 = s.2.2.1.1
  | 0, d, s => rfl
  | N + 1, d, s => by
    rw [cl_ly]
    split
    · exact (td_ly N (d + 1) _).trans (td_l1 s sl t)
    · exact td_l1 s sl t
theorem iy_lay {s : cl_S} (y : iv_y s) (x sl t : Int32) : iv_y (cm_lay s x sl t).2 := by
  refine iy_of ?_ y
  unfold cm_lay
  split
  · split
    · rfl
    · exact td_ly _ _ s
  · rfl
theorem iy_sound {s : cl_S} (y : iv_y s) (a0 a1 a2 : Int32) : iv_y (cm_sound s a0 a1 a2).2 := by
  refine iy_of ?_ y
  unfold cm_sound
  repeat (first | rfl | split)
theorem iy_wreck {s : cl_S} (y : iv_y s) (a0 a1 : Int32) : iv_y (cm_wreck s a0 a1).2 := by
  refine iy_of ?_ y
  unfold cm_wreck
  repeat (first | rfl | split)
theorem iy_crossing {s : cl_S} (y : iv_y s) (a0 a1 : Int32) : iv_y (cm_crossing s a0 a1).2 := by
  refine iy_of ?_ y
  unfold cm_crossing
  repeat (first | rfl | split)
theorem iy_weather {s : cl_S} (y : iv_y s) (a0 : Int32) : iv_y (cm_weather s a0).2 := by
  refine iy_of ?_ y
  unfold cm_weather
  repeat (first | rfl | split)
theorem iy_make {s : cl_S} (y : iv_y s) (a0 a1 a2 : Int32) : iv_y (cm_make s a0 a1 a2).2 := by
  refine iy_of ?_ y
  unfold cm_make
  repeat (first | rfl | split)
theorem iy_repeater {s : cl_S} (y : iv_y s) : iv_y (cm_repeater s).2 := by
  refine iy_of ?_ y
  unfold cm_repeater
  repeat (first | rfl | split)
theorem iy_takeUp {s : cl_S} (y : iv_y s) (a0 : Int32) : iv_y (cm_takeUp s a0).2 := by
  refine iy_of ?_ y
  unfold cm_takeUp
  repeat (first | rfl | split)
theorem iy_feed {s : cl_S} (y : iv_y s) (a0 a1 : Int32) : iv_y (cm_feed s a0 a1).2 := by
  refine iy_of ?_ y
  unfold cm_feed
  repeat (first | rfl | split)
theorem iy_fault {s : cl_S} (y : iv_y s) (a0 a1 : Int32) : iv_y (cm_fault s a0 a1).2 := by
  refine iy_of ?_ y
  unfold cm_fault
  repeat (first | rfl | split)
theorem iy_net {s : cl_S} (y : iv_y s) (a0 : Int32) : iv_y (cm_net s a0).2 := by
  refine iy_of ?_ y
  unfold cm_net
  repeat (first | rfl | split)
theorem iy_measure {s : cl_S} (y : iv_y s) (a0 a1 a2 : Int32) : iv_y (cm_measure s a0 a1 a2).2 := by
  refine iy_of ?_ y
  unfold cm_measure
  repeat (first | rfl | split)
theorem iy_mend {s : cl_S} (y : iv_y s) (a0 a1 : Int32) : iv_y (cm_mend s a0 a1).2 := by
  refine iy_of ?_ y
  unfold cm_mend
  repeat (first | rfl | split)
theorem iy_link {s : cl_S} (y : iv_y s) (a0 a1 a2 : Int32) : iv_y (cm_link s a0 a1 a2).2 := by
  refine iy_of ?_ y
  unfold cm_link
  repeat (first | rfl | split)
theorem iy_dead {s : cl_S} (y : iv_y s) (a0 a1 : Int32) : iv_y (cm_dead s a0 a1).2 := by
  refine iy_of ?_ y
  unfold cm_dead
  repeat (first | rfl | split)
theorem iy_demand {s : cl_S} (y : iv_y s) (a0 a1 a2 : Int32) : iv_y (cm_demand s a0 a1 a2).2 := by
  refine iy_of ?_ y
  unfold cm_demand
  repeat (first | rfl | split)
theorem iy_restore {s : cl_S} (y : iv_y s) : iv_y (cm_restore s).2 := iy_of rfl y
theorem iy_way {s : cl_S} (y : iv_y s) (a0 : Int32) : iv_y (cm_way s a0).2 := by
  refine iy_of ?_ y
  unfold cm_way
  repeat (first | rfl | split)
theorem iy_isLit {s : cl_S} (y : iv_y s) (a0 : Int32) : iv_y (cm_isLit s a0).2 := by
  refine iy_of ?_ y
  unfold cm_isLit
  repeat (first | rfl | split)
theorem iy_cell {s : cl_S} (y : iv_y s) (a0 a1 : Int32) : iv_y (cm_cell s a0 a1).2 := by
  refine iy_of ?_ y
  unfold cm_cell
  repeat (first | rfl | split)
theorem iy_tension {s : cl_S} (y : iv_y s) (a0 a1 : Int32) : iv_y (cm_tension s a0 a1).2 := by
  refine iy_of ?_ y
  unfold cm_tension
  repeat (first | rfl | split)
theorem iy_tank {s : cl_S} (y : iv_y s) (a0 a1 : Int32) : iv_y (cm_tank s a0 a1).2 := by
  refine iy_of ?_ y
  unfold cm_tank
  repeat (first | rfl | split)
theorem iy_line {s : cl_S} (y : iv_y s) (a0 : Int32) : iv_y (cm_line s a0).2 := by
  refine iy_of ?_ y
  unfold cm_line
  repeat (first | rfl | split)
theorem iy_thing {s : cl_S} (y : iv_y s) (a0 a1 : Int32) : iv_y (cm_thing s a0 a1).2 := by
  refine iy_of ?_ y
  unfold cm_thing
  repeat (first | rfl | split)
theorem iy_metre {s : cl_S} (y : iv_y s) (a0 : Int32) : iv_y (cm_metre s a0).2 := by
  refine iy_of ?_ y
  unfold cm_metre
  repeat (first | rfl | split)
theorem iy_metreAnew {s : cl_S} (y : iv_y s) (a0 : Int32) : iv_y (cm_metreAnew s a0).2 := by
  refine iy_of ?_ y
  unfold cm_metreAnew
  repeat (first | rfl | split)
theorem iy_ofFault {s : cl_S} (y : iv_y s) (a0 a1 : Int32) : iv_y (cm_ofFault s a0 a1).2 := by
  refine iy_of ?_ y
  unfold cm_ofFault
  repeat (first | rfl | split)
theorem sm_way {s : cl_S} (a0 : Int32) : (cm_way s a0).2 = s := by
  unfold cm_way
  repeat (first | rfl | split)
theorem sm_isLit {s : cl_S} (a0 : Int32) : (cm_isLit s a0).2 = s := by
  unfold cm_isLit
  repeat (first | rfl | split)
theorem sm_cell {s : cl_S} (a0 a1 : Int32) : (cm_cell s a0 a1).2 = s := by
  unfold cm_cell
  repeat (first | rfl | split)
theorem sm_tension {s : cl_S} (a0 a1 : Int32) : (cm_tension s a0 a1).2 = s := by
  unfold cm_tension
  repeat (first | rfl | split)
theorem sm_tank {s : cl_S} (a0 a1 : Int32) : (cm_tank s a0 a1).2 = s := by
  unfold cm_tank
  repeat (first | rfl | split)
theorem sm_line {s : cl_S} (a0 : Int32) : (cm_line s a0).2 = s := by
  unfold cm_line
  repeat (first | rfl | split)
theorem sm_thing {s : cl_S} (a0 a1 : Int32) : (cm_thing s a0 a1).2 = s := by
  unfold cm_thing
  repeat (first | rfl | split)
theorem sm_metre {s : cl_S} (a0 : Int32) : (cm_metre s a0).2 = s := by
  unfold cm_metre
  repeat (first | rfl | split)
theorem sm_metreAnew {s : cl_S} (a0 : Int32) : (cm_metreAnew s a0).2 = s := by
  unfold cm_metreAnew
  repeat (first | rfl | split)
theorem sm_ofFault {s : cl_S} (a0 a1 : Int32) : (cm_ofFault s a0 a1).2 = s := by
  unfold cm_ofFault
  repeat (first | rfl | split)
theorem xc_sound {s : cl_S} (a0 a1 a2 : Int32) : ∀ R, R = (cm_sound s a0 a1 a2).1 → lw_xi cx_a cx_s R := by
  rintro _ rfl
  unfold cm_sound
  repeat (first | exact trivial | exact Or.inl rfl | exact Or.inr rfl | split)
theorem xc_wreck {s : cl_S} (a0 a1 : Int32) : ∀ R, R = (cm_wreck s a0 a1).1 → lw_yb cx_a R := by
  rintro _ rfl
  unfold cm_wreck
  repeat (first | exact bb_01 | exact Or.inl rfl | exact Or.inr rfl | exact (show (_ : String) = _ from rfl) | split)
theorem xc_crossing {s : cl_S} (a0 a1 : Int32) : ∀ R, R = (cm_crossing s a0 a1).1 → lw_yi cx_a R := by
  rintro _ rfl
  unfold cm_crossing
  repeat (first | exact trivial | exact (show (_ : String) = _ from rfl) | split)
theorem xc_weather {s : cl_S} (a0 : Int32) : ∀ R, R = (cm_weather s a0).1 → lw_xi cx_a cx_s R := by
  rintro _ rfl
  unfold cm_weather
  repeat (first | exact trivial | exact Or.inl rfl | exact Or.inr rfl | split)
theorem xc_pass {s : cl_S} (a0 : Int32) : ∀ R, R = (cm_pass s a0).1 → lw_xi cx_a cx_s R := by
  rintro _ rfl
  unfold cm_pass
  repeat (first | exact trivial | exact Or.inl rfl | exact Or.inr rfl | split)
theorem xc_make {s : cl_S} (a0 a1 a2 : Int32) : ∀ R, R = (cm_make s a0 a1 a2).1 → lw_xi cx_a cx_s R := by
  rintro _ rfl
  unfold cm_make
  repeat (first | exact trivial | exact Or.inl rfl | exact Or.inr rfl | split)
theorem xc_lay {s : cl_S} (a0 a1 a2 : Int32) : ∀ R, R = (cm_lay s a0 a1 a2).1 → lw_xi cx_a cx_s R := by
  rintro _ rfl
  unfold cm_lay
  repeat (first | exact trivial | exact Or.inl rfl | exact Or.inr rfl | split)
theorem xc_repeater {s : cl_S} : ∀ R, R = (cm_repeater s).1 → lw_yi cx_s R := by
  rintro _ rfl
  unfold cm_repeater
  repeat (first | exact trivial | exact (show (_ : String) = _ from rfl) | split)
theorem xc_takeUp {s : cl_S} (a0 : Int32) : ∀ R, R = (cm_takeUp s a0).1 → lw_xi cx_a cx_s R := by
  rintro _ rfl
  unfold cm_takeUp
  repeat (first | exact trivial | exact Or.inl rfl | exact Or.inr rfl | split)
theorem xc_feed {s : cl_S} (a0 a1 : Int32) : ∀ R, R = (cm_feed s a0 a1).1 → lw_yv cx_a R := by
  rintro _ rfl
  unfold cm_feed
  repeat (first | exact trivial | exact (show (_ : String) = _ from rfl) | split)
theorem xc_fault {s : cl_S} (a0 a1 : Int32) : ∀ R, R = (cm_fault s a0 a1).1 → lw_xi cx_a cx_s R := by
  rintro _ rfl
  unfold cm_fault
  repeat (first | exact trivial | exact Or.inl rfl | exact Or.inr rfl | split)
theorem xc_net {s : cl_S} (a0 : Int32) : ∀ R, R = (cm_net s a0).1 → lw_xb cx_a cx_s R := by
  rintro _ rfl
  unfold cm_net
  repeat (first | exact bb_01 | exact Or.inl rfl | exact Or.inr rfl | exact Or.inl rfl | exact Or.inr rfl | split)
theorem xc_measure {s : cl_S} (a0 a1 a2 : Int32) : ∀ R, R = (cm_measure s a0 a1 a2).1 → lw_xi cx_a cx_s R := by
  rintro _ rfl
  unfold cm_measure
  repeat (first | exact trivial | exact Or.inl rfl | exact Or.inr rfl | split)
theorem xc_mend {s : cl_S} (a0 a1 : Int32) : ∀ R, R = (cm_mend s a0 a1).1 → lw_xi cx_a cx_s R := by
  rintro _ rfl
  unfold cm_mend
  repeat (first | exact trivial | exact Or.inl rfl | exact Or.inr rfl | split)
theorem xc_link {s : cl_S} (a0 a1 a2 : Int32) : ∀ R, R = (cm_link s a0 a1 a2).1 → lw_xi cx_a cx_s R := by
  rintro _ rfl
  unfold cm_link
  repeat (first | exact trivial | exact Or.inl rfl | exact Or.inr rfl | split)
theorem xc_dead {s : cl_S} (a0 a1 : Int32) : ∀ R, R = (cm_dead s a0 a1).1 → lw_xb cx_i cx_a R := by
  rintro _ rfl
  unfold cm_dead
  repeat (first | exact bb_01 | exact Or.inl rfl | exact Or.inr rfl | exact Or.inl rfl | exact Or.inr rfl | split)
theorem xc_demand {s : cl_S} (a0 a1 a2 : Int32) : ∀ R, R = (cm_demand s a0 a1 a2).1 → lw_xi cx_a cx_s R := by
  rintro _ rfl
  unfold cm_demand
  repeat (first | exact trivial | exact Or.inl rfl | exact Or.inr rfl | split)
theorem xc_way {s : cl_S} (a0 : Int32) : ∀ R, R = (cm_way s a0).1 → lw_yi cx_i R := by
  rintro _ rfl
  unfold cm_way
  repeat (first | exact trivial | exact (show (_ : String) = _ from rfl) | split)
theorem xc_isLit {s : cl_S} (a0 : Int32) : ∀ R, R = (cm_isLit s a0).1 → lw_yb cx_i R := by
  rintro _ rfl
  unfold cm_isLit
  repeat (first | exact bb_01 | exact Or.inl rfl | exact Or.inr rfl | exact (show (_ : String) = _ from rfl) | split)
theorem xc_cell {s : cl_S} (a0 a1 : Int32) : ∀ R, R = (cm_cell s a0 a1).1 → lw_yi cx_a R := by
  rintro _ rfl
  unfold cm_cell
  repeat (first | exact trivial | exact (show (_ : String) = _ from rfl) | split)
theorem xc_tension {s : cl_S} (a0 a1 : Int32) : ∀ R, R = (cm_tension s a0 a1).1 → lw_yi cx_a R := by
  rintro _ rfl
  unfold cm_tension
  repeat (first | exact trivial | exact (show (_ : String) = _ from rfl) | split)
theorem xc_tank {s : cl_S} (a0 a1 : Int32) : ∀ R, R = (cm_tank s a0 a1).1 → lw_yi cx_a R := by
  rintro _ rfl
  unfold cm_tank
  repeat (first | exact trivial | exact (show (_ : String) = _ from rfl) | split)
theorem xc_line {s : cl_S} (a0 : Int32) : ∀ R, R = (cm_line s a0).1 → lw_yi cx_a R := by
  rintro _ rfl
  unfold cm_line
  repeat (first | exact trivial | exact (show (_ : String) = _ from rfl) | split)
theorem xc_thing {s : cl_S} (a0 a1 : Int32) : ∀ R, R = (cm_thing s a0 a1).1 → lw_xi cx_i cx_a R := by
  rintro _ rfl
  unfold cm_thing
  repeat (first | exact trivial | exact Or.inl rfl | exact Or.inr rfl | split)
theorem xc_metre {s : cl_S} (a0 : Int32) : ∀ R, R = (cm_metre s a0).1 → lw_yi cx_i R := by
  rintro _ rfl
  unfold cm_metre
  repeat (first | exact trivial | exact (show (_ : String) = _ from rfl) | split)
theorem xc_metreAnew {s : cl_S} (a0 : Int32) : ∀ R, R = (cm_metreAnew s a0).1 → lw_yi cx_i R := by
  rintro _ rfl
  unfold cm_metreAnew
  repeat (first | exact trivial | exact (show (_ : String) = _ from rfl) | split)
theorem xc_ofFault {s : cl_S} (a0 a1 : Int32) : ∀ R, R = (cm_ofFault s a0 a1).1 → lw_xi cx_i cx_a R := by
  rintro _ rfl
  unfold cm_ofFault
  repeat (first | exact trivial | exact Or.inl rfl | exact Or.inr rfl | split)
