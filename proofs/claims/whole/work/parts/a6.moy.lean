/-! THE MODEL: links that are dead, links that are free -/
theorem mm_rI {x y : Int32} (e : x = y) : (.inl (some (.int x)) : mm_R) = .inl (some (.int y)) := by rw [e]
theorem td_f {i : Nat} (hi : i < 32) : ∀ (S : List tt_R) (i0 : Nat) (a : Int32), i0 + S.length ≤ 6 → (bt (ne_td S i0 a) i = true ↔ bt a i = true ∨ ∃ j r, S[j]? = some r ∧ i0 + j = i ∧ r.2.2.2 = 1)
  | [], i0, a, _ => ⟨Or.inl, fun h => h.elim id (fun ⟨j, r, hr, _⟩ => by simp at hr)⟩
  | r :: S, i0, a, h => by
    rw [List.length_cons] at h
    have hx : (∃ j q, (r :: S)[j]? = some q ∧ i0 + j = i ∧ q.2.2.2 = 1) ↔ (i0 = i ∧ r.2.2.2 = 1) ∨ ∃ j q, S[j]? = some q ∧ i0 + 1 + j = i ∧ q.2.2.2 = 1 := by
      constructor
      · rintro ⟨j, q, h1, h2, h3⟩
        cases j with
        | zero => cases h1; exact Or.inl ⟨h2, h3⟩
        | succ j => exact Or.inr ⟨j, q, h1, by omega, h3⟩
      · rintro (⟨h1, h2⟩ | ⟨j, q, h1, h2, h3⟩)
        · exact ⟨0, r, rfl, h1, h2⟩
        · exact ⟨j + 1, q, h1, by omega, h3⟩
    rw [ne_td, hx]
    by_cases e : r.2.2.2 = 1
    · rw [if_pos e, td_f hi S (i0 + 1) _ (by omega), bt_o1 (by omega) hi, Bool.or_eq_true, decide_eq_true_iff]
      constructor
      · rintro ((z | z) | z)
        · exact Or.inl z
        · exact Or.inr (Or.inl ⟨z, e⟩)
        · exact Or.inr (Or.inr z)
      · rintro (z | ⟨z, -⟩ | z)
        · exact Or.inl (Or.inl z)
        · exact Or.inl (Or.inr z)
        · exact Or.inr z
    · rw [if_neg e, td_f hi S (i0 + 1) _ (by omega)]
      constructor
      · rintro (z | z)
        · exact Or.inl z
        · exact Or.inr (Or.inr z)
      · rintro (z | ⟨-, z⟩ | z)
        · exact Or.inl z
        · exact absurd z e
        · exact Or.inr z
theorem us_f {D : List tt_R} {w d : Int32} {i : Nat} (hi : i < 32) : ∀ (S : List tt_R) (i0 : Nat) (a : Int32), i0 + S.length ≤ 6 → (bt (ne_us D w d S i0 a) i = true ↔ bt a i = true ∨ ∃ j r, S[j]? = some r ∧ i0 + j = i ∧ bt d i = false ∧ ¬ ne_fr i D r.2.2.1 < w)
  | [], i0, a, _ => ⟨Or.inl, fun h => h.elim id (fun ⟨j, r, hr, _⟩ => by simp at hr)⟩
  | r :: S, i0, a, h => by
    rw [List.length_cons] at h
    have hx : (∃ j q, (r :: S)[j]? = some q ∧ i0 + j = i ∧ bt d i = false ∧ ¬ ne_fr i D q.2.2.1 < w) ↔ (i0 = i ∧ bt d i0 = false ∧ ¬ ne_fr i0 D r.2.2.1 < w) ∨ ∃ j q, S[j]? = some q ∧ i0 + 1 + j = i ∧ bt d i = false ∧ ¬ ne_fr i D q.2.2.1 < w := by
      constructor
      · rintro ⟨j, q, h1, h2, h3⟩
        cases j with
        | zero => cases h1; rw [Nat.add_zero] at h2; subst h2; exact Or.inl ⟨rfl, h3⟩
        | succ j => exact Or.inr ⟨j, q, h1, by omega, h3⟩
      · rintro (⟨h1, h2⟩ | ⟨j, q, h1, h2, h3⟩)
        · subst h1; exact ⟨0, r, rfl, rfl, h2⟩
        · exact ⟨j + 1, q, h1, by omega, h3⟩
    rw [ne_us, hx]
    have hn : ¬ (bt d i0 = false ∧ ¬ ne_fr i0 D r.2.2.1 < w) → (bt (ne_us D w d S (i0 + 1) a) i = true ↔ bt a i = true ∨ (i0 = i ∧ bt d i0 = false ∧ ¬ ne_fr i0 D r.2.2.1 < w) ∨ ∃ j q, S[j]? = some q ∧ i0 + 1 + j = i ∧ bt d i = false ∧ ¬ ne_fr i D q.2.2.1 < w) := fun z => by
      rw [us_f hi S (i0 + 1) _ (by omega)]
      exact ⟨fun y => y.elim Or.inl (fun y => Or.inr (Or.inr y)), fun y => y.elim Or.inl (fun y => y.elim (fun x => absurd x.2 z) Or.inr)⟩
    by_cases e : bt d i0 = false
    · rw [if_pos ((bt_b0 (by omega)).mpr e)]
      by_cases e2 : ne_fr i0 D r.2.2.1 < w
      · rw [if_pos e2]; exact hn (fun z => z.2 e2)
      · rw [if_neg e2, us_f hi S (i0 + 1) _ (by omega), bt_o1 (by omega) hi, Bool.or_eq_true, decide_eq_true_iff]
        constructor
        · rintro ((z | z) | z)
          · exact Or.inl z
          · exact Or.inr (Or.inl ⟨z, e, e2⟩)
          · exact Or.inr (Or.inr z)
        · rintro (z | ⟨z, -⟩ | z)
          · exact Or.inl (Or.inl z)
          · exact Or.inl (Or.inr z)
          · exact Or.inr z
    · rw [if_neg (fun z => e ((bt_b0 (by omega)).mp z))]; exact hn (fun z => e z.1)
theorem dl_f {n : Nat} {s : cl_S} (h : iv n s) {i : Nat} {r : tt_R} (hr : (s.1 5)[i]? = some r) : (bt (cl_dl s) i = true ↔ if i = 0 then ¬ cl_wk s = true else r.2.2.2 = 1) := by
  obtain ⟨k, kp, lo, wa, mk, c, hx⟩ := h
  obtain ⟨⟨g1, g2, g3, g4⟩, g5, g6⟩ := hx.2.2.2.2.2.2.2.2.2.2.2
  have hi := (List.getElem?_eq_some_iff.mp hr).1
  have ht := td_f (i := i) (by omega) (s.1 5) 0 0 (by omega)
  unfold cl_dl
  rw [bt_or, Bool.or_eq_true, ht, bt_z]
  have h1 : (∃ j q, (s.1 5)[j]? = some q ∧ 0 + j = i ∧ q.2.2.2 = 1) ↔ r.2.2.2 = 1 := by
    constructor
    · rintro ⟨j, q, a1, a2, a3⟩
      rw [Nat.zero_add] at a2
      rw [a2, hr] at a1
      cases a1; exact a3
    · intro z; exact ⟨i, r, hr, Nat.zero_add i, z⟩
  have h2 : bt (if cl_wk s = true then 0 else 1) i = true ↔ i = 0 ∧ ¬ cl_wk s = true := by
    by_cases e : cl_wk s = true
    · rw [if_pos e, bt_z]; exact ⟨fun z => absurd z (by decide), fun z => absurd e z.2⟩
    · rw [if_neg e, show (1 : Int32) = ne_1 0 by decide, bt_1 (by decide) (by omega), decide_eq_true_iff]
      exact ⟨fun z => ⟨z.symm, e⟩, fun z => z.1.symm⟩
  rw [h1, h2]
  by_cases e : i = 0
  · subst e
    rw [if_pos rfl]
    rw [hr] at g3
    cases g3
    exact ⟨fun z => z.elim (fun y => y.elim (fun x => by cases x) (fun x => absurd x (by decide))) (fun y => y.2), fun z => Or.inr ⟨rfl, z⟩⟩
  · rw [if_neg e]
    exact ⟨fun z => z.elim (fun y => y.elim (fun x => by cases x) id) (fun y => absurd y.1 e), fun z => Or.inl (Or.inr z)⟩
section MOY
variable {l : Launch} {G : mm_G} {h0 h : mm_H} {m : mo_S} {s : cl_S} {n : Nat}
theorem c_X9_isDeadNow (p : mo_P h0 h m) (r : r_all s m) (hi : iv n s) (hn : n ≤ 513) {i : Nat} {q : tt_R} (hq : (s.1 5)[i]? = some q) : mm_Ct l G mX9_isDeadNow [.ref 29, .int (nI i)] h (mm_ri (.int (bb (bt (cl_dl s) i = true))) h) := by
  have hi2 := hi
  obtain ⟨k, kp, lo, wa, mk, c, hx⟩ := hi2
  obtain ⟨⟨g1, g2, g3, g4⟩, g5, g6⟩ := hx.2.2.2.2.2.2.2.2.2.2.2
  have hil := (List.getElem?_eq_some_iff.mp hq).1
  have hd := dl_f hi hq
  obtain ⟨a, b, w, d, eq, -, -, -, -, -, hd2⟩ := g4 q (List.mem_of_getElem? hq)
  obtain ⟨d1, d2, d3, d4⟩ := r.2.2.2.2.2.2.2.2.1.2.1 i q hq
  refine mm_ct (by decide +kernel) (by decide +kernel) rfl (by simp [Value.category]) (Nat.le_of_ble_eq_true rfl) rfl ?_
  rcases Nat.eq_zero_or_pos i with z0 | z0
  · rw [if_pos z0] at hd
    refine ex_iload_n dX9_isDeadNow_0 rfl ?_
    refine ex_if_ne (tgt := 19) dX9_isDeadNow_1 (by decide) (fun z => absurd (by rw [z0]; rfl) z) (fun _ => ?_)
    refine ex_aload_n dX9_isDeadNow_4 rfl ?_
    refine cV_f dX9_isDeadNow_5 (mm_kv i_X9_worksNow l_X9_259) ⟨(Nat.le_of_ble_eq_true rfl), (Nat.le_of_ble_eq_true rfl)⟩ (c_X9_worksNow p (s := s) r hi hn) rfl rfl (mP_o p) (Nat.le_of_ble_eq_true rfl) rfl ?_
    refine ex_if_ne (tgt := 15) dX9_isDeadNow_8 (by decide) (fun c_8 => ?_) (fun c_8 => ?_)
    · refine ex_iconst (v := 0) dX9_isDeadNow_15 (by decide) ?_
      refine ex_goto (tgt := 25) dX9_isDeadNow_16 (by decide) ?_
      refine ex_ireturn dX9_isDeadNow_25 ⟨_, rfl, (by first | rfl | exact bb_r)⟩ ?_
      exact bq_f (fun z => hd.mp z (bb_n.mp c_8))
    · refine ex_iconst (v := 1) dX9_isDeadNow_11 (by decide) ?_
      refine ex_goto (tgt := 25) dX9_isDeadNow_12 (by decide) ?_
      refine ex_ireturn dX9_isDeadNow_25 ⟨_, rfl, (by first | rfl | exact bb_r)⟩ ?_
      exact bq_t (hd.mpr (bb_0.mp c_8))
  · rw [if_neg (by omega)] at hd
    have hv : q.2.2.2 = bb (bt (cl_dl s) i = true) := by
      have e4 : q.2.2.2 = nI d := by rw [eq]
      rcases show d = 0 ∨ d = 1 by omega with z | z
      · rw [bb_f (fun y => by have := hd.mp y; rw [e4, z] at this; exact absurd this (by decide)), e4, z]; rfl
      · rw [bb_t (hd.mpr (by rw [e4, z]; rfl)), e4, z]; rfl
    refine ex_iload_n dX9_isDeadNow_0 rfl ?_
    refine ex_if_ne (tgt := 19) dX9_isDeadNow_1 (by decide) (fun _ => ?_) (fun z => absurd z (nI_ne0 z0 (by omega)))
    refine ex_aload_n dX9_isDeadNow_19 rfl ?_
    refine ex_getfield dX9_isDeadNow_20 g_X9_102 (mP_o p) rfl ?_
    refine ex_iload_n dX9_isDeadNow_23 rfl ?_
    refine ex_baloadv (v := q.2.2.2) dX9_isDeadNow_24 (mA_47 p) (by first | assumption | exact vp_in_nI (by omega) (by decide)) (mo_av d4 rfl (by omega)) ?_
    rw [hv]
    refine ex_ireturn dX9_isDeadNow_25 ⟨_, rfl, (by first | rfl | exact bb_r)⟩ ?_
    exact ⟨rfl, rfl⟩
theorem c_X9_across (p : mo_P h0 h m) (r : r_all s m) {i : Nat} {q : tt_R} (hq : (s.1 5)[i]? = some q) (hi6 : i < 6) (v : Int32) : mm_Ct l G mX9_across [.ref 29, .int (nI i), .int v] h (mm_ri (.int (ne_oe q v)) h) := by
  obtain ⟨d1, d2, d3, d4⟩ := r.2.2.2.2.2.2.2.2.1.2.1 i q hq
  refine mm_ct (by decide +kernel) (by decide +kernel) rfl (by simp [Value.category]) (Nat.le_of_ble_eq_true rfl) rfl ?_
  refine ex_aload_n dX9_across_0 rfl ?_
  refine ex_getfield dX9_across_1 g_X9_93 (mP_o p) rfl ?_
  refine ex_iload_n dX9_across_4 rfl ?_
  refine ex_ialoadv (v := q.1) dX9_across_5 (mA_44 p) (by first | assumption | exact vp_in_nI (by omega) (by decide)) (mo_av d1 rfl (by omega)) ?_
  refine ex_iload_n dX9_across_6 rfl ?_
  refine ex_icmp_ne (tgt := 19) dX9_across_7 (by decide) (fun c_7 => ?_) (fun c_7 => ?_)
  · refine ex_aload_n dX9_across_19 rfl ?_
    refine ex_getfield dX9_across_20 g_X9_96 (mP_o p) rfl ?_
    refine ex_iload_n dX9_across_23 rfl ?_
    refine ex_ialoadv (v := q.2.1) dX9_across_24 (mA_45 p) (by first | assumption | exact vp_in_nI (by omega) (by decide)) (mo_av d2 rfl (by omega)) ?_
    refine ex_iload_n dX9_across_25 rfl ?_
    refine ex_icmp_ne (tgt := 38) dX9_across_26 (by decide) (fun c_26 => ?_) (fun c_26 => ?_)
    · refine ex_iconst (v := (-1)) dX9_across_38 (by decide) ?_
      refine ex_ireturn dX9_across_39 ⟨_, rfl, rfl⟩ ?_
      exact ⟨mm_rI (show (-1 : Int32) = ne_oe q v by rw [ne_oe, if_neg c_7, if_neg c_26]), rfl⟩
    · refine ex_aload_n dX9_across_29 rfl ?_
      refine ex_getfield dX9_across_30 g_X9_93 (mP_o p) rfl ?_
      refine ex_iload_n dX9_across_33 rfl ?_
      refine ex_ialoadv (v := q.1) dX9_across_34 (mA_44 p) (by first | assumption | exact vp_in_nI (by omega) (by decide)) (mo_av d1 rfl (by omega)) ?_
      refine ex_goto (tgt := 39) dX9_across_35 (by decide) ?_
      refine ex_ireturn dX9_across_39 ⟨_, rfl, rfl⟩ ?_
      exact ⟨mm_rI (show q.1 = ne_oe q v by rw [ne_oe, if_neg c_7, if_pos c_26]), rfl⟩
  · refine ex_aload_n dX9_across_10 rfl ?_
    refine ex_getfield dX9_across_11 g_X9_96 (mP_o p) rfl ?_
    refine ex_iload_n dX9_across_14 rfl ?_
    refine ex_ialoadv (v := q.2.1) dX9_across_15 (mA_45 p) (by first | assumption | exact vp_in_nI (by omega) (by decide)) (mo_av d2 rfl (by omega)) ?_
    refine ex_goto (tgt := 39) dX9_across_16 (by decide) ?_
    refine ex_ireturn dX9_across_39 ⟨_, rfl, rfl⟩ ?_
    exact ⟨mm_rI (show q.2.1 = ne_oe q v by rw [ne_oe, if_pos c_7]), rfl⟩
end MOY
