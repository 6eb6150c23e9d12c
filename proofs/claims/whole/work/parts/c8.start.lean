/-! THE START: new objects, and the claim -/
theorem h9_of {h : mm_H} {fs : List Value} {N : Nat} (e : h.2.1 = 29) (z : ∀ p, 29 ≤ p → h.1 p = none) : mm_new h (.inr (9, fs)) N = h9 h fs [] (h.2.2.1 + 1) (h.2.2.2 + N) := by
  unfold mm_new h9
  refine Prod.ext (funext fun j => ?_) ?_
  · show (if j = h.2.1 then some (.inr (9, fs)) else h.1 j) = if j = 29 then _ else if j < 29 then h.1 j else ([] : List mm_E)[j - 30]?
    rw [e]
    by_cases h1 : j = 29
    · rw [if_pos h1, if_pos h1]
    · rw [if_neg h1, if_neg h1]
      by_cases h2 : j < 29
      · rw [if_pos h2]
      · rw [if_neg h2, z j (by omega)]; rfl
  · show (h.2.1 + 1, h.2.2.1 + 1, h.2.2.2 + N) = (30 + 0, h.2.2.1 + 1, h.2.2.2 + N)
    rw [e]
theorem fl_at {f : Nat → Int32} {v : Int32} {n i : Nat} (h : i < n) : fl_N f v n i = v := if_pos h
theorem k_r : r_all (k_tb, k_u) k_m := by
  refine ⟨⟨fun i hi => Or.inl ⟨rfl, (show fl_N (fun _ => 0) 100 100 i = 100 from fl_at hi), (show fl_N (fun _ => 0) 501 100 i = 501 from fl_at hi)⟩, rfl, rfl, fun _ => Or.inl rfl⟩, ⟨rfl, rfl, rfl⟩, ⟨rfl, rfl, by decide⟩, fun t ht => ⟨rfl, Nat.zero_le _, fun i r hr => by simp [tf, k_tb] at hr⟩, ⟨rfl, fun i r hr => by simp [k_tb] at hr⟩, ⟨rfl, rfl⟩, ⟨rfl, rfl, rfl, by decide, rfl, rfl⟩, ⟨rfl, fun i r hr => by simp [k_tb] at hr⟩, ⟨rfl, fun i r hr => ?_, fun _ _ => rfl⟩, ⟨rfl, fun i r hr => by simp [k_tb] at hr⟩⟩
  have hr' : ([(0, 1, 8, 0)] : List tt_R)[i]? = some r := hr
  cases i with
  | zero => cases hr'; exact ⟨rfl, (show upd (fun _ => (0 : Int32)) 0 1 0 = 1 from pk_us), (show upd (fun _ => (0 : Int32)) 0 8 0 = 8 from pk_us), rfl⟩
  | succ i => simp at hr'
theorem k_iv : iv 0 (k_tb, k_u) := by
  refine ⟨0, 0, 0, 0, 0, fun _ => 0, ⟨rfl, by decide, fun _ => rfl⟩, ⟨rfl, by decide, fun p hp => absurd hp (by omega)⟩, ⟨Nat.le_refl _, fun r hr => by simp [k_tb] at hr⟩, ⟨fun r hr => by simp [k_tb] at hr, Nat.le_refl _⟩, ⟨fun i hi => absurd hi (by omega), rfl, fun i hi => absurd hi (by omega)⟩, ⟨Or.inl ⟨rfl, rfl⟩, rfl, by decide, fun _ => rfl⟩, ⟨rfl, rfl, rfl, Nat.le_refl _⟩, rfl, ⟨fun q hq => absurd (show q < 0 from hq) (by omega), by decide⟩, ⟨Nat.zero_le _, fun r hr => by simp [k_tb] at hr⟩, ⟨⟨0, by decide, rfl⟩, fun i hi => ⟨100, by decide, (show fl_N (fun _ => 0) 100 100 i = 100 from fl_at hi)⟩, 0, 0, by decide, by decide, rfl, rfl⟩, ⟨⟨Nat.le_refl _, by decide, rfl, fun r hr => ?_⟩, Nat.zero_le _, fun r hr => by simp [k_tb] at hr⟩⟩
  have hr' : r ∈ ([(0, 1, 8, 0)] : List tt_R) := hr
  rw [List.mem_singleton.mp hr']
  exact ⟨0, 1, 8, 0, rfl, by decide, by decide, by decide, by decide, by decide, by decide⟩
theorem k_P {h h2 h3 : mm_H} (q : k_Q h) (f : ∀ p, p < 29 → h3.1 p = h.1 p) (e1 : h3.2.1 = 66) (e2 : h3.2.2.1 ≤ 70) (e3 : h3.2.2.2 ≤ 80000) : cl_P h3 k_tb k_u 70 80000 := by
  obtain ⟨⟨⟨a1, a2, a3, a4, a5⟩, b1, b2, b3, b4, b5, b6, b7, b8, b9, b10⟩, hT, -⟩ := q
  have g : ∀ (p : Nat) (e : mm_E), p < 29 → h.1 p = some e → h3.1 p = some e := fun p e hp z => (f p hp).trans z
  have t1 : ∀ i, i < 7 → tp i < 29 ∧ tp i + 1 < 29 ∧ fx (tp i + 1) = false := by decide
  refine ⟨⟨fun i => tp i + 1, fun _ => 64, ⟨fun i hi => ⟨by rw [e1]; have := (t1 i hi).2.1; show tp i + 1 < 66; omega, (t1 i hi).2.2⟩, fun i j hi hj z => tp_inj i hi j hj (Nat.succ.inj z), by rw [e1]; exact Nat.le_refl _⟩, fun i hi => (hT i hi).kept (f _ (t1 i hi).1) (f _ (t1 i hi).2.1), ⟨fun _ => 0, fun i hi => Nat.le_of_ble_eq_true rfl, e2⟩, Nat.le_trans e3 (Nat.le_add_right _ _)⟩, ⟨g 1 _ (by decide) a1, g 2 _ (by decide) a2, g 3 _ (by decide) a3, g 4 _ (by decide) a4, g 5 _ (by decide) a5⟩, g 6 _ (by decide) b1, g 7 _ (by decide) b2, g 8 _ (by decide) b3, g 13 _ (by decide) b4, g 19 _ (by decide) b5, g 28 _ (by decide) b6, g 0 _ (by decide) b7, g 16 _ (by decide) b8, g 20 _ (by decide) b9, g 23 _ (by decide) b10⟩
theorem lw_start {l : Launch} {G : mm_G} {b : Nat} (hb : b = G.2.2.2.1) (hl : l.stackTraces = false) (hL : G.2.2.2.2.1 ≤ 2048) : mm_Ex l G mm_law lw_QE 0 [.retAddr b, .null, .null, .null, .null, .null, .null] [] (fun _ => none, 0, 0, 0) := by
  refine ex_new dL_law_0 n_L_8 ?_
  show mm_Ex l G mm_law lw_QE 3 _ [.ref 0] (mm_new (hp [] 0 0) _ _)
  rw [hp_new]
  refine ex_dup dL_law_3 rfl ?_
  refine cI_y dL_law_4 (mm_ki i_X8_init l_L_104) ⟨(Nat.le_of_ble_eq_true rfl), (Nat.le_of_ble_eq_true rfl)⟩ c_X8_init rfl rfl (Nat.le_of_ble_eq_true rfl) rfl (fun h1 q => ?_)
  refine ex_astore_n dL_law_7 (Nat.le_of_ble_eq_true rfl) ?_
  refine ex_new dL_law_8 n_L_105 ?_
  rw [q.2.2.1, h9_of q.2.2.1 q.2.2.2.2.2]
  refine ex_dup dL_law_11 rfl ?_
  refine cI_y dL_law_12 (mm_ki i_X9_init l_L_107) ⟨(Nat.le_of_ble_eq_true rfl), (Nat.le_of_ble_eq_true rfl)⟩ c_X9_init rfl rfl (Nat.le_of_ble_eq_true rfl) rfl (fun h2 q2 => ?_)
  obtain ⟨p2, f2, e21, e22, e23⟩ := q2
  refine ex_astore_n dL_law_15 (Nat.le_of_ble_eq_true rfl) ?_
  refine ex_iconst (v := 1) dL_law_16 (by decide) ?_
  refine ex_newJ (N := 1) dL_law_17 a_long (by decide) rfl (by decide) ?_
  rw [e21]
  refine ex_astore_n dL_law_19 (Nat.le_of_ble_eq_true rfl) ?_
  refine ex_iconst (v := 0) dL_law_20 (by decide) ?_
  refine ex_istore dL_law_21 (Nat.le_of_ble_eq_true rfl) ?_
  refine lw_loop hb hl hL 512 0 _ _ _ rfl ⟨(k_tb, k_u), k_m, fun _ => 0, 0, Nat.le_refl _, ?_, ?_, k_r, k_iv, ⟨0, by decide, rfl⟩, ?_⟩
  · have a1 := q.2.2.2.1
    have a2 := q.2.2.2.2.1
    refine k_P (h2 := h2) q (fun p hp => (mm_new_ne (by omega) rfl).trans (f2 p hp)) ?_ ?_ ?_
    · show h2.2.1 + 1 = 66
      rw [e21]
    · show h2.2.2.1 + 1 ≤ 70
      omega
    · show h2.2.2.2 + 1 ≤ 80000
      omega
  · exact mP_mv p2 (fun p hp hq => mm_new_ne (by omega) rfl)
  · have := mm_new_at (h := h2) (e := .inl (.long, 1, .inr (.inl (fun _ => 0)))) (n := 1)
    rw [e21] at this
    exact this
theorem whole_start {p : Program} {e : Env} {s : State} {m : MethodId} {below : List Frame} {meth : Method} {c : Code} (l : Launch) (hflags : l.flags = flags0) {b L : Nat} {xs : Nat → Int32} (hL : L ≤ 2048) (C0 : lw_At p s m meth c b L xs) : W p l e room_1 s m #[Value.ref b] below meth c s.heap [] 0 0 (lw_Z below #[Value.ref b] s) (entryFrame m ([Value.ref b] : List Value).toArray 7) := by
  refine mm_start l C0 (fun G hG => ?_)
  have hl : l.stackTraces = false := by unfold Launch.stackTraces; rw [hflags]; decide +kernel
  exact lw_start (by rw [hG]) hl (by rw [hG]; exact hL)
