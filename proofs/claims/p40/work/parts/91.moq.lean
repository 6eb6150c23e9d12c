/-! TAKING UP: what holds afterwards; the model -/
def tk_T (s : cl_S) : List tt_R := if cl_lo s ≤ 0 then s.1 2 else s.1 2 ++ [(1, -1, -1, 0)]
def tk_s (s : cl_S) (t : Int32) : cl_S := if cl_lo s ≤ 0 then cl_bg (cl_un (tu_1 s t)) else cl_bg (cl_un (tu_3 s t))
section TK
variable {n k kp lo wa mk t : Nat} {s : cl_S} {c : Nat → Nat}
theorem tk_eq (h : ivx n s k kp lo wa mk c) (t : Int32) : (tk_s s t).1 0 = ho_so t (s.1 0).reverse (cl_lo s) [] ∧ (tk_s s t).1 2 = ap_l (cl_ga s t (cl_lo s)).1 (tk_T s) ∧ (tk_s s t).1 3 = s.1 3 ++ pb_d (cl_ga s t (cl_lo s)).1 (cl_me s) ∧ (tk_s s t).1 4 = (s.1 4).map (fa_an (ln_m (cl_ga s t (cl_lo s)).1 (cl_me s))) ∧ (tk_s s t).1 5 = s.1 5 ∧ (tk_s s t).1 6 = s.1 6 ∧ (tk_s s t).2 = (s.2.1, s.2.2.1, s.2.2.2.1, (upd s.2.2.2.2.1.1 (k - 1) (s.2.2.2.2.1.1 (k - 1) + cl_lo s), cl_ce s, ln_m (cl_ga s t (cl_lo s)).1 (cl_me s)), s.2.2.2.2.2.1, cl_la s, 0, 0, s.2.2.2.2.2.2.2.2.2) := by
  obtain ⟨b1, b2, b3, b4⟩ : iv_b s k lo := h.2.2.2.2.2.1
  unfold tk_s tk_T
  by_cases hz : cl_lo s ≤ 0
  · rw [if_pos hz, if_pos hz]
    have hl0 : lo = 0 := by rw [b2] at hz; exact (nI_le0 (by omega)).mp hz
    have hl : cl_lo s = 0 := by rw [b2, hl0]; rfl
    have hg : cl_ga s t (cl_lo s) = ([], cl_lo s) := ho_ga_0 hz
    rw [hg, ho_so_0 hz, List.reverse_reverse, List.append_nil]
    refine ⟨rfl, rfl, by rw [pb_d, List.append_nil]; rfl, rfl, rfl, rfl, ?_⟩
    rw [hl, show s.2.2.2.2.1.1 (k - 1) + 0 = s.2.2.2.2.1.1 (k - 1) by grind, upd_id]; rfl
  · rw [if_neg hz, if_neg hz]
    have hk : 1 ≤ k := by
      rcases Nat.eq_zero_or_pos k with z | z
      · rw [b2, b4 z] at hz; exact absurd (by decide) hz
      · exact z
    have ek : (cl_ce s - 1).toNatClampNeg = k - 1 := by
      have := h.1.2.1
      rw [h.1.1, show nI k - 1 = nI (k - 1) from pk_sub (a := k) (b := 1) hk]
      exact nI_clamp (by omega)
    obtain ⟨e1, e2⟩ := pb_eq (cl_ga s t (cl_lo s)).1 (s.1 2 ++ [(1, -1, -1, 0)]) (s.1 3) (cl_me s)
    refine ⟨rfl, cl_pb_ap _ _ _ _, e1, ?_, rfl, rfl, ?_⟩
    · rw [← e2]; rfl
    · rw [← e2, ← ek]; rfl
theorem tk_W (h : ivx n s k kp lo wa mk c) : (∀ r ∈ tk_T s, ln_k kp r) ∧ ln_N (tk_T s) = ln_N (s.1 2) ∧ (tk_T s).length ≤ (s.1 2).length + 1 ∧ ∀ x, ln_c (tk_T s) x = ln_c (s.1 2) x := by
  have ht := h.2.2.2.1.1
  unfold tk_T
  by_cases hz : cl_lo s ≤ 0
  · rw [if_pos hz]; exact ⟨ht, rfl, Nat.le_succ _, fun _ => rfl⟩
  · rw [if_neg hz]
    have hj : rl (1, -1, -1, 0) = 0 := by decide
    refine ⟨fun r hr => ?_, by rw [ln_N_app, ln_N1, hj]; rfl, by rw [List.length_append]; exact Nat.le_refl _, fun x => ?_⟩
    · rcases List.mem_append.mp hr with z | z
      · exact ht r z
      · rw [List.mem_singleton.mp z]; exact Or.inr ⟨Or.inl rfl, rfl⟩
    · rw [ln_c_app]
      by_cases e : x < ln_N (s.1 2)
      · rw [if_pos e]
      · rw [if_neg e, ln_c1, hj, if_neg (Nat.not_lt_zero _), (ln_c_none (s.1 2) x (by omega)).1]
theorem ivx_tk (h : ivx n s k kp lo wa mk c) (ht : t < 3) (hz : (cl_ga s (nI t) (cl_lo s)).2 = 0) : ∃ c', ivx (n + 1) (tk_s s (nI t)) k kp 0 wa mk c' := by
  obtain ⟨e0, e2, e3, e4, e5, e6, eu⟩ := tk_eq h (nI t)
  obtain ⟨T1, T2, T3, T4⟩ := tk_W h
  obtain ⟨a1, a2, a3, a4, a5, a6, a7, a8, a9, a10, a11, a12⟩ := id h
  have hlo : cl_lo s = nI lo := a6.2.1
  have hlo2 := a6.2.2.1
  rw [hlo] at hz e0 e2 e3 e4 eu
  obtain ⟨g1, g2, g3, g4, g5, g6⟩ := st_ga h ht (show lo < 2 ^ 31 by omega)
  have hsl := so_len h (t := nI t) (m := nI lo)
  have hN := h.N
  have hMg : ln_N (cl_ga s (nI t) (nI lo)).1 = lo := by
    rw [hz] at g3
    have : nI (lo - ln_N (cl_ga s (nI t) (nI lo)).1) = nI 0 := g3.symm
    have := (nI_eq (by omega) (by omega)).mp this
    omega
  obtain ⟨b1, b2, b3, b4⟩ := ap_f (cl_ga s (nI t) (nI lo)).1 (tk_T s) T1 g1
  have am : cl_me s = nI (ln_N (s.1 2)) := a8
  have hlm : ln_m (cl_ga s (nI t) (nI lo)).1 (cl_me s) = nI (ln_N (s.1 2) + lo) := by
    rw [am, ln_mS _ _ (fun r hr => (g1 r hr).ln.1), hMg]
  rw [hlm] at eu e4
  rw [hMg, T2] at b2
  rw [hMg] at g5
  refine ⟨fun i => if i = k - 1 then c i + lo else c i, ?_, ?_, ?_, ?_, ?_, ?_, ?_, ?_, ?_, ?_, ?_, ?_⟩
  · refine ⟨by unfold cl_ce; rw [eu]; exact a1.1, a1.2.1, fun z => ?_⟩
    have hl0 := a6.2.2.2 z
    rw [e2, hl0, show cl_ga s (nI t) (nI 0) = ([], nI 0) from ho_ga_0 (by decide)]
    show tk_T s = []
    unfold tk_T
    rw [hlo, hl0, if_pos (by decide), a1.2.2 z]
  · unfold iv_p; rw [eu]; exact a2
  · unfold iv_s; rw [e0]; exact ⟨hsl, g4⟩
  · unfold iv_t; rw [e2, e0]; exact ⟨b1, by have := a4.2; omega⟩
  · unfold iv_c; rw [eu, e2, b2]
    rcases Nat.eq_zero_or_pos k with hk | hk
    · have hl0 := a6.2.2.2 hk
      subst hk
      refine ⟨fun i hi => absurd hi (by omega), ?_, fun i hi => absurd hi (by omega)⟩
      rw [a1.2.2 rfl, hl0]; rfl
    · refine ⟨fun i hi => ?_, ?_, fun i hi => ?_⟩
      · show upd s.2.2.2.2.1.1 (k - 1) (s.2.2.2.2.1.1 (k - 1) + nI lo) i = nI (if i = k - 1 then c i + lo else c i)
        by_cases e : i = k - 1
        · rw [if_pos e, e]
          refine pk_us.trans ?_
          rw [a5.1 (k - 1) (by omega), nI_add]
        · rw [if_neg e]; exact (pk_un e).trans (a5.1 i hi)
      · obtain ⟨j, rfl⟩ : ∃ j, k = j + 1 := ⟨k - 1, by omega⟩
        rw [← a5.2.1]
        show cs _ j + (if j = j + 1 - 1 then c j + lo else c j) = cs c j + c j + lo
        rw [if_pos (by omega)]
        have := cs_upd (c := c) (x := c j + lo) j j (Nat.le_refl _)
        have e9 : (fun i => if i = j + 1 - 1 then c i + lo else c i) = (fun i => if i = j then c j + lo else c i) := funext fun i => by
          by_cases e : i = j
          · rw [if_pos (by omega), if_pos e, e]
          · rw [if_neg (by omega), if_neg e]
        rw [e9, this]; omega
      · have := a5.2.2 i hi
        show 1000 ≤ (if i = k - 1 then c i + lo else c i) + (if i + 1 = k then 0 else 0)
        by_cases e : i + 1 = k
        · rw [if_pos e] at this
          rw [if_pos (by omega)]; omega
        · rw [if_neg e] at this
          rw [if_neg (by omega)]; omega
  · unfold iv_b cl_bu cl_lo; rw [eu]
    exact ⟨Or.inl ⟨rfl, rfl⟩, rfl, by omega, fun _ => rfl⟩
  · unfold iv_w cl_wa; rw [eu, e0, e2, b2]
    exact ⟨a7.1, a7.2.1, by have := a7.2.2.1; omega, a7.2.2.2⟩
  · unfold iv_m cl_me; rw [eu, e2, b2]
  · unfold iv_d; rw [e3, e2, b2, e0]
    have hbu1 : cl_bu (tk_s s (nI t)) = 0 := by unfold cl_bu; rw [eu]
    have a92 := a9.2
    rw [hbu1, if_pos rfl]
    refine ⟨fun q hq => ?_, by rw [List.length_append, pb_d_len]; split at a92 <;> omega⟩
    rw [b4, am]
    have := de_pb a2.2.1 (cl_ga s (nI t) (nI lo)).1 (s.1 2) (s.1 3) g1 a9.1 (by rw [hMg]; omega) q (by rw [hMg]; exact hq)
    rw [this, ln_c_app, ln_c_app, T2, T4]
  · unfold iv_f; rw [e4, e2, b2]
    refine ⟨by rw [List.length_map]; exact a10.1, fun r hr => ?_⟩
    obtain ⟨y, hy, rfl⟩ := List.mem_map.mp hr
    obtain ⟨x1, q, x2, x3⟩ := a10.2 y hy
    exact ⟨x1, q, by omega, x3⟩
  · unfold iv_o cl_la cl_fa cl_fb; rw [eu]; exact a11
  · unfold iv_n; rw [e5, e6]; exact a12
end TK
section MOQ
variable {l : Launch} {G : mm_G} {h0 h : mm_H} {m : mo_S} {s : cl_S} {n : Nat} {T L : List tt_R}
end MOQ
