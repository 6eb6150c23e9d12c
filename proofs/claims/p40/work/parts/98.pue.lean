/-! PURE: the state after mending -/
def md_s (s : cl_S) (i t : Int32) : cl_S := cl_bg (cl_t (me_3 s i t) 4 (me_f s i).1)
theorem cs_set {c : Nat → Nat} {x : Nat} : ∀ (k j : Nat), j < k → cs (fun i => if i = j then x else c i) k + c j = cs c k + x
  | 0, j, h => absurd h (Nat.not_lt_zero j)
  | k + 1, j, h => by
    show cs _ k + (if k = j then x else c k) + c j = cs c k + c k + x
    by_cases e : k = j
    · subst e
      rw [if_pos rfl, cs_upd k k (Nat.le_refl _)]; omega
    · have := cs_set (c := c) (x := x) k j (by omega)
      rw [if_neg e]; omega
def md_T (b e : Nat) (T g : List tt_R) : List tt_R := kA b T 0 ++ (1, -1, -1, 0) :: (ro_xs g ++ kB e T 0)
theorem md_T_f {kp b e : Nat} {T g : List tt_R} (hbe : b < e) (he : e ≤ ln_N T) (h : ∀ r ∈ T, ln_k kp r) (hg : ∀ q ∈ g, st_w kp q) : (∀ r ∈ md_T b e T g, ln_k kp r) ∧ ln_N (md_T b e T g) = b + ln_N g + (ln_N T - e) ∧ (md_T b e T g).length ≤ T.length + 2 + 2 * g.length ∧ ∀ q, q < b + ln_N g + (ln_N T - e) → ln_c (md_T b e T g) q = if q < b then ln_c T q else if q < b + ln_N g then ln_c g (q - b) else ln_c T (q - ln_N g + (e - b)) := by
  obtain ⟨a1, a2, a3⟩ := kA_f (b := b) T 0 h
  obtain ⟨b1, b2, b3⟩ := kB_f (e := e) T 0 h
  obtain ⟨x1, x2, x3, x4⟩ := xs_f g hg
  have hl := kAB_len hbe T 0
  have hj : rl (1, -1, -1, 0) = 0 := by decide
  rw [show min (0 + ln_N T) b - 0 = b by omega] at a2 a3
  rw [show 0 + ln_N T - max 0 e = ln_N T - e by omega] at b2 b3
  unfold md_T
  refine ⟨fun r hr => ?_, ?_, ?_, fun q hq => ?_⟩
  · rcases List.mem_append.mp hr with z | z
    · exact a1 r z
    rcases List.mem_cons.mp z with z | z
    · rw [z]; exact Or.inr ⟨Or.inl rfl, rfl⟩
    rcases List.mem_append.mp z with z | z
    · exact x1 r z
    · exact b1 r z
  · rw [ln_N_app, ln_N, ln_N_app, a2, hj, x2, b2]; omega
  · rw [List.length_append, List.length_cons, List.length_append, x3]; omega
  · rw [ln_c_app, a2]
    by_cases e1 : q < b
    · rw [if_pos e1, if_pos e1, a3 q e1]
    · rw [if_neg e1, if_neg e1, ln_c, hj, if_neg (Nat.not_lt_zero _), ln_c_app, x2, x4, Nat.sub_zero]
      by_cases e2 : q < b + ln_N g
      · rw [if_pos e2, if_pos (by omega)]
      · rw [if_neg e2, if_neg (by omega), b3 _ (by omega)]; congr 1; omega
theorem md_L_mem {b e d : Nat} {N : Nat} (hbe : b ≤ e) (heN : e ≤ N) (hN : N + d < 2 ^ 30) : ∀ (L : List tt_R), (∀ r ∈ L, (r.1 = 0 ∨ r.1 = 1) ∧ ∃ q, q < N ∧ r.2.1 = nI q) → ∀ r ∈ md_L (nI b) (nI e) (nI d) L, (r.1 = 0 ∨ r.1 = 1) ∧ ∃ q, q < N + d ∧ r.2.1 = nI q
  | [], _, r, hr => absurd hr List.not_mem_nil
  | x :: L, h, r, hr => by
    obtain ⟨h1, q, h2, h3⟩ := h x List.mem_cons_self
    have ih := md_L_mem (b := b) (e := e) (d := d) hbe heN hN L (fun y hy => h y (List.mem_cons_of_mem _ hy))
    rw [md_L] at hr
    split at hr
    · split at hr
      · rcases List.mem_cons.mp hr with z | z
        · rw [z]; exact ⟨h1, q, by omega, h3⟩
        · exact ih r z
      · exact ih r hr
    · rcases List.mem_cons.mp hr with z | z
      · rw [z]; exact ⟨h1, q + d, by omega, by show x.2.1 + nI d = _; rw [h3, nI_add]⟩
      · exact ih r z
section MD
variable {n k kp lo wa mk t j : Nat} {s : cl_S} {c : Nat → Nat}
theorem md_v (h : ivx n s k kp lo wa mk c) (hj : j < k) : ∃ d : Nat, d ≤ 6000 ∧ se_d s.2.1 (nI j) = nI d ∧ me_b s (nI j) = nI (cs c j) ∧ me_e s (nI j) = nI (cs c j + c j) ∧ me_m s (nI j) = nI (c j + 2 * d) ∧ s.2.2.2.2.1.1 j = nI (c j) ∧ me_e s (nI j) - me_b s (nI j) = nI (c j) := by
  have hk := h.1.2.1
  have hi : ii (nI j) 0 99 := ⟨nI_pos' (by omega), nI_le (b := 99) (by omega) (by decide)⟩
  have ej : (nI j).toNatClampNeg = j := nI_clamp (by omega)
  have hb : me_b s (nI j) = nI (cs c j) := by unfold me_b; rw [ej]; exact bs_cs h j (by omega)
  have hc : s.2.2.2.2.1.1 j = nI (c j) := h.2.2.2.2.1.1 j hj
  have he : me_e s (nI j) = nI (cs c j + c j) := by unfold me_e; rw [hb, ro_mi, if_pos hi, ej, hc, nI_add]
  obtain ⟨d, hd1, hd2⟩ := h.2.2.2.2.2.2.2.2.2.2.1.2.1 j (by omega)
  have hd : se_d s.2.1 (nI j) = nI d := by rw [se_d, if_pos hi, ej, hd2]
  have hs : me_e s (nI j) - me_b s (nI j) = nI (c j) := by rw [he, hb, nI_sub (by omega)]; congr 1; omega
  refine ⟨d, hd1, hd, hb, he, ?_, hc, hs⟩
  unfold me_m
  rw [hs, hd, show (2 : Int32) = nI 2 from rfl, pk_mul, nI_add]
theorem md_eq (h : ivx n s k kp lo wa mk c) (hj : j < k) (t : Int32) : (md_s s (nI j) t).1 0 = ho_so t (s.1 0).reverse (me_m s (nI j)) [] ∧ (md_s s (nI j) t).1 2 = md_T (cs c j) (cs c j + c j) (s.1 2) (cl_ga s t (me_m s (nI j))).1 ∧ (md_s s (nI j) t).1 3 = (s.1 3 ++ [(nI (cs c j), -1, -1, nI (c j))]) ++ ro_xd (cl_ga s t (me_m s (nI j))).1 (nI (cs c j)) ∧ (md_s s (nI j) t).1 4 = (md_L (me_b s (nI j)) (me_e s (nI j)) (me_m s (nI j) - nI (c j)) (s.1 4)).map (fa_an (cl_me s + (me_m s (nI j) - nI (c j)))) ∧ (md_s s (nI j) t).1 5 = s.1 5 ∧ (md_s s (nI j) t).1 6 = s.1 6 ∧ (md_s s (nI j) t).2 = (s.2.1, (s.2.2.1.1, s.2.2.1.2.1, s.2.2.1.1 + 3 + se_d s.2.1 (nI j) / 1000), s.2.2.2.1, (upd s.2.2.2.2.1.1 j (me_m s (nI j)), cl_ce s, cl_me s + (me_m s (nI j) - nI (c j))), s.2.2.2.2.2.1, cl_la s, cl_bu s, cl_lo s, cl_wa s + nI (c j), s.2.2.2.2.2.2.2.2.2.2) := by
  obtain ⟨d, hd1, hd2, hb, he, hm, hc, hs⟩ := md_v h hj
  have hk := h.1.2.1
  have ej : (nI j).toNatClampNeg = j := nI_clamp (by omega)
  have hN := h.N
  have hle := cs_le h hj
  have hc0 : 0 < c j := by
    have h1 := h.2.2.2.2.1.2.2 j hj
    have h2 := h.2.2.2.2.2.1.2.2.1
    split at h1 <;> omega
  have hbs : ro_bs s.2.2.2.2.1.1 j = nI (cs c j) := bs_cs h j (by omega)
  have am : cl_me s = nI (ln_N (s.1 2)) := h.2.2.2.2.2.2.2.1
  refine ⟨rfl, ?_, ?_, ?_, rfl, rfl, ?_⟩
  · show ro_xt (ro_bs s.2.2.2.2.1.1 (nI j).toNatClampNeg) (ro_bs s.2.2.2.2.1.1 (nI j).toNatClampNeg + s.2.2.2.2.1.1 (nI j).toNatClampNeg) (cl_me s) (s.1 2) (cl_ga s t (me_m s (nI j))).1 = _
    rw [ej, hbs, hc, nI_add, am]
    exact ro_xt_N _ (by omega) hle h.2.2.2.1.1 (by omega)
  · show s.1 3 ++ [(ro_bs s.2.2.2.2.1.1 (nI j).toNatClampNeg, -1, -1, s.2.2.2.2.1.1 (nI j).toNatClampNeg)] ++ ro_xd (cl_ga s t (me_m s (nI j))).1 (ro_bs s.2.2.2.2.1.1 (nI j).toNatClampNeg) = _
    rw [ej, hbs, hc]
  · show (me_f s (nI j)).1.map (fun r => (r.1, r.2.1, 0, cl_me s + (me_m s (nI j) - s.2.2.2.2.1.1 (nI j).toNatClampNeg))) = _
    unfold me_f
    rw [(fa_c_f _ _ _).1, List.reverse_reverse, List.append_nil, hs, ej, hc]; rfl
  · show (s.2.1, (s.2.2.1.1, s.2.2.1.2.1, s.2.2.1.1 + 3 + se_d s.2.1 (nI j) / 1000), s.2.2.2.1, (upd s.2.2.2.2.1.1 (nI j).toNatClampNeg (me_m s (nI j)), cl_ce s, cl_me s + (me_m s (nI j) - s.2.2.2.2.1.1 (nI j).toNatClampNeg)), s.2.2.2.2.2.1, cl_la s, cl_bu s, cl_lo s, cl_wa s + (me_e s (nI j) - me_b s (nI j)), s.2.2.2.2.2.2.2.2.2.2) = _
    rw [ej, hc, hs]
theorem ivx_md (h : ivx n s k kp lo wa mk c) (hj : j < k) (ht : t < 3) (hz : (cl_ga s (nI t) (me_m s (nI j))).2 = 0) : ∃ wa' c', ivx (n + 1) (md_s s (nI j) (nI t)) k kp lo wa' mk c' := by
  obtain ⟨e0, e2, e3, e4, e5, e6, eu⟩ := md_eq h hj (nI t)
  obtain ⟨d, hd1, hd2, hb, he, hm, hc, hs⟩ := md_v h hj
  obtain ⟨a1, a2, a3, a4, a5, a6, a7, a8, a9, a10, a11, a12⟩ := id h
  have hN := h.N
  have hle := cs_le h hj
  have hlo2 := a6.2.2.1
  have hc1 := a5.2.2 j hj
  have hc0 : 800 ≤ c j := by split at hc1 <;> omega
  have hdd : nI (c j + 2 * d) - nI (c j) = nI (2 * d) := by rw [nI_sub (by omega)]; congr 1; omega
  rw [hm] at hz e0 e2 e3 e4 eu
  rw [hb, he, hdd] at e4
  rw [hdd] at eu
  obtain ⟨g1, g2, g3, g4, g5, g6⟩ := st_ga h ht (show c j + 2 * d < 2 ^ 31 by omega)
  have hsl := so_len h (t := nI t) (m := nI (c j + 2 * d))
  have hMg : ln_N (cl_ga s (nI t) (nI (c j + 2 * d))).1 = c j + 2 * d := by
    rw [hz] at g3
    have : nI (c j + 2 * d - ln_N (cl_ga s (nI t) (nI (c j + 2 * d))).1) = nI 0 := g3.symm
    have := (nI_eq (by omega) (by omega)).mp this
    omega
  obtain ⟨b1, b2, b3, b4⟩ := md_T_f (g := (cl_ga s (nI t) (nI (c j + 2 * d))).1) (show cs c j < cs c j + c j by omega) hle a4.1 g1
  have am : cl_me s = nI (ln_N (s.1 2)) := a8
  rw [hMg] at b2 b4 g5
  have hN2 : cs c j + (c j + 2 * d) + (ln_N (s.1 2) - (cs c j + c j)) = ln_N (s.1 2) + 2 * d := by omega
  rw [hN2] at b2 b4
  rw [am, nI_add] at eu e4
  refine ⟨wa + c j, fun i => if i = j then c j + 2 * d else c i, ?_, ?_, ?_, ?_, ?_, ?_, ?_, ?_, ?_, ?_, ?_, ?_⟩
  · refine ⟨by unfold cl_ce; rw [eu]; exact a1.1, a1.2.1, fun z => absurd z (by omega)⟩
  · unfold iv_p; rw [eu]; exact a2
  · unfold iv_s; rw [e0]; exact ⟨hsl, g4⟩
  · unfold iv_t; rw [e2, e0]; exact ⟨b1, by have := a4.2; omega⟩
  · unfold iv_c; rw [eu, e2, b2]
    refine ⟨fun i hi => ?_, ?_, fun i hi => ?_⟩
    · show upd s.2.2.2.2.1.1 j (nI (c j + 2 * d)) i = nI (if i = j then c j + 2 * d else c i)
      by_cases e : i = j
      · rw [if_pos e, e]; exact pk_us
      · rw [if_neg e]; exact (pk_un e).trans (a5.1 i hi)
    · have := cs_set (c := c) (x := c j + 2 * d) k j hj
      have := a5.2.1
      omega
    · have := a5.2.2 i hi
      show 1000 ≤ (if i = j then c j + 2 * d else c i) + _
      by_cases e : i = j
      · rw [if_pos e]; rw [e] at this ⊢; omega
      · rw [if_neg e]; exact this
  · unfold iv_b cl_bu cl_lo; rw [eu]; exact a6
  · unfold iv_w cl_wa; rw [eu, e0, e2, b2]
    refine ⟨?_, a7.2.1, by have := a7.2.2.1; omega, a7.2.2.2⟩
    show cl_wa s + nI (c j) = _
    rw [a7.1, nI_add]
  · unfold iv_m cl_me; rw [eu, e2, b2]
  · unfold iv_d; rw [e3, e2, b2, e0]
    have hbu1 : cl_bu (md_s s (nI j) (nI t)) = cl_bu s := by unfold cl_bu; rw [eu]; rfl
    have hxl : ∀ (g : List tt_R) (x : Int32), (ro_xd g x).length = g.length := fun g => by
      induction g with
      | nil => intro x; rfl
      | cons q g ih => intro x; rw [ro_xd, List.length_cons, ih, List.length_cons]
    have a92 := a9.2
    rw [hbu1]
    refine ⟨fun q hq => ?_, by rw [List.length_append, List.length_append, hxl, List.length_cons, List.length_nil]; omega⟩
    have := de_xd a2.2.1 (cl_ga s (nI t) (nI (c j + 2 * d))).1 (s.1 3 ++ [(nI (cs c j), -1, -1, nI (c j))]) (fun x => if x < cs c j then ln_c (s.1 2) x else ln_c (s.1 2) (x + c j)) (cs c j) (ln_N (s.1 2) - c j) g1 (fun x hx => by
      rw [List.reverse_append]
      show de_m ((nI (cs c j), -1, -1, nI (c j)) :: (s.1 3).reverse) (nI x) = _
      rw [de_cut (by omega) (by omega) (by omega)]
      by_cases z : x < cs c j
      · rw [if_pos z, if_pos z]; exact a9.1 x (by omega)
      · rw [if_neg z, if_neg z]; exact a9.1 _ (by omega)) (by omega) (by rw [hMg]; omega) q (by rw [hMg]; omega)
    rw [this, b4 q hq, hMg]
    by_cases z1 : q < cs c j
    · rw [if_pos z1, if_pos z1, if_pos z1]
    · rw [if_neg z1, if_neg z1]
      by_cases z2 : q < cs c j + (c j + 2 * d)
      · rw [if_pos z2, if_pos z2]
      · rw [if_neg z2, if_neg z2, if_neg (by omega)]; congr 1; omega
  · unfold iv_f; rw [e4, e2, b2]
    refine ⟨by rw [List.length_map]; exact Nat.le_trans (md_L_len _) a10.1, fun r hr => ?_⟩
    obtain ⟨y, hy, rfl⟩ := List.mem_map.mp hr
    exact md_L_mem (b := cs c j) (e := cs c j + c j) (d := 2 * d) (N := ln_N (s.1 2)) (by omega) hle (by omega) (s.1 4) a10.2 y hy
  · unfold iv_o cl_la cl_fa cl_fb; rw [eu]; exact a11
  · unfold iv_n; rw [e5, e6]; exact a12
end MD
