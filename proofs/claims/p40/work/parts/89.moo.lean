/-! LAYING: what holds afterwards; the model -/
theorem gr_sq (a b : Nat) (ha : a ≤ 6000) (hb : b ≤ 6000) : ∃ e : Nat, e ≤ 36000000 ∧ (nI a - nI b) * (nI a - nI b) = nI e := by
  by_cases h : b ≤ a
  · exact ⟨(a - b) * (a - b), Nat.mul_le_mul (show a - b ≤ 6000 by omega) (show a - b ≤ 6000 by omega), by rw [nI_sub h, pk_mul]⟩
  · refine ⟨(b - a) * (b - a), Nat.mul_le_mul (show b - a ≤ 6000 by omega) (show b - a ≤ 6000 by omega), ?_⟩
    rw [show (nI a - nI b) * (nI a - nI b) = (nI b - nI a) * (nI b - nI a) by grind, nI_sub (by omega), pk_mul]
theorem gr_f {S : se_T} (hS : ∀ i, i < 100 → ∃ d, d ≤ 6000 ∧ S.1 i = nI d) {k : Nat} (hk : k < 100) : ∃ g : Nat, se_g S (nI k) = nI g ∧ 1000 ≤ g ∧ g ≤ 19000 := by
  have hd : ∀ i, i < 100 → ∃ d, d ≤ 6000 ∧ se_d S (nI i) = nI d := fun i hi => by
    obtain ⟨d, h1, h2⟩ := hS i hi
    exact ⟨d, h1, by rw [se_d, if_pos ⟨nI_pos' (by omega), nI_le (b := 99) (by omega) (by decide)⟩, nI_clamp (by omega), h2]⟩
  obtain ⟨a, ha, ea⟩ := hd k hk
  obtain ⟨b, hb, eb⟩ : ∃ d, d ≤ 6000 ∧ se_d S (nI k - 1) = nI d := by
    rcases Nat.eq_zero_or_pos k with z | z
    · subst z; exact ⟨0, by omega, rfl⟩
    · rw [show nI k - 1 = nI (k - 1) from pk_sub (a := k) (b := 1) z]; exact hd _ (by omega)
  obtain ⟨e, he, ee⟩ := gr_sq a b ha hb
  refine ⟨1000 + e / 2000, ?_, by omega, by omega⟩
  rw [se_g, ea, eb, ee, show (2000 : Int32) = nI 2000 from rfl, pk_div (by omega) (by decide) (by decide), show (1000 : Int32) = nI 1000 from rfl, nI_add]
theorem ly_f {s : cl_S} {k y : Nat} (hS : ∀ i, i < 100 → ∃ d, d ≤ 6000 ∧ s.2.1.1 i = nI d) (hc : cl_ce s = nI k) (hk : k < 100) (hy : y ≤ 50) : ∃ M : Nat, ly_m s (nI y) = nI M ∧ 1000 ≤ M ∧ M ≤ 20000 := by
  obtain ⟨g, h1, h2, h3⟩ := gr_f hS hk
  have hgy : g * y ≤ 19000 * 50 := Nat.mul_le_mul h3 hy
  refine ⟨g + g * y / 1000, ?_, by omega, by omega⟩
  rw [ly_m, hc, h1, pk_mul, show (1000 : Int32) = nI 1000 from rfl, pk_div (by omega) (by decide) (by decide), nI_add]
section LY
variable {n k kp lo wa mk t M : Nat} {s : cl_S} {c : Nat → Nat} {m m' : mo_S}
theorem l2_eq (s : cl_S) (t m : Int32) : (cl_l2 s t m).1 0 = ho_so t (s.1 0).reverse m [] ∧ (cl_l2 s t m).1 2 = ap_l (cl_ga s t m).1 (s.1 2) ∧ (cl_l2 s t m).1 3 = s.1 3 ++ pb_d (cl_ga s t m).1 (cl_me s) ∧ (cl_l2 s t m).1 4 = s.1 4 ∧ (cl_l2 s t m).1 5 = s.1 5 ∧ (cl_l2 s t m).1 6 = s.1 6 ∧ (cl_l2 s t m).2 = (s.2.1, s.2.2.1, s.2.2.2.1, (upd s.2.2.2.2.1.1 (cl_ce s).toNatClampNeg m, cl_ce s + 1, ln_m (cl_ga s t m).1 (cl_me s)), s.2.2.2.2.2.1, cl_la s + 1, s.2.2.2.2.2.2.2) := by
  obtain ⟨e1, e2⟩ := pb_eq (cl_ga s t m).1 (s.1 2) (s.1 3) (cl_me s)
  refine ⟨rfl, cl_pb_ap _ _ _ _, e1, rfl, rfl, rfl, ?_⟩
  rw [← e2]; rfl
theorem st_ga (h : ivx n s k kp lo wa mk c) (ht : t < 3) (hM : M < 2 ^ 31) : (∀ q ∈ (cl_ga s (nI t) (nI M)).1, st_w kp q) ∧ ln_N (cl_ga s (nI t) (nI M)).1 ≤ M ∧ (cl_ga s (nI t) (nI M)).2 = nI (M - ln_N (cl_ga s (nI t) (nI M)).1) ∧ (∀ q ∈ ho_so (nI t) (s.1 0).reverse (nI M) [], st_w kp q) ∧ ln_N (ho_so (nI t) (s.1 0).reverse (nI M) []) + ln_N (cl_ga s (nI t) (nI M)).1 = ln_N (s.1 0) ∧ (ho_so (nI t) (s.1 0).reverse (nI M) []).length + (cl_ga s (nI t) (nI M)).1.length ≤ (s.1 0).length + 1 := by
  obtain ⟨a1, a2, a3, a4, a5, a6⟩ := ga_f ht (s.1 0).reverse M (fun r hr => h.2.2.1.2 r (List.mem_reverse.mp hr)) hM
  rw [ln_N_rev] at a5
  rw [List.length_reverse] at a6
  exact ⟨a1, a2, a3, a4, a5, a6⟩
theorem so_len (h : ivx n s k kp lo wa mk c) {t m : Int32} : (ho_so t (s.1 0).reverse m []).length ≤ kp := by
  have := ho_so_len (t := t) (s.1 0).reverse m []
  rw [List.length_reverse, List.length_nil] at this
  have := h.2.2.1.1
  omega
theorem ivx_l2 (h : ivx n s k kp lo wa mk c) (hk : k < 100) (hb : cl_bu s = 0) (ht : t < 3) (hM1 : 1000 ≤ M) (hM2 : M ≤ 20000) (hz : (cl_ga s (nI t) (nI M)).2 = 0) (hla : cl_la s < 12) : ivx n (cl_l2 s (nI t) (nI M)) (k + 1) kp 0 wa mk (fun i => if i = k then M else c i) := by
  obtain ⟨e0, e2, e3, e4, e5, e6, eu⟩ := l2_eq s (nI t) (nI M)
  obtain ⟨g1, g2, g3, g4, g5, g6⟩ := st_ga h ht (show M < 2 ^ 31 by omega)
  have hsl := so_len h (t := nI t) (m := nI M)
  have hN := h.N
  obtain ⟨a1, a2, a3, a4, a5, a6, a7, a8, a9, a10, a11, a12⟩ := id h
  have hMg : ln_N (cl_ga s (nI t) (nI M)).1 = M := by
    rw [hz] at g3
    have : nI (M - ln_N (cl_ga s (nI t) (nI M)).1) = nI 0 := g3.symm
    have := (nI_eq (by omega) (by omega)).mp this
    omega
  obtain ⟨b1, b2, b3, b4⟩ := ap_f (cl_ga s (nI t) (nI M)).1 (s.1 2) a4.1 g1
  have hlo : lo = 0 := by
    rcases a6.1 with ⟨-, z⟩ | z
    · exact z
    · rw [hb] at z; exact absurd z (by decide)
  subst hlo
  have ek : (cl_ce s).toNatClampNeg = k := by rw [a1.1]; exact nI_clamp (by omega)
  have am : cl_me s = nI (ln_N (s.1 2)) := a8
  have hlm : ln_m (cl_ga s (nI t) (nI M)).1 (cl_me s) = nI (ln_N (s.1 2) + M) := by
    rw [am, ln_mS _ _ (fun r hr => (g1 r hr).ln.1), hMg]
  rw [ek, a1.1, nI_1, hlm] at eu
  rw [hMg] at b2 g5
  refine ⟨?_, ?_, ?_, ?_, ?_, ?_, ?_, ?_, ?_, ?_, ?_, ?_⟩
  · exact ⟨by unfold cl_ce; rw [eu], by omega, fun z => by omega⟩
  · unfold iv_p; rw [eu]; exact a2
  · unfold iv_s; rw [e0]; exact ⟨hsl, g4⟩
  · unfold iv_t; rw [e2, e0]; exact ⟨b1, by have := a4.2; omega⟩
  · unfold iv_c; rw [eu, e2, b2]
    refine ⟨fun i hi => ?_, ?_, fun i hi => ?_⟩
    · show upd s.2.2.2.2.1.1 k (nI M) i = nI (if i = k then M else c i)
      by_cases e : i = k
      · rw [if_pos e, e]; exact pk_us
      · rw [if_neg e]; exact (pk_un e).trans (a5.1 i (by omega))
    · show cs (fun i => if i = k then M else c i) k + (if k = k then M else c k) = _
      rw [cs_upd k k (Nat.le_refl _), if_pos rfl, a5.2.1]
    · show 1000 ≤ (if i = k then M else c i) + (if i + 1 = k + 1 then 0 else 0)
      have := fun z : i < k => a5.2.2 i z
      by_cases e : i = k
      · rw [if_pos e]; omega
      · rw [if_neg e]
        have := this (by omega)
        split at this <;> omega
  · unfold iv_b cl_bu cl_lo; rw [eu]
    exact ⟨Or.inl ⟨hb, rfl⟩, a6.2.1, by omega, fun z => by omega⟩
  · unfold iv_w cl_wa; rw [eu, e0, e2, b2]
    exact ⟨a7.1, a7.2.1, by have := a7.2.2.1; omega, a7.2.2.2⟩
  · unfold iv_m cl_me; rw [eu, e2, b2]
  · unfold iv_d; rw [e3, e2, b2, e0]
    have hbu1 : cl_bu (cl_l2 s (nI t) (nI M)) = 0 := by unfold cl_bu; rw [eu]; exact hb
    have a92 := a9.2
    rw [hb, if_pos rfl] at a92
    rw [hbu1, if_pos rfl]
    refine ⟨fun q hq => ?_, by rw [List.length_append, pb_d_len]; omega⟩
    rw [b4, am]
    exact de_pb a2.2.1 (cl_ga s (nI t) (nI M)).1 (s.1 2) (s.1 3) g1 a9.1 (by rw [hMg]; omega) q (by rw [hMg]; exact hq)
  · unfold iv_f; rw [e4, e2, b2]
    refine ⟨a10.1, fun r hr => ?_⟩
    obtain ⟨x1, q, x2, x3⟩ := a10.2 r hr
    exact ⟨x1, q, by omega, x3⟩
  · unfold iv_o cl_la cl_fa cl_fb; rw [eu]
    refine ⟨?_, a11.2⟩
    obtain ⟨x, hx1, hx2⟩ := a11.1
    rw [hx2] at hla
    have := (nI_ltI (b := 12) (by omega) (by decide)).mp hla
    exact ⟨x + 1, by omega, by show cl_la s + 1 = _; rw [hx2, nI_1]⟩
  · unfold iv_n; rw [e5, e6]; exact a12
theorem ivx_t1 (h : ivx n s k kp lo wa mk c) (g : List tt_R) : ivx n (cl_t s 1 g) k kp lo wa mk c := h
theorem iv_l1 (h : iv n s) {sl t : Int32} (hsl : ii sl 0 50) (htt : ii t 0 2) : iv n (cl_l1 s sl t).2 := by
  obtain ⟨k, kp, lo, wa, mk, c, h⟩ := h
  unfold cl_l1
  by_cases e1 : cl_may s ∧ cl_op s.2.1 (cl_ce s)
  rotate_left
  · rw [if_neg e1]; exact ⟨k, kp, lo, wa, mk, c, h⟩
  rw [if_pos e1]
  by_cases e2 : (cl_ga s t (ly_m s sl)).2 = 0 ∧ ho_ha (cl_ty s) (se_d s.2.1 (cl_ce s)) (cl_ga s t (ly_m s sl)).1 = true ∧ ho_fi (cl_ty s) (cl_ga s t (ly_m s sl)).1 (cl_tyAt s (cl_me s - 1)) (-1) = true
  rotate_left
  · rw [if_neg e2]; exact ⟨k, kp, lo, wa, mk, c, ivx_t1 h _⟩
  rw [if_pos e2]
  have hk : k < 100 := by
    have := h.1.2.1
    rcases Nat.lt_or_ge k 100 with z | z
    · exact z
    · exact absurd (h.1.1.trans (by rw [show k = 100 by omega]; rfl)) e1.1.2.2.2
  obtain ⟨y, hy, rfl⟩ : ∃ y : Nat, y ≤ 50 ∧ sl = nI y := by
    obtain ⟨j, hj, rfl⟩ := nI_of (x := sl) (Int32.not_lt.mpr hsl.1)
    exact ⟨j, (nI_leI hj (by decide : 50 < 2 ^ 31)).mp hsl.2, rfl⟩
  obtain ⟨u, hu, rfl⟩ : ∃ u : Nat, u < 3 ∧ t = nI u := by
    obtain ⟨j, hj, rfl⟩ := nI_of (x := t) (Int32.not_lt.mpr htt.1)
    exact ⟨j, by have := (nI_leI hj (by decide : 2 < 2 ^ 31)).mp htt.2; omega, rfl⟩
  obtain ⟨M, eM, hM1, hM2⟩ := ly_f (s := s) h.2.2.2.2.2.2.2.2.2.2.1.2.1 h.1.1 hk hy
  rw [eM] at e2 ⊢
  exact ⟨_, _, _, _, _, _, ivx_l2 h hk e1.1.2.2.1 hu hM1 hM2 e2.1 e1.1.2.1⟩
end LY
