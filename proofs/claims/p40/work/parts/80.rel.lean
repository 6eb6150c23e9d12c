/-! THE RELATION of class and model, and what holds of the class's state after n calls -/
def st_w (kp : Nat) (r : tt_R) : Prop := ∃ t p f n : Nat, r = (nI t, nI p, nI f, nI n) ∧ t < 3 ∧ p < kp ∧ 1 ≤ n ∧ f + n ≤ 90000
def cs (c : Nat → Nat) : Nat → Nat
  | 0 => 0
  | k + 1 => cs c k + c k
def iv_k (s : cl_S) (k : Nat) : Prop := cl_ce s = nI k ∧ k ≤ 100 ∧ (k = 0 → s.1 2 = [])
def iv_p (s : cl_S) (kp : Nat) : Prop := s.2.2.2.1.2.1 = nI kp ∧ kp ≤ 30 ∧ ∀ p, p < kp → sm (s.2.2.2.1.1 p)
def iv_s (s : cl_S) (kp : Nat) : Prop := (s.1 0).length ≤ kp ∧ ∀ r ∈ s.1 0, st_w kp r
def iv_t (n : Nat) (s : cl_S) (k kp : Nat) : Prop := (∀ r ∈ s.1 2, ln_k kp r) ∧ (s.1 2).length + 2 * (s.1 0).length ≤ 2 * k + 6 * n
def iv_c (s : cl_S) (k lo : Nat) (c : Nat → Nat) : Prop := (∀ i, i < k → s.2.2.2.2.1.1 i = nI (c i)) ∧ cs c k = ln_N (s.1 2) ∧ ∀ i, i < k → 1000 ≤ c i + (if i + 1 = k then lo else 0)
def iv_b (s : cl_S) (k lo : Nat) : Prop := (cl_bu s = 0 ∧ lo = 0 ∨ cl_bu s = 1) ∧ cl_lo s = nI lo ∧ lo ≤ 200 ∧ (k = 0 → lo = 0)
def iv_w (s : cl_S) (kp wa mk : Nat) : Prop := cl_wa s = nI wa ∧ s.2.2.2.1.2.2 = nI mk ∧ ln_N (s.1 0) + ln_N (s.1 2) + wa = mk ∧ mk ≤ 90000 * kp
def iv_m (s : cl_S) : Prop := cl_me s = nI (ln_N (s.1 2))
def iv_d (n : Nat) (s : cl_S) (k : Nat) : Prop := (∀ q, q < ln_N (s.1 2) → de_m (s.1 3).reverse (nI q) = ln_c (s.1 2) q) ∧ (s.1 3).length + (s.1 0).length + (if cl_bu s = 0 then 1 else 0) ≤ k + 3 * n + 1
def iv_f (s : cl_S) : Prop := (s.1 4).length ≤ 4 ∧ ∀ r ∈ s.1 4, (r.1 = 0 ∨ r.1 = 1) ∧ ∃ q, q < ln_N (s.1 2) ∧ r.2.1 = nI q
def iv_o (s : cl_S) : Prop := (∃ x, x ≤ 12 ∧ cl_la s = nI x) ∧ (∀ i, i < 100 → ∃ d, d ≤ 6000 ∧ s.2.1.1 i = nI d) ∧ ∃ a b, a ≤ 9999 ∧ b ≤ 9999 ∧ cl_fa s = nI a ∧ cl_fb s = nI b
def iv_y (s : cl_S) : Prop := ∃ d, d ≤ 20000 ∧ s.2.2.1.1 = nI d
/-- the links and the demands -/
def iv_n (s : cl_S) : Prop := (1 ≤ (s.1 5).length ∧ (s.1 5).length ≤ 6 ∧ (s.1 5)[0]? = some (0, 1, 8, 0) ∧ ∀ r ∈ s.1 5, ∃ a b w d : Nat, r = (nI a, nI b, nI w, nI d) ∧ a < 4 ∧ b < 4 ∧ a ≠ b ∧ 1 ≤ w ∧ w ≤ 20 ∧ d < 2) ∧ (s.1 6).length ≤ 10 ∧ ∀ r ∈ s.1 6, ∃ a b w z : Nat, r = (nI a, nI b, nI w, nI z) ∧ a < 4 ∧ b < 4 ∧ a ≠ b ∧ 1 ≤ w ∧ w ≤ 8 ∧ z < 64
def ivx (n : Nat) (s : cl_S) (k kp lo wa mk : Nat) (c : Nat → Nat) : Prop := iv_k s k ∧ iv_p s kp ∧ iv_s s kp ∧ iv_t n s k kp ∧ iv_c s k lo c ∧ iv_b s k lo ∧ iv_w s kp wa mk ∧ iv_m s ∧ iv_d n s k ∧ iv_f s ∧ iv_o s ∧ iv_n s
def iv (n : Nat) (s : cl_S) : Prop := ∃ (k kp lo wa mk : Nat) (c : Nat → Nat), ivx n s k kp lo wa mk c
section IV
variable {n k kp lo wa mk : Nat} {s : cl_S} {c : Nat → Nat}
theorem ivx.W (h : ivx n s k kp lo wa mk c) (hn : n ≤ 513) : ln_W (s.1 2) := by
  obtain ⟨a1, a2, a3, a4, -⟩ := h
  have := a4.2
  have := a1.2.1
  exact ln_W.of a4.1 a2.2.1 (by omega)
theorem ivx.N (h : ivx n s k kp lo wa mk c) : ln_N (s.1 2) ≤ 2700000 := by
  obtain ⟨a1, a2, a3, a4, a5, a6, a7, -⟩ := h
  have := a7.2.2.1
  have := a7.2.2.2
  have := a2.2.1
  omega
theorem cs_ge {c : Nat → Nat} {x : Nat} : ∀ (k lo : Nat), 1 ≤ k → (∀ i, i < k → x ≤ c i + (if i + 1 = k then lo else 0)) → x ≤ cs c k + lo
  | k + 1, lo, _, h => by
    have := h k (Nat.lt_succ_self k)
    rw [if_pos rfl] at this
    show x ≤ cs c k + c k + lo
    omega
theorem ivx.N0 (h : ivx n s k kp lo wa mk c) (hz : ln_N (s.1 2) ≤ 799) : k = 0 ∧ s.1 2 = [] := by
  obtain ⟨a1, a2, a3, a4, a5, a6, a7, -⟩ := h
  rcases Nat.eq_zero_or_pos k with z | z
  · exact ⟨z, a1.2.2 z⟩
  · have := cs_ge k lo z a5.2.2
    have := a6.2.2.1
    have := a5.2.1
    omega
/-- a buoyed line -/
theorem bu_f (h : ivx n s k kp lo wa mk c) : (∀ r ∈ bu_T (s.1 2), ln_k kp r) ∧ ln_N (bu_T (s.1 2)) = ln_N (s.1 2) - mm0 (s.1 2) ∧ (bu_T (s.1 2)).length ≤ (s.1 2).length ∧ ∀ q, q < ln_N (s.1 2) - mm0 (s.1 2) → ln_c (bu_T (s.1 2)) q = ln_c (s.1 2) q := by
  have hN := h.N
  obtain ⟨b1, b2, b3, b4⟩ := ro_le_f (kp := kp) (s.1 2).reverse (mm0 (s.1 2)) (fun r hr => h.2.2.2.1.1 r (List.mem_reverse.mp hr)) (by rw [ln_N_rev]; exact Nat.min_le_left _ _) (by rw [ln_N_rev]; omega)
  rw [ln_N_rev] at b2 b4
  rw [List.length_reverse] at b3
  rw [List.reverse_reverse] at b4
  exact ⟨b1, b2, b3, b4⟩
theorem ivx.W2 (h : ivx n s k kp lo wa mk c) (hn : n ≤ 513) : ln_W (bu_T (s.1 2)) := by
  obtain ⟨b1, b2, b3, b4⟩ := bu_f h
  have := (h.W hn).1
  exact ln_W.of b1 h.2.1.2.1 (by omega)
theorem upd_id (f : Nat → Int32) (k : Nat) : upd f k (f k) = f := funext fun j => by
  by_cases e : j = k
  · rw [e]; exact pk_us
  · exact pk_un e
theorem buoy_0 (h : ivx n s k kp lo wa mk c) (hz : mm0 (s.1 2) = 0) : k = 0 ∧ s.1 2 = [] ∧ s.1 4 = [] ∧ cl_me s = 0 := by
  have hN : ln_N (s.1 2) = 0 := by unfold mm0 at hz; omega
  obtain ⟨z1, z2⟩ := h.N0 (by omega)
  refine ⟨z1, z2, ?_, ?_⟩
  · rcases List.eq_nil_or_concat (s.1 4) with e | ⟨L, r, e⟩
    · exact e
    · obtain ⟨-, q, hq, -⟩ := h.2.2.2.2.2.2.2.2.2.1.2 r (by rw [e]; simp)
      omega
  · have : iv_m s := h.2.2.2.2.2.2.2.1
    unfold iv_m at this
    rw [this, hN]; rfl
theorem mm0_pos (hz : ¬ mm0 (s.1 2) = 0) : ¬ nI (mm0 (s.1 2)) ≤ 0 := by
  have : mm0 (s.1 2) ≤ 200 := Nat.min_le_right _ _
  exact nI_nle (by omega) (by omega)
theorem bu_m (h : ivx n s k kp lo wa mk c) (hn : n ≤ 513) : ln_m (bu_T (s.1 2)) 0 = cl_me s - nI (mm0 (s.1 2)) := by
  obtain ⟨b1, b2, b3, b4⟩ := bu_f h
  have e := ln_m_N (bu_T (s.1 2)) 0 (h.W2 hn)
  rw [Nat.zero_add, b2] at e
  have hm : iv_m s := h.2.2.2.2.2.2.2.1
  unfold iv_m at hm
  rw [hm, nI_sub (show mm0 (s.1 2) ≤ ln_N (s.1 2) from Nat.min_le_left _ _)]
  exact e
theorem bu_mn (h : ivx n s k kp lo wa mk c) : mn 200 (cl_me s) = nI (mm0 (s.1 2)) := by
  have hm : iv_m s := h.2.2.2.2.2.2.2.1
  unfold iv_m at hm
  have := h.N
  rw [hm]; exact mn_200 (by omega)
/-- the class's buoyed state in one form -/
theorem cl_buoy_eq (h : ivx n s k kp lo wa mk c) (hn : n ≤ 513) : (cl_buoy s).1 0 = s.1 0 ∧ (cl_buoy s).1 2 = bu_T (s.1 2) ∧ (cl_buoy s).1 4 = bu_L (s.1 2) (s.1 4) ∧ (cl_buoy s).1 5 = s.1 5 ∧ (cl_buoy s).1 6 = s.1 6 ∧ (cl_buoy s).2 = (s.2.1, s.2.2.1, s.2.2.2.1, (upd s.2.2.2.2.1.1 (k - 1) (s.2.2.2.2.1.1 (k - 1) - nI (mm0 (s.1 2))), cl_ce s, cl_me s - nI (mm0 (s.1 2))), s.2.2.2.2.2.1, cl_la s, 1, nI (mm0 (s.1 2)), cl_wa s + nI (mm0 (s.1 2)), s.2.2.2.2.2.2.2.2.2.2) ∧ ((cl_buoy s).1 3 = s.1 3 ∧ mm0 (s.1 2) = 0 ∨ (cl_buoy s).1 3 = s.1 3 ++ [(cl_me s - nI (mm0 (s.1 2)), -1, -1, nI (mm0 (s.1 2)))] ∧ ¬ mm0 (s.1 2) = 0) := by
  unfold cl_buoy
  rw [bu_mn h]
  by_cases hz : mm0 (s.1 2) = 0
  · obtain ⟨z1, z2, z3, z4⟩ := buoy_0 h hz
    rw [hz, if_pos (show nI 0 ≤ 0 by decide)]
    have e0 : s.2.2.2.2.1.1 (k - 1) - nI 0 = s.2.2.2.2.1.1 (k - 1) := by rw [nI_0]; grind
    have e1 : cl_me s - nI 0 = cl_me s := by rw [nI_0]; grind
    refine ⟨rfl, ?_, ?_, rfl, rfl, ?_, Or.inl ⟨rfl, rfl⟩⟩
    · show s.1 2 = bu_T (s.1 2)
      rw [z2]; rfl
    · show (fa_k (cl_me s) (s.1 4).reverse []).map _ = bu_L (s.1 2) (s.1 4)
      rw [z3]; rfl
    · rw [e0, e1, upd_id]; rfl
  · have hk : 1 ≤ k := by
      rcases Nat.eq_zero_or_pos k with z | z
      · have := h.1.2.2 z
        unfold mm0 at hz
        rw [this] at hz
        exact absurd rfl hz
      · exact z
    have ek : (cl_ce s - 1).toNatClampNeg = k - 1 := by
      rw [h.1.1, show nI k - 1 = nI (k - 1) from pk_sub (a := k) (b := 1) hk]
      have := h.1.2.1
      exact nI_clamp (by omega)
    rw [if_neg (mm0_pos hz), ek]
    refine ⟨rfl, rfl, ?_, rfl, rfl, ?_, Or.inr ⟨rfl, hz⟩⟩
    · show (fa_k (cl_me s - nI (mm0 (s.1 2))) (s.1 4).reverse []).map _ = bu_L (s.1 2) (s.1 4)
      rw [fa_k_f, List.reverse_reverse, List.append_nil, bu_L, bu_m h hn]; rfl
    · rw [show s.2.2.2.2.1.1 (k - 1) + -nI (mm0 (s.1 2)) = s.2.2.2.2.1.1 (k - 1) - nI (mm0 (s.1 2)) by grind]; rfl
theorem cs_upd {c : Nat → Nat} {x : Nat} : ∀ (k j : Nat), k ≤ j → cs (fun i => if i = j then x else c i) k = cs c k
  | 0, _, _ => rfl
  | k + 1, j, h => by
    show cs _ k + (if k = j then x else c k) = cs c k + c k
    rw [cs_upd k j (by omega), if_neg (by omega)]
theorem iv_buoy (h : ivx n s k kp lo wa mk c) (hn : n ≤ 513) (hb : cl_bu s = 0) : iv n (cl_buoy s) := by
  obtain ⟨b1, b2, b3, b4⟩ := bu_f h
  obtain ⟨e0, e2, e4, e5, e6, eu, e3⟩ := cl_buoy_eq h hn
  have hm2 : mm0 (s.1 2) ≤ 200 := Nat.min_le_right _ _
  have hm1 : mm0 (s.1 2) ≤ ln_N (s.1 2) := Nat.min_le_left _ _
  have hN := h.N
  have hbm := bu_m h hn
  obtain ⟨a1, a2, a3, a4, a5, a6, a7, a8, a9, a10, a11, a12⟩ := id h
  have hlo : lo = 0 := by
    rcases a6.1 with ⟨-, z⟩ | z
    · exact z
    · rw [hb] at z; exact absurd z (by decide)
  subst hlo
  have am : cl_me s = nI (ln_N (s.1 2)) := a8
  refine ⟨k, kp, mm0 (s.1 2), wa + mm0 (s.1 2), mk, fun i => if i = k - 1 then c i - mm0 (s.1 2) else c i, ?_, ?_, ?_, ?_, ?_, ?_, ?_, ?_, ?_, ?_, ?_, ?_⟩
  · refine ⟨by unfold cl_ce; rw [eu]; exact a1.1, a1.2.1, fun z => ?_⟩
    rw [e2, a1.2.2 z]; rfl
  · unfold iv_p; rw [eu]; exact a2
  · unfold iv_s; rw [e0]; exact a3
  · unfold iv_t; rw [e2, e0]
    exact ⟨b1, by have := a4.2; omega⟩
  · unfold iv_c; rw [eu, e2, b2]
    rcases Nat.eq_zero_or_pos k with hk | hk
    · subst hk
      refine ⟨fun i hi => absurd hi (by omega), ?_, fun i hi => absurd hi (by omega)⟩
      rw [a1.2.2 rfl]; rfl
    · have hc1 := a5.2.2 (k - 1) (by omega)
      rw [if_pos (by omega)] at hc1
      refine ⟨fun i hi => ?_, ?_, fun i hi => ?_⟩
      · show upd s.2.2.2.2.1.1 (k - 1) (s.2.2.2.2.1.1 (k - 1) - nI (mm0 (s.1 2))) i = nI (if i = k - 1 then c i - mm0 (s.1 2) else c i)
        by_cases e : i = k - 1
        · rw [if_pos e, e]
          refine pk_us.trans ?_
          rw [a5.1 (k - 1) (by omega), nI_sub (by omega)]
        · rw [if_neg e]
          exact (pk_un e).trans (a5.1 i hi)
      · obtain ⟨j, rfl⟩ : ∃ j, k = j + 1 := ⟨k - 1, by omega⟩
        rw [← a5.2.1]
        show cs _ j + (if j = j + 1 - 1 then c j - mm0 (s.1 2) else c j) = cs c j + c j - mm0 (s.1 2)
        rw [if_pos (by omega)]
        have := cs_upd (c := c) (x := c j - mm0 (s.1 2)) j j (Nat.le_refl _)
        have e9 : (fun i => if i = j + 1 - 1 then c i - mm0 (s.1 2) else c i) = (fun i => if i = j then c j - mm0 (s.1 2) else c i) := funext fun i => by
          by_cases e : i = j
          · rw [if_pos (by omega), if_pos e, e]
          · rw [if_neg (by omega), if_neg e]
        have hc2 : 1000 ≤ c j := hc1
        rw [e9, this]; omega
      · have := a5.2.2 i hi
        show 1000 ≤ (if i = k - 1 then c i - mm0 (s.1 2) else c i) + (if i + 1 = k then mm0 (s.1 2) else 0)
        by_cases e : i + 1 = k
        · have hik : i = k - 1 := by omega
          rw [if_pos e] at this ⊢
          rw [if_pos hik]; omega
        · rw [if_neg e] at this ⊢
          rw [if_neg (by omega)]; omega
  · unfold iv_b cl_bu cl_lo; rw [eu]
    refine ⟨Or.inr rfl, rfl, hm2, fun z => ?_⟩
    unfold mm0; rw [a1.2.2 z]; rfl
  · unfold iv_w cl_wa; rw [eu, e0, e2, b2]
    refine ⟨?_, a7.2.1, by have := a7.2.2.1; omega, a7.2.2.2⟩
    show cl_wa s + nI (mm0 (s.1 2)) = _
    rw [a7.1, nI_add]
  · unfold iv_m cl_me; rw [eu, e2, b2]
    show cl_me s - nI (mm0 (s.1 2)) = _
    rw [am, nI_sub hm1]
  · unfold iv_d; rw [e0, e2, b2]
    have hbu1 : cl_bu (cl_buoy s) = 1 := by unfold cl_bu; rw [eu]
    have a92 := a9.2
    rw [hb, if_pos rfl] at a92
    rw [hbu1, if_neg (by decide)]
    rcases e3 with ⟨e3, hz⟩ | ⟨e3, hz⟩
    · rw [e3]
      exact ⟨fun q hq => by rw [b4 q hq]; exact a9.1 q (by omega), by omega⟩
    · rw [e3]
      refine ⟨fun q hq => ?_, by rw [List.length_append, List.length_cons, List.length_nil]; omega⟩
      rw [b4 q hq, ← a9.1 q (by omega), List.reverse_append]
      show de_m ((cl_me s - nI (mm0 (s.1 2)), -1, -1, nI (mm0 (s.1 2))) :: (s.1 3).reverse) (nI q) = _
      rw [de_m, am, nI_sub hm1]
      have hneg : nI q - nI (ln_N (s.1 2) - mm0 (s.1 2)) < 0 := pk_sneg (by omega) hq
      rw [if_pos hneg, if_pos (Int32.lt_of_lt_of_le hneg (nI_pos' (by omega))), if_pos hneg]
  · unfold iv_f; rw [e4, e2, b2]
    unfold bu_L
    refine ⟨by rw [List.length_map]; exact Nat.le_trans (List.length_filter_le _ _) a10.1, fun r hr => ?_⟩
    obtain ⟨y, hy, rfl⟩ := List.mem_map.mp hr
    obtain ⟨hy1, hy2⟩ := List.mem_filter.mp hy
    obtain ⟨g1, q, g2, g3⟩ := a10.2 y hy1
    refine ⟨g1, q, ?_, g3⟩
    have := of_decide_eq_true hy2
    rw [hbm, am, nI_sub hm1, g3] at this
    exact (nI_ltI (by omega) (by omega)).mp this
  · unfold iv_o cl_la cl_fa cl_fb; rw [eu]; exact a11
  · unfold iv_n; rw [e5, e6]; exact a12
end IV
