/-! P40, PURE: what the law keeps beside the class; a cell that is laid -/
def tg (a : Nat → Int32) (L : List Int32) : Nat → Int32 := fun i => if i < 3 then a i else (L[i - 3]?).getD 0
theorem tg_e {a a' : Nat → Int32} {L L' : List Int32} (h : ∀ j, j < 3 → a j = a' j) (hL : L = L') : tg a L = tg a' L' := by
  subst hL
  funext i
  unfold tg
  by_cases z : i < 3
  · rw [if_pos z, if_pos z, h i z]
  · rw [if_neg z, if_neg z]
theorem tg_a {a : Nat → Int32} {L : List Int32} {j : Nat} (h : j < 3) : tg a L j = a j := if_pos h
theorem tg_b {a : Nat → Int32} {L : List Int32} {j : Nat} {v : Int32} (h : 3 ≤ j) (e : L[j - 3]? = some v) : tg a L j = v := by
  unfold tg
  rw [if_neg (by omega), e]; rfl
theorem tg_u {a : Nat → Int32} {L : List Int32} {j : Nat} {x : Int32} (h : 3 ≤ j) (h2 : j - 3 < L.length) : upd (tg a L) j x = tg a (L.set (j - 3) x) := by
  funext i
  by_cases e : i = j
  · subst e
    refine pk_us.trans (tg_b h ?_).symm
    rw [List.getElem?_set_self h2]
  · refine (pk_un e).trans ?_
    unfold tg
    by_cases z : i < 3
    · rw [if_pos z, if_pos z]
    · rw [if_neg z, if_neg z, List.getElem?_set_ne (by omega)]
theorem tg_v {a : Nat → Int32} {L : List Int32} {j : Nat} {x : Int32} (h : j < 3) : upd (tg a L) j x = tg (upd a j x) L := by
  funext i
  unfold tg
  by_cases e : i = j
  · subst e
    rw [if_pos h]
    exact pk_us.trans pk_us.symm
  · refine (pk_un e).trans ?_
    by_cases z : i < 3
    · rw [if_pos z, if_pos z]; exact (pk_un e).symm
    · rw [if_neg z, if_neg z]
def t_a (s : cl_S) : Nat → Int32 := fun j => ho_m (nI j) (s.1 0) 0
def t_l (s : cl_S) : Int32 := if ro_lk (s.1 2) = 2 then 1 else 0
def t_L (s : cl_S) (r l : Int32) : List Int32 := [s.2.2.1.1, s.2.2.1.2.1, cl_la s, cl_ce s, cl_bu s, cl_lo s, cl_wa s, s.2.2.1.2.2, r, l]
def t_r (s : cl_S) : Int32 := ro_n 2 (s.1 2) 0
def t_f (s : cl_S) (r : Int32) : Nat → Int32 := tg (t_a s) (t_L s r (t_l s))
abbrev c_s (s : cl_S) : Nat → Int32 := s.2.2.2.2.1.1
def p_T (s : cl_S) (y kp : Nat) : Prop := y < 4 ∧ ∀ p, p < kp → s.2.2.2.1.1 p = nI y
def p_W (s : cl_S) : Prop := (∀ i, s.2.1.2.2.1 i = 0) ∧ ∀ i, s.2.1.2.2.2 i = 0
def p_D (s : cl_S) (d : Nat → Int32) : Prop := ∀ i, i < 40 → dp d i = s.2.1.1 i
def p_B (s : cl_S) : Prop := ¬ cl_bu s = 0 → ¬ ro_lk (s.1 2) = 2
/-- what holds of the class's state in every run of the law -/
def p_I (n : Nat) (s : cl_S) (d : Nat → Int32) (y kp k : Nat) : Prop := (∃ lo wa mk c, ivx n s k kp lo wa mk c) ∧ p_T s y kp ∧ p_W s ∧ p_D s d ∧ nj (s.1 2) ∧ p_B s ∧ s.1 4 = []
theorem p_D.d {s : cl_S} {d : Nat → Int32} {k : Nat} (h : p_D s d) (hk : k < 40) : se_d s.2.1 (nI k) = dp d k := by
  unfold se_d
  rw [if_pos ⟨nI_pos' (by omega), nI_le (b := 99) (by omega) (by decide)⟩, nI_clamp (by omega), h k hk]
theorem p_D.g {s : cl_S} {d : Nat → Int32} {k : Nat} (h : p_D s d) (hk : k < 40) : se_g s.2.1 (nI k) = gr_d d k := by
  unfold se_g gr_d
  rw [h.d hk]
  rcases Nat.eq_zero_or_pos k with z | z
  · subst z
    rw [if_pos rfl, show se_d s.2.1 (nI 0 - 1) = 0 from if_neg (by decide)]
  · rw [if_neg (by omega), show nI k - 1 = nI (k - 1) from pk_sub (a := k) (b := 1) z, h.d (by omega)]
theorem ly_d {s : cl_S} {d : Nat → Int32} {k : Nat} (h : p_D s d) (hk : k < 40) (hc : cl_ce s = nI k) (sl : Int32) : ly_m s sl = du d k sl := by
  unfold ly_m du
  rw [hc, h.g hk]
section PL3
variable {n k kp lo wa mk : Nat} {s : cl_S} {c d : Nat → Nat}
theorem ivx.st (h : ivx n s k kp lo wa mk c) : ∀ r ∈ s.1 0, st_w kp r := h.2.2.1.2
theorem ta_ts (h : ivx n s k kp lo wa mk c) (j : Nat) : t_a s j = nI (ts j (s.1 0)) := ho_m_ts0 h.st
theorem ts_sm (h : ivx n s k kp lo wa mk c) (j : Nat) : ts j (s.1 0) ≤ 2700000 := by
  have := ts_le j (s.1 0)
  obtain ⟨a1, a2, a3, a4, a5, a6, a7, -⟩ := h
  have := a7.2.2.1
  have := a7.2.2.2
  have := a2.2.1
  omega
/-- what is gathered of M metres from the tank j -/
theorem ga_law (h : ivx n s k kp lo wa mk c) {j M : Nat} (hj : j < 3) (hM : M < 2 ^ 31) : (∀ q ∈ (cl_ga s (nI j) (nI M)).1, st_w kp q) ∧ ((cl_ga s (nI j) (nI M)).2 = 0 ↔ nI M ≤ t_a s j) ∧ (nI M ≤ t_a s j → ln_N (cl_ga s (nI j) (nI M)).1 = M) := by
  obtain ⟨a1, a2, a3, -⟩ := st_ga h hj hM
  have b := (ga_ts hj (s.1 0).reverse M (fun r hr => h.st r (List.mem_reverse.mp hr)) hM).1
  rw [ts_rev] at b
  have b' : ln_N (cl_ga s (nI j) (nI M)).1 = min M (ts j (s.1 0)) := b
  have := ts_sm h j
  have e : nI M ≤ t_a s j ↔ M ≤ ts j (s.1 0) := by rw [ta_ts h]; exact nI_leI hM (by omega)
  refine ⟨a1, ?_, fun z => ?_⟩
  · rw [a3, e, b']
    exact ⟨fun z => by have := (nI_eq (b := 0) (by omega) (by decide)).mp z; omega, fun z => by rw [show M - min M (ts j (s.1 0)) = 0 by omega]; rfl⟩
  · have := e.mp z; omega
/-- the tanks behind it -/
theorem so_law (h : ivx n s k kp lo wa mk c) {j M : Nat} (hj : j < 3) (hM : M < 2 ^ 31) (hz : nI M ≤ t_a s j) {s' : cl_S} {kq : Nat} (hs : s'.1 0 = ho_so (nI j) (s.1 0).reverse (nI M) []) (hk : ∀ r ∈ s'.1 0, st_w kq r) : ∀ u, u < 3 → t_a s' u = upd (t_a s) j (t_a s j - nI M) u := by
  intro u hu
  have b := (ga_ts hj (s.1 0).reverse M (fun r hr => h.st r (List.mem_reverse.mp hr)) hM).2 u hu
  rw [ts_rev, ts_rev, ← hs] at b
  have e : M ≤ ts j (s.1 0) := by
    have := ts_sm h j
    rw [ta_ts h] at hz
    exact (nI_leI hM (by omega)).mp hz
  have e2 : t_a s' u = nI (ts u (s'.1 0)) := ho_m_ts0 hk
  rw [e2]
  by_cases z : u = j
  · subst z
    rw [if_pos rfl] at b
    refine Eq.trans ?_ (show upd (t_a s) u (t_a s u - nI M) u = _ from pk_us).symm
    rw [ta_ts h, nI_sub e]
    congr 1; omega
  · rw [if_neg z] at b
    refine Eq.trans ?_ (pk_un z).symm
    rw [ta_ts h]
    congr 1
end PL3
/-- the law's test for one cell more -/
abbrev lay_c (s : cl_S) (d : Nat → Int32) (y k x j : Nat) : Prop := cl_wo s ∧ cl_la s < 12 ∧ cl_bu s = 0 ∧ du d k (nI x) ≤ t_a s j ∧ ho_pl (nI y) (dp d k) ≤ ho_mp (nI y)
theorem l1_law {n k kp y x j : Nat} {s : cl_S} {d : Nat → Int32} (h : p_I n s d y kp k) (hn : n ≤ 512) (hk : k < 40) (hj : j < 3) (hx : x ≤ 50) :
    (lay_c s d y k x j → (cl_l1 s (nI x) (nI j)).1 = true ∧ p_I n (cl_l1 s (nI x) (nI j)).2 d y kp (k + 1) ∧ t_f (cl_l1 s (nI x) (nI j)).2 (t_r (cl_l1 s (nI x) (nI j)).2) = tg (upd (t_a s) j (t_a s j - du d k (nI x))) [s.2.2.1.1, s.2.2.1.2.1, cl_la s + 1, cl_ce s + 1, cl_bu s, cl_lo s, cl_wa s, s.2.2.1.2.2, t_r s, 0] ∧ c_s (cl_l1 s (nI x) (nI j)).2 = upd (c_s s) k (du d k (nI x))) ∧
    (¬ lay_c s d y k x j → ¬ (cl_l1 s (nI x) (nI j)).1 = true ∧ p_I n (cl_l1 s (nI x) (nI j)).2 d y kp k ∧ t_f (cl_l1 s (nI x) (nI j)).2 (t_r (cl_l1 s (nI x) (nI j)).2) = t_f s (t_r s) ∧ c_s (cl_l1 s (nI x) (nI j)).2 = c_s s) := by
  obtain ⟨⟨lo, wa, mk, c, hi⟩, hT, hW, hD, hN, hB, hF⟩ := h
  have hc := hi.1.1
  have hkp := hi.2.1.2.1
  have ho : iv_o s := hi.2.2.2.2.2.2.2.2.2.2.1
  obtain ⟨M, hM0, hM1, hM2⟩ := ly_f (s := s) (k := k) (y := x) ho.2.1 hc (by omega) hx
  have hMd : du d k (nI x) = nI M := (ly_d hD hk hc _).symm.trans hM0
  obtain ⟨g1, g2, g3⟩ := ga_law hi hj (show M < 2 ^ 31 by omega)
  have hop : cl_op s.2.1 (cl_ce s) := by
    refine ⟨fun z => z.2 (hW.1 _), fun z => ?_⟩
    split at z
    · rw [hW.2] at z; exact absurd z (by decide)
    · exact absurd z (by decide)
  have h100 : ¬ cl_ce s = 100 := by
    rw [hc]; exact fun z => absurd ((nI_eq (b := 100) (by omega) (by decide)).mp z) (by omega)
  have hp : s.2.2.2.1.2.1 = nI kp := hi.2.1.1
  have hty : ∀ p, cl_tyAt s p = -1 ∨ cl_tyAt s p = nI y := fun p => by unfold cl_tyAt; rw [hp]; exact ty_any hkp hT.2 _
  have hfi : ho_fi (cl_ty s) (cl_ga s (nI j) (nI M)).1 (cl_tyAt s (cl_me s - 1)) (-1) = true := by
    unfold cl_ty; rw [hp]; exact fi_y hkp hT.2 (Or.inl rfl) _ _ (hty _)
  have hsd : se_d s.2.1 (cl_ce s) = dp d k := by rw [hc]; exact hD.d hk
  refine ⟨fun z => ?_, fun z => ?_⟩
  · obtain ⟨z1, z2, z3, z4, z5⟩ := z
    rw [hMd] at z4
    have hha : ho_ha (cl_ty s) (se_d s.2.1 (cl_ce s)) (cl_ga s (nI j) (nI M)).1 = true := by
      rw [hsd]; unfold cl_ty; rw [hp]; exact ha_y hkp hT.2 _ g1 z5
    have e : cl_l1 s (nI x) (nI j) = (true, cl_l2 s (nI j) (nI M)) := by
      unfold cl_l1
      rw [if_pos ⟨⟨z1, z2, z3, h100⟩, hop⟩, hM0, if_pos ⟨g2.mpr z4, hha, hfi⟩]
    rw [e, hMd]
    dsimp only
    have hi2 := ivx_l2 hi (t := j) (M := M) (by omega) z3 hj hM1 hM2 (g2.mpr z4) z2
    obtain ⟨q0, q2, q3, q4, q5, q6, q7⟩ := l2_eq s (nI j) (nI M)
    have hgn : ¬ (cl_ga s (nI j) (nI M)).1 = [] := fun y => by
      have := g3 z4
      rw [y] at this
      have : 0 = M := this
      omega
    obtain ⟨n1, n2, n3⟩ := al_n (cl_ga s (nI j) (nI M)).1 (s.1 2) hN
    have hl2 : (ap_l (cl_ga s (nI j) (nI M)).1 (s.1 2)).length < 2 ^ 30 := by
      have a := (ap_f (kp := kp) (cl_ga s (nI j) (nI M)).1 (s.1 2) hi.2.2.2.1.1 g1).2.2.1
      have b : (cl_ga s (nI j) (nI M)).1.length ≤ ([] : List tt_R).length + (s.1 0).reverse.length := ho_ga_len _ _ _
      rw [List.length_reverse] at b
      have b2 : (cl_ga s (nI j) (nI M)).1.length ≤ 0 + (s.1 0).length := b
      have c1 := hi.2.2.1.1
      have c2 := hi.2.2.2.1.2
      omega
    have hlk : ro_lk ((cl_l2 s (nI j) (nI M)).1 2) = 0 := by rw [q2]; exact (n2 hgn).lk hl2
    refine ⟨rfl, ⟨⟨0, wa, mk, _, hi2⟩, ?_, ?_, ?_, ?_, ?_, ?_⟩, ?_, ?_⟩
    · unfold p_T; rw [q7]; exact hT
    · unfold p_W; rw [q7]; exact hW
    · unfold p_D; rw [q7]; exact hD
    · rw [q2]; exact n1
    · intro _; rw [hlk]; decide
    · rw [q4]; exact hF
    · unfold t_f
      refine tg_e (so_law hi hj (by omega) z4 q0 hi2.st) ?_
      unfold t_L t_l t_r
      rw [hlk, q2, n3, if_neg (by decide)]
      unfold cl_la cl_ce cl_bu cl_lo cl_wa
      rw [q7]; rfl
    · unfold c_s
      rw [q7, hc, nI_clamp (by omega)]
  · have key : ¬ (cl_l1 s (nI x) (nI j)).1 = true ∧ ((cl_l1 s (nI x) (nI j)).2 = s ∨ ∃ g, (cl_l1 s (nI x) (nI j)).2 = cl_t s 1 g) := by
      unfold cl_l1
      split
      · rename_i z0
        rw [hM0]
        split
        · rename_i z6
          refine absurd ⟨z0.1.1, z0.1.2.1, z0.1.2.2.1, ?_, ?_⟩ z
          · rw [hMd]; exact g2.mp z6.1
          · refine Decidable.byContradiction fun w => ?_
            have z7 := z6.2.1
            rw [hsd] at z7
            unfold cl_ty at z7
            rw [hp] at z7
            exact ha_n hkp hT.2 g1 (by rw [g3 (g2.mp z6.1)]; omega) w z7
        · exact ⟨by simp, Or.inr ⟨_, rfl⟩⟩
      · exact ⟨by simp, Or.inl rfl⟩
    refine ⟨key.1, ?_⟩
    rcases key.2 with e | ⟨g, e⟩ <;> rw [e]
    · exact ⟨⟨⟨lo, wa, mk, c, hi⟩, hT, hW, hD, hN, hB, hF⟩, rfl, rfl⟩
    · exact ⟨⟨⟨lo, wa, mk, c, ivx_t1 hi g⟩, hT, hW, hD, hN, hB, hF⟩, rfl, rfl⟩
