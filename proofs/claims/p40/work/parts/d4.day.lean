/-! P40, PURE: a day that passes; a piece that is made; a repeater; the line that is taken up -/
theorem iv.at {n k kp : Nat} {s : cl_S} (h : iv n s) (hc : cl_ce s = nI k) (hk : k ≤ 100) (hp : s.2.2.2.1.2.1 = nI kp) (hkp : kp ≤ 30) : ∃ lo wa mk c, ivx n s k kp lo wa mk c := by
  obtain ⟨k', kp', lo, wa, mk, c, hx⟩ := h
  have e1 : k' = k := (nI_eq (by have := hx.1.2.1; omega) (by omega)).mp (hx.1.1.symm.trans hc)
  have e2 : kp' = kp := (nI_eq (by have := hx.2.1.2.1; omega) (by omega)).mp (hx.2.1.1.symm.trans hp)
  subst e1; subst e2
  exact ⟨lo, wa, mk, c, hx⟩
theorem ivx.iv {n k kp lo wa mk : Nat} {s : cl_S} {c : Nat → Nat} (h : ivx n s k kp lo wa mk c) : iv n s := ⟨k, kp, lo, wa, mk, c, h⟩
theorem ivx.len {n k kp lo wa mk : Nat} {s : cl_S} {c : Nat → Nat} (h : ivx n s k kp lo wa mk c) (hn : n ≤ 513) : (s.1 2).length ≤ 8000 := (h.W hn).1
/-- the metres of the line, as the law counts them -/
theorem bs_N {n k kp lo wa mk : Nat} {s : cl_S} {c : Nat → Nat} (h : ivx n s k kp lo wa mk c) : ro_bs (c_s s) k = nI (ln_N (s.1 2)) := by
  rw [bs_cs h k (Nat.le_refl k)]
  have : cs c k = ln_N (s.1 2) := h.2.2.2.2.1.2.1
  rw [this]
theorem bs_me {n k kp lo wa mk : Nat} {s : cl_S} {c : Nat → Nat} (h : ivx n s k kp lo wa mk c) : cl_me s = ro_bs (c_s s) k := by
  rw [bs_N h]; exact h.2.2.2.2.2.2.2.1
abbrev dr_n (s : cl_S) : Int32 := (75 * s.2.2.1.2.1 + 74) - (75 * s.2.2.1.2.1 + 74) / 65537 * 65537
abbrev st_q (s : cl_S) : Prop := cl_bu s = 0 ∧ dr_n s - dr_n s / 10 * 10 = 9
def st_l (s : cl_S) (k : Nat) : Int32 := if ro_bs (c_s s) k < 200 then ro_bs (c_s s) k else 200
theorem day_law {n k kp y : Nat} {s : cl_S} {d : Nat → Int32} (h : p_I n s d y kp k) (hn : n ≤ 512) (hk : k ≤ 40) : p_I n (cl_day s) d y kp k ∧
    (st_q s → (∀ r, t_f (cl_day s) r = tg (t_a s) [s.2.2.1.1 + 1, dr_n s, 0, cl_ce s, 1, st_l s k, cl_wa s + st_l s k, s.2.2.1.2.2, r, 0]) ∧ c_s (cl_day s) = if k = 0 then c_s s else upd (c_s s) (k - 1) (c_s s (k - 1) - st_l s k)) ∧
    (¬ st_q s → (∀ r, t_f (cl_day s) r = tg (t_a s) [s.2.2.1.1 + 1, dr_n s, 0, cl_ce s, cl_bu s, cl_lo s, cl_wa s, s.2.2.1.2.2, r, t_l s]) ∧ c_s (cl_day s) = c_s s ∧ t_r (cl_day s) = t_r s) := by
  obtain ⟨⟨lo, wa, mk, c, hi⟩, hT, hW, hD, hN, hB, hF⟩ := h
  have hc := hi.1.1
  have hkp := hi.2.1.2.1
  have hp : s.2.2.2.1.2.1 = nI kp := hi.2.1.1
  have h100 : ¬ cl_ce s = 100 := by
    rw [hc]; exact fun z => absurd ((nI_eq (b := 100) (by omega) (by decide)).mp z) (by omega)
  by_cases hq : st_q s
  · have e : cl_day s = cl_buoy (cl_d1 s) := if_pos ⟨hq.1, h100, hq.2⟩
    have hd1 := ivx_d1 hi
    obtain ⟨q0, q2, q4, q5, q6, q7, -⟩ := cl_buoy_eq hd1 (by omega)
    obtain ⟨b1, b2, b3, b4⟩ := bu_f hd1
    have hl := hi.len (show n ≤ 513 by omega)
    have hbu : (∃ A, bu_T (s.1 2) = A) := ⟨_, rfl⟩
    have hnj : nj (bu_T (s.1 2)) ∧ (bu_T (s.1 2) = [] ∨ e0 (bu_T (s.1 2))) := le_n (s.1 2).reverse _ (by rw [List.reverse_reverse]; exact hN)
    have hlk : ¬ ro_lk (bu_T (s.1 2)) = 2 := by
      rcases hnj.2 with z | z
      · rw [z, lk_nil]; decide
      · rw [z.lk (by have : (bu_T (s.1 2)).length ≤ (s.1 2).length := b3; omega)]; decide
    have hst : nI (mm0 (s.1 2)) = st_l s k := by
      unfold st_l
      rw [bs_N hi]
      show nI (min (ln_N (s.1 2)) 200) = _
      rw [← mn_200 (by have := hi.N; omega)]; rfl
    have hiv := (iv_buoy hd1 (by omega) hq.1).at (k := k) (kp := kp) (by unfold cl_ce; rw [q7]; exact hc) (by omega) (by rw [q7]; exact hp) hkp
    rw [e]
    refine ⟨⟨hiv, ?_, ?_, ?_, ?_, ?_, ?_⟩, fun _ => ⟨fun r => ?_, ?_⟩, fun z => absurd hq z⟩
    · unfold p_T; rw [q7]; exact hT
    · unfold p_W; rw [q7]; exact hW
    · unfold p_D; rw [q7]; exact hD
    · rw [q2]; exact hnj.1
    · intro _; rw [q2]; exact hlk
    · rw [q4]; show bu_L _ (s.1 4) = []; rw [hF]; rfl
    · unfold t_f
      refine tg_e (fun j _ => ?_) ?_
      · unfold t_a; rw [q0]; rfl
      · unfold t_L t_l
        rw [show (cl_buoy (cl_d1 s)).1 2 = bu_T (s.1 2) from q2, if_neg hlk, ← hst]
        unfold cl_la cl_ce cl_bu cl_lo cl_wa
        rw [q7]; rfl
    · unfold c_s
      rw [q7]
      by_cases z : k = 0
      · rw [if_pos z]
        have hm : mm0 (s.1 2) = 0 := by unfold mm0; rw [hi.1.2.2 z]; rfl
        show upd (c_s s) (k - 1) (c_s s (k - 1) - nI (mm0 (s.1 2))) = c_s s
        rw [hm, nI_0, show c_s s (k - 1) - 0 = c_s s (k - 1) by grind, upd_id]
      · rw [if_neg z, ← hst]; rfl
  · have e : cl_day s = cl_d1 s := if_neg (fun z => hq ⟨z.1, z.2.2⟩)
    rw [e]
    exact ⟨⟨⟨lo, wa, mk, c, ivx_d1 hi⟩, hT, hW, hD, hN, hB, hF⟩, fun z => absurd z hq, fun _ => ⟨fun r => rfl, rfl, rfl⟩⟩
/-! make -/
theorem make_law {n k kp y j mt : Nat} {s : cl_S} {d : Nat → Int32} (h : p_I n s d y kp k) (hkp : kp < 30) (hj : j < 3) (h1 : 1 ≤ mt) (h2 : mt ≤ 40000) :
    (cm_make s (nI y) (nI mt) (nI j)).1 = .inl (some (nI kp)) ∧ p_I (n + 1) (cm_make s (nI y) (nI mt) (nI j)).2 d y (kp + 1) k ∧ t_f (cm_make s (nI y) (nI mt) (nI j)).2 (t_r (cm_make s (nI y) (nI mt) (nI j)).2) = tg (upd (t_a s) j (t_a s j + nI mt)) (t_L s (t_r s) (t_l s)) ∧ c_s (cm_make s (nI y) (nI mt) (nI j)).2 = c_s s := by
  obtain ⟨⟨lo, wa, mk, c, hi⟩, hT, hW, hD, hN, hB, hF⟩ := h
  have hp : s.2.2.2.1.2.1 = nI kp := hi.2.1.1
  have hy := hT.1
  have hiv := iv_make hi.iv (nI y) (nI mt) (nI j)
  have e : cm_make s (nI y) (nI mt) (nI j) = (.inl (some (nI kp)), va_up s.1 0 (s.1 0 ++ [(nI j, nI kp, 0, nI mt)]), s.2.1, s.2.2.1, (upd s.2.2.2.1.1 kp (nI y), nI kp + 1, s.2.2.2.1.2.2 + nI mt), s.2.2.2.2) := by
    unfold cm_make
    rw [if_pos ⟨⟨nI_pos' (by omega), nI_le (b := 3) (by omega) (by decide)⟩, ⟨nI_le (a := 1) (by omega) (by omega), nI_le (b := 90000) (by omega) (by decide)⟩, nI_pos' (by omega), nI_le (b := 2) (by omega) (by decide)⟩, hp, if_pos (show nI kp < 30 from nI_lt (b := 30) (by omega) (by decide)), nI_clamp (by omega)]
  rw [e] at hiv ⊢
  have hiv2 := hiv.at (k := k) (kp := kp + 1) hi.1.1 hi.1.2.1 (nI_1 kp) (by omega)
  refine ⟨rfl, ⟨hiv2, ⟨hy, fun p hp' => ?_⟩, hW, hD, hN, hB, hF⟩, ?_, rfl⟩
  · show upd s.2.2.2.1.1 kp (nI y) p = nI y
    by_cases z : p = kp
    · rw [z]; exact pk_us
    · exact (pk_un z).trans (hT.2 p (by omega))
  · unfold t_f
    refine tg_e (fun u hu => ?_) rfl
    obtain ⟨lo2, wa2, mk2, c2, hi2⟩ := hiv2
    refine (ta_ts hi2 u).trans ?_
    show nI (ts u (s.1 0 ++ [(nI j, nI kp, 0, nI mt)])) = _
    rw [ts_app, ts_1]
    have e9 : rl (nI j, nI kp, 0, nI mt) = mt := nI_clamp (by omega)
    by_cases z : u = j
    · subst z
      rw [if_pos rfl, e9]
      exact (nI_add _ _).symm.trans (Eq.trans (by rw [ta_ts hi]) (show _ = upd (t_a s) u (t_a s u + nI mt) u from pk_us.symm))
    · rw [if_neg (fun w => z ((nI_eq (by omega) (by omega)).mp (show nI j = nI u from w)).symm)]
      exact Eq.trans (by rw [ta_ts hi]; rfl) (show t_a s u = upd (t_a s) j (t_a s j + nI mt) u from (pk_un z).symm)
/-! the repeater -/
theorem me_pos {n k kp lo wa mk : Nat} {s : cl_S} {c : Nat → Nat} (h : ivx n s k kp lo wa mk c) : 0 < cl_me s ↔ 0 < cl_ce s := by
  have hm : cl_me s = nI (ln_N (s.1 2)) := h.2.2.2.2.2.2.2.1
  have hN := h.N
  have hk := h.1.2.1
  rw [hm, h.1.1, show (0 : Int32) = nI 0 from rfl, nI_ltI (by decide) (by omega), nI_ltI (by decide) (by omega)]
  rcases Nat.eq_zero_or_pos k with z | z
  · rw [h.1.2.2 z]; show 0 < 0 ↔ _; omega
  · refine ⟨fun _ => z, fun _ => ?_⟩
    have := cs_ge k lo z h.2.2.2.2.1.2.2
    have := h.2.2.2.2.2.1.2.2.1
    have e : cs c k = ln_N (s.1 2) := h.2.2.2.2.1.2.1
    omega
theorem rep_law {n k kp y : Nat} {s : cl_S} {d : Nat → Int32} (h : p_I n s d y kp k) (hn : n ≤ 512) :
    (cl_bu s = 0 ∧ 0 < cl_ce s ∧ t_l s = 0 → (cm_repeater s).1 = .inl (some (t_r s + 1)) ∧ p_I (n + 1) (cm_repeater s).2 d y kp k ∧ t_f (cm_repeater s).2 (t_r (cm_repeater s).2) = tg (t_a s) (t_L s (t_r s + 1) 1) ∧ c_s (cm_repeater s).2 = c_s s) ∧
    (¬ (cl_bu s = 0 ∧ 0 < cl_ce s ∧ t_l s = 0) → (cm_repeater s).1 = .inr cx_s ∧ (cm_repeater s).2 = s) := by
  obtain ⟨⟨lo, wa, mk, c, hi⟩, hT, hW, hD, hN, hB, hF⟩ := h
  have hl := hi.len (show n ≤ 513 by omega)
  have hlz : t_l s = 0 ↔ ¬ ro_lk (s.1 2) = 2 := by
    unfold t_l
    split
    · rename_i z; exact ⟨fun w => absurd w (by decide), fun w => absurd z w⟩
    · rename_i z; exact ⟨fun _ => z, fun _ => rfl⟩
  refine ⟨fun ⟨z1, z2, z3⟩ => ?_, fun z => ?_⟩
  · have hnl := hlz.mp z3
    have hiv := iv_repeater hi.iv
    have e : cm_repeater s = (.inl (some (ro_n 2 (s.1 2 ++ [(2, -1, -1, 0)]) 0)), va_up s.1 2 (s.1 2 ++ [(2, -1, -1, 0)]), s.2) := if_pos ⟨(me_pos hi).mpr z2, z1, hnl⟩
    have e2 : ro_n 2 (s.1 2 ++ [(2, -1, -1, 0)]) 0 = t_r s + 1 := by rw [rn_app]; rfl
    rw [e] at hiv ⊢
    have hlk : ro_lk (s.1 2 ++ [(2, -1, -1, 0)]) = 2 := lk_c (by omega)
    refine ⟨by rw [e2], ⟨hiv.at hi.1.1 hi.1.2.1 hi.2.1.1 hi.2.1.2.1, hT, hW, hD, ?_, fun w => absurd z1 w, hF⟩, ?_, rfl⟩
    · show nj (s.1 2 ++ [(2, -1, -1, 0)])
      exact nj_s.mpr ⟨hN, fun w => absurd w.2 (by decide)⟩
    · unfold t_f
      refine tg_e (fun _ _ => rfl) ?_
      show t_L s (ro_n 2 (s.1 2 ++ [(2, -1, -1, 0)]) 0) (if ro_lk (s.1 2 ++ [(2, -1, -1, 0)]) = 2 then 1 else 0) = _
      rw [e2, if_pos hlk]
  · have e : cm_repeater s = (.inr cx_s, s) := if_neg (fun w => z ⟨w.2.1, (me_pos hi).mp w.1, hlz.mpr w.2.2⟩)
    rw [e]; exact ⟨rfl, rfl⟩
/-! taking up -/
theorem tk_law {n k kp y j : Nat} {s : cl_S} {d : Nat → Int32} (h : p_I n s d y kp k) (hn : n ≤ 512) (hj : j < 3) (hb : cl_bu s = 1) :
    (cl_wo s ∧ cl_lo s ≤ t_a s j → (cm_takeUp s (nI j)).1 = .inl (some (cl_lo s)) ∧ p_I (n + 1) (cm_takeUp s (nI j)).2 d y kp k ∧ t_f (cm_takeUp s (nI j)).2 (t_r (cm_takeUp s (nI j)).2) = tg (upd (t_a s) j (t_a s j - cl_lo s)) [s.2.2.1.1, s.2.2.1.2.1, cl_la s, cl_ce s, 0, 0, cl_wa s, s.2.2.1.2.2, t_r s, t_l s] ∧ c_s (cm_takeUp s (nI j)).2 = if k = 0 then c_s s else upd (c_s s) (k - 1) (c_s s (k - 1) + cl_lo s)) ∧
    (¬ (cl_wo s ∧ cl_lo s ≤ t_a s j) → (cm_takeUp s (nI j)).1 = .inr cx_s ∧ p_I (n + 1) (cm_takeUp s (nI j)).2 d y kp k ∧ (∀ r, t_f (cm_takeUp s (nI j)).2 r = t_f s r) ∧ t_r (cm_takeUp s (nI j)).2 = t_r s ∧ c_s (cm_takeUp s (nI j)).2 = c_s s) := by
  obtain ⟨⟨lo, wa, mk, c, hi⟩, hT, hW, hD, hN, hB, hF⟩ := h
  have hl := hi.len (show n ≤ 513 by omega)
  have hp : s.2.2.2.1.2.1 = nI kp := hi.2.1.1
  have hkp := hi.2.1.2.1
  obtain ⟨-, hlo, hlo2, hlo3⟩ : iv_b s k lo := hi.2.2.2.2.2.1
  obtain ⟨g1, g2, g3⟩ := ga_law hi hj (show lo < 2 ^ 31 by omega)
  rw [← hlo] at g1 g2 g3
  have hty : ∀ p, cl_tyAt s p = -1 ∨ cl_tyAt s p = nI y := fun p => by unfold cl_tyAt; rw [hp]; exact ty_any hkp hT.2 _
  have hfi : ho_fi (cl_ty s) (cl_ga s (nI j) (cl_lo s)).1 (cl_tyAt s (cl_me s - 1)) (-1) = true := by
    unfold cl_ty; rw [hp]; exact fi_y hkp hT.2 (Or.inl rfl) _ _ (hty _)
  have hi0 : ii (nI j) 0 2 := ⟨nI_pos' (by omega), nI_le (b := 2) (by omega) (by decide)⟩
  have hb0 : ¬ cl_bu s = 0 := by rw [hb]; decide
  have hs1 : p_I (n + 1) (tu_1 s (nI j)) d y kp k := ⟨⟨lo, wa, mk, c, (ivx_t1 hi _).up⟩, hT, hW, hD, hN, hB, hF⟩
  have hs0 : p_I (n + 1) s d y kp k := ⟨⟨lo, wa, mk, c, hi.up⟩, hT, hW, hD, hN, hB, hF⟩
  refine ⟨fun ⟨z1, z2⟩ => ?_, fun z => ?_⟩
  · have hz := g2.mpr z2
    have e : cm_takeUp s (nI j) = (.inl (some (cl_lo s)), tk_s s (nI j)) := by
      unfold cm_takeUp
      rw [if_pos hi0, if_pos ⟨hb0, z1⟩, if_pos hz, if_pos hfi]; rfl
    rw [e]
    dsimp only
    obtain ⟨c', hi2⟩ := ivx_tk hi hj hz
    obtain ⟨q0, q2, q3, q4, q5, q6, q7⟩ := tk_eq hi (nI j)
    have hTn : nj (tk_T s) ∧ ro_n 2 (tk_T s) 0 = t_r s := by
      unfold tk_T
      split
      · exact ⟨hN, rfl⟩
      · exact ⟨nj_s.mpr ⟨hN, fun w => absurd w.2 (by decide)⟩, by rw [rn_app]; rfl⟩
    obtain ⟨n1, n2, n3⟩ := al_n (cl_ga s (nI j) (cl_lo s)).1 (tk_T s) hTn.1
    have hl2 : (ap_l (cl_ga s (nI j) (cl_lo s)).1 (tk_T s)).length ≤ 8000 := by
      have := hi2.len (show n + 1 ≤ 513 by omega)
      rw [q2] at this; exact this
    have hlk : ro_lk ((tk_s s (nI j)).1 2) = 0 ∨ (tk_s s (nI j)).1 2 = s.1 2 := by
      rw [q2]
      by_cases w : (cl_ga s (nI j) (cl_lo s)).1 = []
      · right
        have := g3 z2
        rw [w] at this ⊢
        have e9 : 0 = lo := this
        unfold tk_T
        rw [if_pos (show cl_lo s ≤ 0 by rw [hlo, ← e9]; decide)]; rfl
      · exact Or.inl ((n2 w).lk (by omega))
    have hlk2 : ¬ ro_lk ((tk_s s (nI j)).1 2) = 2 := by
      rcases hlk with w | w <;> rw [w]
      · decide
      · exact hB hb0
    refine ⟨rfl, ⟨⟨0, wa, mk, c', hi2⟩, ?_, ?_, ?_, ?_, fun _ => hlk2, ?_⟩, ?_, ?_⟩
    · unfold p_T; rw [q7]; exact hT
    · unfold p_W; rw [q7]; exact hW
    · unfold p_D; rw [q7]; exact hD
    · rw [q2]; exact n1
    · rw [q4, hF]; rfl
    · unfold t_f
      refine tg_e ?_ ?_
      · have := so_law hi hj (show lo < 2 ^ 31 by omega) (s' := tk_s s (nI j)) (kq := kp) (by rw [← hlo]; exact z2) (by rw [q0, hlo]) hi2.st
        rw [← hlo] at this; exact this
      · unfold t_L
        have e1 : t_l (tk_s s (nI j)) = t_l s := by unfold t_l; rw [if_neg hlk2, if_neg (hB hb0)]
        have e2 : t_r (tk_s s (nI j)) = t_r s := by unfold t_r; rw [q2, n3]; exact hTn.2
        rw [e1, e2]
        unfold cl_la cl_ce cl_bu cl_lo cl_wa
        rw [q7]; rfl
    · unfold c_s
      rw [q7]
      by_cases w : k = 0
      · rw [if_pos w]
        show upd (c_s s) (k - 1) (c_s s (k - 1) + cl_lo s) = c_s s
        rw [hlo, hlo3 w, nI_0, show c_s s (k - 1) + 0 = c_s s (k - 1) by grind, upd_id]
      · rw [if_neg w]
  · have key : (cm_takeUp s (nI j)).1 = .inr cx_s ∧ ((cm_takeUp s (nI j)).2 = s ∨ (cm_takeUp s (nI j)).2 = tu_1 s (nI j)) := by
      unfold cm_takeUp
      rw [if_pos hi0]
      split
      · rename_i z1
        split
        · rename_i z2
          exact absurd ⟨z1.2, g2.mp z2⟩ z
        · exact ⟨rfl, Or.inr rfl⟩
      · exact ⟨rfl, Or.inl rfl⟩
    refine ⟨key.1, ?_⟩
    rcases key.2 with e | e <;> rw [e]
    · exact ⟨hs0, fun _ => rfl, rfl, rfl⟩
    · exact ⟨hs1, fun _ => rfl, rfl, rfl⟩
/-! mending -/
theorem md_law {n k kp y i j : Nat} {s : cl_S} {d : Nat → Int32} (h : p_I n s d y kp k) (hn : n ≤ 512) (hk : k < 40) (hj : j < 3) (hi40 : i < 40) :
    ((cl_wo s ∧ cl_bu s = 1 ∧ nI i < cl_ce s - 1 ∧ c_s s i + 2 * dp d i ≤ t_a s j) → (cm_mend s (nI i) (nI j)).1 = .inl (some 0) ∧ p_I (n + 1) (cm_mend s (nI i) (nI j)).2 d y kp k ∧ (∀ r, t_f (cm_mend s (nI i) (nI j)).2 r = tg (upd (t_a s) j (t_a s j - (c_s s i + 2 * dp d i))) [s.2.2.1.1, s.2.2.1.2.1, cl_la s, cl_ce s, cl_bu s, cl_lo s, cl_wa s + c_s s i, s.2.2.1.1 + 3 + dp d i / 1000, r, t_l s]) ∧ c_s (cm_mend s (nI i) (nI j)).2 = upd (c_s s) i (c_s s i + 2 * dp d i)) ∧
    (¬ (cl_wo s ∧ cl_bu s = 1 ∧ nI i < cl_ce s - 1 ∧ c_s s i + 2 * dp d i ≤ t_a s j) → (cm_mend s (nI i) (nI j)).1 = .inr cx_s ∧ p_I (n + 1) (cm_mend s (nI i) (nI j)).2 d y kp k ∧ (∀ r, t_f (cm_mend s (nI i) (nI j)).2 r = t_f s r) ∧ t_r (cm_mend s (nI i) (nI j)).2 = t_r s ∧ c_s (cm_mend s (nI i) (nI j)).2 = c_s s) := by
  obtain ⟨⟨lo, wa, mk, c, hi⟩, hT, hW, hD, hN, hB, hF⟩ := h
  have hl := hi.len (show n ≤ 513 by omega)
  have hp : s.2.2.2.1.2.1 = nI kp := hi.2.1.1
  have hkp := hi.2.1.2.1
  have hc := hi.1.1
  have hty : ∀ p, cl_tyAt s p = -1 ∨ cl_tyAt s p = nI y := fun p => by unfold cl_tyAt; rw [hp]; exact ty_any hkp hT.2 _
  have hi0 : ii (nI i) 0 99 ∧ ii (nI j) 0 2 := ⟨⟨nI_pos' (by omega), nI_le (b := 99) (by omega) (by decide)⟩, nI_pos' (by omega), nI_le (b := 2) (by omega) (by decide)⟩
  have h100 : ¬ cl_ce s = 100 := by
    rw [hc]; exact fun z => absurd ((nI_eq (b := 100) (by omega) (by decide)).mp z) (by omega)
  have hbb : cl_bu s = 0 ∨ cl_bu s = 1 := by
    rcases (show iv_b s k lo from hi.2.2.2.2.2.1).1 with z | z
    · exact Or.inl z.1
    · exact Or.inr z
  have hce : nI i < cl_ce s - 1 ↔ i + 1 < k := by
    rw [hc]
    rcases Nat.eq_zero_or_pos k with z | z
    · rw [z]
      exact ⟨fun w => absurd (Int32.lt_trans w (show nI 0 - 1 < 0 from nI_neg1)) (nI_pos (by omega)), fun w => absurd w (by omega)⟩
    · rw [show nI k - 1 = nI (k - 1) from pk_sub (a := k) (b := 1) z, nI_ltI (by omega) (by omega)]; omega
  have hs1 : p_I (n + 1) (me_1 s (nI i) (nI j)) d y kp k := ⟨⟨lo, wa, mk, c, (ivx_t1 hi _).up⟩, hT, hW, hD, hN, hB, hF⟩
  have hs0 : p_I (n + 1) s d y kp k := ⟨⟨lo, wa, mk, c, hi.up⟩, hT, hW, hD, hN, hB, hF⟩
  have hcell : i + 1 < k → ∃ d', d' ≤ 6000 ∧ dp d i = nI d' ∧ me_m s (nI i) = nI (c i + 2 * d') ∧ c_s s i = nI (c i) ∧ me_m s (nI i) = c_s s i + 2 * dp d i ∧ c i + 2 * d' < 2 ^ 31 ∧ se_d s.2.1 (nI i) = dp d i := by
    intro hik
    obtain ⟨d', w1, w2, w3, w4, w5, w6, w7⟩ := md_v hi (show i < k by omega)
    have e1 : dp d i = nI d' := (hD.d hi40).symm.trans w2
    have e2 := cs_le hi (show i < k by omega)
    have := hi.N
    refine ⟨d', w1, e1, w5, w6, ?_, by omega, hD.d hi40⟩
    rw [w5]
    show _ = s.2.2.2.2.1.1 i + 2 * dp d i
    rw [w6, e1, show (2 : Int32) = nI 2 from rfl, pk_mul, nI_add]
  refine ⟨fun ⟨z1, z2, z3, z4⟩ => ?_, fun z => ?_⟩
  · have hb0 : ¬ cl_bu s = 0 := by rw [z2]; decide
    have hik := hce.mp z3
    obtain ⟨d', w1, w2, w3, w4, w5, w6, w7⟩ := hcell hik
    obtain ⟨g1, g2, g3⟩ := ga_law hi hj w6
    rw [← w3] at g1 g2 g3
    have hz : (cl_ga s (nI j) (me_m s (nI i))).2 = 0 := g2.mpr (by rw [w5]; exact z4)
    have hfi : ho_fi (cl_ty s) (cl_ga s (nI j) (me_m s (nI i))).1 (cl_tyAt s (me_b s (nI i) - 1)) (cl_tyAt s (me_e s (nI i))) = true := by
      unfold cl_ty; rw [hp]; exact fi_y hkp hT.2 (hty _) _ _ (hty _)
    have hlast : nI i < cl_ce s ∧ ¬ (¬ cl_bu s = 0 ∧ nI i = cl_ce s - 1) := by
      refine ⟨by rw [hc]; exact nI_lt (by omega) (by omega), fun w => ?_⟩
      have := w.2
      rw [hc, show nI k - 1 = nI (k - 1) from pk_sub (a := k) (b := 1) (by omega)] at this
      have := (nI_eq (by omega) (by omega)).mp this
      omega
    have hf0 : (me_f s (nI i)).2 = 0 := by unfold me_f; rw [hF]; rfl
    have e : cm_mend s (nI i) (nI j) = (.inl (some (nI (me_f s (nI i)).2)), md_s s (nI i) (nI j)) := by
      unfold cm_mend
      rw [if_pos hi0, if_pos ⟨z1, Or.inr hb0⟩, if_pos hlast, if_pos ⟨hz, hfi⟩]; rfl
    rw [e, hf0]
    dsimp only
    obtain ⟨wa', c', hi2⟩ := ivx_md hi (show i < k by omega) hj hz
    obtain ⟨q0, q2, q3, q4, q5, q6, q7⟩ := md_eq hi (show i < k by omega) (nI j)
    have hT2 : ∀ r ∈ s.1 2, ln_k kp r := hi.2.2.2.1.1
    have hlt : cs c i + c i < ln_N (s.1 2) := by
      have e1 : cs c k = ln_N (s.1 2) := hi.2.2.2.2.1.2.1
      have e2 := cs_mono (c := c) (i + 1) (k - 1) (by omega)
      have e3 : cs c (k - 1 + 1) = cs c (k - 1) + c (k - 1) := rfl
      rw [show k - 1 + 1 = k by omega] at e3
      have e4 : cs c (i + 1) = cs c i + c i := rfl
      have e5 := hi.2.2.2.2.1.2.2 (k - 1) (by omega)
      rw [if_pos (by omega)] at e5
      have e6 := hi.2.2.2.2.2.1.2.2.1
      omega
    have hlk : ro_lk ((md_s s (nI i) (nI j)).1 2) = ro_lk (s.1 2) := by
      have h8 := hi2.len (show n + 1 ≤ 513 by omega)
      rw [q2] at h8 ⊢
      obtain ⟨A, q, A', q', m1, m2, m3⟩ := md_last (g := (cl_ga s (nI j) (me_m s (nI i))).1) (b := cs c i) hT2 hlt
      rw [m2] at h8 ⊢
      rw [m1] at hl ⊢
      rw [List.length_append] at h8 hl
      rw [lk_c (by omega), lk_c (by omega), m3]
    have hw4 : s.2.2.2.2.1.1 i = nI (c i) := w4
    refine ⟨rfl, ⟨⟨lo, wa', mk, c', hi2⟩, ?_, ?_, ?_, ?_, ?_, ?_⟩, fun r => ?_, ?_⟩
    · unfold p_T; rw [q7]; exact hT
    · unfold p_W; rw [q7]; exact hW
    · unfold p_D; rw [q7]; exact hD
    · rw [q2]; exact md_n hT2 hN
    · intro _; rw [hlk]; exact hB hb0
    · rw [q4, hF]; rfl
    · unfold t_f
      refine tg_e ?_ ?_
      · have := so_law hi hj w6 (s' := md_s s (nI i) (nI j)) (kq := kp) (by rw [← w3, w5]; exact z4) (by rw [q0, w3]) hi2.st
        rw [← w3, w5] at this; exact this
      · have e1 : t_l (md_s s (nI i) (nI j)) = t_l s := by unfold t_l; rw [hlk]
        rw [e1]
        unfold t_L
        unfold cl_la cl_ce cl_bu cl_lo cl_wa
        rw [q7, w7]
        show _ = [_, _, _, _, _, _, cl_wa s + s.2.2.2.2.1.1 i, _, _, _]
        rw [hw4]; rfl
    · unfold c_s
      rw [q7]
      show upd (c_s s) i (me_m s (nI i)) = _
      rw [w5]
  · have key : (cm_mend s (nI i) (nI j)).1 = .inr cx_s ∧ ((cm_mend s (nI i) (nI j)).2 = s ∨ (cm_mend s (nI i) (nI j)).2 = me_1 s (nI i) (nI j)) := by
      unfold cm_mend
      rw [if_pos hi0]
      split
      · rename_i z1
        split
        · rename_i z3
          split
          · rename_i z5
            have hb0 : ¬ cl_bu s = 0 := by
              rcases z1.2 with w | w
              · exact absurd w h100
              · exact w
            have hb1 : cl_bu s = 1 := hbb.resolve_left hb0
            have hik : i + 1 < k := by
              have w1 := z3.1
              rw [hc] at w1
              have w2 := (nI_ltI (by omega) (by omega)).mp w1
              have w3 : ¬ i = k - 1 := fun w => z3.2 ⟨hb0, by rw [hc, w]; exact (pk_sub (a := k) (b := 1) (by omega)).symm⟩
              omega
            obtain ⟨d', w1, w2, w3, w4, w5, w6, w7⟩ := hcell hik
            obtain ⟨g1, g2, g3⟩ := ga_law hi hj w6
            rw [← w3, w5] at g2
            rw [w5] at z5
            exact absurd ⟨z1.1, hb1, hce.mpr hik, g2.mp z5.1⟩ z
          · exact ⟨rfl, Or.inr rfl⟩
        · exact ⟨rfl, Or.inl rfl⟩
      · exact ⟨rfl, Or.inl rfl⟩
    refine ⟨key.1, ?_⟩
    rcases key.2 with e | e <;> rw [e]
    · exact ⟨hs0, fun _ => rfl, rfl, rfl⟩
    · exact ⟨hs1, fun _ => rfl, rfl, rfl⟩
