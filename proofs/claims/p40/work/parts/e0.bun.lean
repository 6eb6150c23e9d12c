/-! P40: THE HEAP OF THE LAW; what it asks the class -/
def lb (h : mm_H) (s : cl_S) (d m t : Nat → Int32) (c0 n0 : Nat) : Prop := cl_P h s.1 s.2 c0 n0 ∧ h.1 29 = some (.inl (.int, 64, .inl d)) ∧ h.1 30 = some (.inl (.int, 64, .inl m)) ∧ h.1 31 = some (.inl (.int, 64, .inl t))
def lq (v : Int32) (s : cl_S) (d m t : Nat → Int32) (c0 n0 : Nat) : mm_R → mm_H → Prop := mm_qi (fun w h' => w = .int v ∧ lb h' s d m t c0 n0)
theorem tg_c {a : Nat → Int32} {L : List Int32} {i : Int32} {j : Nat} {v : Int32} (hi : i.toNatClampNeg = j) (h : 3 ≤ j) (e : L[j - 3]? = some v) : tg a L i.toNatClampNeg = v := by rw [hi]; exact tg_b h e
theorem tg_d {a : Nat → Int32} {L L' : List Int32} {i x : Int32} {j : Nat} (hi : i.toNatClampNeg = j) (h : 3 ≤ j) (h2 : j - 3 < L.length) (e : L.set (j - 3) x = L') : upd (tg a L) i.toNatClampNeg x = tg a L' := by rw [hi, tg_u h h2, e]
theorem tg_w {a : Nat → Int32} {L : List Int32} {i x : Int32} {j : Nat} (hi : i.toNatClampNeg = j) (h : j < 3) : upd (tg a L) i.toNatClampNeg x = tg (upd a j x) L := by rw [hi, tg_v h]
theorem tg_k {a : Nat → Int32} {L : List Int32} {i : Int32} {j : Nat} (hi : i.toNatClampNeg = j) (h : j < 3) : tg a L i.toNatClampNeg = a j := by rw [hi, tg_a h]
theorem ff_i {f : Nat → Int32} {i : Int32} {j : Nat} (hi : i.toNatClampNeg = j) : f i.toNatClampNeg = f j := by rw [hi]
theorem ff_u {f : Nat → Int32} {i x : Int32} {j : Nat} (hi : i.toNatClampNeg = j) : upd f i.toNatClampNeg x = upd f j x := by rw [hi]
section E0
variable {l : Launch} {G : mm_G} {M : mm_M} {Q : mm_R → mm_H → Prop} {pc : Nat} {ls st as : List Value} {h h' : mm_H} {s s' : cl_S} {d m t : Nat → Int32} {c0 n0 c1 n1 n : Nat}
theorem ex_ialv {o n : Nat} {f : Nat → Int32} {i v : Int32} (hd : decode M.2.1 pc = .ok (.iaload, 1)) (he : h.1 o = some (.inl (.int, n, .inl f))) (hi : vp_in i n) (hv : f i.toNatClampNeg = v) (k : mm_Ex l G M Q (pc + 1) ls (.int v :: st) h) : mm_Ex l G M Q pc ls (.int i :: .ref o :: st) h :=
  ex_iaload hd he hi (by rw [hv]; exact k)
theorem lb_call (B : lb h s d m t c0 n0) (q : cl_P h' s'.1 s'.2 c1 n1) (hF : cl_F h h') : lb h' s' d m t c1 n1 :=
  ⟨q, (hF 29 (by decide) (by decide)).trans B.2.1, (hF 30 (by decide) (by decide)).trans B.2.2.1, (hF 31 (by decide) (by decide)).trans B.2.2.2⟩
theorem sx_t (B : lb h s d m t c0 n0) {f t' : Nat → Int32} (e : f = t') (k : ∀ h', lb h' s d m t' c0 n0 → mm_Ex l G M Q pc ls st h') : mm_Ex l G M Q pc ls st (mm_set h 31 (.inl (.int, 64, .inl f))) := by
  subst e
  exact k _ ⟨cP_mv B.1 rfl (fun p hp => if_neg (by omega)), mm_set_ne (by decide) B.2.1, mm_set_ne (by decide) B.2.2.1, mm_set_at⟩
theorem sx_m (B : lb h s d m t c0 n0) {f m' : Nat → Int32} (e : f = m') (k : ∀ h', lb h' s d m' t c0 n0 → mm_Ex l G M Q pc ls st h') : mm_Ex l G M Q pc ls st (mm_set h 30 (.inl (.int, 64, .inl f))) := by
  subst e
  exact k _ ⟨cP_mv B.1 rfl (fun p hp => if_neg (by omega)), mm_set_ne (by decide) B.2.1, mm_set_at, mm_set_ne (by decide) B.2.2.2⟩
theorem sx_d (B : lb h s d m t c0 n0) {f d' : Nat → Int32} (e : f = d') (k : ∀ h', lb h' s d' m t c0 n0 → mm_Ex l G M Q pc ls st h') : mm_Ex l G M Q pc ls st (mm_set h 29 (.inl (.int, 64, .inl f))) := by
  subst e
  exact k _ ⟨cP_mv B.1 rfl (fun p hp => if_neg (by omega)), mm_set_at, mm_set_ne (by decide) B.2.2.1, mm_set_ne (by decide) B.2.2.2⟩
theorem lb_q (B : lb h s d m t c0 n0) {v : Int32} {x : cl_R × cl_S} (e : x = (.inl (some v), s)) (hc : mm_Ct l G M as h (cl_A x c0 n0 h)) : mm_Ct l G M as h (lq v s d m t c0 n0) := by
  subst e
  exact mm_ct_mono hc (fun r h' ⟨q1, q2, q3⟩ => ⟨.int v, q1, rfl, lb_call B q2 q3⟩)
theorem lb_r (B : lb h s d m t c0 n0) {v w : Int32} (e : v = w) (hc : mm_Ct l G M as h (mm_ri (.int v) h)) : mm_Ct l G M as h (lq w s d m t c0 n0) := by
  subst e
  exact mm_ct_mono hc (fun r h' ⟨q1, q2⟩ => ⟨.int v, q1, rfl, by rw [q2]; exact B⟩)
theorem ln_v0 : cm_line s 0 = (.inl (some (cl_me s)), s) := by unfold cm_line; rw [if_pos (by decide), if_pos rfl]
theorem ln_v1 : cm_line s 1 = (.inl (some (cl_ce s)), s) := by unfold cm_line; rw [if_pos (by decide), if_neg (by decide), if_pos rfl]
theorem ln_v2 : cm_line s 2 = (.inl (some (nI (s.1 2).length)), s) := by unfold cm_line; rw [if_pos (by decide), if_neg (by decide), if_neg (by decide), if_pos rfl]
theorem ln_v3 : cm_line s 3 = (.inl (some (ro_n 1 (s.1 2) 0)), s) := by unfold cm_line; rw [if_pos (by decide), if_neg (by decide), if_neg (by decide), if_neg (by decide), if_pos rfl]
theorem ln_v4 : cm_line s 4 = (.inl (some (t_r s)), s) := by unfold cm_line; rw [if_pos (by decide), if_neg (by decide), if_neg (by decide), if_neg (by decide), if_neg (by decide), if_pos rfl]; rfl
theorem ln_v5 : cm_line s 5 = (.inl (some (cl_wa s)), s) := by unfold cm_line; rw [if_pos (by decide), if_neg (by decide), if_neg (by decide), if_neg (by decide), if_neg (by decide), if_neg (by decide), if_pos rfl]
theorem ln_v6 (hb : cl_bu s = 0 ∨ cl_bu s = 1) : cm_line s 6 = (.inl (some (cl_bu s)), s) := by
  unfold cm_line; rw [if_pos (by decide), if_neg (by decide), if_neg (by decide), if_neg (by decide), if_neg (by decide), if_neg (by decide), if_neg (by decide), if_pos rfl]
  rcases hb with e | e <;> rw [e] <;> rfl
theorem ln_v7 : cm_line s 7 = (.inl (some (cl_lo s)), s) := by unfold cm_line; rw [if_pos (by decide), if_neg (by decide), if_neg (by decide), if_neg (by decide), if_neg (by decide), if_neg (by decide), if_neg (by decide), if_neg (by decide)]
theorem ix_99 {i : Nat} (h : i < 40) : ii (nI i) 0 99 := ⟨nI_pos' (by omega), nI_le (b := 99) (by omega) (by decide)⟩
theorem ix_2 {i : Nat} (h : i < 3) : ii (nI i) 0 2 := ⟨nI_pos' (by omega), nI_le (b := 2) (by omega) (by decide)⟩
theorem tk_v {i : Nat} (h : i < 3) : cm_tank s (nI i) 0 = (.inl (some (t_a s i)), s) := by unfold cm_tank; rw [if_pos ⟨ix_2 h, by decide⟩, if_pos rfl]; rfl
theorem ce_v0 {i : Nat} (h : i < 40) : cm_cell s (nI i) 0 = (.inl (some (se_d s.2.1 (nI i))), s) := by unfold cm_cell; rw [if_pos ⟨ix_99 h, by decide⟩, if_pos rfl]
theorem ce_v1 {i : Nat} (h : i < 40) : cm_cell s (nI i) 1 = (.inl (some (se_g s.2.1 (nI i))), s) := by unfold cm_cell; rw [if_pos ⟨ix_99 h, by decide⟩, if_neg (by decide), if_pos rfl]
theorem ce_v2 {i k : Nat} (h : i < 40) (hk : k ≤ 100) (hc : cl_ce s = nI k) : cm_cell s (nI i) 2 = (.inl (some (if i < k then ro_bs (c_s s) i else -1)), s) := by
  unfold cm_cell; rw [if_pos ⟨ix_99 h, by decide⟩, if_neg (by decide), if_neg (by decide), if_pos rfl, hc, nI_clamp (by omega)]
  by_cases z : i < k
  · rw [if_neg (nI_ge z (by omega)), if_pos z]
  · rw [if_pos (nI_le (by omega) (by omega)), if_neg z]
theorem ce_v3 {i k : Nat} (h : i < 40) (hk : k ≤ 100) (hc : cl_ce s = nI k) : cm_cell s (nI i) 3 = (.inl (some (if i < k then c_s s i else -1)), s) := by
  unfold cm_cell; rw [if_pos ⟨ix_99 h, by decide⟩, if_neg (by decide), if_neg (by decide), if_neg (by decide), hc]
  by_cases z : i < k
  · rw [if_neg (nI_ge z (by omega)), if_pos z]; unfold ro_mi; rw [if_pos (ix_99 h), nI_clamp (by omega)]
  · rw [if_pos (nI_le (by omega) (by omega)), if_neg z]
theorem du_0 {i : Nat} : du d i 0 = gr_d d i := by
  unfold du
  rw [show gr_d d i * 0 / 1000 = 0 by rw [show gr_d d i * 0 = 0 by grind]; decide]
  grind
theorem wk_v {r x : Int32} : bb (ca_w s.2.2.1 ≤ 6 ∧ s.2.2.1.2.2 ≤ s.2.2.1.1) = bb (lwk (tg (t_a s) (t_L s r x))) := by
  have e : (ca_w s.2.2.1 ≤ 6 ∧ s.2.2.1.2.2 ≤ s.2.2.1.1) ↔ lwk (tg (t_a s) (t_L s r x)) := by
    show _ ↔ (s.2.2.1.2.1 - s.2.2.1.2.1 / 10 * 10 < 7 ∧ s.2.2.1.2.2 ≤ s.2.2.1.1)
    have : ca_w s.2.2.1 ≤ 6 ↔ s.2.2.1.2.1 - s.2.2.1.2.1 / 10 * 10 < 7 := by
      show s.2.2.1.2.1 - s.2.2.1.2.1 / 10 * 10 ≤ 6 ↔ _
      rw [Int32.le_iff_toInt_le, Int32.lt_iff_toInt_lt, show (6 : Int32).toInt = 6 by decide, show (7 : Int32).toInt = 7 by decide]
      omega
    rw [this]
  by_cases z : ca_w s.2.2.1 ≤ 6 ∧ s.2.2.1.2.2 ≤ s.2.2.1.1
  · rw [bb_t z, bb_t (e.mp z)]
  · rw [bb_f z, bb_f (fun w => z (e.mpr w))]
theorem kp_v {k kp lo wa mk : Nat} {c : Nat → Nat} (hi : ivx n s k kp lo wa mk c) : cm_isKept s = 1 := by
  unfold cm_isKept
  refine bb_t ?_
  obtain ⟨w1, w2, w3, w4⟩ : iv_w s kp wa mk := hi.2.2.2.2.2.2.1
  have hm : cl_me s = nI (ln_N (s.1 2)) := hi.2.2.2.2.2.2.2.1
  have e := ts_sum (s.1 0) hi.st
  have a0 : ho_m 0 (s.1 0) 0 = nI (ts 0 (s.1 0)) := ho_m_ts0 (t := 0) hi.st
  have a1 : ho_m 1 (s.1 0) 0 = nI (ts 1 (s.1 0)) := ho_m_ts0 (t := 1) hi.st
  have a2 : ho_m 2 (s.1 0) 0 = nI (ts 2 (s.1 0)) := ho_m_ts0 (t := 2) hi.st
  rw [a0, a1, a2, hm, w1, w2, show (0 : Int32) = nI 0 from rfl, nI_add, nI_add, nI_add, nI_add, nI_add]
  congr 1; omega
/-! the row of things, as the law reads it -/
theorem th_v {i : Nat} {r : tt_R} (hl : (s.1 2).length ≤ 8000) (hr : (s.1 2)[i]? = some r) {w v : Int32} (hw : ii w 0 3) (e : (if w = 0 then r.1 else if ¬ r.1 = 0 then -1 else if w = 1 then r.2.1 else if w = 2 then r.2.2.1 else r.2.2.1 + r.2.2.2 - 1) = v) : cm_thing s (nI i) w = (.inl (some v), s) := by
  have hi : i < (s.1 2).length := (List.getElem?_eq_some_iff.mp hr).1
  unfold cm_thing
  rw [if_pos ⟨nI_pos' (by omega), nI_lt hi (by omega)⟩, if_pos hw, tt_g_nI hr (by omega), tt_g_nI hr (by omega), tt_g_nI hr (by omega), tt_g_nI hr (by omega)]
  subst e; rfl
theorem mt_v {k kp lo wa mk : Nat} {c : Nat → Nat} (hi : ivx n s k kp lo wa mk c) {p : Nat} (hp : p < ln_N (s.1 2)) : cm_metre s (nI p) = (.inl (some (ln_c (s.1 2) p)), s) := by
  have hm : cl_me s = nI (ln_N (s.1 2)) := hi.2.2.2.2.2.2.2.1
  have hN := hi.N
  unfold cm_metre
  rw [if_pos ⟨nI_pos' (by omega), by rw [hm]; exact nI_lt hp (by omega)⟩]
  have := ro_ma_c (s.1 2) p 0 hi.2.2.2.1.1 (Nat.zero_le _) (by omega) (by omega)
  rw [show ro_ma (nI p) (s.1 2) 0 = ln_c (s.1 2) (p - 0) from this, Nat.sub_zero]
theorem ma_v {k kp lo wa mk : Nat} {c : Nat → Nat} (hi : ivx n s k kp lo wa mk c) {p : Nat} (hp : p < ln_N (s.1 2)) : cm_metreAnew s (nI p) = (.inl (some (ln_c (s.1 2) p)), s) := by
  have hm : cl_me s = nI (ln_N (s.1 2)) := hi.2.2.2.2.2.2.2.1
  have hN := hi.N
  have hd : iv_d n s k := hi.2.2.2.2.2.2.2.2.1
  unfold cm_metreAnew
  rw [if_pos ⟨nI_pos' (by omega), by rw [hm]; exact nI_lt hp (by omega)⟩, hd.1 p hp]
/-- the thing of number i, and the metres ahead of it -/
theorem tk_i {i : Nat} {r : tt_R} {T : List tt_R} (hr : T[i]? = some r) : T.take (i + 1) = T.take i ++ [r] ∧ ln_N (T.take (i + 1)) = ln_N (T.take i) + rl r ∧ (∀ x, x < rl r → ln_c T (ln_N (T.take i) + x) = 100000 * r.2.1 + r.2.2.1 + nI x) ∧ ln_N (T.take i) + rl r ≤ ln_N T ∧ ∀ k s, ro_n k (T.take (i + 1)) s = if r.1 = k then ro_n k (T.take i) s + 1 else ro_n k (T.take i) s := by
  have hi : i < T.length := (List.getElem?_eq_some_iff.mp hr).1
  have e : T.take (i + 1) = T.take i ++ [r] := by rw [List.take_add_one, hr]; rfl
  have eT : T = T.take i ++ (r :: T.drop (i + 1)) := by
    rw [show r :: T.drop (i + 1) = [r] ++ T.drop (i + 1) from rfl, ← List.append_assoc, ← e, List.take_append_drop]
  refine ⟨e, by rw [e, ln_N_app, ln_N1], fun x hx => ?_, ?_, fun k s => ?_⟩
  · have e2 := ln_c_app (T.take i) (r :: T.drop (i + 1)) (ln_N (T.take i) + x)
    rw [← eT] at e2
    rw [e2, if_neg (by omega), show ln_N (T.take i) + x - ln_N (T.take i) = x by omega, ln_c, if_pos hx]
  · have e2 : ln_N T = ln_N (T.take i ++ (r :: T.drop (i + 1))) := by rw [← eT]
    rw [e2, ln_N_app, ln_N]; omega
  · rw [e, rn_app]; rfl
theorem nj_i : ∀ (T : List tt_R) (i : Nat) (r q : tt_R), nj T → T[i]? = some r → T[i + 1]? = some q → ¬ (r.1 = 0 ∧ q.1 = 0)
  | [], i, r, q, _, hr, _ => by simp at hr
  | [x], 0, r, q, _, _, hq => by simp at hq
  | x :: z :: T, 0, r, q, h, hr, hq => by
    cases hr; cases hq; exact h.1
  | x :: T, i + 1, r, q, h, hr, hq => nj_i T i r q h.2 hr hq
end E0
