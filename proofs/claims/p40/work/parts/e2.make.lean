/-! P40: THE LAW: what holds between two turns; a piece that is made -/
abbrev lv_L (b y pcs at0 turn : Int32) (u : Nat) (x9 x10 x11 x12 x13 x14 x15 x16 : Value) : List Value := [.retAddr u, .ref 0, .ref 29, .ref 30, .ref 31, .int y, .int pcs, .int at0, .int turn, x9, x10, x11, x12, x13, x14, x15, x16]
def lw_QE : mm_R → mm_H → Prop := fun r h' => r = .inl (some (.int 1)) ∧ h'.2.2.1 ≤ 600130 ∧ h'.2.2.2 ≤ 7301080
abbrev tz_k (s : cl_S) (k : Nat) : Nat → Int32 := tg (t_a s) [s.2.2.1.1, s.2.2.1.2.1, cl_la s, nI k, cl_bu s, cl_lo s, cl_wa s, s.2.2.1.2.2, t_r s, t_l s]
def lj (y turn pcs : Nat) (h : mm_H) : Prop := ∃ (n : Nat) (s : cl_S) (d : Nat → Int32) (e k td : Nat), e ≤ turn ∧ n ≤ turn ∧ lb h s d (c_s s) (t_f s (t_r s)) (70 + e) (80000 + 6 * e) ∧ p_I n s d y pcs k ∧ k ≤ 39 ∧ s.2.2.1.1 = nI td ∧ td ≤ 3 * turn
section E2
variable {l : Launch} {G : mm_G} {M M' : mm_M} {Q : mm_R → mm_H → Prop} {pc idx : Nat} {ls st as stk : List Value} {h : mm_H} {s : cl_S} {d m t : Nat → Int32} {c0 n0 n y kp k lo wa mk e turn pcs u : Nat} {c : Nat → Nat}
theorem cH_x {P : Value → mm_H → Prop} {n : Nat} (hd : decode M.2.1 pc = .ok (.invokestatic idx, 3)) (hL : mm_wsx M' = mm_wsH M' ∧ mm_LSW M.1.cls idx M' n) (hR : mm_rr M M') (hc : mm_Ct l G M' as h (mm_qi P)) (hstk : stk = as.reverse ++ st) (hn : as.length = n) (hst : (st.map fun v => v.category).sum ≤ 8) (hH : M.2.2.2.2.1 = []) (k : ∀ v h1, P v h1 → mm_Ex l G M Q (pc + 3) ls (v :: st) h1) : mm_Ex l G M Q pc ls stk h :=
  ex_callSX hd hL hR hn hst hH hc hstk (fun ov h1 q => by obtain ⟨v, q1, q2⟩ := q; cases q1; exact k v h1 q2) (fun E h1 q => by obtain ⟨v, q1, -⟩ := q; cases q1)
theorem lb_x (B : lb h s d m t c0 n0) {v : Int32} {x : cl_R × cl_S} (e : x.1 = .inl (some v)) (hc : mm_Ct l G M as h (cl_A x c0 n0 h)) : mm_Ct l G M as h (lq v x.2 d m t c0 n0) := by
  obtain ⟨R, s'⟩ := x
  obtain rfl : R = .inl (some v) := e
  exact mm_ct_mono hc (fun r h' ⟨q1, q2, q3⟩ => ⟨.int v, q1, rfl, lb_call B q2 q3⟩)
theorem lb_w (B : lb h s d m t c0 n0) {v : Int32} {x : cl_R × cl_S} (e : wr_v x.1 = v) (hc : mm_Ct l G M as h (wr_A x c0 n0 h)) : mm_Ct l G M as h (lq v x.2 d m t (c0 + cl_e x.1) (n0 + 6 * cl_e x.1)) :=
  mm_ct_mono hc (fun r h' ⟨w, q0, q1, q2, q3⟩ => ⟨w, q0, q1.trans (congrArg _ e), lb_call B q2 q3⟩)
theorem lb_room (B : lb h s d m t (70 + e) (80000 + 6 * e)) (he : e ≤ 60) : h.2.2.1 ≤ 600130 ∧ h.2.2.2 ≤ 7301080 := by
  obtain ⟨⟨⟨vs, ns, -, hT, ⟨gs, g1, g2⟩, hs⟩, -⟩, -⟩ := B
  have h4 : ∀ i, i < 7 → ns i ≤ 400000 := fun i hi => (hT i hi).2.2.1
  have h5 : ∀ i, i < 7 → gs i ≤ 18 := fun i hi => by
    rcases Nat.lt_or_ge (gs i) 19 with z | z
    · omega
    · have := Nat.pow_le_pow_right (show 2 > 0 by decide) z
      have := g1 i hi
      have := h4 i hi
      omega
  have a0 := h4 0 (by decide); have a1 := h4 1 (by decide); have a2 := h4 2 (by decide); have a3 := h4 3 (by decide); have a4 := h4 4 (by decide); have a5 := h4 5 (by decide); have a6 := h4 6 (by decide)
  have b0 := h5 0 (by decide); have b1 := h5 1 (by decide); have b2 := h5 2 (by decide); have b3 := h5 3 (by decide); have b4 := h5 4 (by decide); have b5 := h5 5 (by decide); have b6 := h5 6 (by decide)
  unfold s7 at g2 hs
  omega
theorem td_of {s' : cl_S} {r x : Int32} {a : Nat → Int32} {L : List Int32} (h : t_f s' r = tg a (x :: L)) : s'.2.2.1.1 = x := congrFun h 3
theorem p_I_iv {s : cl_S} (h : p_I n s d y kp k) : iv n s := by
  obtain ⟨⟨lo, wa, mk, c, hi⟩, -⟩ := h
  exact hi.iv
theorem p_I_c {s : cl_S} (h : p_I n s d y kp k) : cl_ce s = nI k ∧ kp ≤ 30 ∧ y < 4 ∧ (cl_bu s = 0 ∨ cl_bu s = 1) := by
  obtain ⟨⟨lo, wa, mk, c, hi⟩, hT, -⟩ := h
  refine ⟨hi.1.1, hi.2.1.2.1, hT.1, ?_⟩
  rcases (show iv_b s k lo from hi.2.2.2.2.2.1).1 with z | z
  · exact Or.inl z.1
  · exact Or.inr z
theorem lw_make (hl : l.stackTraces = false) {at0 : Int32} {x9 x11 x13 x14 x15 x16 : Value} {y10 : Int32} {j : Nat} (hj : j < 3) (ht : turn < 60) (hp : pcs < 30) (hJ : lj y turn pcs h)
    (K : ∀ (h : mm_H) (x13 x14 x15 x16 : Value), lj y (turn + 1) (pcs + 1) h → mm_Ex l G mm_law lw_QE 1158 (lv_L 0 (nI y) (nI (pcs + 1)) at0 (nI turn) u x9 (.int y10) x11 (.int (nI j)) x13 x14 x15 x16) [] h) :
    mm_Ex l G mm_law lw_QE 228 (lv_L 0 (nI y) (nI pcs) at0 (nI turn) u x9 (.int y10) x11 (.int (nI j)) x13 x14 x15 x16) [] h := by
  obtain ⟨n, s, d, e, k, td, he, hn, B, hI, hk, htd, htd2⟩ := hJ
  obtain ⟨hc, hkp, hy, hbb⟩ := p_I_c hI
  replace B : lb h s d (c_s s) (tz_k s k) (70 + e) (80000 + 6 * e) := by unfold tz_k; rw [← hc]; exact B
  refine ex_iconst (v := 1) dL_law_228 (by decide) ?_
  refine ex_iload dL_law_229 rfl ?_
  refine ex_ldc dL_law_231 k_L_89 ?_
  refine cS_x dL_law_233 (mm_ks i_L_low l_L_78) ⟨(Nat.le_of_ble_eq_true rfl), (Nat.le_of_ble_eq_true rfl)⟩ (c_L_low _ 40000 (by decide) (by decide) _ rfl) rfl rfl (Nat.le_of_ble_eq_true rfl) rfl ?_
  rintro _ h ⟨⟨q, hq, rfl⟩, rfl⟩
  refine ex_iadd dL_law_236 ?_
  rw [show 1 + nI q = nI (q + 1) from (Int32.add_comm _ _).trans (nI_1 q)]
  refine ex_istore dL_law_237 (Nat.le_of_ble_eq_true rfl) ?_
  refine ex_aload_n dL_law_239 rfl ?_
  refine ex_iload dL_law_240 rfl ?_
  refine ex_iload dL_law_242 rfl ?_
  refine ex_iload dL_law_244 rfl ?_
  refine cV_x dL_law_246 (mm_kv i_X8_make l_L_90) ⟨(Nat.le_of_ble_eq_true rfl), (Nat.le_of_ble_eq_true rfl)⟩ (lb_x B (make_law hI hp hj (show 1 ≤ q + 1 by omega) (by omega)).1 (k8_make hl B.1 (p_I_iv hI) (by omega) _ _ _)) rfl rfl (cP_ow B.1) (Nat.le_of_ble_eq_true rfl) rfl ?_
  rintro _ h ⟨rfl, B⟩
  refine ex_iload dL_law_249 rfl ?_
  refine ex_icmp_eq (tgt := 256) dL_law_251 (by decide) (fun _ => ?_) (fun z => absurd rfl z)
  refine ex_iinc (d := 1) dL_law_256 rfl (by decide) ?_
  refine ex_aload dL_law_259 rfl ?_
  refine ex_iload dL_law_261 rfl ?_
  refine ex_dup2 dL_law_263 rfl rfl ?_
  refine ex_ialv (v := ((t_a s)) j) dL_law_264 B.2.2.2 (vp_in_nI (by omega) (by decide)) (tg_k (j := j) (nI_clamp (by omega)) (by omega)) ?_
  refine ex_iload dL_law_265 rfl ?_
  refine ex_iadd dL_law_267 ?_
  refine ex_iastore dL_law_268 B.2.2.2 (vp_in_nI (by omega) (by decide)) ?_
  refine sx_t B (t' := tg (upd (t_a s) j ((((t_a s)) j) + nI (q + 1))) [s.2.2.1.1, s.2.2.1.2.1, cl_la s, nI k, cl_bu s, cl_lo s, cl_wa s, s.2.2.1.2.2, t_r s, t_l s]) (tg_w (j := j) (nI_clamp (by omega)) (by omega)) (fun h B => ?_)
  refine ex_goto (tgt := 1158) dL_law_269 (by decide) ?_
  skip
  obtain ⟨-, m2, m3, m4⟩ := make_law hI hp hj (show 1 ≤ q + 1 by omega) (show q + 1 ≤ 40000 by omega)
  rw [nI_1]
  refine K h _ _ _ _ ⟨n + 1, _, d, e, k, td, by omega, by omega, ?_, m2, hk, (td_of m3).trans htd, by omega⟩
  rw [m3, m4]
  show lb h _ d _ (tg _ [_, _, _, cl_ce s, _, _, _, _, _, _]) _ _
  rw [hc]; exact B
end E2
