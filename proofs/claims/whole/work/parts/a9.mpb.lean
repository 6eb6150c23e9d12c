/-! THE MODEL: carrying demands -/
def dm_k (r : tt_R) : Prop := ∃ a b w z : Nat, r = (nI a, nI b, nI w, nI z) ∧ a < 4 ∧ b < 4 ∧ a ≠ b ∧ 1 ≤ w ∧ w ≤ 8 ∧ z < 64
def dm_t (s : cl_S) (D : List tt_R) : cl_S := (va_up s.1 6 D, s.2)
def dm_e (e : tt_R) (v : Int32) : tt_R := (e.1, e.2.1, e.2.2.1, v)
section MPB1
variable {m : mo_S} {s : cl_S} {n : Nat}
theorem iv.D (h : iv n s) : (s.1 6).length ≤ 10 ∧ ∀ r ∈ s.1 6, dm_k r := by
  obtain ⟨k, kp, lo, wa, mk, c, b1, b2, b3, b4, b5, b6, b7, b8, b9, b10, b11, b12⟩ := h
  exact b12.2
theorem iv.L (h : iv n s) : 1 ≤ (s.1 5).length ∧ (s.1 5).length ≤ 6 ∧ ∀ r ∈ s.1 5, lk_k r := by
  obtain ⟨k, kp, lo, wa, mk, c, b1, b2, b3, b4, b5, b6, b7, b8, b9, b10, b11, ⟨g1, g2, g3, g4⟩, -⟩ := h
  refine ⟨g1, g2, fun q hq => ?_⟩
  obtain ⟨a, b, w, d, eq, h1, h2, h3, -⟩ := g4 q hq
  exact ⟨a, b, by rw [eq], by rw [eq], h1, h2, h3⟩
theorem iv_dem (h : iv n s) {D : List tt_R} (h1 : D.length ≤ 10) (h2 : ∀ r ∈ D, dm_k r) (st : Nat → Int32) : iv n (va_up s.1 6 D, s.2.1, s.2.2.1, s.2.2.2.1, s.2.2.2.2.1, st, s.2.2.2.2.2.2) := by
  obtain ⟨k, kp, lo, wa, mk, c, b1, b2, b3, b4, b5, b6, b7, b8, b9, b10, b11, b12⟩ := h
  exact ⟨k, kp, lo, wa, mk, c, b1, b2, b3, b4, b5, b6, b7, b8, b9, b10, b11, b12.1, h1, h2⟩
theorem iv_dt (h : iv n s) {D : List tt_R} (h1 : D.length ≤ 10) (h2 : ∀ r ∈ D, dm_k r) : iv n (dm_t s D) := iv_dem h h1 h2 s.2.2.2.2.2.1
theorem dm_k.e {e : tt_R} (h : dm_k e) {z : Nat} (hz : z < 64) : dm_k (dm_e e (nI z)) := by
  obtain ⟨a, b, w, z0, rfl, h1, h2, h3, h4, h5, h6⟩ := h
  exact ⟨a, b, w, z, rfl, h1, h2, h3, h4, h5, hz⟩
theorem dm_t.r {D : List tt_R} (r : r_all s m) (h1 : m.1 48 = nI D.length) (h2 : r_rows (m.2.2 49) (m.2.2 50) (m.2.2 51) (m.2.2 52) D) : r_all (dm_t s D) m := ⟨r.1, r.2.1, r.2.2.1, r.2.2.2.1, r.2.2.2.2.1, r.2.2.2.2.2.1, r.2.2.2.2.2.2.1, r.2.2.2.2.2.2.2.1, r.2.2.2.2.2.2.2.2.1, h1, h2⟩
theorem r_dm (r : r_all s m) {j : Nat} {e : tt_R} (he : (s.1 6)[j]? = some e) (v : Int32) : r_all (dm_t s ((s.1 6).set j (dm_e e v))) (mo_sa m 52 j v) := by
  obtain ⟨h1, h2⟩ := r.2.2.2.2.2.2.2.2.2
  exact ⟨r.1, r.2.1, r.2.2.1, r.2.2.2.1, r.2.2.2.2.1, r.2.2.2.2.2.1, r.2.2.2.2.2.2.1, r.2.2.2.2.2.2.2.1, r.2.2.2.2.2.2.2.2.1, by
    show m.1 48 = nI ((s.1 6).set j _).length
    rw [List.length_set]; exact h1, r_rows.set3 h2 he v⟩
theorem dm_id {j : Nat} {e : tt_R} (he : (s.1 6)[j]? = some e) : dm_t s ((s.1 6).set j (dm_e e e.2.2.2)) = s := by
  have : (s.1 6).set j (dm_e e e.2.2.2) = s.1 6 := by
    obtain ⟨h1, h2⟩ := List.getElem?_eq_some_iff.mp he
    rw [show dm_e e e.2.2.2 = (s.1 6)[j] from h2.symm]
    exact List.set_getElem_self h1
  unfold dm_t
  rw [this, va_id]
end MPB1
/-- the lengths of ways from k on -/
def mcrt (L : List tt_R) (u : Int32) (a b : Nat) : Nat → Nat → Int32
  | 0, _ => 0
  | t + 1, k => if ms L u k a b (6 ^ k) 0 = 0 then mcrt L u a b t (k + 1) else ms L u k a b (6 ^ k) 0
theorem mcrt_3 {L : List tt_R} {u : Int32} {a b : Nat} : mcrt L u a b 3 1 = mcr L u a b := by
  show (if ms L u 1 a b 6 0 = 0 then (if ms L u 2 a b 36 0 = 0 then (if ms L u 3 a b 216 0 = 0 then 0 else ms L u 3 a b 216 0) else ms L u 2 a b 36 0) else ms L u 1 a b 6 0) = _
  unfold mcr
  by_cases h1 : ms L u 1 a b 6 0 = 0
  · rw [if_pos h1, if_pos h1]
    by_cases h2 : ms L u 2 a b 36 0 = 0
    · rw [if_pos h2, if_pos h2]
      by_cases h3 : ms L u 3 a b 216 0 = 0
      · rw [if_pos h3, h3]
      · rw [if_neg h3]
    · rw [if_neg h2, if_neg h2]
  · rw [if_neg h1, if_neg h1]
def dm_u (s : cl_S) (e : tt_R) : Int32 := ne_us (s.1 6) e.2.2.1 (cl_dl s) (s.1 5) 0 0
theorem ne_w_f {s : cl_S} {n : Nat} (hi : iv n s) {e : tt_R} {a b : Nat} (h1 : e.1 = nI a) (h2 : e.2.1 = nI b) (ha : a < 4) (hb : b < 4) (hab : ¬ a = b) (st : Nat → Int32) : ne_w (s.1 5) (s.1 6) st (cl_dl s) e = mcr (s.1 5) (dm_u s e) a b := by
  obtain ⟨g1, g2, g3⟩ := hi.L
  unfold ne_w dm_u
  rw [h1, h2]
  exact mcr_f g3 g2 ha hb hab st
section MPB
variable {l : Launch} {G : mm_G} {h0 h : mm_H} {m : mo_S} {s : cl_S} {n : Nat}
theorem x_X9_car (p : mo_P h0 h m) (r : r_all s m) {j : Nat} {e : tt_R} (he : (s.1 6)[j]? = some e) (hj : j < 10) (hz : ¬ e.2.2.2 = 0) {x0 : Int32} (hx0 : m.1 0 = x0) (k : Nat) : mm_Ex l G mX9_carries (mm_qv (fun h' => ∃ m', mo_P h0 h' m' ∧ r_all s m' ∧ m'.1 0 = x0)) 2 [.ref 29, .int (nI j), .int (nI k)] [] h := by
  obtain ⟨-, rd⟩ := r.2.2.2.2.2.2.2.2.2
  refine ex_iload_n dX9_carries_2 rfl ?_
  refine ex_iconst (v := 4) dX9_carries_3 (by decide) ?_
  refine ex_icmp_ge (tgt := 34) dX9_carries_4 (by decide) (fun c_4 => ?_) (fun c_4 => ?_)
  · refine ex_return dX9_carries_34 rfl ?_
    exact ⟨rfl, _, p, r, hx0⟩
  · refine ex_aload_n dX9_carries_7 rfl ?_
    refine ex_getfield dX9_carries_8 g_X9_114 (mP_o p) rfl ?_
    refine ex_iload_n dX9_carries_11 rfl ?_
    refine ex_ialoadv (v := e.2.2.2) dX9_carries_12 (mA_52 p) (by first | assumption | exact vp_in_nI (by omega) (by decide)) (mo_av (rd j e he).2.2.2 rfl (by omega)) ?_
    refine ex_if_ne (tgt := 34) dX9_carries_13 (by decide) (fun _ => ?_) (fun z => absurd z hz)
    refine ex_return dX9_carries_34 rfl ?_
    exact ⟨rfl, _, p, r, hx0⟩
theorem x_X9_crs (hi : iv n s) (hn : n ≤ 513) {j : Nat} {e : tt_R} {a b : Nat} (he : (s.1 6)[j]? = some e) (h1 : e.1 = nI a) (h2 : e.2.1 = nI b) (ha : a < 4) (hb : b < 4) (hz : e.2.2.2 = 0) {x0 : Int32} : ∀ (t k : Nat) (m : mo_S) (h : mm_H), t + k = 4 → mo_P h0 h m → r_all s m → m.1 0 = x0 → mm_Ex l G mX9_carries (mm_qv (fun h' => ∃ m', mo_P h0 h' m' ∧ r_all (dm_t s ((s.1 6).set j (dm_e e (mcrt (s.1 5) (dm_u s e) a b t k)))) m' ∧ m'.1 0 = x0)) 2 [.ref 29, .int (nI j), .int (nI k)] [] h
  | 0, k, m, h, hk, p, r, hx0 => by
    refine ex_iload_n dX9_carries_2 rfl ?_
    refine ex_iconst (v := 4) dX9_carries_3 (by decide) ?_
    refine ex_icmp_ge (tgt := 34) dX9_carries_4 (by decide) (fun _ => ?_) (fun z => absurd (by rw [show k = 4 by omega]; exact Int32.le_refl _) z)
    refine ex_return dX9_carries_34 rfl ?_
    exact ⟨rfl, _, p, (by rw [mcrt, ← hz, dm_id he]; exact r), hx0⟩
  | t + 1, k, m, h, hk, p, r, hx0 => by
    have hj := (List.getElem?_eq_some_iff.mp he).1
    have hj10 : j < 10 := by have := hi.D.1; omega
    obtain ⟨-, rd⟩ := r.2.2.2.2.2.2.2.2.2
    rw [mcrt]
    refine ex_iload_n dX9_carries_2 rfl ?_
    refine ex_iconst (v := 4) dX9_carries_3 (by decide) ?_
    refine ex_icmp_ge (tgt := 34) dX9_carries_4 (by decide) (fun z => absurd z (nI_ge (b := 4) (by omega) (by decide))) (fun _ => ?_)
    refine ex_aload_n dX9_carries_7 rfl ?_
    refine ex_getfield dX9_carries_8 g_X9_114 (mP_o p) rfl ?_
    refine ex_iload_n dX9_carries_11 rfl ?_
    refine ex_ialoadv (v := 0) dX9_carries_12 (mA_52 p) (by first | assumption | exact vp_in_nI (by omega) (by decide)) (mo_av (show m.2.2 52 j = 0 from (rd j e he).2.2.2.trans hz) rfl (by omega)) ?_
    refine ex_if_ne (tgt := 34) dX9_carries_13 (by decide) (fun z => absurd rfl z) (fun _ => ?_)
    refine ex_aload_n dX9_carries_16 rfl ?_
    refine ex_getfield dX9_carries_17 g_X9_114 (mP_o p) rfl ?_
    refine ex_iload_n dX9_carries_20 rfl ?_
    refine ex_aload_n dX9_carries_21 rfl ?_
    refine ex_iload_n dX9_carries_22 rfl ?_
    refine ex_iload_n dX9_carries_23 rfl ?_
    refine cV_f dX9_carries_24 (mm_kv i_X9_wayOf l_X9_298) ⟨(Nat.le_of_ble_eq_true rfl), (Nat.le_of_ble_eq_true rfl)⟩ (c_X9_wayOf p r hi hn he h1 h2 ha hb (k := k) (by omega) _ rfl) rfl rfl (mP_o p) (Nat.le_of_ble_eq_true rfl) rfl ?_
    refine ex_iastore dX9_carries_27 (mA_52 p) (by first | assumption | exact vp_in_nI (by omega) (by decide)) ?_
    refine mq_52 p (fun h27 p27 => ?_)
    skip
    rw [nI_clamp (show j < 2 ^ 31 by omega)] at p27
    change mo_P h0 h27 (mo_sa m 52 j (ms (s.1 5) (dm_u s e) k a b (6 ^ k) 0)) at p27
    have r2 := r_dm r he (ms (s.1 5) (dm_u s e) k a b (6 ^ k) 0)
    refine ex_iinc (d := 1) dX9_carries_28 rfl (by decide) ?_
    refine ex_goto (tgt := 2) dX9_carries_31 (by decide) ?_
    rw [nI_1]
    by_cases hw : ms (s.1 5) (dm_u s e) k a b (6 ^ k) 0 = 0
    · rw [if_pos hw]
      rw [hw, ← hz, dm_id he, hz] at r2
      rw [hw] at p27
      exact x_X9_crs hi hn he h1 h2 ha hb hz t (k + 1) _ _ (by omega) p27 r2 hx0
    · rw [if_neg hw]
      exact x_X9_car p27 r2 (show ((s.1 6).set j _)[j]? = some _ from List.getElem?_set_self hj) hj10 hw hx0 (k + 1)
/-- the new row of a demand -/
def dm_n (s : cl_S) (e : tt_R) : tt_R := dm_e e (if e.2.2.2 = 0 then ne_w (s.1 5) (s.1 6) s.2.2.2.2.2.1 (cl_dl s) e else e.2.2.2)
theorem c_X9_carries (p : mo_P h0 h m) (r : r_all s m) (hi : iv n s) (hn : n ≤ 513) {j : Nat} {e : tt_R} (he : (s.1 6)[j]? = some e) (jv : Int32) (hjv : jv = nI j) : mm_Ct l G mX9_carries [.ref 29, .int jv] h (mm_qv (fun h' => ∃ m', mo_P h0 h' m' ∧ r_all (dm_t s ((s.1 6).set j (dm_n s e))) m' ∧ m'.1 0 = m.1 0)) := by
  subst hjv
  have hj10 : j < 10 := by have := hi.D.1; have := (List.getElem?_eq_some_iff.mp he).1; omega
  obtain ⟨a, b, w, z, rfl, ha, hb, hab, -⟩ := hi.D.2 _ (List.mem_of_getElem? he)
  refine mm_ct (by decide +kernel) (by decide +kernel) rfl (by simp [Value.category]) (Nat.le_of_ble_eq_true rfl) rfl ?_
  by_cases hz : nI z = 0
  · have e1 : dm_n s (nI a, nI b, nI w, nI z) = dm_e (nI a, nI b, nI w, nI z) (mcrt (s.1 5) (dm_u s (nI a, nI b, nI w, nI z)) a b 3 1) := by
      unfold dm_n
      rw [if_pos (show (nI a, nI b, nI w, nI z).2.2.2 = 0 from hz), mcrt_3, ne_w_f hi (a := a) (b := b) rfl rfl ha hb hab]
    rw [e1]
    refine ex_iconst (v := 1) dX9_carries_0 (by decide) ?_
    refine ex_istore_n dX9_carries_1 (Nat.le_of_ble_eq_true rfl) ?_
    exact x_X9_crs hi hn he rfl rfl ha hb hz 3 1 m h rfl p r rfl
  · have e1 : dm_n s (nI a, nI b, nI w, nI z) = dm_e (nI a, nI b, nI w, nI z) (nI z) := by
      unfold dm_n
      rw [if_neg (show ¬ (nI a, nI b, nI w, nI z).2.2.2 = 0 from hz)]
    rw [e1, show dm_t s ((s.1 6).set j (dm_e (nI a, nI b, nI w, nI z) (nI z))) = s from dm_id he]
    refine ex_iconst (v := 1) dX9_carries_0 (by decide) ?_
    refine ex_istore_n dX9_carries_1 (Nat.le_of_ble_eq_true rfl) ?_
    exact x_X9_car p r he hj10 hz rfl 1
theorem dl_no (hi : iv n s) {i : Nat} (h1 : (s.1 5).length ≤ i) (h2 : i < 32) : bt (cl_dl s) i = false := by
  obtain ⟨g1, g2, g3⟩ := hi.L
  have ht := td_f h2 (s.1 5) 0 0 (by omega)
  cases e : bt (cl_dl s) i with
  | false => rfl
  | true =>
    unfold cl_dl at e
    rw [bt_or, Bool.or_eq_true, ht, bt_z] at e
    rcases e with (z | ⟨j, q, a1, a2, a3⟩) | z
    · cases z
    · have := (List.getElem?_eq_some_iff.mp a1).1
      omega
    · exfalso
      by_cases y : cl_wk s = true
      · rw [if_pos y, bt_z] at z; cases z
      · rw [if_neg y, show (1 : Int32) = ne_1 0 by decide, bt_1 (by decide) h2, decide_eq_true_iff] at z
        omega
/-- is a demand carried by links of which none is dead -/
def ic (w d : Int32) : Nat → Nat → Bool → Bool
  | 0, _, b => b
  | t + 1, k, b => ic w d t (k + 1) (b && (!(bt w k) || !(bt d k)))
theorem ic_f {w d : Int32} : ∀ (t k : Nat) (b : Bool), ic w d t k b = true ↔ b = true ∧ ∀ i, k ≤ i → i < k + t → ¬ (bt w i = true ∧ bt d i = true)
  | 0, k, b => ⟨fun h => ⟨h, fun i h1 h2 => absurd h2 (by omega)⟩, fun h => h.1⟩
  | t + 1, k, b => by
    rw [ic, ic_f t (k + 1), Bool.and_eq_true, Bool.or_eq_true]
    have hk : ((!bt w k) = true ∨ (!bt d k) = true) ↔ ¬ (bt w k = true ∧ bt d k = true) := by
      cases bt w k <;> cases bt d k <;> decide
    rw [hk]
    constructor
    · rintro ⟨⟨h1, h2⟩, h3⟩
      refine ⟨h1, fun i hi1 hi2 => ?_⟩
      by_cases e : i = k
      · rw [e]; exact h2
      · exact h3 i (by omega) (by omega)
    · rintro ⟨h1, h2⟩
      exact ⟨⟨h1, h2 k (Nat.le_refl k) (by omega)⟩, fun i hi1 hi2 => h2 i (by omega) (by omega)⟩
theorem ic_l (hi : iv n s) {w : Int32} : ic w (cl_dl s) (s.1 5).length 0 (decide (¬ w = 0)) = true ↔ ¬ w = 0 ∧ w &&& cl_dl s = 0 := by
  rw [ic_f, decide_eq_true_iff]
  refine and_congr_right (fun _ => ?_)
  constructor
  · intro h
    refine bt_ext (fun i hi2 => ?_)
    rw [bt_and, bt_z]
    by_cases e : i < (s.1 5).length
    · have := h i (Nat.zero_le i) (by omega)
      cases e1 : bt w i
      · rfl
      · cases e2 : bt (cl_dl s) i
        · rfl
        · exact absurd ⟨e1, e2⟩ this
    · rw [dl_no hi (by omega) hi2, Bool.and_false]
  · intro h i _ h2 ⟨h3, h4⟩
    have := bt_and w (cl_dl s) i
    rw [h, bt_z, h3, h4] at this
    cases this
theorem c_X9_isCarried (p : mo_P h0 h m) (r : r_all s m) (hi : iv n s) (hn : n ≤ 513) {j : Nat} {e : tt_R} (he : (s.1 6)[j]? = some e) (jv : Int32) (hjv : jv = nI j) : mm_Ct l G mX9_isCarried [.ref 29, .int jv] h (mm_ri (.int (bb (¬ e.2.2.2 = 0 ∧ e.2.2.2 &&& cl_dl s = 0))) h) := by
  subst hjv
  have hj10 : j < 10 := by have := hi.D.1; have := (List.getElem?_eq_some_iff.mp he).1; omega
  obtain ⟨g1, g2, g3⟩ := hi.L
  have hl := r.2.2.2.2.2.2.2.2.1.1
  obtain ⟨-, rd⟩ := r.2.2.2.2.2.2.2.2.2
  have key : ∀ (t k : Nat) (b : Bool), k + t = (s.1 5).length → mm_Ex l G mX9_isCarried (mm_ri (.int (bb (ic e.2.2.2 (cl_dl s) t k b = true))) h) 17 [.ref 29, .int (nI j), .int (bb (b = true)), .int (nI k)] [] h := by
    intro t
    induction t with
    | zero =>
      intro k b hk
      refine ex_iload_n dX9_isCarried_17 rfl ?_
      refine ex_aload_n dX9_isCarried_18 rfl ?_
      refine ex_getfield (v := .int (nI (s.1 5).length)) dX9_isCarried_19 g_X9_89 (mP_o p) (congrArg (fun z => some (Value.int z)) (hl)) ?_
      refine ex_icmp_ge (tgt := 62) dX9_isCarried_22 (by decide) (fun _ => ?_) (fun z => absurd (by rw [← hk]; exact Int32.le_refl _) z)
      refine ex_iload_n dX9_isCarried_62 rfl ?_
      refine ex_ireturn dX9_isCarried_63 ⟨_, rfl, (by first | rfl | exact bb_r)⟩ ?_
      exact ⟨rfl, rfl⟩
    | succ t ih =>
      intro k b hk
      have hq := List.getElem?_eq_getElem (show k < (s.1 5).length by omega)
      generalize (s.1 5)[k] = q at hq
      rw [ic]
      refine mm_viaJ (bb ((b && (!(bt e.2.2.2 k) || !(bt (cl_dl s) k))) = true)) (pc' := 55) (ls' := [.ref 29, .int (nI j), .int (bb (b = true)), .int (nI k)]) (st := []) ?_ (fun kk => ?_)
      · skip
        refine ex_istore_n dX9_isCarried_55 (Nat.le_of_ble_eq_true rfl) ?_
        refine ex_iinc (d := 1) dX9_isCarried_56 rfl (by decide) ?_
        refine ex_goto (tgt := 17) dX9_isCarried_59 (by decide) ?_
        rw [nI_1]; exact ih (k + 1) _ (by omega)
      · skip
        refine ex_iload_n dX9_isCarried_17 rfl ?_
        refine ex_aload_n dX9_isCarried_18 rfl ?_
        refine ex_getfield (v := .int (nI (s.1 5).length)) dX9_isCarried_19 g_X9_89 (mP_o p) (congrArg (fun z => some (Value.int z)) (hl)) ?_
        refine ex_icmp_ge (tgt := 62) dX9_isCarried_22 (by decide) (fun z => absurd z (nI_ge (by omega) (by omega))) (fun _ => ?_)
        refine ex_iload_n dX9_isCarried_25 rfl ?_
        refine ex_if_eq (tgt := 54) dX9_isCarried_26 (by decide) (fun c_26 => ?_) (fun c_26 => ?_)
        · refine ex_iconst (v := 0) dX9_isCarried_54 (by decide) ?_
          exact kk _ (bb_f (fun z => by rw [Bool.and_eq_true] at z; exact bb_0.mp c_26 z.1)).symm
        · refine ex_aload_n dX9_isCarried_29 rfl ?_
          refine ex_getfield dX9_isCarried_30 g_X9_114 (mP_o p) rfl ?_
          refine ex_iload_n dX9_isCarried_33 rfl ?_
          refine ex_ialoadv (v := e.2.2.2) dX9_isCarried_34 (mA_52 p) (by first | assumption | exact vp_in_nI (by omega) (by decide)) (mo_av (rd j e he).2.2.2 rfl (by omega)) ?_
          refine ex_iload_n dX9_isCarried_35 rfl ?_
          refine ex_ishr dX9_isCarried_36 ?_
          refine ex_iconst (v := 1) dX9_isCarried_37 (by decide) ?_
          refine ex_iand dX9_isCarried_38 ?_
          refine ex_if_eq (tgt := 50) dX9_isCarried_39 (by decide) (fun c_39 => ?_) (fun c_39 => ?_)
          · refine ex_iconst (v := 1) dX9_isCarried_50 (by decide) ?_
            refine ex_goto (tgt := 55) dX9_isCarried_51 (by decide) ?_
            exact kk _ (bb_t (by rw [Bool.and_eq_true]; exact ⟨bb_n.mp c_26, by rw [(bt_b0 (m := e.2.2.2) (by omega)).mp c_39]; rfl⟩)).symm
          · refine ex_aload_n dX9_isCarried_42 rfl ?_
            refine ex_iload_n dX9_isCarried_43 rfl ?_
            refine cV_f dX9_isCarried_44 (mm_kv i_X9_isDeadNow l_X9_289) ⟨(Nat.le_of_ble_eq_true rfl), (Nat.le_of_ble_eq_true rfl)⟩ (c_X9_isDeadNow p r hi hn hq) rfl rfl (mP_o p) (Nat.le_of_ble_eq_true rfl) rfl ?_
            refine ex_if_ne (tgt := 54) dX9_isCarried_47 (by decide) (fun c_47 => ?_) (fun c_47 => ?_)
            · refine ex_iconst (v := 0) dX9_isCarried_54 (by decide) ?_
              exact kk _ (bb_f (fun z => by (rw [Bool.and_eq_true, bb_n.mp c_47] at z; have z2 := z.2; rw [Bool.not_true, Bool.or_false] at z2; exact c_39 ((bt_b0 (m := e.2.2.2) (by omega)).mpr (by cases hb : bt e.2.2.2 k; rfl; rw [hb] at z2; cases z2))))).symm
            · refine ex_iconst (v := 1) dX9_isCarried_50 (by decide) ?_
              refine ex_goto (tgt := 55) dX9_isCarried_51 (by decide) ?_
              exact kk _ (bb_t (by rw [Bool.and_eq_true]; exact ⟨bb_n.mp c_26, by (cases hb : bt (cl_dl s) k; rw [Bool.not_false, Bool.or_true]; exact absurd hb (bb_0.mp c_47))⟩)).symm
  rw [← bb_c (ic_l hi)]
  refine mm_ct (by decide +kernel) (by decide +kernel) rfl (by simp [Value.category]) (Nat.le_of_ble_eq_true rfl) rfl ?_
  refine ex_aload_n dX9_isCarried_0 rfl ?_
  refine ex_getfield dX9_isCarried_1 g_X9_114 (mP_o p) rfl ?_
  refine ex_iload_n dX9_isCarried_4 rfl ?_
  refine ex_ialoadv (v := e.2.2.2) dX9_isCarried_5 (mA_52 p) (by first | assumption | exact vp_in_nI (by omega) (by decide)) (mo_av (rd j e he).2.2.2 rfl (by omega)) ?_
  refine ex_if_eq (tgt := 13) dX9_isCarried_6 (by decide) (fun c_6 => ?_) (fun c_6 => ?_)
  · refine ex_iconst (v := 0) dX9_isCarried_13 (by decide) ?_
    refine ex_istore_n dX9_isCarried_14 (Nat.le_of_ble_eq_true rfl) ?_
    refine ex_iconst (v := 0) dX9_isCarried_15 (by decide) ?_
    refine ex_istore_n dX9_isCarried_16 (Nat.le_of_ble_eq_true rfl) ?_
    rw [show decide (¬ e.2.2.2 = 0) = false from decide_eq_false (fun z => z c_6)]; exact key _ 0 false (Nat.zero_add _)
  · refine ex_iconst (v := 1) dX9_isCarried_9 (by decide) ?_
    refine ex_goto (tgt := 14) dX9_isCarried_10 (by decide) ?_
    refine ex_istore_n dX9_isCarried_14 (Nat.le_of_ble_eq_true rfl) ?_
    refine ex_iconst (v := 0) dX9_isCarried_15 (by decide) ?_
    refine ex_istore_n dX9_isCarried_16 (Nat.le_of_ble_eq_true rfl) ?_
    rw [show decide (¬ e.2.2.2 = 0) = true from decide_eq_true c_6]; exact key _ 0 true (Nat.zero_add _)
theorem c_X9_isLit (p : mo_P h0 h m) (r : r_all s m) (hi : iv n s) (hn : n ≤ 513) (i : Int32) : mm_Ct l G mX9_isLit [.ref 29, .int i] h (mo_Z h0 cx_i cx_s (cm_isLit s i)) := by
  have hL : (s.1 6).length ≤ 10 := hi.D.1
  have r10 := r.2.2.2.2.2.2.2.2.2
  refine mm_ct (by decide +kernel) (by decide +kernel) rfl (by simp [Value.category]) (Nat.le_of_ble_eq_true rfl) rfl ?_
  refine mm_viaJ (if 0 ≤ i ∧ i < nI (s.1 6).length then 0 else 1) (pc' := 20) (ls' := [.ref 29, .int i]) (st := [.ref 29]) ?_ (fun k => ?_)
  · skip
    refine ex_put dX9_isLit_20 p_X9_120 (mP_o p) (Nat.le_of_ble_eq_true rfl) (fun z => nomatch z) (mm_fi _) ?_
    refine mk_0 p (fun h20 p20 => ?_)
    skip
    unfold cm_isLit
    by_cases h1 : 0 ≤ i ∧ i < nI (s.1 6).length
    rotate_left
    · rw [if_neg h1] at p20
      rw [if_neg h1]
      refine ex_aload_n dX9_isLit_23 rfl ?_
      refine ex_getfield (v := .int (1)) dX9_isLit_24 g_X9_120 (mP_o p20) (congrArg (fun z => some (Value.int z)) (rfl)) ?_
      refine ex_if_ne (tgt := 42) dX9_isLit_27 (by decide) (fun _ => ?_) (fun z => absurd z (by decide))
      refine ex_iconst (v := 0) dX9_isLit_42 (by decide) ?_
      refine ex_ireturn dX9_isLit_43 ⟨_, rfl, (by first | rfl | exact bb_r)⟩ ?_
      exact ⟨_, rfl, _, p20, r, ⟨Or.inl ⟨rfl, rfl⟩, _, rfl⟩⟩
    rw [if_pos h1] at p20
    rw [if_pos h1]
    obtain ⟨j, hj, rfl⟩ := nI_of (x := i) (Int32.not_lt.mpr h1.1)
    have hjl : j < (s.1 6).length := (nI_ltI hj (by omega)).mp h1.2
    have hq := List.getElem?_eq_getElem hjl
    generalize (s.1 6)[j] = q at hq
    rw [show tt_g (s.1 6) (nI j) 3 = q.2.2.2 from tt_g_nI hq hj]
    refine ex_aload_n dX9_isLit_23 rfl ?_
    refine ex_getfield (v := .int (0)) dX9_isLit_24 g_X9_120 (mP_o p20) (congrArg (fun z => some (Value.int z)) (rfl)) ?_
    refine ex_if_ne (tgt := 42) dX9_isLit_27 (by decide) (fun z => absurd rfl z) (fun _ => ?_)
    refine ex_aload_n dX9_isLit_30 rfl ?_
    refine ex_iload_n dX9_isLit_31 rfl ?_
    refine cV_f dX9_isLit_32 (mm_kv i_X9_isCarried l_X9_304) ⟨(Nat.le_of_ble_eq_true rfl), (Nat.le_of_ble_eq_true rfl)⟩ (c_X9_isCarried p20 r hi hn hq _ rfl) rfl rfl (mP_o p20) (Nat.le_of_ble_eq_true rfl) rfl ?_
    refine ex_if_eq (tgt := 42) dX9_isLit_35 (by decide) (fun c_35 => ?_) (fun c_35 => ?_)
    · refine ex_iconst (v := 0) dX9_isLit_42 (by decide) ?_
      refine ex_ireturn dX9_isLit_43 ⟨_, rfl, (by first | rfl | exact bb_r)⟩ ?_
      exact ⟨_, rfl, _, p20, r, rfl, congrArg Value.int (bb_f (bb_0.mp c_35)).symm⟩
    · refine ex_iconst (v := 1) dX9_isLit_38 (by decide) ?_
      refine ex_goto (tgt := 43) dX9_isLit_39 (by decide) ?_
      refine ex_ireturn dX9_isLit_43 ⟨_, rfl, (by first | rfl | exact bb_r)⟩ ?_
      exact ⟨_, rfl, _, p20, r, rfl, congrArg Value.int (bb_t (bb_n.mp c_35)).symm⟩
  · skip
    refine ex_aload_n dX9_isLit_0 rfl ?_
    refine ex_iload_n dX9_isLit_1 rfl ?_
    refine ex_iconst (v := 0) dX9_isLit_2 (by decide) ?_
    refine ex_aload_n dX9_isLit_3 rfl ?_
    refine ex_getfield (v := .int (nI (s.1 6).length)) dX9_isLit_4 g_X9_286 (mP_o p) (congrArg (fun z => some (Value.int z)) (r10.1)) ?_
    refine ex_iconst (v := 1) dX9_isLit_7 (by decide) ?_
    refine ex_isub dX9_isLit_8 ?_
    refine cS_f dX9_isLit_9 (mm_ks i_X9_isIn l_X9_123) ⟨(Nat.le_of_ble_eq_true rfl), (Nat.le_of_ble_eq_true rfl)⟩ (c_X9_isIn _ _ _) rfl rfl (Nat.le_of_ble_eq_true rfl) rfl ?_
    refine ex_if_eq (tgt := 19) dX9_isLit_12 (by decide) (fun c_12 => ?_) (fun c_12 => ?_)
    · refine ex_iconst (v := 1) dX9_isLit_19 (by decide) ?_
      exact k _ (if_neg (fun z => bb_0.mp c_12 ((ix_eq (by omega)).mpr z))).symm
    · refine ex_iconst (v := 0) dX9_isLit_15 (by decide) ?_
      refine ex_goto (tgt := 20) dX9_isLit_16 (by decide) ?_
      exact k _ (if_pos ((ix_eq (by omega)).mp (bb_n.mp c_12))).symm
end MPB
