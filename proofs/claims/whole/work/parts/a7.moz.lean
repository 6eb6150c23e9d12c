/-! THE MODEL: the search of a way -/
theorem us_i {L D : List tt_R} {w d : Int32} {i : Nat} {q : tt_R} (h6 : L.length ≤ 6) (hq : L[i]? = some q) : bt (ne_us D w d L 0 0) i = true ↔ bt d i = false ∧ ¬ ne_fr i D q.2.2.1 < w := by
  have hi := (List.getElem?_eq_some_iff.mp hq).1
  rw [us_f (by omega) L 0 0 (by omega), bt_z]
  constructor
  · rintro (z | ⟨j, r, h1, h2, h3⟩)
    · cases z
    · rw [Nat.zero_add] at h2
      rw [h2, hq] at h1
      cases h1; exact h3
  · intro z; exact Or.inr ⟨i, q, hq, Nat.zero_add i, z⟩
theorem us_no {L D : List tt_R} {w d : Int32} {i : Nat} (h6 : L.length ≤ 6) (hi : i < 6) (hL : L.length ≤ i) : bt (ne_us D w d L 0 0) i = false := by
  cases e : bt (ne_us D w d L 0 0) i with
  | false => rfl
  | true =>
    have := (us_f (by omega) L 0 0 (by omega)).mp e
    rw [bt_z] at this
    rcases this with z | ⟨j, r, h1, h2, h3⟩
    · cases z
    · have := (List.getElem?_eq_some_iff.mp h1).1
      omega
def mw_0 (L : List tt_R) (u : Int32) (i : Nat) (nd : Int32) : Int32 := if bt u i = true then (match L[i]? with | none => -1 | some r => ne_oe r nd) else -1
theorem mw_t0 (L : List tt_R) (u : Int32) (i : Nat) (nd vis : Int32) : mw_t L u i nd vis = if mw_0 L u i nd = -1 then -1 else if (vis >>> (mw_0 L u i nd &&& 31)) &&& 1 = 0 then mw_0 L u i nd else -1 := by
  unfold mw_t mw_0
  by_cases e : bt u i = true
  · rw [if_pos e, if_pos e]
    cases L[i]? with
    | none => rw [if_pos rfl]
    | some r => rfl
  · rw [if_neg e, if_neg e, if_pos rfl]
section MOZ
variable {l : Launch} {G : mm_G} {h0 h : mm_H} {m : mo_S} {s : cl_S} {n : Nat}
theorem c_X9_hasFree (p : mo_P h0 h m) (r : r_all s m) (hi : iv n s) (hn : n ≤ 513) {i : Nat} {q : tt_R} (hq : (s.1 5)[i]? = some q) {j : Nat} {e : tt_R} (he : (s.1 6)[j]? = some e) (iv0 jv : Int32) (hiv : iv0 = nI i) (hjv : jv = nI j) : mm_Ct l G mX9_hasFree [.ref 29, .int iv0, .int jv] h (mm_ri (.int (bb (bt (ne_us (s.1 6) e.2.2.1 (cl_dl s) (s.1 5) 0 0) i = true))) h) := by
  subst hiv hjv
  have hi2 := hi
  obtain ⟨k, kp, lo, wa, mk, c, hx⟩ := hi2
  obtain ⟨⟨g1, g2, g3, g4⟩, g5, g6⟩ := hx.2.2.2.2.2.2.2.2.2.2.2
  have hil := (List.getElem?_eq_some_iff.mp hq).1
  have hjl := (List.getElem?_eq_some_iff.mp he).1
  obtain ⟨d1, d2, d3, d4⟩ := r.2.2.2.2.2.2.2.2.1.2.1 i q hq
  obtain ⟨-, rd⟩ := r.2.2.2.2.2.2.2.2.2
  have hdm := r.2.2.2.2.2.2.2.2.2.1
  have key : ∀ f : Int32, mm_Ex l G mX9_hasFree (mm_ri (.int (bb (bt (cl_dl s) i = false ∧ ¬ ne_fr i (s.1 6) f < e.2.2.1))) h) 10 [.ref 29, .int (nI i), .int (nI j), .int f, .int (nI 0)] [] h := by
    refine lp_fwd (s.1 6) (fun x R => ∀ f : Int32, mm_Ex l G mX9_hasFree (mm_ri (.int (bb (bt (cl_dl s) i = false ∧ ¬ ne_fr i R f < e.2.2.1))) h) 10 [.ref 29, .int (nI i), .int (nI j), .int f, .int (nI x)] [] h) ?_ ?_
    · intro f
      refine ex_iload dX9_hasFree_10 rfl ?_
      refine ex_aload_n dX9_hasFree_12 rfl ?_
      refine ex_getfield (v := .int (nI (s.1 6).length)) dX9_hasFree_13 g_X9_286 (mP_o p) (congrArg (fun z => some (Value.int z)) (hdm)) ?_
      refine ex_icmp_ge (tgt := 54) dX9_hasFree_16 (by decide) (fun _ => ?_) (fun z => absurd (Int32.le_refl _) z)
      refine ex_aload_n dX9_hasFree_54 rfl ?_
      refine ex_iload_n dX9_hasFree_55 rfl ?_
      refine cV_f dX9_hasFree_56 (mm_kv i_X9_isDeadNow l_X9_289) ⟨(Nat.le_of_ble_eq_true rfl), (Nat.le_of_ble_eq_true rfl)⟩ (c_X9_isDeadNow p r hi hn hq) rfl rfl (mP_o p) (Nat.le_of_ble_eq_true rfl) rfl ?_
      refine ex_if_ne (tgt := 76) dX9_hasFree_59 (by decide) (fun c_59 => ?_) (fun c_59 => ?_)
      · refine ex_iconst (v := 0) dX9_hasFree_76 (by decide) ?_
        refine ex_ireturn dX9_hasFree_77 ⟨_, rfl, (by first | rfl | exact bb_r)⟩ ?_
        exact bq_f (fun z => by have := bb_n.mp c_59; rw [z.1] at this; cases this)
      · refine ex_iload_n dX9_hasFree_62 rfl ?_
        refine ex_aload_n dX9_hasFree_63 rfl ?_
        refine ex_getfield dX9_hasFree_64 g_X9_111 (mP_o p) rfl ?_
        refine ex_iload_n dX9_hasFree_67 rfl ?_
        refine ex_ialoadv (v := e.2.2.1) dX9_hasFree_68 (mA_51 p) (by first | assumption | exact vp_in_nI (by omega) (by decide)) (mo_av (rd j e he).2.2.1 rfl (by omega)) ?_
        refine ex_icmp_lt (tgt := 76) dX9_hasFree_69 (by decide) (fun c_69 => ?_) (fun c_69 => ?_)
        · refine ex_iconst (v := 0) dX9_hasFree_76 (by decide) ?_
          refine ex_ireturn dX9_hasFree_77 ⟨_, rfl, (by first | rfl | exact bb_r)⟩ ?_
          exact bq_f (fun z => z.2 c_69)
        · refine ex_iconst (v := 1) dX9_hasFree_72 (by decide) ?_
          refine ex_goto (tgt := 77) dX9_hasFree_73 (by decide) ?_
          refine ex_ireturn dX9_hasFree_77 ⟨_, rfl, (by first | rfl | exact bb_r)⟩ ?_
          exact bq_t ⟨(by have := bb_0.mp c_59; cases hb : bt (cl_dl s) i; rfl; exact absurd hb this), c_69⟩
    · intro x y R hr hR hxl ih f
      rw [ne_fr]
      refine ex_iload dX9_hasFree_10 rfl ?_
      refine ex_aload_n dX9_hasFree_12 rfl ?_
      refine ex_getfield (v := .int (nI (s.1 6).length)) dX9_hasFree_13 g_X9_286 (mP_o p) (congrArg (fun z => some (Value.int z)) (hdm)) ?_
      refine ex_icmp_ge (tgt := 54) dX9_hasFree_16 (by decide) (fun z => absurd z (nI_ge hxl (by omega))) (fun _ => ?_)
      skip
      refine mm_viaJ (if ne_b y.2.2.2 i = 1 then y.2.2.1 else 0) (pc' := 46) (ls' := [.ref 29, .int (nI i), .int (nI j), .int f, .int (nI x)]) (st := [.int f]) ?_ (fun kk => ?_)
      · have hih := ih (f - (if ne_b y.2.2.2 i = 1 then y.2.2.1 else 0))
        have hfr : (if ne_b y.2.2.2 i = 1 then ne_fr i R (f - y.2.2.1) else ne_fr i R f) = ne_fr i R (f - (if ne_b y.2.2.2 i = 1 then y.2.2.1 else 0)) := by
          by_cases z : ne_b y.2.2.2 i = 1
          · rw [if_pos z, if_pos z]
          · rw [if_neg z, if_neg z, show f - 0 = f by grind]
        rw [hfr]
        refine ex_isub dX9_hasFree_46 ?_
        refine ex_istore_n dX9_hasFree_47 (Nat.le_of_ble_eq_true rfl) ?_
        refine ex_iinc (d := 1) dX9_hasFree_48 rfl (by decide) ?_
        refine ex_goto (tgt := 10) dX9_hasFree_51 (by decide) ?_
        rw [nI_1]; exact hih
      · skip
        refine ex_iload_n dX9_hasFree_19 rfl ?_
        refine ex_aload_n dX9_hasFree_20 rfl ?_
        refine ex_getfield dX9_hasFree_21 g_X9_114 (mP_o p) rfl ?_
        refine ex_iload dX9_hasFree_24 rfl ?_
        refine ex_ialoadv (v := y.2.2.2) dX9_hasFree_26 (mA_52 p) (by first | assumption | exact vp_in_nI (by omega) (by decide)) (mo_av (rd x y hr).2.2.2 rfl (by omega)) ?_
        refine ex_iload_n dX9_hasFree_27 rfl ?_
        refine ex_ishr dX9_hasFree_28 ?_
        refine ex_iconst (v := 1) dX9_hasFree_29 (by decide) ?_
        refine ex_iand dX9_hasFree_30 ?_
        refine ex_iconst (v := 1) dX9_hasFree_31 (by decide) ?_
        refine ex_icmp_ne (tgt := 45) dX9_hasFree_32 (by decide) (fun c_32 => ?_) (fun c_32 => ?_)
        · refine ex_iconst (v := 0) dX9_hasFree_45 (by decide) ?_
          exact kk _ (by rw [if_neg (show ¬ ne_b y.2.2.2 i = 1 from c_32)])
        · refine ex_aload_n dX9_hasFree_35 rfl ?_
          refine ex_getfield dX9_hasFree_36 g_X9_111 (mP_o p) rfl ?_
          refine ex_iload dX9_hasFree_39 rfl ?_
          refine ex_ialoadv (v := y.2.2.1) dX9_hasFree_41 (mA_51 p) (by first | assumption | exact vp_in_nI (by omega) (by decide)) (mo_av (rd x y hr).2.2.1 rfl (by omega)) ?_
          refine ex_goto (tgt := 46) dX9_hasFree_42 (by decide) ?_
          exact kk _ (by rw [if_pos (show ne_b y.2.2.2 i = 1 from c_32)])
  rw [bb_c (us_i g2 hq)]
  refine mm_ct (by decide +kernel) (by decide +kernel) rfl (by simp [Value.category]) (Nat.le_of_ble_eq_true rfl) rfl ?_
  refine ex_aload_n dX9_hasFree_0 rfl ?_
  refine ex_getfield dX9_hasFree_1 g_X9_99 (mP_o p) rfl ?_
  refine ex_iload_n dX9_hasFree_4 rfl ?_
  refine ex_ialoadv (v := q.2.2.1) dX9_hasFree_5 (mA_46 p) (by first | assumption | exact vp_in_nI (by omega) (by decide)) (mo_av d3 rfl (by omega)) ?_
  refine ex_istore_n dX9_hasFree_6 (Nat.le_of_ble_eq_true rfl) ?_
  refine ex_iconst (v := 0) dX9_hasFree_7 (by decide) ?_
  refine ex_istore dX9_hasFree_8 (Nat.le_of_ble_eq_true rfl) ?_
  exact key q.2.2.1
end MOZ
