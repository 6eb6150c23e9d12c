/-! THE MODEL: what goes out, whether types fit, whether it holds -/
def gx_p (q r : tt_R) : tt_R := (r.1, r.2.1, q.2.2.1 + q.2.2.2, r.2.2.1 + r.2.2.2 - (q.2.2.1 + q.2.2.2))
def gx : List tt_R → List tt_R → List tt_R
  | [], R => R
  | _ :: _, [] => []
  | q :: g, r :: R => if q.2.2.1 + q.2.2.2 - 1 = r.2.2.1 + r.2.2.2 - 1 then gx g R else gx g (gx_p q r :: R)
def gx_ok : List tt_R → List tt_R → Prop
  | [], _ => True
  | _ :: _, [] => False
  | q :: g, r :: R => if q.2.2.1 + q.2.2.2 - 1 = r.2.2.1 + r.2.2.2 - 1 then gx_ok g R else gx_ok g (gx_p q r :: R)
theorem ho_ga_acc {t : Int32} : ∀ (R : List tt_R) (m : Int32) (g : List tt_R), ho_ga t R m g = (g ++ (ho_ga t R m []).1, (ho_ga t R m []).2)
  | [], m, g => by show (g, m) = (g ++ [], m); rw [List.append_nil]
  | r :: R, m, g => by
    by_cases hm : m ≤ 0
    · rw [ho_ga_0 hm, ho_ga_0 hm]; simp
    rw [ho_ga, ho_ga, if_neg hm, if_neg hm]
    by_cases e : r.1 = t
    · rw [if_pos e, if_pos e, ho_ga_acc R _ (g ++ _), ho_ga_acc R _ ([] ++ _)]; simp
    · rw [if_neg e, if_neg e]; exact ho_ga_acc R m g
theorem ho_so_0 {t : Int32} {R : List tt_R} {m : Int32} {d : List tt_R} (hm : m ≤ 0) : ho_so t R m d = R.reverse ++ d := by
  cases R with
  | nil => rfl
  | cons q R => rw [ho_so, if_pos hm]
theorem mn_le {m n : Int32} (h : ¬ mn m n = n) : mn m n = m := by
  unfold mn at h ⊢
  split
  · rename_i z; rw [if_pos z] at h; exact absurd rfl h
  · rfl
/-- taking out by the list of what goes out is taking out by metres -/
theorem gx_so {t : Int32} : ∀ (R : List tt_R) (m : Int32), (∀ r ∈ R, r.1 = t) → (ho_ga t R m []).2 = 0 → gx_ok (ho_ga t R m []).1 R ∧ (gx (ho_ga t R m []).1 R).reverse = ho_so t R m []
  | [], m, _, _ => ⟨trivial, rfl⟩
  | r :: R, m, hR, h0 => by
    by_cases hm : m ≤ 0
    · rw [ho_ga_0 hm, ho_so_0 hm]; exact ⟨trivial, by rw [List.append_nil]; rfl⟩
    have e : r.1 = t := hR r List.mem_cons_self
    rw [ho_ga, if_neg hm, if_pos e, ho_ga_acc] at h0 ⊢
    rw [ho_so, if_neg hm, if_pos e]
    show gx_ok (_ :: (ho_ga t R (m - mn m r.2.2.2) []).1) _ ∧ (gx (_ :: (ho_ga t R (m - mn m r.2.2.2) []).1) _).reverse = _
    rw [gx_ok, gx]
    by_cases hf : mn m r.2.2.2 = r.2.2.2
    · have e1 : r.2.2.1 + mn m r.2.2.2 - 1 = r.2.2.1 + r.2.2.2 - 1 := by rw [hf]
      rw [if_pos e1, if_pos e1, if_pos hf]
      exact gx_so R _ (fun q hq => hR q (List.mem_cons_of_mem _ hq)) h0
    · have e1 : ¬ r.2.2.1 + mn m r.2.2.2 - 1 = r.2.2.1 + r.2.2.2 - 1 := fun z => hf (by grind)
      rw [if_neg e1, if_neg e1, if_neg hf]
      have e2 : m - mn m r.2.2.2 ≤ 0 := by rw [mn_le hf]; grind
      rw [ho_ga_0 e2, ho_so_0 e2]
      refine ⟨trivial, ?_⟩
      show (gx_p (t, r.2.1, r.2.2.1, mn m r.2.2.2) r :: R).reverse = R.reverse ++ [(r.1, r.2.1, r.2.2.1 + mn m r.2.2.2, r.2.2.2 - mn m r.2.2.2)]
      rw [List.reverse_cons, show gx_p (t, r.2.1, r.2.2.1, mn m r.2.2.2) r = (r.1, r.2.1, r.2.2.1 + mn m r.2.2.2, r.2.2.2 - mn m r.2.2.2) from by unfold gx_p; simp only [Prod.mk.injEq, true_and]; grind]
theorem tf_so {t u : Int32} : ∀ (R : List tt_R) (m : Int32) (d : List tt_R), tf u (ho_so t R m d) = if u = t then ho_so t (tf t R) m (tf t d) else (tf u R).reverse ++ tf u d
  | [], m, d => by
    by_cases e : u = t
    · rw [if_pos e, e]; rfl
    · rw [if_neg e]; rfl
  | r :: R, m, d => by
    by_cases hm : m ≤ 0
    · rw [ho_so_0 hm]
      by_cases e : u = t
      · rw [if_pos e, e, ho_so_0 hm, ← tf_rev]; unfold tf; rw [List.filter_append]
      · rw [if_neg e, ← tf_rev]; unfold tf; rw [List.filter_append]
    have hc : ∀ (v : Int32) (q : tt_R) (L : List tt_R), tf v (q :: L) = if q.1 = v then q :: tf v L else tf v L := fun v q L => by
      unfold tf; rw [List.filter_cons]
      by_cases e : q.1 = v
      · rw [if_pos (decide_eq_true e), if_pos e]
      · rw [if_neg (fun z => e (of_decide_eq_true z)), if_neg e]
    rw [ho_so, if_neg hm, hc t r R, hc u r R]
    by_cases e : r.1 = t
    · rw [if_pos e, if_pos e, ho_so, if_neg hm, if_pos e]
      by_cases hf : mn m r.2.2.2 = r.2.2.2
      · rw [if_pos hf, if_pos hf, tf_so R]
        by_cases e2 : u = t
        · rw [if_pos e2, if_pos e2]
        · rw [if_neg e2, if_neg e2, if_neg (fun z => e2 (z.symm.trans e))]
          
      · rw [if_neg hf, if_neg hf, tf_so R]
        by_cases e2 : u = t
        · rw [if_pos e2, if_pos e2, hc t, if_pos e]
        · have e3 : ¬ r.1 = u := fun z => e2 (z.symm.trans e)
          rw [if_neg e2, if_neg e2, if_neg e3, hc u, if_neg e3]
    · rw [if_neg e, if_neg e, tf_so R]
      by_cases e2 : u = t
      · rw [if_pos e2, if_pos e2, hc t, if_neg e]
      · rw [if_neg e2, if_neg e2, hc u]
        by_cases e3 : r.1 = u
        · rw [if_pos e3, if_pos e3, List.reverse_cons, List.append_assoc]; rfl
        · rw [if_neg e3, if_neg e3]
section MOC
variable {l : Launch} {G : mm_G} {h0 h : mm_H} {s : mo_S} {S : se_T} {T W g : List tt_R}
theorem r_tk.keep {s1 : mo_S} {t u : Nat} {L : List tt_R} (h : r_tk s u L) (h13 : s1.2.2 13 u = s.2.2 13 u) (h14 : s1.2.2 14 = s.2.2 14) (h15 : ∀ i, i < 30 → s1.2.2 15 (30 * u + i) = s.2.2 15 (30 * u + i)) (h16 : s1.2.2 16 = s.2.2 16) : r_tk s1 u L := by
  obtain ⟨a, b, c⟩ := h
  refine ⟨h13.trans a, b, fun i r hr => ?_⟩
  have hi := (List.getElem?_eq_some_iff.mp hr).1
  rw [h14, h16, h15 i (by omega)]
  exact c i r hr
theorem c_X9_goesOut (p : mo_P h0 h s) {t : Nat} (h3 : t < 3) (tv : Int32) (htv : tv = nI t) {R : List tt_R} (ht : r_tk s t R.reverse) (ho : r_out s g) (hg : g.length ≤ 30) (hx : gx_ok g R) : mm_Ct l G mX9_goesOut [.ref 29, .int tv] h (mm_qv (fun h' => ∃ s', mo_P h0 h' s' ∧ mo_F [13, 15] s s' ∧ r_tk s' t (gx g R).reverse ∧ ∀ u L, u < 3 → ¬ u = t → r_tk s u L → r_tk s' u L)) := by
  subst htv
  have key : ∀ (R : List tt_R) (s1 : mo_S) (h1 : mm_H) (x3 : Value), mo_P h0 h1 s1 → mo_F [13, 15] s s1 → gx_ok g R → r_tk s1 t R.reverse → (∀ u L, u < 3 → ¬ u = t → r_tk s u L → r_tk s1 u L) → mm_Ex l G mX9_goesOut (mm_qv (fun h' => ∃ s', mo_P h0 h' s' ∧ mo_F [13, 15] s s' ∧ r_tk s' t (gx g R).reverse ∧ ∀ u L, u < 3 → ¬ u = t → r_tk s u L → r_tk s' u L)) 2 [.ref 29, .int (nI t), .int (nI 0), x3] [] h1 := by
    refine lp_fwd g (fun i g' => ∀ (R : List tt_R) (s1 : mo_S) (h1 : mm_H) (x3 : Value), mo_P h0 h1 s1 → mo_F [13, 15] s s1 → gx_ok g' R → r_tk s1 t R.reverse → (∀ u L, u < 3 → ¬ u = t → r_tk s u L → r_tk s1 u L) → mm_Ex l G mX9_goesOut (mm_qv (fun h' => ∃ s', mo_P h0 h' s' ∧ mo_F [13, 15] s s' ∧ r_tk s' t (gx g' R).reverse ∧ ∀ u L, u < 3 → ¬ u = t → r_tk s u L → r_tk s' u L)) 2 [.ref 29, .int (nI t), .int (nI i), x3] [] h1) ?_ ?_
    · intro R s1 h1 x3 p1 f1 g1 t1 q1
      refine ex_iload_n dX9_goesOut_2 rfl ?_
      refine ex_aload_n dX9_goesOut_3 rfl ?_
      refine ex_getfield (v := .int (nI g.length)) dX9_goesOut_4 g_X9_193 (mP_o p1) (congrArg (fun z => some (Value.int z)) (f1.g ho.1)) ?_
      refine ex_icmp_ge (tgt := 72) dX9_goesOut_7 (by decide) (fun _ => ?_) (fun z => absurd (Int32.le_refl _) z)
      refine ex_return dX9_goesOut_72 rfl ?_
      exact ⟨rfl, s1, p1, f1, t1, q1⟩
    · intro i q g' hr hR hi ih R s1 h1 x3 p1 f1 g1 t1 q1
      cases R with
      | nil => exact g1.elim
      | cons r R =>
        obtain ⟨b1, b2, b3⟩ := id t1
        have hRl : (r :: R).reverse.length = R.length + 1 := by rw [List.length_reverse, List.length_cons]
        rw [hRl] at b1 b2
        have hlast : (r :: R).reverse[R.length]? = some r := by rw [List.reverse_cons, List.getElem?_append_right (by rw [List.length_reverse]; exact Nat.le_refl _), List.length_reverse, Nat.sub_self]; rfl
        obtain ⟨d1, d2, d3⟩ := b3 _ _ hlast
        have hix : (30 : Int32) * nI t + nI (R.length + 1) - 1 = nI (30 * t + R.length) := by rw [tk_ix, ← Nat.add_assoc]; exact nI_m1 _
        refine ex_iload_n dX9_goesOut_2 rfl ?_
        refine ex_aload_n dX9_goesOut_3 rfl ?_
        refine ex_getfield (v := .int (nI g.length)) dX9_goesOut_4 g_X9_193 (mP_o p1) (congrArg (fun z => some (Value.int z)) (f1.g ho.1)) ?_
        refine ex_icmp_ge (tgt := 72) dX9_goesOut_7 (by decide) (fun z => absurd z (nI_ge hi (by omega))) (fun _ => ?_)
        refine ex_bipush (v := 30) dX9_goesOut_10 (by decide) ?_
        refine ex_iload_n dX9_goesOut_12 rfl ?_
        refine ex_imul dX9_goesOut_13 ?_
        refine ex_aload_n dX9_goesOut_14 rfl ?_
        refine ex_getfield dX9_goesOut_15 g_X9_29 (mP_o p1) rfl ?_
        refine ex_iload_n dX9_goesOut_18 rfl ?_
        refine ex_ialoadv (v := nI (R.length + 1)) dX9_goesOut_19 (mA_13 p1) (by first | assumption | exact vp_in_nI (by omega) (by decide)) (mo_av b1 rfl (by omega)) ?_
        refine ex_iadd dX9_goesOut_20 ?_
        refine ex_iconst (v := 1) dX9_goesOut_21 (by decide) ?_
        refine ex_isub dX9_goesOut_22 ?_
        rw [hix]
        refine ex_istore_n dX9_goesOut_23 (Nat.le_of_ble_eq_true rfl) ?_
        refine ex_aload_n dX9_goesOut_24 rfl ?_
        refine ex_getfield dX9_goesOut_25 g_X9_47 (mP_o p1) rfl ?_
        refine ex_iload_n dX9_goesOut_28 rfl ?_
        refine ex_ialoadv (v := q.2.2.1 + q.2.2.2 - 1) dX9_goesOut_29 (mA_20 p1) (by first | assumption | exact vp_in_nI (by omega) (by decide)) (f1.v (ho.2 i q hr).2.2 rfl (by omega)) ?_
        refine ex_aload_n dX9_goesOut_30 rfl ?_
        refine ex_getfield dX9_goesOut_31 g_X9_38 (mP_o p1) rfl ?_
        refine ex_iload_n dX9_goesOut_34 rfl ?_
        refine ex_ialoadv (v := r.2.2.1 + r.2.2.2 - 1) dX9_goesOut_35 (mA_16 p1) (by first | assumption | exact vp_in_nI (by omega) (by decide)) (mo_av d3 rfl (by omega)) ?_
        skip
        by_cases hc : q.2.2.1 + q.2.2.2 - 1 = r.2.2.1 + r.2.2.2 - 1
        · rw [gx_ok, if_pos hc] at g1
          rw [gx, if_pos hc]
          refine ex_icmp_ne (tgt := 52) dX9_goesOut_36 (by decide) (fun z => absurd hc z) (fun _ => ?_)
          refine ex_aload_n dX9_goesOut_39 rfl ?_
          refine ex_getfield dX9_goesOut_40 g_X9_29 (mP_o p1) rfl ?_
          refine ex_iload_n dX9_goesOut_43 rfl ?_
          refine ex_dup2 dX9_goesOut_44 rfl rfl ?_
          refine ex_ialoadv (v := nI (R.length + 1)) dX9_goesOut_45 (mA_13 p1) (by first | assumption | exact vp_in_nI (by omega) (by decide)) (mo_av b1 rfl (by omega)) ?_
          refine ex_iconst (v := 1) dX9_goesOut_46 (by decide) ?_
          refine ex_isub dX9_goesOut_47 ?_
          rw [nI_m1]
          refine ex_iastore dX9_goesOut_48 (mA_13 p1) (by first | assumption | exact vp_in_nI (by omega) (by decide)) ?_
          refine mq_13 p1 (fun h48 p48 => ?_)
          refine ex_goto (tgt := 66) dX9_goesOut_49 (by decide) ?_
          skip
          rw [nI_clamp (show t < 2 ^ 31 by omega)] at p48
          have t2 : r_tk (mo_sa s1 13 t (nI R.length)) t R.reverse := by
            refine ⟨by show upd _ _ _ _ = _; rw [pk_us, List.length_reverse], by rw [List.length_reverse]; omega, fun i q hq => ?_⟩
            exact b3 i q (by rw [List.reverse_cons, List.getElem?_append_left (List.getElem?_eq_some_iff.mp hq).1]; exact hq)
          refine ex_iinc (d := 1) dX9_goesOut_66 rfl (by decide) ?_
          refine ex_goto (tgt := 2) dX9_goesOut_69 (by decide) ?_
          rw [nI_1]; exact ih _ _ _ _ p48 (f1.a 13 rfl) g1 t2 (fun u L hu hut hq => (q1 u L hu hut hq).keep (t := t) (pk_un hut) rfl (fun _ _ => rfl) rfl)
        · rw [gx_ok, if_neg hc] at g1
          rw [gx, if_neg hc]
          refine ex_icmp_ne (tgt := 52) dX9_goesOut_36 (by decide) (fun _ => ?_) (fun z => absurd z hc)
          refine ex_aload_n dX9_goesOut_52 rfl ?_
          refine ex_getfield dX9_goesOut_53 g_X9_35 (mP_o p1) rfl ?_
          refine ex_iload_n dX9_goesOut_56 rfl ?_
          refine ex_aload_n dX9_goesOut_57 rfl ?_
          refine ex_getfield dX9_goesOut_58 g_X9_47 (mP_o p1) rfl ?_
          refine ex_iload_n dX9_goesOut_61 rfl ?_
          refine ex_ialoadv (v := q.2.2.1 + q.2.2.2 - 1) dX9_goesOut_62 (mA_20 p1) (by first | assumption | exact vp_in_nI (by omega) (by decide)) (f1.v (ho.2 i q hr).2.2 rfl (by omega)) ?_
          refine ex_iconst (v := 1) dX9_goesOut_63 (by decide) ?_
          refine ex_iadd dX9_goesOut_64 ?_
          rw [show q.2.2.1 + q.2.2.2 - 1 + 1 = q.2.2.1 + q.2.2.2 by grind]
          refine ex_iastore dX9_goesOut_65 (mA_15 p1) (by first | assumption | exact vp_in_nI (by omega) (by decide)) ?_
          refine mq_15 p1 (fun h65 p65 => ?_)
          skip
          rw [nI_clamp (show 30 * t + R.length < 2 ^ 31 by omega)] at p65
          have t2 : r_tk (mo_sa s1 15 (30 * t + R.length) (q.2.2.1 + q.2.2.2)) t (gx_p q r :: R).reverse := by
            have hl2 : (gx_p q r :: R).reverse.length = R.length + 1 := by rw [List.length_reverse, List.length_cons]
            refine ⟨by rw [hl2]; exact b1, by rw [hl2]; exact b2, fun i y hy => ?_⟩
            have hi2 := (List.getElem?_eq_some_iff.mp hy).1
            rw [hl2] at hi2
            rw [List.reverse_cons] at hy
            by_cases hil : i < R.length
            · rw [List.getElem?_append_left (by rw [List.length_reverse]; exact hil)] at hy
              have := b3 i y (by rw [List.reverse_cons, List.getElem?_append_left (by rw [List.length_reverse]; exact hil)]; exact hy)
              exact ⟨this.1, (pk_un (by omega)).trans this.2.1, this.2.2⟩
            · obtain rfl : i = R.length := by omega
              rw [List.getElem?_append_right (by rw [List.length_reverse]; exact Nat.le_refl _), List.length_reverse, Nat.sub_self] at hy
              cases hy
              refine ⟨d1, pk_us, ?_⟩
              refine d3.trans ?_
              unfold gx_p
              grind
          refine ex_iinc (d := 1) dX9_goesOut_66 rfl (by decide) ?_
          refine ex_goto (tgt := 2) dX9_goesOut_69 (by decide) ?_
          rw [nI_1]; exact ih _ _ _ _ p65 (f1.a 15 rfl) g1 t2 (fun u L hu hut hq => (q1 u L hu hut hq).keep (t := t) rfl rfl (fun j hj => pk_un (by omega)) rfl)
  refine mm_ct (by decide +kernel) (by decide +kernel) rfl (by simp [Value.category]) (Nat.le_of_ble_eq_true rfl) rfl ?_
  refine ex_iconst (v := 0) dX9_goesOut_0 (by decide) ?_
  refine ex_istore_n dX9_goesOut_1 (Nat.le_of_ble_eq_true rfl) ?_
  exact key R s h _ p (mo_F.refl _ s) hx ht (fun u L _ _ h => h)
end MOC
