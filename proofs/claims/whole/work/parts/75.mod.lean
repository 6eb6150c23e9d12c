theorem tf_mem2 {t : Int32} {W : List tt_R} : ∀ r ∈ (tf t W).reverse, r.1 = t := fun r hr => of_decide_eq_true (List.mem_filter.mp (List.mem_reverse.mp hr)).2
def sm (x : Int32) : Prop := x = 0 ∨ x = 1 ∨ x = 2 ∨ x = 3
def g_ok (kp : Nat) (g : List tt_R) : Prop := ∀ (i : Nat) (r : tt_R), g[i]? = some r → ∃ p, p < kp ∧ r.2.1 = nI p
theorem nr_z {a b : Int32} (ha : a = -1 ∨ sm a) (hb : sm b) : ho_nr a b = true ↔ a = -1 ∨ (b - a ≤ 1 ∧ a - b ≤ 1) := by
  unfold sm at ha hb
  rcases ha with rfl | rfl | rfl | rfl | rfl <;> rcases hb with rfl | rfl | rfl | rfl <;> decide
theorem nr_z2 {a b : Int32} (ha : a = -1 ∨ sm a) (hb : b = -1 ∨ sm b) : ho_nr a b = true ↔ a = -1 ∨ b = -1 ∨ (b - a ≤ 1 ∧ a - b ≤ 1) := by
  unfold sm at ha hb
  rcases ha with rfl | rfl | rfl | rfl | rfl <;> rcases hb with rfl | rfl | rfl | rfl | rfl <;> decide
theorem ho_ty_at {types : Nat → Int32} {kp p : Nat} (hk : kp ≤ 30) (hp : p < kp) : ho_ty types (nI kp) (nI p) = types p := by
  rw [ho_ty, if_pos ⟨nI_pos' (by omega), nI_lt hp (by omega), nI_lt (b := 30) (by omega) (by decide)⟩, nI_clamp (by omega)]
def rl (r : tt_R) : Nat := r.2.2.2.toNatClampNeg
def ln_N : List tt_R → Nat
  | [] => 0
  | r :: L => rl r + ln_N L
theorem ln_w.ln {r : tt_R} (h : ln_w r) : r.2.2.2 = nI (rl r) ∧ rl r ≤ 90000 ∧ (r.1 = 0 → 1 ≤ rl r ∧ ∃ p, p < 30 ∧ r.2.1 = nI p) ∧ (¬ r.1 = 0 → rl r = 0) := by
  unfold rl
  rcases h with ⟨h, p, f, n, h1, h2, h3, h4⟩ | ⟨h1, h2⟩
  · rw [h1]
    dsimp only
    rw [nI_clamp (show n < 2 ^ 31 by omega)]
    exact ⟨rfl, by omega, fun _ => ⟨h3, p, h2, rfl⟩, fun z => absurd h z⟩
  · rw [h2]
    exact ⟨by decide, by decide, fun z => by rw [z] at h1; exact absurd h1 (by decide), fun _ => by decide⟩
theorem ln_W.tail {r : tt_R} {T : List tt_R} (h : ln_W (r :: T)) : ln_w r ∧ ln_W T := by
  refine ⟨h.2 0 r rfl, ?_, fun i q hq => h.2 (i + 1) q hq⟩
  have := h.1
  rw [List.length_cons] at this
  omega
theorem ln_m_N : ∀ (T : List tt_R) (a : Nat), ln_W T → ln_m T (nI a) = nI (a + ln_N T)
  | [], a, _ => rfl
  | r :: T, a, h => by
    obtain ⟨h1, h2⟩ := h.tail
    rw [ln_m, h1.ln.1, nI_add, ln_m_N T _ h2, ln_N, Nat.add_assoc]
def ln_ta (types : Nat → Int32) : List tt_R → Nat → Int32
  | [], _ => -1
  | r :: L, q => if q < rl r then types r.2.1.toNatClampNeg else ln_ta types L (q - rl r)
def mo_pu (s : mo_S) (n : Nat) (k x f t : Int32) : mo_S := mo_sf (mo_sa (mo_sa (mo_sa (mo_sa s 22 n k) 23 n x) 24 n f) 25 n t) 21 (nI (n + 1))
theorem mo_F.pu {K : List Nat} {s s1 : mo_S} (h : mo_F K s s1) (n : Nat) (k x f t : Int32) (h1 : K.elem 21 = true := by rfl) (h2 : K.elem 22 = true := by rfl) (h3 : K.elem 23 = true := by rfl) (h4 : K.elem 24 = true := by rfl) (h5 : K.elem 25 = true := by rfl) : mo_F K s (mo_pu s1 n k x f t) := ((((h.a 22 h2).a 23 h3).a 24 h4).a 25 h5).f 21 h1
theorem r_line.pu {s : mo_S} {T : List tt_R} (h : r_line s T) (x : tt_R) : r_line (mo_pu s T.length x.1 x.2.1 x.2.2.1 (ln_to x)) (T ++ [x]) := by
  obtain ⟨h1, h2⟩ := h
  refine ⟨by rw [List.length_append]; rfl, fun i r hr => ⟨?_, ?_, ?_, ?_⟩⟩
  · have := ls_up (f := s.2.2 22) (c := fun r => r.1) (b := 0) (x := x) (k := T.length) (fun i r hr => by rw [Nat.zero_add]; exact (h2 i r hr).1) (by omega) i r hr
    rw [Nat.zero_add] at this; exact this
  · have := ls_up (f := s.2.2 23) (c := fun r => r.2.1) (b := 0) (x := x) (k := T.length) (fun i r hr => by rw [Nat.zero_add]; exact (h2 i r hr).2.1) (by omega) i r hr
    rw [Nat.zero_add] at this; exact this
  · have := ls_up (f := s.2.2 24) (c := fun r => r.2.2.1) (b := 0) (x := x) (k := T.length) (fun i r hr => by rw [Nat.zero_add]; exact (h2 i r hr).2.2.1) (by omega) i r hr
    rw [Nat.zero_add] at this; exact this
  · have := ls_up (f := s.2.2 25) (c := fun r => ln_to r) (b := 0) (x := x) (k := T.length) (fun i r hr => by rw [Nat.zero_add]; exact (h2 i r hr).2.2.2) (by omega) i r hr
    rw [Nat.zero_add] at this; exact this
def ap_l : List tt_R → List tt_R → List tt_R
  | [], T => T
  | q :: g, T => ap_l g (ro_ap q.2.1 q.2.2.1 q.2.2.2 T)
theorem cl_pb_ap : ∀ (g T D : List tt_R) (me : Int32), (cl_pb g T D me).1 = ap_l g T
  | [], _, _, _ => rfl
  | _ :: g, _, _, _ => cl_pb_ap g _ _ _
section MOD
variable {l : Launch} {G : mm_G} {h0 h : mm_H} {s : mo_S} {S : se_T} {T W g : List tt_R}
theorem c_X9_goesOutW (p : mo_P h0 h s) {t : Nat} (h3 : t < 3) (tv : Int32) (htv : tv = nI t) (ht : r_tank s W) {m : Int32} (ho : r_out s (ho_ga tv W.reverse m []).1) (hz : (ho_ga tv W.reverse m []).2 = 0) : mm_Ct l G mX9_goesOut [.ref 29, .int tv] h (mm_qv (fun h' => ∃ s', mo_P h0 h' s' ∧ mo_F [13, 15] s s' ∧ r_tank s' (ho_so tv W.reverse m []))) := by
  subst htv
  rw [ho_ga_tf, tf_rev] at ho hz
  have ht0 := ht t h3
  obtain ⟨g1, g2⟩ := gx_so (tf (nI t) W).reverse m tf_mem2 hz
  have hgl : (ho_ga (nI t) (tf (nI t) W).reverse m []).1.length ≤ 30 := by
    have := ho_ga_len (t := nI t) (tf (nI t) W).reverse m []
    rw [List.length_reverse, List.length_nil] at this
    have := ht0.2.1
    omega
  refine mm_ct_mono (c_X9_goesOut p h3 _ rfl (R := (tf (nI t) W).reverse) (by rw [List.reverse_reverse]; exact ht0) ho hgl g1) (fun r9 h9 ⟨q0, s', q1, q2, q3, q4⟩ => ⟨q0, s', q1, q2, fun u hu => ?_⟩)
  rw [tf_so]
  by_cases e : u = t
  · subst e
    rw [if_pos rfl, tf_rev]
    rw [g2] at q3; exact q3
  · rw [if_neg (fun z => e ((nI_eq (by omega) (by omega)).mp z)), tf_rev, List.reverse_reverse]
    rw [show tf (nI u) [] = [] from rfl, List.append_nil]
    exact q4 u _ hu e (ht u hu)
theorem c_X9_typesFit (p : mo_P h0 h s) (ho : r_out s g) (hg : g.length ≤ 30) {kp : Nat} (hk : kp ≤ 30) {types : Nat → Int32} (ht : s.2.2 11 = types) (hty : ∀ p, p < kp → sm (types p)) (hgo : g_ok kp g) (a b : Int32) (ha : a = -1 ∨ sm a) (hb : b = -1 ∨ sm b) : mm_Ct l G mX9_typesFit [.ref 29, .int a, .int b] h (mm_ri (.int (bb (ho_fi (ho_ty types (nI kp)) g a b = true))) h) := by
  have key : ∀ (c : Int32) (F : Bool) (x6 : Value), (c = -1 ∨ sm c) → mm_Ex l G mX9_typesFit (mm_ri (.int (bb ((F && ho_fi (ho_ty types (nI kp)) g c b) = true))) h) 8 [.ref 29, .int a, .int b, .int c, .int (bb (F = true)), .int (nI 0), x6] [] h := by
    refine lp_fwd g (fun i R => ∀ (c : Int32) (F : Bool) (x6 : Value), (c = -1 ∨ sm c) → mm_Ex l G mX9_typesFit (mm_ri (.int (bb ((F && ho_fi (ho_ty types (nI kp)) R c b) = true))) h) 8 [.ref 29, .int a, .int b, .int c, .int (bb (F = true)), .int (nI i), x6] [] h) ?_ ?_
    · intro c F x6 hc
      refine ex_iload dX9_typesFit_8 rfl ?_
      refine ex_aload_n dX9_typesFit_10 rfl ?_
      refine ex_getfield (v := .int (nI g.length)) dX9_typesFit_11 g_X9_193 (mP_o p) (congrArg (fun z => some (Value.int z)) (ho.1)) ?_
      refine ex_icmp_ge (tgt := 73) dX9_typesFit_14 (by decide) (fun _ => ?_) (fun z => absurd (Int32.le_refl _) z)
      refine ex_iload dX9_typesFit_73 rfl ?_
      refine ex_if_eq (tgt := 106) dX9_typesFit_75 (by decide) (fun c_75 => ?_) (fun c_75 => ?_)
      · refine ex_iconst (v := 0) dX9_typesFit_106 (by decide) ?_
        refine ex_ireturn dX9_typesFit_107 ⟨_, rfl, (by first | rfl | exact bb_r)⟩ ?_
        first | exact bq_t (by rw [ho_fi, Bool.and_eq_true]; exact ⟨bb_n.mp c_75, (nr_z2 hc hb).mpr (Or.inl c_80)⟩) | exact bq_t (by rw [ho_fi, Bool.and_eq_true]; exact ⟨bb_n.mp c_75, (nr_z2 hc hb).mpr (Or.inr (Or.inl c_85))⟩) | exact bq_t (by rw [ho_fi, Bool.and_eq_true]; exact ⟨bb_n.mp c_75, (nr_z2 hc hb).mpr (Or.inr (Or.inr ⟨Int32.not_lt.mp c_92, Int32.not_lt.mp c_99⟩))⟩) | exact bq_f (by rw [Bool.and_eq_true]; exact fun z => bb_0.mp c_75 z.1) | exact bq_f (by rw [ho_fi, Bool.and_eq_true]; exact fun z => ((nr_z2 hc hb).mp z.2).elim c_80 (fun y => y.elim c_85 (fun y => Int32.not_lt.mpr y.1 c_92))) | exact bq_f (by rw [ho_fi, Bool.and_eq_true]; exact fun z => ((nr_z2 hc hb).mp z.2).elim c_80 (fun y => y.elim c_85 (fun y => Int32.not_lt.mpr y.2 c_99)))
      · refine ex_iload_n dX9_typesFit_78 rfl ?_
        refine ex_iconst (v := (-1)) dX9_typesFit_79 (by decide) ?_
        refine ex_icmp_eq (tgt := 102) dX9_typesFit_80 (by decide) (fun c_80 => ?_) (fun c_80 => ?_)
        · refine ex_iconst (v := 1) dX9_typesFit_102 (by decide) ?_
          refine ex_goto (tgt := 107) dX9_typesFit_103 (by decide) ?_
          refine ex_ireturn dX9_typesFit_107 ⟨_, rfl, (by first | rfl | exact bb_r)⟩ ?_
          first | exact bq_t (by rw [ho_fi, Bool.and_eq_true]; exact ⟨bb_n.mp c_75, (nr_z2 hc hb).mpr (Or.inl c_80)⟩) | exact bq_t (by rw [ho_fi, Bool.and_eq_true]; exact ⟨bb_n.mp c_75, (nr_z2 hc hb).mpr (Or.inr (Or.inl c_85))⟩) | exact bq_t (by rw [ho_fi, Bool.and_eq_true]; exact ⟨bb_n.mp c_75, (nr_z2 hc hb).mpr (Or.inr (Or.inr ⟨Int32.not_lt.mp c_92, Int32.not_lt.mp c_99⟩))⟩) | exact bq_f (by rw [Bool.and_eq_true]; exact fun z => bb_0.mp c_75 z.1) | exact bq_f (by rw [ho_fi, Bool.and_eq_true]; exact fun z => ((nr_z2 hc hb).mp z.2).elim c_80 (fun y => y.elim c_85 (fun y => Int32.not_lt.mpr y.1 c_92))) | exact bq_f (by rw [ho_fi, Bool.and_eq_true]; exact fun z => ((nr_z2 hc hb).mp z.2).elim c_80 (fun y => y.elim c_85 (fun y => Int32.not_lt.mpr y.2 c_99)))
        · refine ex_iload_n dX9_typesFit_83 rfl ?_
          refine ex_iconst (v := (-1)) dX9_typesFit_84 (by decide) ?_
          refine ex_icmp_eq (tgt := 102) dX9_typesFit_85 (by decide) (fun c_85 => ?_) (fun c_85 => ?_)
          · refine ex_iconst (v := 1) dX9_typesFit_102 (by decide) ?_
            refine ex_goto (tgt := 107) dX9_typesFit_103 (by decide) ?_
            refine ex_ireturn dX9_typesFit_107 ⟨_, rfl, (by first | rfl | exact bb_r)⟩ ?_
            first | exact bq_t (by rw [ho_fi, Bool.and_eq_true]; exact ⟨bb_n.mp c_75, (nr_z2 hc hb).mpr (Or.inl c_80)⟩) | exact bq_t (by rw [ho_fi, Bool.and_eq_true]; exact ⟨bb_n.mp c_75, (nr_z2 hc hb).mpr (Or.inr (Or.inl c_85))⟩) | exact bq_t (by rw [ho_fi, Bool.and_eq_true]; exact ⟨bb_n.mp c_75, (nr_z2 hc hb).mpr (Or.inr (Or.inr ⟨Int32.not_lt.mp c_92, Int32.not_lt.mp c_99⟩))⟩) | exact bq_f (by rw [Bool.and_eq_true]; exact fun z => bb_0.mp c_75 z.1) | exact bq_f (by rw [ho_fi, Bool.and_eq_true]; exact fun z => ((nr_z2 hc hb).mp z.2).elim c_80 (fun y => y.elim c_85 (fun y => Int32.not_lt.mpr y.1 c_92))) | exact bq_f (by rw [ho_fi, Bool.and_eq_true]; exact fun z => ((nr_z2 hc hb).mp z.2).elim c_80 (fun y => y.elim c_85 (fun y => Int32.not_lt.mpr y.2 c_99)))
          · refine ex_iload_n dX9_typesFit_88 rfl ?_
            refine ex_iload_n dX9_typesFit_89 rfl ?_
            refine ex_isub dX9_typesFit_90 ?_
            refine ex_iconst (v := 1) dX9_typesFit_91 (by decide) ?_
            refine ex_icmp_gt (tgt := 106) dX9_typesFit_92 (by decide) (fun c_92 => ?_) (fun c_92 => ?_)
            · refine ex_iconst (v := 0) dX9_typesFit_106 (by decide) ?_
              refine ex_ireturn dX9_typesFit_107 ⟨_, rfl, (by first | rfl | exact bb_r)⟩ ?_
              first | exact bq_t (by rw [ho_fi, Bool.and_eq_true]; exact ⟨bb_n.mp c_75, (nr_z2 hc hb).mpr (Or.inl c_80)⟩) | exact bq_t (by rw [ho_fi, Bool.and_eq_true]; exact ⟨bb_n.mp c_75, (nr_z2 hc hb).mpr (Or.inr (Or.inl c_85))⟩) | exact bq_t (by rw [ho_fi, Bool.and_eq_true]; exact ⟨bb_n.mp c_75, (nr_z2 hc hb).mpr (Or.inr (Or.inr ⟨Int32.not_lt.mp c_92, Int32.not_lt.mp c_99⟩))⟩) | exact bq_f (by rw [Bool.and_eq_true]; exact fun z => bb_0.mp c_75 z.1) | exact bq_f (by rw [ho_fi, Bool.and_eq_true]; exact fun z => ((nr_z2 hc hb).mp z.2).elim c_80 (fun y => y.elim c_85 (fun y => Int32.not_lt.mpr y.1 c_92))) | exact bq_f (by rw [ho_fi, Bool.and_eq_true]; exact fun z => ((nr_z2 hc hb).mp z.2).elim c_80 (fun y => y.elim c_85 (fun y => Int32.not_lt.mpr y.2 c_99)))
            · refine ex_iload_n dX9_typesFit_95 rfl ?_
              refine ex_iload_n dX9_typesFit_96 rfl ?_
              refine ex_isub dX9_typesFit_97 ?_
              refine ex_iconst (v := 1) dX9_typesFit_98 (by decide) ?_
              refine ex_icmp_gt (tgt := 106) dX9_typesFit_99 (by decide) (fun c_99 => ?_) (fun c_99 => ?_)
              · refine ex_iconst (v := 0) dX9_typesFit_106 (by decide) ?_
                refine ex_ireturn dX9_typesFit_107 ⟨_, rfl, (by first | rfl | exact bb_r)⟩ ?_
                first | exact bq_t (by rw [ho_fi, Bool.and_eq_true]; exact ⟨bb_n.mp c_75, (nr_z2 hc hb).mpr (Or.inl c_80)⟩) | exact bq_t (by rw [ho_fi, Bool.and_eq_true]; exact ⟨bb_n.mp c_75, (nr_z2 hc hb).mpr (Or.inr (Or.inl c_85))⟩) | exact bq_t (by rw [ho_fi, Bool.and_eq_true]; exact ⟨bb_n.mp c_75, (nr_z2 hc hb).mpr (Or.inr (Or.inr ⟨Int32.not_lt.mp c_92, Int32.not_lt.mp c_99⟩))⟩) | exact bq_f (by rw [Bool.and_eq_true]; exact fun z => bb_0.mp c_75 z.1) | exact bq_f (by rw [ho_fi, Bool.and_eq_true]; exact fun z => ((nr_z2 hc hb).mp z.2).elim c_80 (fun y => y.elim c_85 (fun y => Int32.not_lt.mpr y.1 c_92))) | exact bq_f (by rw [ho_fi, Bool.and_eq_true]; exact fun z => ((nr_z2 hc hb).mp z.2).elim c_80 (fun y => y.elim c_85 (fun y => Int32.not_lt.mpr y.2 c_99)))
              · refine ex_iconst (v := 1) dX9_typesFit_102 (by decide) ?_
                refine ex_goto (tgt := 107) dX9_typesFit_103 (by decide) ?_
                refine ex_ireturn dX9_typesFit_107 ⟨_, rfl, (by first | rfl | exact bb_r)⟩ ?_
                first | exact bq_t (by rw [ho_fi, Bool.and_eq_true]; exact ⟨bb_n.mp c_75, (nr_z2 hc hb).mpr (Or.inl c_80)⟩) | exact bq_t (by rw [ho_fi, Bool.and_eq_true]; exact ⟨bb_n.mp c_75, (nr_z2 hc hb).mpr (Or.inr (Or.inl c_85))⟩) | exact bq_t (by rw [ho_fi, Bool.and_eq_true]; exact ⟨bb_n.mp c_75, (nr_z2 hc hb).mpr (Or.inr (Or.inr ⟨Int32.not_lt.mp c_92, Int32.not_lt.mp c_99⟩))⟩) | exact bq_f (by rw [Bool.and_eq_true]; exact fun z => bb_0.mp c_75 z.1) | exact bq_f (by rw [ho_fi, Bool.and_eq_true]; exact fun z => ((nr_z2 hc hb).mp z.2).elim c_80 (fun y => y.elim c_85 (fun y => Int32.not_lt.mpr y.1 c_92))) | exact bq_f (by rw [ho_fi, Bool.and_eq_true]; exact fun z => ((nr_z2 hc hb).mp z.2).elim c_80 (fun y => y.elim c_85 (fun y => Int32.not_lt.mpr y.2 c_99)))
    · intro i r R hr hR hi ih c F x6 hc
      obtain ⟨q, hq, hq2⟩ := hgo i r hr
      have hq3 : ho_ty types (nI kp) r.2.1 = types q := by rw [hq2]; exact ho_ty_at hk hq
      refine ex_iload dX9_typesFit_8 rfl ?_
      refine ex_aload_n dX9_typesFit_10 rfl ?_
      refine ex_getfield (v := .int (nI g.length)) dX9_typesFit_11 g_X9_193 (mP_o p) (congrArg (fun z => some (Value.int z)) (ho.1)) ?_
      refine ex_icmp_ge (tgt := 73) dX9_typesFit_14 (by decide) (fun z => absurd z (nI_ge hi (by omega))) (fun _ => ?_)
      refine ex_aload_n dX9_typesFit_17 rfl ?_
      refine ex_getfield dX9_typesFit_18 g_X9_26 (mP_o p) rfl ?_
      refine ex_aload_n dX9_typesFit_21 rfl ?_
      refine ex_getfield dX9_typesFit_22 g_X9_41 (mP_o p) rfl ?_
      refine ex_iload dX9_typesFit_25 rfl ?_
      refine ex_ialoadv (v := nI q) dX9_typesFit_27 (mA_18 p) (by first | assumption | exact vp_in_nI (by omega) (by decide)) ((mo_av (ho.2 i r hr).1 rfl (by omega)).trans hq2) ?_
      refine ex_ialoadv (v := types q) dX9_typesFit_28 (mA_11 p) (by first | assumption | exact vp_in_nI (by omega) (by decide)) (by rw [ht]; exact mo_av rfl rfl (by omega)) ?_
      refine ex_istore dX9_typesFit_29 (Nat.le_of_ble_eq_true rfl) ?_
      skip
      refine mm_via (p := (F && ho_nr c (types q)) = true) (pc' := 62) (ls' := [.ref 29, .int a, .int b, .int c, .int (bb (F = true)), .int (nI i), .int (types q)]) (st := []) (fun z hz => ?_) (fun k => ?_)
      · skip
        refine ex_istore dX9_typesFit_62 (Nat.le_of_ble_eq_true rfl) ?_
        refine ex_iload dX9_typesFit_64 rfl ?_
        refine ex_istore_n dX9_typesFit_66 (Nat.le_of_ble_eq_true rfl) ?_
        refine ex_iinc (d := 1) dX9_typesFit_67 rfl (by decide) ?_
        refine ex_goto (tgt := 8) dX9_typesFit_70 (by decide) ?_
        rw [nI_1, ho_fi, hq3, ← Bool.and_assoc, hz]; exact ih _ _ _ (Or.inr (hty q hq))
      · skip
        refine ex_iload dX9_typesFit_31 rfl ?_
        refine ex_if_eq (tgt := 61) dX9_typesFit_33 (by decide) (fun c_33 => ?_) (fun c_33 => ?_)
        · refine ex_iconst (v := 0) dX9_typesFit_61 (by decide) ?_
          exact k _ (bb_f (by rw [Bool.and_eq_true]; exact fun z => bb_0.mp c_33 z.1)).symm
        · refine ex_iload_n dX9_typesFit_36 rfl ?_
          refine ex_iconst (v := (-1)) dX9_typesFit_37 (by decide) ?_
          refine ex_icmp_eq (tgt := 57) dX9_typesFit_38 (by decide) (fun c_38 => ?_) (fun c_38 => ?_)
          · refine ex_iconst (v := 1) dX9_typesFit_57 (by decide) ?_
            refine ex_goto (tgt := 62) dX9_typesFit_58 (by decide) ?_
            exact k _ (bb_t (by rw [Bool.and_eq_true]; exact ⟨bb_n.mp c_33, (nr_z hc (hty q hq)).mpr (Or.inl c_38)⟩)).symm
          · refine ex_iload dX9_typesFit_41 rfl ?_
            refine ex_iload_n dX9_typesFit_43 rfl ?_
            refine ex_isub dX9_typesFit_44 ?_
            refine ex_iconst (v := 1) dX9_typesFit_45 (by decide) ?_
            refine ex_icmp_gt (tgt := 61) dX9_typesFit_46 (by decide) (fun c_46 => ?_) (fun c_46 => ?_)
            · refine ex_iconst (v := 0) dX9_typesFit_61 (by decide) ?_
              exact k _ (bb_f (by rw [Bool.and_eq_true]; exact fun z => ((nr_z hc (hty q hq)).mp z.2).elim c_38 (fun y => Int32.not_lt.mpr y.1 c_46))).symm
            · refine ex_iload_n dX9_typesFit_49 rfl ?_
              refine ex_iload dX9_typesFit_50 rfl ?_
              refine ex_isub dX9_typesFit_52 ?_
              refine ex_iconst (v := 1) dX9_typesFit_53 (by decide) ?_
              refine ex_icmp_gt (tgt := 61) dX9_typesFit_54 (by decide) (fun c_54 => ?_) (fun c_54 => ?_)
              · refine ex_iconst (v := 0) dX9_typesFit_61 (by decide) ?_
                exact k _ (bb_f (by rw [Bool.and_eq_true]; exact fun z => ((nr_z hc (hty q hq)).mp z.2).elim c_38 (fun y => Int32.not_lt.mpr y.2 c_54))).symm
              · refine ex_iconst (v := 1) dX9_typesFit_57 (by decide) ?_
                refine ex_goto (tgt := 62) dX9_typesFit_58 (by decide) ?_
                exact k _ (bb_t (by rw [Bool.and_eq_true]; exact ⟨bb_n.mp c_33, (nr_z hc (hty q hq)).mpr (Or.inr ⟨Int32.not_lt.mp c_46, Int32.not_lt.mp c_54⟩)⟩)).symm
  refine mm_ct (by decide +kernel) (by decide +kernel) rfl (by simp [Value.category]) (Nat.le_of_ble_eq_true rfl) rfl ?_
  refine ex_iload_n dX9_typesFit_0 rfl ?_
  refine ex_istore_n dX9_typesFit_1 (Nat.le_of_ble_eq_true rfl) ?_
  refine ex_iconst (v := 1) dX9_typesFit_2 (by decide) ?_
  refine ex_istore dX9_typesFit_3 (Nat.le_of_ble_eq_true rfl) ?_
  refine ex_iconst (v := 0) dX9_typesFit_5 (by decide) ?_
  refine ex_istore dX9_typesFit_6 (Nat.le_of_ble_eq_true rfl) ?_
  exact key a true _ ha
theorem c_X9_holds (p : mo_P h0 h s) (hs : r_sea S s.2.2) {ic : Nat} (hic : ic < 100) (ho : r_out s g) (hg : g.length ≤ 30) {kp : Nat} (hk : kp ≤ 30) {types : Nat → Int32} (ht : s.2.2 11 = types) (hgo : g_ok kp g) : mm_Ct l G mX9_holds [.ref 29, .int (nI ic)] h (mm_ri (.int (bb (ho_ha (ho_ty types (nI kp)) (se_d S (nI ic)) g = true))) h) := by
  have key : ∀ (F : Bool) (x4 x5 : Value), mm_Ex l G mX9_holds (mm_ri (.int (bb ((F && ho_ha (ho_ty types (nI kp)) (se_d S (nI ic)) g) = true))) h) 4 [.ref 29, .int (nI ic), .int (bb (F = true)), .int (nI 0), x4, x5] [] h := by
    refine lp_fwd g (fun i R => ∀ (F : Bool) (x4 x5 : Value), mm_Ex l G mX9_holds (mm_ri (.int (bb ((F && ho_ha (ho_ty types (nI kp)) (se_d S (nI ic)) R) = true))) h) 4 [.ref 29, .int (nI ic), .int (bb (F = true)), .int (nI i), x4, x5] [] h) ?_ ?_
    · intro F x4 x5
      refine ex_iload_n dX9_holds_4 rfl ?_
      refine ex_aload_n dX9_holds_5 rfl ?_
      refine ex_getfield (v := .int (nI g.length)) dX9_holds_6 g_X9_193 (mP_o p) (congrArg (fun z => some (Value.int z)) (ho.1)) ?_
      refine ex_icmp_ge (tgt := 94) dX9_holds_9 (by decide) (fun _ => ?_) (fun z => absurd (Int32.le_refl _) z)
      refine ex_iload_n dX9_holds_94 rfl ?_
      refine ex_ireturn dX9_holds_95 ⟨_, rfl, bb_r⟩ ?_
      exact ⟨by rw [ho_ha, Bool.and_true], rfl⟩
    · intro i r R hr hR hi ih F x4 x5
      obtain ⟨q, hq, hq2⟩ := hgo i r hr
      have hq3 : ho_ty types (nI kp) r.2.1 = types q := by rw [hq2]; exact ho_ty_at hk hq
      refine ex_iload_n dX9_holds_4 rfl ?_
      refine ex_aload_n dX9_holds_5 rfl ?_
      refine ex_getfield (v := .int (nI g.length)) dX9_holds_6 g_X9_193 (mP_o p) (congrArg (fun z => some (Value.int z)) (ho.1)) ?_
      refine ex_icmp_ge (tgt := 94) dX9_holds_9 (by decide) (fun z => absurd z (nI_ge hi (by omega))) (fun _ => ?_)
      refine ex_aload_n dX9_holds_12 rfl ?_
      refine ex_getfield dX9_holds_13 g_X9_26 (mP_o p) rfl ?_
      refine ex_aload_n dX9_holds_16 rfl ?_
      refine ex_getfield dX9_holds_17 g_X9_41 (mP_o p) rfl ?_
      refine ex_iload_n dX9_holds_20 rfl ?_
      refine ex_ialoadv (v := nI q) dX9_holds_21 (mA_18 p) (by first | assumption | exact vp_in_nI (by omega) (by decide)) ((mo_av (ho.2 i r hr).1 rfl (by omega)).trans hq2) ?_
      refine ex_ialoadv (v := types q) dX9_holds_22 (mA_11 p) (by first | assumption | exact vp_in_nI (by omega) (by decide)) (by rw [ht]; exact mo_av rfl rfl (by omega)) ?_
      refine ex_istore dX9_holds_23 (Nat.le_of_ble_eq_true rfl) ?_
      skip
      refine mm_viaJ (ho_mp (types q)) (pc' := 61) (ls' := [.ref 29, .int (nI ic), .int (bb (F = true)), .int (nI i), .int (types q), x5]) (st := []) ?_ (fun k => ?_)
      · skip
        refine ex_istore dX9_holds_61 (Nat.le_of_ble_eq_true rfl) ?_
        skip
        refine mm_via (p := (F && decide (ho_pl (types q) (se_d S (nI ic)) ≤ ho_mp (types q))) = true) (pc' := 87) (ls' := [.ref 29, .int (nI ic), .int (bb (F = true)), .int (nI i), .int (types q), .int (ho_mp (types q))]) (st := []) (fun z hz => ?_) (fun k => ?_)
        · skip
          refine ex_istore_n dX9_holds_87 (Nat.le_of_ble_eq_true rfl) ?_
          refine ex_iinc (d := 1) dX9_holds_88 rfl (by decide) ?_
          refine ex_goto (tgt := 4) dX9_holds_91 (by decide) ?_
          rw [nI_1, ho_ha, hq3, ← Bool.and_assoc, hz]; exact ih _ _ _
        · skip
          refine ex_iload_n dX9_holds_63 rfl ?_
          refine ex_if_eq (tgt := 86) dX9_holds_64 (by decide) (fun c_64 => ?_) (fun c_64 => ?_)
          · refine ex_iconst (v := 0) dX9_holds_86 (by decide) ?_
            exact k _ (bb_f (by rw [Bool.and_eq_true]; exact fun z => bb_0.mp c_64 z.1)).symm
          · refine ex_iload dX9_holds_67 rfl ?_
            refine ex_aload_n dX9_holds_69 rfl ?_
            refine ex_iload_n dX9_holds_70 rfl ?_
            refine cV_f dX9_holds_71 (mm_kv i_X9_depthOf l_X9_127) ⟨(Nat.le_of_ble_eq_true rfl), (Nat.le_of_ble_eq_true rfl)⟩ (c_X9_depthOf p hs hic) rfl rfl (mP_o p) (Nat.le_of_ble_eq_true rfl) rfl ?_
            refine cS_f dX9_holds_74 (mm_ks i_X9_pull l_X9_196) ⟨(Nat.le_of_ble_eq_true rfl), (Nat.le_of_ble_eq_true rfl)⟩ (c_X9_pull _ _) rfl rfl (Nat.le_of_ble_eq_true rfl) rfl ?_
            refine ex_iload dX9_holds_77 rfl ?_
            refine ex_icmp_gt (tgt := 86) dX9_holds_79 (by decide) (fun c_79 => ?_) (fun c_79 => ?_)
            · refine ex_iconst (v := 0) dX9_holds_86 (by decide) ?_
              exact k _ (bb_f (by rw [Bool.and_eq_true]; exact fun z => Int32.not_lt.mpr (of_decide_eq_true z.2) c_79)).symm
            · refine ex_iconst (v := 1) dX9_holds_82 (by decide) ?_
              refine ex_goto (tgt := 87) dX9_holds_83 (by decide) ?_
              exact k _ (bb_t (by rw [Bool.and_eq_true]; exact ⟨bb_n.mp c_64, decide_eq_true (Int32.not_lt.mp c_79)⟩)).symm
      · skip
        refine ex_iload dX9_holds_25 rfl ?_
        refine ex_if_ne (tgt := 35) dX9_holds_27 (by decide) (fun c_27 => ?_) (fun c_27 => ?_)
        · refine ex_iload dX9_holds_35 rfl ?_
          refine ex_iconst (v := 1) dX9_holds_37 (by decide) ?_
          refine ex_icmp_ne (tgt := 46) dX9_holds_38 (by decide) (fun c_38 => ?_) (fun c_38 => ?_)
          · refine ex_iload dX9_holds_46 rfl ?_
            refine ex_iconst (v := 2) dX9_holds_48 (by decide) ?_
            refine ex_icmp_ne (tgt := 58) dX9_holds_49 (by decide) (fun c_49 => ?_) (fun c_49 => ?_)
            · refine ex_sipush (v := 200) dX9_holds_58 (by decide) ?_
              exact k _ (by rw [ho_mp, if_neg c_27, if_neg c_38, if_neg c_49])
            · refine ex_sipush (v := 150) dX9_holds_52 (by decide) ?_
              refine ex_goto (tgt := 61) dX9_holds_55 (by decide) ?_
              exact k _ (by rw [ho_mp, if_neg c_27, if_neg c_38, if_pos c_49])
          · refine ex_bipush (v := 90) dX9_holds_41 (by decide) ?_
            refine ex_goto (tgt := 61) dX9_holds_43 (by decide) ?_
            exact k _ (by rw [ho_mp, if_neg c_27, if_pos c_38])
        · refine ex_bipush (v := 60) dX9_holds_30 (by decide) ?_
          refine ex_goto (tgt := 61) dX9_holds_32 (by decide) ?_
          exact k _ (by rw [ho_mp, if_pos c_27])
  refine mm_ct (by decide +kernel) (by decide +kernel) rfl (by simp [Value.category]) (Nat.le_of_ble_eq_true rfl) rfl ?_
  refine ex_iconst (v := 1) dX9_holds_0 (by decide) ?_
  refine ex_istore_n dX9_holds_1 (Nat.le_of_ble_eq_true rfl) ?_
  refine ex_iconst (v := 0) dX9_holds_2 (by decide) ?_
  refine ex_istore_n dX9_holds_3 (Nat.le_of_ble_eq_true rfl) ?_
  exact key true _ _
end MOD
