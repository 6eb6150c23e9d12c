/-! THE MODEL: measuring -/
theorem mo_r0_le {q : Nat} : ∀ (L : List tt_R) (a : Nat), mo_r0 q L a ≤ L.length
  | [], _ => Nat.le_refl _
  | r :: L, a => by
    have := mo_r0_le (q := q) L (a + rl r)
    rw [mo_r0, List.length_cons]
    split <;> omega
def mo_r1 (q : Nat) : List tt_R → Nat → Nat
  | [], _ => 0
  | r :: L, a => (if r.1 = 2 ∧ q < a then 1 else 0) + mo_r1 q L (a + rl r)
theorem mo_r1_le {q : Nat} : ∀ (L : List tt_R) (a : Nat), mo_r1 q L a ≤ L.length
  | [], _ => Nat.le_refl _
  | r :: L, a => by
    have := mo_r1_le (q := q) L (a + rl r)
    rw [mo_r1, List.length_cons]
    split <;> omega
theorem mo_r01 {q : Nat} : ∀ (L : List tt_R) (a b : Nat), ro_n 2 L (nI b) = nI (b + mo_r0 q L a + mo_r1 q L a)
  | [], a, b => rfl
  | r :: L, a, b => by
    rw [ro_n, mo_r0, mo_r1]
    by_cases e : r.1 = 2
    · rw [if_pos e, nI_1, mo_r01 (q := q) L (a + rl r)]
      congr 1
      by_cases e2 : q < a
      · rw [if_neg (fun z => by omega), if_pos ⟨e, e2⟩]; omega
      · rw [if_pos ⟨e, by omega⟩, if_neg (fun z => e2 z.2)]; omega
    · rw [if_neg e, mo_r01 (q := q) L (a + rl r), if_neg (fun z => e z.1), if_neg (fun z => e z.1)]
      congr 1; omega
theorem ro_hr_0 {kp q : Nat} (hq : q < 2 ^ 31) : ∀ (L : List tt_R) (a : Nat), (∀ r ∈ L, ln_k kp r) → a + ln_N L < 2 ^ 31 → (ro_hr (nI q) 0 L (nI a) = true ↔ 0 < mo_r0 q L a) ∧ (ro_hr (nI q) 1 L (nI a) = true ↔ 0 < mo_r1 q L a)
  | [], a, _, _ => ⟨⟨fun z => by simp [ro_hr] at z, fun z => absurd z (Nat.lt_irrefl 0)⟩, ⟨fun z => by simp [ro_hr] at z, fun z => absurd z (Nat.lt_irrefl 0)⟩⟩
  | r :: L, a, h, hN => by
    have hr := (h r List.mem_cons_self).ln
    rw [ln_N] at hN
    obtain ⟨i1, i2⟩ := ro_hr_0 hq L (a + rl r) (fun x hx => h x (List.mem_cons_of_mem _ hx)) (by omega)
    rw [ro_hr, ro_hr, mo_r0, mo_r1, hr.1, nI_add]
    by_cases e : r.1 = 2
    · rw [if_pos e, if_pos e]
      by_cases e2 : a ≤ q
      · rw [if_pos (nI_le e2 hq), if_pos (nI_le e2 hq), if_pos (show (0 : Int32) = 0 from rfl), if_neg (show ¬ (0 : Int32) = 1 by decide), if_pos (show r.1 = 2 ∧ a ≤ q from ⟨e, e2⟩), if_neg (show ¬ (r.1 = 2 ∧ q < a) from fun z => by omega)]
        exact ⟨⟨fun _ => by omega, fun _ => rfl⟩, by rw [i2, Nat.zero_add]⟩
      · rw [if_neg (nI_ge (show q < a by omega) (by omega)), if_neg (nI_ge (show q < a by omega) (by omega)), if_neg (show ¬ (1 : Int32) = 0 by decide), if_pos (show (1 : Int32) = 1 from rfl), if_neg (show ¬ (r.1 = 2 ∧ a ≤ q) from fun z => e2 z.2), if_pos (show r.1 = 2 ∧ q < a from ⟨e, by omega⟩)]
        exact ⟨by rw [i1, Nat.zero_add], ⟨fun _ => by omega, fun _ => rfl⟩⟩
    · rw [if_neg e, if_neg e, if_neg (show ¬ (r.1 = 2 ∧ a ≤ q) from fun z => e z.1), if_neg (show ¬ (r.1 = 2 ∧ q < a) from fun z => e z.1)]
      exact ⟨by rw [i1, Nat.zero_add], by rw [i2, Nat.zero_add]⟩
theorem r_fau.set {m : mo_S} {L : List tt_R} (h : r_fau m L) {j : Nat} {r : tt_R} (hr : L[j]? = some r) (x y : Int32) : r_fau (mo_sa (mo_sa m 41 j x) 42 j y) (L.set j (r.1, r.2.1, x, y)) := by
  obtain ⟨h1, h2⟩ := h
  refine ⟨by rw [List.length_set]; exact h1, fun i q hq => ?_⟩
  by_cases e : j = i
  · subst e
    rw [List.getElem?_set_self (List.getElem?_eq_some_iff.mp hr).1] at hq
    cases hq
    exact ⟨(h2 j r hr).1, (h2 j r hr).2.1, pk_us, pk_us⟩
  · rw [List.getElem?_set_ne e] at hq
    have := h2 i q hq
    exact ⟨this.1, this.2.1, (pk_un (fun z => e z.symm)).trans this.2.2.1, (pk_un (fun z => e z.symm)).trans this.2.2.2⟩
section MOT
variable {l : Launch} {G : mm_G} {h0 h : mm_H} {m : mo_S} {s : cl_S} {n : Nat} {T L : List tt_R}
theorem x_X9_best {Q : mm_R → mm_H → Prop} (p : mo_P h0 h m) (hf : r_fau m L) (hL : L.length ≤ 4) (fb vo dr tv : Int32) : ∀ (f : Int32) (x7 : Value), (f = -1 ∨ ∃ j, j < L.length ∧ f = nI j) → (∀ x x', mm_Ex l G mX9_measure Q 149 [.ref 29, .int fb, .int vo, .int dr, .int tv, .int (fa_n L fb vo L 0 f), x, x', .null, .null, .null, .null] [] h) → mm_Ex l G mX9_measure Q 51 [.ref 29, .int fb, .int vo, .int dr, .int tv, .int f, .int (nI 0), x7, .null, .null, .null, .null] [] h := by
  refine lp_fwd L (fun i R => ∀ (f : Int32) (x7 : Value), (f = -1 ∨ ∃ j, j < L.length ∧ f = nI j) → (∀ x x', mm_Ex l G mX9_measure Q 149 [.ref 29, .int fb, .int vo, .int dr, .int tv, .int (fa_n L fb vo R i f), x, x', .null, .null, .null, .null] [] h) → mm_Ex l G mX9_measure Q 51 [.ref 29, .int fb, .int vo, .int dr, .int tv, .int f, .int (nI i), x7, .null, .null, .null, .null] [] h) ?_ ?_
  · intro f x7 hfo k
    refine ex_iload dX9_measure_51 rfl ?_
    refine ex_aload_n dX9_measure_53 rfl ?_
    refine ex_getfield (v := .int (nI L.length)) dX9_measure_54 g_X9_177 (mP_o p) (congrArg (fun z => some (Value.int z)) (hf.1)) ?_
    refine ex_icmp_ge (tgt := 149) dX9_measure_57 (by decide) (fun _ => ?_) (fun z => absurd (Int32.le_refl _) z)
    exact k _ _
  · intro i r R hr hR hi ih f x7 hfo k
    obtain ⟨d1, d2, d3, d4⟩ := hf.2 i r hr
    have hni : nI i = -1 ∨ ∃ j, j < L.length ∧ nI i = nI j := Or.inr ⟨i, hi, rfl⟩
    refine ex_iload dX9_measure_51 rfl ?_
    refine ex_aload_n dX9_measure_53 rfl ?_
    refine ex_getfield (v := .int (nI L.length)) dX9_measure_54 g_X9_177 (mP_o p) (congrArg (fun z => some (Value.int z)) (hf.1)) ?_
    refine ex_icmp_ge (tgt := 149) dX9_measure_57 (by decide) (fun z => absurd z (nI_ge hi (by omega))) (fun _ => ?_)
    skip
    refine mm_via (p := ¬ vo = 0 ∨ r.1 = 1) (pc' := 80) (ls' := [.ref 29, .int fb, .int vo, .int dr, .int tv, .int f, .int (nI i), x7, .null, .null, .null, .null]) (st := []) (fun b hb => ?_) (fun kk => ?_)
    · by_cases hc : ¬ vo = 0 ∨ r.1 = 1
      rotate_left
      · rw [bb_f hc] at hb
        subst hb
        have hv : vo = 0 := Decidable.not_not.mp (fun z => hc (Or.inl z))
        have h1 : ¬ r.1 = 1 := fun z => hc (Or.inr z)
        refine ex_istore dX9_measure_80 (Nat.le_of_ble_eq_true rfl) ?_
        refine ex_iload dX9_measure_82 rfl ?_
        refine ex_if_eq (tgt := 139) dX9_measure_84 (by decide) (fun _ => ?_) (fun z => absurd rfl z)
        refine ex_iload dX9_measure_139 rfl ?_
        refine ex_istore dX9_measure_141 (Nat.le_of_ble_eq_true rfl) ?_
        refine ex_iinc (d := 1) dX9_measure_143 rfl (by decide) ?_
        refine ex_goto (tgt := 51) dX9_measure_146 (by decide) ?_
        rw [nI_1]; exact ih _ _ hfo (fun x x' => by have := k x x'; rw [fa_n, if_pos hv, if_neg h1] at this; exact this)
      · rw [bb_t hc] at hb
        subst hb
        have hst : fa_n L fb vo (r :: R) i f = if f = -1 then fa_n L fb vo R (i + 1) (nI i) else if fb = 0 then (if tt_g L f 1 ≤ r.2.1 then fa_n L fb vo R (i + 1) f else fa_n L fb vo R (i + 1) (nI i)) else (if r.2.1 ≤ tt_g L f 1 then fa_n L fb vo R (i + 1) f else fa_n L fb vo R (i + 1) (nI i)) := by
          rw [fa_n]
          by_cases hv : vo = 0
          · rw [if_pos hv, if_pos (hc.resolve_left (fun z => z hv))]
          · rw [if_neg hv]
        rw [hst] at k
        refine ex_istore dX9_measure_80 (Nat.le_of_ble_eq_true rfl) ?_
        refine ex_iload dX9_measure_82 rfl ?_
        refine ex_if_eq (tgt := 139) dX9_measure_84 (by decide) (fun z => absurd z (by decide)) (fun _ => ?_)
        skip
        rcases hfo with y0 | ⟨j, hj, ej⟩
        · rw [if_pos y0] at k
          refine ex_iload dX9_measure_87 rfl ?_
          refine ex_iconst (v := (-1)) dX9_measure_89 (by decide) ?_
          refine ex_icmp_eq (tgt := 134) dX9_measure_90 (by decide) (fun _ => ?_) (fun z => absurd y0 z)
          refine ex_iload dX9_measure_134 rfl ?_
          refine ex_goto (tgt := 141) dX9_measure_136 (by decide) ?_
          refine ex_istore dX9_measure_141 (Nat.le_of_ble_eq_true rfl) ?_
          refine ex_iinc (d := 1) dX9_measure_143 rfl (by decide) ?_
          refine ex_goto (tgt := 51) dX9_measure_146 (by decide) ?_
          rw [nI_1]; exact ih _ _ hni (fun x x' => k x x')
        · have hne : ¬ f = -1 := fun z => absurd (show nI j < 0 by rw [← ej, z]; decide) (nI_pos (by omega))
          rw [if_neg hne] at k
          have hg := List.getElem?_eq_getElem hj
          generalize L[j] = q at hg
          obtain ⟨g1, g2, g3, g4⟩ := hf.2 j q hg
          have hgv : tt_g L f 1 = q.2.1 := by rw [ej]; exact tt_g_nI hg (by omega)
          rw [hgv] at k
          have hfo2 : f = -1 ∨ ∃ j, j < L.length ∧ f = nI j := Or.inr ⟨j, hj, ej⟩
          refine ex_iload dX9_measure_87 rfl ?_
          refine ex_iconst (v := (-1)) dX9_measure_89 (by decide) ?_
          refine ex_icmp_eq (tgt := 134) dX9_measure_90 (by decide) (fun z => absurd z hne) (fun _ => ?_)
          refine ex_iload_n dX9_measure_93 rfl ?_
          refine ex_if_eq (tgt := 117) dX9_measure_94 (by decide) (fun c_94 => ?_) (fun c_94 => ?_)
          · refine ex_aload_n dX9_measure_117 rfl ?_
            refine ex_getfield dX9_measure_118 g_X9_80 (mP_o p) rfl ?_
            refine ex_iload dX9_measure_121 rfl ?_
            refine ex_ialoadv (v := r.2.1) dX9_measure_123 (mA_40 p) (by first | assumption | exact vp_in_nI (by omega) (by decide)) (mo_av d2 rfl (by omega)) ?_
            refine ex_aload_n dX9_measure_124 rfl ?_
            refine ex_getfield dX9_measure_125 g_X9_80 (mP_o p) rfl ?_
            refine ex_iload dX9_measure_128 rfl ?_
            refine ex_ialoadv (v := q.2.1) dX9_measure_130 (mA_40 p) (by rw [ej]; exact vp_in_nI (by omega) (by decide)) (mo_av g2 ej (by omega)) ?_
            refine ex_icmp_ge (tgt := 139) dX9_measure_131 (by decide) (fun c_131 => ?_) (fun c_131 => ?_)
            · refine ex_iload dX9_measure_139 rfl ?_
              refine ex_istore dX9_measure_141 (Nat.le_of_ble_eq_true rfl) ?_
              refine ex_iinc (d := 1) dX9_measure_143 rfl (by decide) ?_
              refine ex_goto (tgt := 51) dX9_measure_146 (by decide) ?_
              rw [nI_1]; exact ih _ _ hfo2 (fun x x' => by have := k x x'; rw [if_pos c_94, if_pos c_131] at this; exact this)
            · refine ex_iload dX9_measure_134 rfl ?_
              refine ex_goto (tgt := 141) dX9_measure_136 (by decide) ?_
              refine ex_istore dX9_measure_141 (Nat.le_of_ble_eq_true rfl) ?_
              refine ex_iinc (d := 1) dX9_measure_143 rfl (by decide) ?_
              refine ex_goto (tgt := 51) dX9_measure_146 (by decide) ?_
              rw [nI_1]; exact ih _ _ hni (fun x x' => by have := k x x'; rw [if_pos c_94, if_neg c_131] at this; exact this)
          · refine ex_aload_n dX9_measure_97 rfl ?_
            refine ex_getfield dX9_measure_98 g_X9_80 (mP_o p) rfl ?_
            refine ex_iload dX9_measure_101 rfl ?_
            refine ex_ialoadv (v := r.2.1) dX9_measure_103 (mA_40 p) (by first | assumption | exact vp_in_nI (by omega) (by decide)) (mo_av d2 rfl (by omega)) ?_
            refine ex_aload_n dX9_measure_104 rfl ?_
            refine ex_getfield dX9_measure_105 g_X9_80 (mP_o p) rfl ?_
            refine ex_iload dX9_measure_108 rfl ?_
            refine ex_ialoadv (v := q.2.1) dX9_measure_110 (mA_40 p) (by rw [ej]; exact vp_in_nI (by omega) (by decide)) (mo_av g2 ej (by omega)) ?_
            refine ex_icmp_le (tgt := 139) dX9_measure_111 (by decide) (fun c_111 => ?_) (fun c_111 => ?_)
            · refine ex_iload dX9_measure_139 rfl ?_
              refine ex_istore dX9_measure_141 (Nat.le_of_ble_eq_true rfl) ?_
              refine ex_iinc (d := 1) dX9_measure_143 rfl (by decide) ?_
              refine ex_goto (tgt := 51) dX9_measure_146 (by decide) ?_
              rw [nI_1]; exact ih _ _ hfo2 (fun x x' => by have := k x x'; rw [if_neg c_94, if_pos c_111] at this; exact this)
            · refine ex_goto (tgt := 134) dX9_measure_114 (by decide) ?_
              refine ex_iload dX9_measure_134 rfl ?_
              refine ex_goto (tgt := 141) dX9_measure_136 (by decide) ?_
              refine ex_istore dX9_measure_141 (Nat.le_of_ble_eq_true rfl) ?_
              refine ex_iinc (d := 1) dX9_measure_143 rfl (by decide) ?_
              refine ex_goto (tgt := 51) dX9_measure_146 (by decide) ?_
              rw [nI_1]; exact ih _ _ hni (fun x x' => by have := k x x'; rw [if_neg c_94, if_neg c_111] at this; exact this)
    · skip
      refine ex_iload_n dX9_measure_60 rfl ?_
      refine ex_if_ne (tgt := 75) dX9_measure_61 (by decide) (fun c_61 => ?_) (fun c_61 => ?_)
      · refine ex_iconst (v := 1) dX9_measure_75 (by decide) ?_
        refine ex_goto (tgt := 80) dX9_measure_76 (by decide) ?_
        exact kk _ (bb_t (Or.inl c_61)).symm
      · refine ex_aload_n dX9_measure_64 rfl ?_
        refine ex_getfield dX9_measure_65 g_X9_77 (mP_o p) rfl ?_
        refine ex_iload dX9_measure_68 rfl ?_
        refine ex_ialoadv (v := r.1) dX9_measure_70 (mA_39 p) (by first | assumption | exact vp_in_nI (by omega) (by decide)) (mo_av d1 rfl (by omega)) ?_
        refine ex_iconst (v := 1) dX9_measure_71 (by decide) ?_
        refine ex_icmp_ne (tgt := 79) dX9_measure_72 (by decide) (fun c_72 => ?_) (fun c_72 => ?_)
        · refine ex_iconst (v := 0) dX9_measure_79 (by decide) ?_
          exact kk _ (bb_f (fun z => z.elim (fun y => y c_61) c_72)).symm
        · refine ex_iconst (v := 1) dX9_measure_75 (by decide) ?_
          refine ex_goto (tgt := 80) dX9_measure_76 (by decide) ?_
          exact kk _ (bb_t (Or.inr c_72)).symm
theorem c_X9_measure (p : mo_P h0 h m) (r : r_all s m) (hi : iv n s) (hn : n ≤ 513) (fb vo dr : Int32) (hfb : fb = 0 ∨ fb = 1) : mm_Ct l G mX9_measure [.ref 29, .int fb, .int vo, .int dr] h (mo_Z h0 cx_a cx_s (cm_measure s fb vo dr)) := by
  obtain ⟨k, kp, lo, wa, mk, c, hx⟩ := hi
  have hW := hx.W hn
  have hN := hx.N
  have ht := hx.2.2.2.1.1
  have hm : cl_me s = nI (ln_N (s.1 2)) := hx.2.2.2.2.2.2.2.1
  have hfa := hx.2.2.2.2.2.2.2.2.2.1
  obtain ⟨r1, r2, r3, r4, r5, r6, r7, r8, r9, r10⟩ := id r
  refine mm_ct (by decide +kernel) (by decide +kernel) rfl (by simp [Value.category]) (Nat.le_of_ble_eq_true rfl) rfl ?_
  refine mm_viaJ (if ii dr 0 65536 then (if cl_ce s = 100 then 0 else 2) else 1) (pc' := 27) (ls' := [.ref 29, .int fb, .int vo, .int dr, .null, .null, .null, .null, .null, .null, .null, .null]) (st := [.ref 29]) ?_ (fun kk => ?_)
  · skip
    refine ex_put dX9_measure_27 p_X9_120 (mP_o p) (Nat.le_of_ble_eq_true rfl) (fun z => nomatch z) (mm_fi _) ?_
    refine mk_0 p (fun h27 p27 => ?_)
    skip
    unfold cm_measure
    by_cases h1 : ii dr 0 65536
    rotate_left
    · rw [if_neg h1] at p27
      rw [if_neg h1]
      refine ex_aload_n dX9_measure_30 rfl ?_
      refine ex_getfield (v := .int (1)) dX9_measure_31 g_X9_120 (mP_o p27) (congrArg (fun z => some (Value.int z)) (rfl)) ?_
      refine ex_if_le (tgt := 39) dX9_measure_34 (by decide) (fun z => absurd z (by decide)) (fun _ => ?_)
      refine ex_iconst (v := 0) dX9_measure_37 (by decide) ?_
      refine ex_ireturn dX9_measure_38 ⟨_, rfl, rfl⟩ ?_
      exact ⟨_, rfl, _, p27, r, ⟨Or.inl ⟨rfl, rfl⟩, _, rfl⟩⟩
    rw [if_pos h1] at p27
    rw [if_pos h1]
    by_cases h2 : cl_ce s = 100
    rotate_left
    · rw [if_neg h2] at p27
      rw [if_neg h2]
      refine ex_aload_n dX9_measure_30 rfl ?_
      refine ex_getfield (v := .int (2)) dX9_measure_31 g_X9_120 (mP_o p27) (congrArg (fun z => some (Value.int z)) (rfl)) ?_
      refine ex_if_le (tgt := 39) dX9_measure_34 (by decide) (fun z => absurd z (by decide)) (fun _ => ?_)
      refine ex_iconst (v := 0) dX9_measure_37 (by decide) ?_
      refine ex_ireturn dX9_measure_38 ⟨_, rfl, rfl⟩ ?_
      exact ⟨_, rfl, _, p27, r, ⟨Or.inr ⟨rfl, rfl⟩, _, rfl⟩⟩
    rw [if_pos h2] at p27
    rw [if_pos h2]
    refine ex_aload_n dX9_measure_30 rfl ?_
    refine ex_getfield (v := .int (0)) dX9_measure_31 g_X9_120 (mP_o p27) (congrArg (fun z => some (Value.int z)) (rfl)) ?_
    refine ex_if_le (tgt := 39) dX9_measure_34 (by decide) (fun _ => ?_) (fun z => absurd (by decide) z)
    refine ex_aload_n dX9_measure_39 rfl ?_
    refine cV_f dX9_measure_40 (mm_kv i_X9_metres l_X9_160) ⟨(Nat.le_of_ble_eq_true rfl), (Nat.le_of_ble_eq_true rfl)⟩ (c_X9_metres p27 (T := s.1 2) r5 hW) rfl rfl (mP_o p27) (Nat.le_of_ble_eq_true rfl) rfl ?_
    rw [ln_m0 hW]
    refine ex_istore dX9_measure_43 (Nat.le_of_ble_eq_true rfl) ?_
    refine ex_iconst (v := (-1)) dX9_measure_45 (by decide) ?_
    refine ex_istore dX9_measure_46 (Nat.le_of_ble_eq_true rfl) ?_
    refine ex_iconst (v := 0) dX9_measure_48 (by decide) ?_
    refine ex_istore dX9_measure_49 (Nat.le_of_ble_eq_true rfl) ?_
    skip
    refine x_X9_best p27 (m := mo_sf m 0 0) (L := s.1 4) r8 hfa.1 fb vo dr _ (-1) _ (Or.inl rfl) (fun x x' => ?_)
    show mm_Ex l G mX9_measure _ 149 [.ref 29, .int fb, .int vo, .int dr, .int (nI (ln_N (s.1 2))), .int (ms_f s fb vo), x, x', .null, .null, .null, .null] [] h27
    by_cases hf : ms_f s fb vo = -1
    · rw [if_pos hf]
      refine ex_iload dX9_measure_149 rfl ?_
      refine ex_iconst (v := (-1)) dX9_measure_151 (by decide) ?_
      refine ex_icmp_ne (tgt := 157) dX9_measure_152 (by decide) (fun z => absurd hf z) (fun _ => ?_)
      refine ex_iconst (v := (-1)) dX9_measure_155 (by decide) ?_
      refine ex_ireturn dX9_measure_156 ⟨_, rfl, rfl⟩ ?_
      exact ⟨_, rfl, _, p27, r, rfl, rfl⟩
    rw [if_neg hf]
    obtain ⟨j, ej, hjl⟩ : ∃ j, ms_f s fb vo = nI j ∧ j < (s.1 4).length := by
      rcases fa_n_or (L0 := s.1 4) (fb := fb) (oe := vo) (s.1 4) 0 (-1) with z | ⟨j, z, z1, z2⟩
      · exact absurd z hf
      · exact ⟨j, z, by omega⟩
    have hL4 := hfa.1
    have hg := List.getElem?_eq_getElem hjl
    generalize (s.1 4)[j] = q at hg
    obtain ⟨d1, d2, d3, d4⟩ := r8.2 j q hg
    obtain ⟨-, x0, hx0, ex0⟩ := hfa.2 q (List.mem_of_getElem? hg)
    have hmp : ms_p s fb vo = nI x0 := by unfold ms_p; rw [ej, tt_g_nI hg (by omega)]; exact ex0
    rw [ej, nI_clamp (show j < 2 ^ 31 by omega), hg, Option.getD_some, hmp]
    obtain ⟨hr0, hr1⟩ := ro_hr_0 (kp := kp) (q := x0) (by omega) (s.1 2) 0 ht (by omega)
    have hcnt : ro_n 2 (s.1 2) 0 = nI (mo_r0 x0 (s.1 2) 0 + mo_r1 x0 (s.1 2) 0) := by
      have := mo_r01 (q := x0) (s.1 2) 0 0
      rw [Nat.zero_add] at this; exact this
    have hc1 := mo_r0_le (q := x0) (s.1 2) 0
    have hTl := hW.1
    have hd : ∃ d : Nat, d < 2 ^ 22 ∧ ms_a s fb vo = nI d ∧ (fb = 0 → d = x0) ∧ (¬ fb = 0 → d = ln_N (s.1 2) - x0) := by
      unfold ms_a
      by_cases z : fb = 0
      · exact ⟨x0, by omega, by rw [if_pos z, hmp], fun _ => rfl, fun y => absurd z y⟩
      · exact ⟨ln_N (s.1 2) - x0, by omega, by rw [if_neg z, hmp, hm, nI_sub (by omega)], fun y => absurd y z, fun _ => rfl⟩
    obtain ⟨d, hd1, hd2, hd3, hd4⟩ := hd
    have he : ∃ e : Nat, e ≤ 100000 ∧ ms_e s fb vo = nI e := by
      unfold ms_e ms_2
      rw [hd2, show (200 : Int32) = nI 200 from rfl, pk_div (by omega) (by decide) (by decide), show (10 : Int32) = nI 10 from rfl, nI_add]
      by_cases z : vo = 0
      · exact ⟨d / 200 + 10, by omega, by rw [if_pos z]; grind⟩
      · exact ⟨(d / 200 + 10) * 2, by omega, by rw [if_neg z, show (2 : Int32) = nI 2 from rfl, pk_mul]⟩
    obtain ⟨e, he1, he2⟩ := he
    have hc2 : 2 * ms_e s fb vo + 1 = nI (2 * e + 1) := by rw [he2, show (2 : Int32) = nI 2 from rfl, pk_mul, nI_1]
    have hc3 : ms_c s fb vo = nI (2 * e + 1) := by
      unfold ms_c
      rw [hc2, mx]
      by_cases z : e = 0
      · rw [z]; rfl
      · rw [if_pos (show (1 : Int32) < nI (2 * e + 1) from nI_lt (a := 1) (by omega) (by omega))]
    have hrep : mm_Ex l G mX9_measure (mo_Z h0 cx_a cx_s (.inl (some (ms_t s fb vo dr)), va_up s.1 4 ((s.1 4).set j (ms_n q (if fb = 0 then ms_t s fb vo dr else cl_me s - ms_t s fb vo dr) (ms_w s fb vo dr))), s.2)) 196 [.ref 29, .int fb, .int vo, .int dr, .int (nI (ln_N (s.1 2))), .int (nI j), .int (nI (mo_r0 x0 (s.1 2) 0)), x', .null, .null, .null, .null] [] h27 := by
      refine mm_viaJ (ms_a s fb vo) (pc' := 220) (ls' := [.ref 29, .int fb, .int vo, .int dr, .int (nI (ln_N (s.1 2))), .int (nI j), .int (nI (mo_r0 x0 (s.1 2) 0)), x', .null, .null, .null, .null]) (st := []) ?_ (fun kk => ?_)
      · skip
        refine ex_istore dX9_measure_220 (Nat.le_of_ble_eq_true rfl) ?_
        refine ex_iload dX9_measure_222 rfl ?_
        refine ex_sipush (v := 200) dX9_measure_224 (by decide) ?_
        refine ex_idiv dX9_measure_227 (by decide) ?_
        refine ex_bipush (v := 10) dX9_measure_228 (by decide) ?_
        refine ex_iadd dX9_measure_230 ?_
        skip
        refine mm_viaJ (ms_2 vo) (pc' := 240) (ls' := [.ref 29, .int fb, .int vo, .int dr, .int (nI (ln_N (s.1 2))), .int (nI j), .int (nI (mo_r0 x0 (s.1 2) 0)), .int (ms_a s fb vo), .null, .null, .null, .null]) (st := [.int (ms_a s fb vo / 200 + 10)]) ?_ (fun kk => ?_)
        · have hne0 : ¬ 2 * ms_e s fb vo + 1 = 0 := by rw [hc2]; exact nI_ne0 (by omega) (by omega)
          refine ex_imul dX9_measure_240 ?_
          skip
          show mm_Ex l G mX9_measure _ 241 _ [.int (ms_e s fb vo)] _
          refine ex_istore dX9_measure_241 (Nat.le_of_ble_eq_true rfl) ?_
          refine ex_iload dX9_measure_243 rfl ?_
          refine ex_iload dX9_measure_245 rfl ?_
          refine ex_isub dX9_measure_247 ?_
          refine ex_iload_n dX9_measure_248 rfl ?_
          refine ex_iconst (v := 2) dX9_measure_249 (by decide) ?_
          refine ex_iload dX9_measure_250 rfl ?_
          refine ex_imul dX9_measure_252 ?_
          refine ex_iconst (v := 1) dX9_measure_253 (by decide) ?_
          refine ex_iadd dX9_measure_254 ?_
          refine ex_irem dX9_measure_255 hne0 ?_
          refine ex_iadd dX9_measure_256 ?_
          skip
          have ht0 : ms_a s fb vo - ms_e s fb vo + (dr - dr / (2 * ms_e s fb vo + 1) * (2 * ms_e s fb vo + 1)) = ms_a s fb vo - ms_e s fb vo + (dr - dr / ms_c s fb vo * ms_c s fb vo) := by rw [hc3, hc2]
          rw [ht0]
          have hmt : ms_t s fb vo dr = mx 0 (ms_a s fb vo - ms_e s fb vo + (dr - dr / ms_c s fb vo * ms_c s fb vo)) := rfl
          generalize hX : ms_a s fb vo - ms_e s fb vo + (dr - dr / ms_c s fb vo * ms_c s fb vo) = X at hmt
          refine ex_istore dX9_measure_257 (Nat.le_of_ble_eq_true rfl) ?_
          skip
          refine mm_viaJ (ms_t s fb vo dr) (pc' := 270) (ls' := [.ref 29, .int fb, .int vo, .int dr, .int (nI (ln_N (s.1 2))), .int (nI j), .int (nI (mo_r0 x0 (s.1 2) 0)), .int (ms_a s fb vo), .int (ms_e s fb vo), .int X, .null, .null]) (st := []) ?_ (fun kk => ?_)
          · skip
            refine ex_istore dX9_measure_270 (Nat.le_of_ble_eq_true rfl) ?_
            refine ex_iload dX9_measure_272 rfl ?_
            refine ex_sipush (v := 190) dX9_measure_274 (by decide) ?_
            refine ex_idiv dX9_measure_277 (by decide) ?_
            refine ex_bipush (v := 12) dX9_measure_278 (by decide) ?_
            refine ex_iadd dX9_measure_280 ?_
            skip
            refine mm_viaJ (ms_2 vo) (pc' := 290) (ls' := [.ref 29, .int fb, .int vo, .int dr, .int (nI (ln_N (s.1 2))), .int (nI j), .int (nI (mo_r0 x0 (s.1 2) 0)), .int (ms_a s fb vo), .int (ms_e s fb vo), .int (ms_t s fb vo dr), .null, .null]) (st := [.int (ms_t s fb vo dr / 190 + 12)]) ?_ (fun kk => ?_)
            · skip
              refine ex_imul dX9_measure_290 ?_
              skip
              show mm_Ex l G mX9_measure _ 291 _ [.int (ms_w s fb vo dr)] _
              refine ex_istore dX9_measure_291 (Nat.le_of_ble_eq_true rfl) ?_
              skip
              refine mm_viaJ (if fb = 0 then ms_t s fb vo dr else cl_me s - ms_t s fb vo dr) (pc' := 307) (ls' := [.ref 29, .int fb, .int vo, .int dr, .int (nI (ln_N (s.1 2))), .int (nI j), .int (nI (mo_r0 x0 (s.1 2) 0)), .int (ms_a s fb vo), .int (ms_e s fb vo), .int (ms_t s fb vo dr), .int (ms_w s fb vo dr), .null]) (st := []) ?_ (fun kk => ?_)
              · generalize (if fb = 0 then ms_t s fb vo dr else cl_me s - ms_t s fb vo dr) = at0
                generalize ms_w s fb vo dr = w0
                refine ex_istore dX9_measure_307 (Nat.le_of_ble_eq_true rfl) ?_
                refine ex_aload_n dX9_measure_309 rfl ?_
                refine ex_getfield dX9_measure_310 g_X9_83 (mP_o p27) rfl ?_
                refine ex_iload dX9_measure_313 rfl ?_
                skip
                refine mm_viaJ (mx q.2.2.1 (at0 - w0)) (pc' := 345) (ls' := [.ref 29, .int fb, .int vo, .int dr, .int (nI (ln_N (s.1 2))), .int (nI j), .int (nI (mo_r0 x0 (s.1 2) 0)), .int (ms_a s fb vo), .int (ms_e s fb vo), .int (ms_t s fb vo dr), .int w0, .int at0]) (st := [.int (nI j), .ref 54]) ?_ (fun kk => ?_)
                · skip
                  refine ex_iastore dX9_measure_345 (mA_41 p27) (by first | assumption | exact vp_in_nI (by omega) (by decide)) ?_
                  refine mq_41 p27 (fun h345 p345 => ?_)
                  refine ex_aload_n dX9_measure_346 rfl ?_
                  refine ex_getfield dX9_measure_347 g_X9_86 (mP_o p345) rfl ?_
                  refine ex_iload dX9_measure_350 rfl ?_
                  skip
                  refine mm_viaJ (mn q.2.2.2 (at0 + w0)) (pc' := 382) (ls' := [.ref 29, .int fb, .int vo, .int dr, .int (nI (ln_N (s.1 2))), .int (nI j), .int (nI (mo_r0 x0 (s.1 2) 0)), .int (ms_a s fb vo), .int (ms_e s fb vo), .int (ms_t s fb vo dr), .int w0, .int at0]) (st := [.int (nI j), .ref 55]) ?_ (fun kk => ?_)
                  · skip
                    refine ex_iastore dX9_measure_382 (mA_42 p345) (by first | assumption | exact vp_in_nI (by omega) (by decide)) ?_
                    refine mq_42 p345 (fun h382 p382 => ?_)
                    refine ex_iload dX9_measure_383 rfl ?_
                    refine ex_ireturn dX9_measure_385 ⟨_, rfl, rfl⟩ ?_
                    rw [nI_clamp (show j < 2 ^ 31 by omega)] at p382; exact ⟨_, rfl, _, p382, r_fault (m := mo_sf m 0 0) r (((mo_F.refl [38, 39, 40, 41, 42] _).a 41 rfl).a 42 rfl) (r_fau.set (m := mo_sf m 0 0) r8 hg _ _), rfl, rfl⟩
                  · skip
                    refine ex_iload dX9_measure_352 rfl ?_
                    refine ex_iload dX9_measure_354 rfl ?_
                    refine ex_iadd dX9_measure_356 ?_
                    refine ex_aload_n dX9_measure_357 rfl ?_
                    refine ex_getfield dX9_measure_358 g_X9_86 (mP_o p345) rfl ?_
                    refine ex_iload dX9_measure_361 rfl ?_
                    refine ex_ialoadv (v := q.2.2.2) dX9_measure_363 (mA_42 p345) (by first | assumption | exact vp_in_nI (by omega) (by decide)) (mo_av (show (mo_sa (mo_sf m 0 0) 41 (nI j).toNatClampNeg (mx q.2.2.1 (at0 - w0))).2.2 42 j = _ from d4) rfl (by omega)) ?_
                    refine ex_icmp_ge (tgt := 375) dX9_measure_364 (by decide) (fun c_364 => ?_) (fun c_364 => ?_)
                    · refine ex_aload_n dX9_measure_375 rfl ?_
                      refine ex_getfield dX9_measure_376 g_X9_86 (mP_o p345) rfl ?_
                      refine ex_iload dX9_measure_379 rfl ?_
                      refine ex_ialoadv (v := q.2.2.2) dX9_measure_381 (mA_42 p345) (by first | assumption | exact vp_in_nI (by omega) (by decide)) (mo_av (show (mo_sa (mo_sf m 0 0) 41 (nI j).toNatClampNeg (mx q.2.2.1 (at0 - w0))).2.2 42 j = _ from d4) rfl (by omega)) ?_
                      exact kk _ (by rw [mn, if_neg (Int32.not_lt.mpr c_364)])
                    · refine ex_iload dX9_measure_367 rfl ?_
                      refine ex_iload dX9_measure_369 rfl ?_
                      refine ex_iadd dX9_measure_371 ?_
                      refine ex_goto (tgt := 382) dX9_measure_372 (by decide) ?_
                      exact kk _ (by rw [mn, if_pos (Int32.not_le.mp c_364)])
                · skip
                  refine ex_iload dX9_measure_315 rfl ?_
                  refine ex_iload dX9_measure_317 rfl ?_
                  refine ex_isub dX9_measure_319 ?_
                  refine ex_aload_n dX9_measure_320 rfl ?_
                  refine ex_getfield dX9_measure_321 g_X9_83 (mP_o p27) rfl ?_
                  refine ex_iload dX9_measure_324 rfl ?_
                  refine ex_ialoadv (v := q.2.2.1) dX9_measure_326 (mA_41 p27) (by first | assumption | exact vp_in_nI (by omega) (by decide)) (mo_av d3 rfl (by omega)) ?_
                  refine ex_icmp_le (tgt := 338) dX9_measure_327 (by decide) (fun c_327 => ?_) (fun c_327 => ?_)
                  · refine ex_aload_n dX9_measure_338 rfl ?_
                    refine ex_getfield dX9_measure_339 g_X9_83 (mP_o p27) rfl ?_
                    refine ex_iload dX9_measure_342 rfl ?_
                    refine ex_ialoadv (v := q.2.2.1) dX9_measure_344 (mA_41 p27) (by first | assumption | exact vp_in_nI (by omega) (by decide)) (mo_av d3 rfl (by omega)) ?_
                    exact kk _ (by rw [mx, if_neg (Int32.not_lt.mpr c_327)])
                  · refine ex_iload dX9_measure_330 rfl ?_
                    refine ex_iload dX9_measure_332 rfl ?_
                    refine ex_isub dX9_measure_334 ?_
                    refine ex_goto (tgt := 345) dX9_measure_335 (by decide) ?_
                    exact kk _ (by rw [mx, if_pos (Int32.not_le.mp c_327)])
              · skip
                refine ex_iload_n dX9_measure_293 rfl ?_
                refine ex_if_eq (tgt := 305) dX9_measure_294 (by decide) (fun c_294 => ?_) (fun c_294 => ?_)
                · refine ex_iload dX9_measure_305 rfl ?_
                  exact kk _ (by rw [if_pos c_294])
                · refine ex_iload dX9_measure_297 rfl ?_
                  refine ex_iload dX9_measure_299 rfl ?_
                  refine ex_isub dX9_measure_301 ?_
                  refine ex_goto (tgt := 307) dX9_measure_302 (by decide) ?_
                  exact kk _ (by rw [if_neg c_294, hm])
            · skip
              refine ex_iload_n dX9_measure_281 rfl ?_
              refine ex_if_eq (tgt := 289) dX9_measure_282 (by decide) (fun c_282 => ?_) (fun c_282 => ?_)
              · refine ex_iconst (v := 1) dX9_measure_289 (by decide) ?_
                exact kk _ (by rw [ms_2, if_pos c_282])
              · refine ex_iconst (v := 2) dX9_measure_285 (by decide) ?_
                refine ex_goto (tgt := 290) dX9_measure_286 (by decide) ?_
                exact kk _ (by rw [ms_2, if_neg c_282])
          · skip
            refine ex_iload dX9_measure_259 rfl ?_
            refine ex_if_ge (tgt := 268) dX9_measure_261 (by decide) (fun c_261 => ?_) (fun c_261 => ?_)
            · refine ex_iload dX9_measure_268 rfl ?_
              exact kk _ (by rw [hmt, mx]; by_cases z : 0 < X; (rw [if_pos z]); (rw [if_neg z]; exact Int32.le_antisymm (Int32.not_lt.mp z) c_261))
            · refine ex_iconst (v := 0) dX9_measure_264 (by decide) ?_
              refine ex_goto (tgt := 270) dX9_measure_265 (by decide) ?_
              exact kk _ (by rw [hmt, mx, if_neg (fun z => c_261 (Int32.le_of_lt z))])
        · skip
          refine ex_iload_n dX9_measure_231 rfl ?_
          refine ex_if_eq (tgt := 239) dX9_measure_232 (by decide) (fun c_232 => ?_) (fun c_232 => ?_)
          · refine ex_iconst (v := 1) dX9_measure_239 (by decide) ?_
            exact kk _ (by rw [ms_2, if_pos c_232])
          · refine ex_iconst (v := 2) dX9_measure_235 (by decide) ?_
            refine ex_goto (tgt := 240) dX9_measure_236 (by decide) ?_
            exact kk _ (by rw [ms_2, if_neg c_232])
      · skip
        refine ex_iload_n dX9_measure_196 rfl ?_
        refine ex_if_eq (tgt := 213) dX9_measure_197 (by decide) (fun c_197 => ?_) (fun c_197 => ?_)
        · refine ex_aload_n dX9_measure_213 rfl ?_
          refine ex_getfield dX9_measure_214 g_X9_80 (mP_o p27) rfl ?_
          refine ex_iload dX9_measure_217 rfl ?_
          refine ex_ialoadv (v := nI x0) dX9_measure_219 (mA_40 p27) (by first | assumption | exact vp_in_nI (by omega) (by decide)) (mo_av (d2.trans ex0) rfl (by omega)) ?_
          exact kk _ (by rw [ms_a, if_pos c_197, hmp])
        · refine ex_iload dX9_measure_200 rfl ?_
          refine ex_aload_n dX9_measure_202 rfl ?_
          refine ex_getfield dX9_measure_203 g_X9_80 (mP_o p27) rfl ?_
          refine ex_iload dX9_measure_206 rfl ?_
          refine ex_ialoadv (v := nI x0) dX9_measure_208 (mA_40 p27) (by first | assumption | exact vp_in_nI (by omega) (by decide)) (mo_av (d2.trans ex0) rfl (by omega)) ?_
          refine ex_isub dX9_measure_209 ?_
          refine ex_goto (tgt := 220) dX9_measure_210 (by decide) ?_
          exact kk _ (by rw [ms_a, if_neg c_197, hmp, hm])
    refine ex_iload dX9_measure_149 rfl ?_
    refine ex_iconst (v := (-1)) dX9_measure_151 (by decide) ?_
    refine ex_icmp_ne (tgt := 157) dX9_measure_152 (by decide) (fun _ => ?_) (fun z => absurd z (fun z => hf (ej.trans z)))
    refine ex_aload_n dX9_measure_157 rfl ?_
    refine ex_aload_n dX9_measure_158 rfl ?_
    refine ex_getfield dX9_measure_159 g_X9_80 (mP_o p27) rfl ?_
    refine ex_iload dX9_measure_162 rfl ?_
    refine ex_ialoadv (v := nI x0) dX9_measure_164 (mA_40 p27) (by first | assumption | exact vp_in_nI (by omega) (by decide)) (mo_av (d2.trans ex0) rfl (by omega)) ?_
    refine cV_f dX9_measure_165 (mm_kv i_X9_repeatersUpTo l_X9_250) ⟨(Nat.le_of_ble_eq_true rfl), (Nat.le_of_ble_eq_true rfl)⟩ (c_X9_repeatersUpTo p27 (T := s.1 2) r5 hW (by omega) (q := x0) (by omega) _ rfl) rfl rfl (mP_o p27) (Nat.le_of_ble_eq_true rfl) rfl ?_
    refine ex_istore dX9_measure_168 (Nat.le_of_ble_eq_true rfl) ?_
    skip
    by_cases hv : vo = 0
    rotate_left
    · skip
      refine ex_iload_n dX9_measure_170 rfl ?_
      refine ex_if_ne (tgt := 196) dX9_measure_171 (by decide) (fun _ => ?_) (fun z => absurd z hv)
      rw [if_neg (fun z => hv z.1)]; exact hrep
    have hcond : ro_hr (nI x0) fb (s.1 2) 0 = true ↔ 0 < (if fb = 0 then mo_r0 x0 (s.1 2) 0 else mo_r1 x0 (s.1 2) 0) := by
      rcases hfb with z | z
      · rw [z, if_pos rfl]; exact hr0
      · rw [z, if_neg (by decide)]; exact hr1
    refine ex_iload_n dX9_measure_170 rfl ?_
    refine ex_if_ne (tgt := 196) dX9_measure_171 (by decide) (fun z => absurd hv z) (fun _ => ?_)
    skip
    refine mm_viaJ (nI (if fb = 0 then mo_r0 x0 (s.1 2) 0 else mo_r1 x0 (s.1 2) 0)) (pc' := 191) (ls' := [.ref 29, .int fb, .int vo, .int dr, .int (nI (ln_N (s.1 2))), .int (nI j), .int (nI (mo_r0 x0 (s.1 2) 0)), x', .null, .null, .null, .null]) (st := []) ?_ (fun kk => ?_)
    · by_cases hp : 0 < (if fb = 0 then mo_r0 x0 (s.1 2) 0 else mo_r1 x0 (s.1 2) 0)
      · have hlt : (if fb = 0 then mo_r0 x0 (s.1 2) 0 else mo_r1 x0 (s.1 2) 0) < 2 ^ 31 := by
          have h1 := mo_r01 (q := x0) (s.1 2) 0 0
          split
          · omega
          · have := mo_r1_le (q := x0) (s.1 2) 0; omega
        rw [if_pos ⟨hv, hcond.mpr hp⟩]
        refine ex_if_le (tgt := 196) dX9_measure_191 (by decide) (fun z => absurd z (nI_nle hp hlt)) (fun _ => ?_)
        refine ex_iconst (v := (-1)) dX9_measure_194 (by decide) ?_
        refine ex_ireturn dX9_measure_195 ⟨_, rfl, rfl⟩ ?_
        exact ⟨_, rfl, _, p27, r, rfl, rfl⟩
      · rw [if_neg (fun z => hp (hcond.mp z.2)), Nat.eq_zero_of_not_pos hp]
        refine ex_if_le (tgt := 196) dX9_measure_191 (by decide) (fun _ => ?_) (fun z => absurd (by decide) z)
        exact hrep
    · skip
      refine ex_iload_n dX9_measure_174 rfl ?_
      refine ex_if_eq (tgt := 189) dX9_measure_175 (by decide) (fun c_175 => ?_) (fun c_175 => ?_)
      · refine ex_iload dX9_measure_189 rfl ?_
        exact kk _ (by rw [if_pos c_175])
      · refine ex_aload_n dX9_measure_178 rfl ?_
        refine ex_iconst (v := 2) dX9_measure_179 (by decide) ?_
        refine cV_f dX9_measure_180 (mm_kv i_X9_many l_X9_236) ⟨(Nat.le_of_ble_eq_true rfl), (Nat.le_of_ble_eq_true rfl)⟩ (c_X9_many p27 (T := s.1 2) r5 hW _) rfl rfl (mP_o p27) (Nat.le_of_ble_eq_true rfl) rfl ?_
        refine ex_iload dX9_measure_183 rfl ?_
        refine ex_isub dX9_measure_185 ?_
        refine ex_goto (tgt := 191) dX9_measure_186 (by decide) ?_
        exact kk _ (by rw [if_neg c_175, hcnt, nI_sub (by omega)]; congr 1; omega)
  · skip
    refine ex_aload_n dX9_measure_0 rfl ?_
    refine ex_iload_n dX9_measure_1 rfl ?_
    refine ex_iconst (v := 0) dX9_measure_2 (by decide) ?_
    refine ex_ldc dX9_measure_3 k_X9_138 ?_
    refine cS_f dX9_measure_5 (mm_ks i_X9_isIn l_X9_123) ⟨(Nat.le_of_ble_eq_true rfl), (Nat.le_of_ble_eq_true rfl)⟩ (c_X9_isIn _ _ _) rfl rfl (Nat.le_of_ble_eq_true rfl) rfl ?_
    refine ex_if_ne (tgt := 15) dX9_measure_8 (by decide) (fun c_8 => ?_) (fun c_8 => ?_)
    · refine ex_aload_n dX9_measure_15 rfl ?_
      refine cV_f dX9_measure_16 (mm_kv i_X9_liesAtB l_X9_149) ⟨(Nat.le_of_ble_eq_true rfl), (Nat.le_of_ble_eq_true rfl)⟩ (c_X9_liesAtB p) rfl rfl (mP_o p) (Nat.le_of_ble_eq_true rfl) rfl ?_
      refine ex_if_ne (tgt := 26) dX9_measure_19 (by decide) (fun c_19 => ?_) (fun c_19 => ?_)
      · refine ex_iconst (v := 0) dX9_measure_26 (by decide) ?_
        exact kk _ (by rw [if_pos (bb_n.mp c_8), if_pos (r6.1.symm.trans (bb_n.mp c_19))])
      · refine ex_iconst (v := 2) dX9_measure_22 (by decide) ?_
        refine ex_goto (tgt := 27) dX9_measure_23 (by decide) ?_
        exact kk _ (by rw [if_pos (bb_n.mp c_8), if_neg (fun z => bb_0.mp c_19 (r6.1.trans z))])
    · refine ex_iconst (v := 1) dX9_measure_11 (by decide) ?_
      refine ex_goto (tgt := 27) dX9_measure_12 (by decide) ?_
      exact kk _ (by rw [if_neg (bb_0.mp c_8)])
end MOT
