/-! PURE: what goes out, by metres; what was done -/
theorem mn_nI {a b : Nat} (ha : a < 2 ^ 31) (hb : b < 2 ^ 31) : mn (nI a) (nI b) = nI (min a b) := by
  unfold mn
  by_cases e : b < a
  · rw [if_pos (nI_lt e ha), Nat.min_eq_right (by omega)]
  · rw [if_neg (nI_nlt (by omega) hb), Nat.min_eq_left (by omega)]
theorem nI_le0 {a : Nat} (ha : a < 2 ^ 31) : nI a ≤ 0 ↔ a = 0 := by
  constructor
  · intro z
    rcases Nat.eq_zero_or_pos a with y | y
    · exact y
    · exact absurd z (nI_nle y ha)
  · rintro rfl; decide
theorem ho_so_acc {t : Int32} : ∀ (R : List tt_R) (m : Int32) (d : List tt_R), ho_so t R m d = ho_so t R m [] ++ d
  | [], m, d => rfl
  | r :: R, m, d => by
    by_cases hm : m ≤ 0
    · rw [ho_so_0 hm, ho_so_0 hm, List.append_nil]
    rw [ho_so, ho_so, if_neg hm, if_neg hm]
    by_cases e : r.1 = t
    · rw [if_pos e, if_pos e]
      by_cases hf : mn m r.2.2.2 = r.2.2.2
      · rw [if_pos hf, if_pos hf]; exact ho_so_acc R _ d
      · rw [if_neg hf, if_neg hf, ho_so_acc R _ (_ :: d), ho_so_acc R _ [_], List.append_assoc]; rfl
    · rw [if_neg e, if_neg e, ho_so_acc R m (r :: d), ho_so_acc R m [r], List.append_assoc]; rfl
theorem ln_N1 (r : tt_R) : ln_N [r] = rl r := Nat.add_zero _
theorem ga_f {kp t : Nat} (ht : t < 3) : ∀ (R : List tt_R) (M : Nat), (∀ r ∈ R, st_w kp r) → M < 2 ^ 31 → (∀ q ∈ (ho_ga (nI t) R (nI M) []).1, st_w kp q) ∧ ln_N (ho_ga (nI t) R (nI M) []).1 ≤ M ∧ (ho_ga (nI t) R (nI M) []).2 = nI (M - ln_N (ho_ga (nI t) R (nI M) []).1) ∧ (∀ q ∈ ho_so (nI t) R (nI M) [], st_w kp q) ∧ ln_N (ho_so (nI t) R (nI M) []) + ln_N (ho_ga (nI t) R (nI M) []).1 = ln_N R ∧ (ho_so (nI t) R (nI M) []).length + (ho_ga (nI t) R (nI M) []).1.length ≤ R.length + 1
  | [], M, _, _ => ⟨fun q hq => by simp [ho_ga] at hq, Nat.zero_le _, rfl, fun q hq => by simp [ho_so] at hq, rfl, by show 0 + 0 ≤ 0 + 1; omega⟩
  | r :: R, M, h, hM => by
    have hR : ∀ q ∈ R, st_w kp q := fun q hq => h q (List.mem_cons_of_mem _ hq)
    by_cases hm : M = 0
    · subst hm
      rw [ho_ga_0 (by decide), ho_so_0 (by decide), List.append_nil]
      exact ⟨fun q hq => by simp at hq, Nat.le_refl _, rfl, fun q hq => h q (List.mem_reverse.mp hq), by rw [ln_N_rev]; rfl, by rw [List.length_reverse]; exact Nat.le_succ _⟩
    have hm2 : ¬ nI M ≤ 0 := fun z => hm ((nI_le0 hM).mp z)
    obtain ⟨w1, w2, w3⟩ := (h r List.mem_cons_self).ln
    obtain ⟨u, p, f, n, er, g1, g2, g3, g4⟩ := h r List.mem_cons_self
    have hn : rl r = n := by rw [er]; exact nI_clamp (by omega)
    rw [ho_ga, ho_so, if_neg hm2, if_neg hm2]
    by_cases e : r.1 = nI t
    · rw [if_pos e, if_pos e, ho_ga_acc, w1, mn_nI hM (by omega), nI_sub (Nat.min_le_left _ _)]
      obtain ⟨a1, a2, a3, a4, a5, a6⟩ := ga_f ht R (M - min M (rl r)) hR (by omega)
      have hq0 : rl (nI t, r.2.1, r.2.2.1, nI (min M (rl r))) = min M (rl r) := nI_clamp (by omega)
      have hst : st_w kp (nI t, r.2.1, r.2.2.1, nI (min M (rl r))) := ⟨t, p, f, min M (rl r), by rw [er], ht, g2, by omega, by omega⟩
      have hg : ∀ q ∈ ([] ++ [(nI t, r.2.1, r.2.2.1, nI (min M (rl r)))] ++ (ho_ga (nI t) R (nI (M - min M (rl r))) []).1), st_w kp q := by
        intro q hq
        rw [List.nil_append, List.singleton_append] at hq
        rcases List.mem_cons.mp hq with z | z
        · rw [z]; exact hst
        · exact a1 q z
      have hgn : ln_N ([] ++ [(nI t, r.2.1, r.2.2.1, nI (min M (rl r)))] ++ (ho_ga (nI t) R (nI (M - min M (rl r))) []).1) = min M (rl r) + ln_N (ho_ga (nI t) R (nI (M - min M (rl r))) []).1 := by
        rw [List.nil_append, List.singleton_append, ln_N, hq0]
      have hgl : ([] ++ [(nI t, r.2.1, r.2.2.1, nI (min M (rl r)))] ++ (ho_ga (nI t) R (nI (M - min M (rl r))) []).1).length = 1 + (ho_ga (nI t) R (nI (M - min M (rl r))) []).1.length := by
        rw [List.nil_append, List.singleton_append, List.length_cons]; omega
      dsimp only
      refine ⟨hg, by rw [hgn]; omega, by rw [hgn, a3]; congr 1; omega, ?_⟩
      rw [hgn, hgl, ln_N, List.length_cons]
      by_cases hf : nI (min M (rl r)) = nI (rl r)
      · rw [if_pos hf]
        have hf2 := (nI_eq (by omega) (by omega)).mp hf
        exact ⟨a4, by omega, by omega⟩
      · rw [if_neg hf]
        have hf2 : ¬ min M (rl r) = rl r := fun z => hf (by rw [z])
        have hM0 : M - min M (rl r) = 0 := by omega
        have hz := ho_ga_0 (t := nI t) (R := R) (g := []) (show nI (M - min M (rl r)) ≤ 0 by rw [hM0]; decide)
        have hz2 := ho_so_0 (t := nI t) (R := R) (d := [(r.1, r.2.1, r.2.2.1 + nI (min M (rl r)), nI (rl r) - nI (min M (rl r)))]) (show nI (M - min M (rl r)) ≤ 0 by rw [hM0]; decide)
        rw [hz2, hz]
        have e4 : nI (rl r) - nI (min M (rl r)) = nI (rl r - min M (rl r)) := nI_sub (Nat.min_le_right _ _)
        have hr0 : rl (r.1, r.2.1, r.2.2.1 + nI (min M (rl r)), nI (rl r) - nI (min M (rl r))) = rl r - min M (rl r) := by
          show (nI (rl r) - nI (min M (rl r))).toNatClampNeg = _
          rw [e4]; exact nI_clamp (by omega)
        refine ⟨fun q hq => ?_, ?_, ?_⟩
        · rcases List.mem_append.mp hq with z | z
          · exact hR q (List.mem_reverse.mp z)
          · rw [List.mem_singleton.mp z, e4]
            refine ⟨u, p, f + min M (rl r), rl r - min M (rl r), ?_, g1, g2, by omega, by omega⟩
            rw [← nI_add]
            show (r.1, r.2.1, r.2.2.1 + _, _) = _
            rw [er]
        · rw [ln_N_app, ln_N_rev, ln_N1, hr0]
          show ln_N R + _ + (min M (rl r) + 0) = _
          omega
        · rw [List.length_append, List.length_reverse]; show R.length + 1 + (1 + 0) ≤ _; omega
    · rw [if_neg e, if_neg e]
      obtain ⟨a1, a2, a3, a4, a5, a6⟩ := ga_f ht R M hR hM
      rw [ho_so_acc, ln_N_app, List.length_append]
      refine ⟨a1, a2, a3, fun q hq => ?_, ?_, ?_⟩
      · rcases List.mem_append.mp hq with z | z
        · exact a4 q z
        · rw [List.mem_singleton.mp z]; exact h r List.mem_cons_self
      · rw [ln_N1]; show _ + rl r + _ = rl r + ln_N R; omega
      · rw [List.length_cons, List.length_cons, List.length_nil]; omega
theorem ln_c_kind {A B : List tt_R} {r r' : tt_R} (h : r.2 = r'.2) (q : Nat) : ln_c (A ++ r :: B) q = ln_c (A ++ r' :: B) q := by
  rw [ln_c_app, ln_c_app, ln_c, ln_c]
  unfold rl
  rw [h]
theorem ap_f {kp : Nat} : ∀ (g T : List tt_R), (∀ r ∈ T, ln_k kp r) → (∀ q ∈ g, st_w kp q) → (∀ r ∈ ap_l g T, ln_k kp r) ∧ ln_N (ap_l g T) = ln_N T + ln_N g ∧ (ap_l g T).length ≤ T.length + 2 * g.length ∧ ∀ x, ln_c (ap_l g T) x = ln_c (T ++ g) x
  | [], T, h, _ => ⟨h, rfl, Nat.le_refl _, fun x => by rw [List.append_nil]; rfl⟩
  | q :: g, T, h, hg => by
    obtain ⟨t, p, f, n, eq, g1, g2, g3, g4⟩ := hg q List.mem_cons_self
    have hn : rl q = n := by rw [eq]; exact nI_clamp (by omega)
    obtain ⟨b1, b2, b3⟩ := ro_ap_f h g2 g3 g4
    have e : ro_ap q.2.1 q.2.2.1 q.2.2.2 T = ro_ap (nI p) (nI f) (nI n) T := by rw [eq]
    obtain ⟨a1, a2, a3, a4⟩ := ap_f g (ro_ap (nI p) (nI f) (nI n) T) b1 (fun y hy => hg y (List.mem_cons_of_mem _ hy))
    rw [ap_l, e, ln_N, hn]
    have hl := ro_ap_len (p := nI p) (f := nI f) (n := nI n) (L := T)
    refine ⟨a1, by omega, by rw [List.length_cons]; omega, fun x => ?_⟩
    rw [a4, ln_c_app, b2, b3, List.append_cons T q g, ln_c_app (T ++ [q]), ln_N_app]
    have e1 : ln_N [q] = n := by rw [ln_N, hn]; rfl
    have e2 : ln_c (T ++ [q]) x = ln_c (T ++ [(0, nI p, nI f, nI n)]) x := by
      have := ln_c_kind (A := T) (B := []) (r := q) (r' := (0, nI p, nI f, nI n)) (by rw [eq]) x
      exact this
    rw [e1, e2]
def pb_d : List tt_R → Int32 → List tt_R
  | [], _ => []
  | q :: g, me => (me, q.2.1, q.2.2.1, q.2.2.2) :: pb_d g (me + q.2.2.2)
theorem pb_eq : ∀ (g T D : List tt_R) (me : Int32), (cl_pb g T D me).2.1 = D ++ pb_d g me ∧ (cl_pb g T D me).2.2 = ln_m g me
  | [], _, D, me => ⟨by rw [cl_pb, pb_d, List.append_nil], rfl⟩
  | q :: g, T, D, me => by
    obtain ⟨a, b⟩ := pb_eq g (ro_ap q.2.1 q.2.2.1 q.2.2.2 T) (D ++ [(me, q.2.1, q.2.2.1, q.2.2.2)]) (me + q.2.2.2)
    exact ⟨by rw [cl_pb, a, pb_d, List.append_assoc]; rfl, by rw [cl_pb, b, ln_m]⟩
theorem pb_d_len : ∀ (g : List tt_R) (me : Int32), (pb_d g me).length = g.length
  | [], _ => rfl
  | q :: g, me => by rw [pb_d, List.length_cons, List.length_cons, pb_d_len g]
/-- putting a part in at the end -/
theorem de_put {R : List tt_R} {N n p f : Nat} {q : Nat} (hp : p < 30) (hq : q < N + n) (hN : N + n < 2 ^ 30) : de_m ((nI N, nI p, nI f, nI n) :: R) (nI q) = if q < N then de_m R (nI q) else 100000 * nI p + nI f + nI (q - N) := by
  rw [de_m]
  dsimp only
  by_cases e : q < N
  · have h1 : nI q - nI N < 0 := pk_sneg (by omega) e
    rw [if_pos e, if_pos h1, if_pos (Int32.lt_of_lt_of_le h1 (nI_pos' (by omega))), if_pos h1]
  · rw [nI_sub (by omega), if_neg e, if_neg (nI_pos (by omega)), if_neg (fun z => absurd (show nI p < 0 by rw [z]; decide) (nI_pos (by omega))), if_pos (nI_lt (by omega) (by omega)), if_neg (nI_pos (by omega))]
theorem de_pb {kp : Nat} (hkp : kp ≤ 30) : ∀ (g X D : List tt_R), (∀ q ∈ g, st_w kp q) → (∀ x, x < ln_N X → de_m D.reverse (nI x) = ln_c X x) → ln_N X + ln_N g < 2 ^ 30 → ∀ x, x < ln_N X + ln_N g → de_m (D ++ pb_d g (nI (ln_N X))).reverse (nI x) = ln_c (X ++ g) x
  | [], X, D, _, h, _, x, hx => by
    rw [pb_d, List.append_nil, List.append_nil]; exact h x hx
  | q :: g, X, D, hg, h, hN, x, hx => by
    obtain ⟨t, p, f, n, eq, g1, g2, g3, g4⟩ := hg q List.mem_cons_self
    have hn : rl q = n := by rw [eq]; exact nI_clamp (by omega)
    rw [ln_N, hn] at hN hx
    have hXq : ln_N (X ++ [q]) = ln_N X + n := by rw [ln_N_app, ln_N, hn]; rfl
    have e1 : pb_d (q :: g) (nI (ln_N X)) = (nI (ln_N X), nI p, nI f, nI n) :: pb_d g (nI (ln_N (X ++ [q]))) := by
      rw [pb_d, hXq, ← nI_add, eq]
    rw [e1, List.append_cons D, List.append_cons X q g]
    refine de_pb hkp g (X ++ [q]) (D ++ [(nI (ln_N X), nI p, nI f, nI n)]) (fun y hy => hg y (List.mem_cons_of_mem _ hy)) (fun y hy => ?_) (by rw [hXq]; omega) x (by rw [hXq]; omega)
    rw [hXq] at hy
    rw [List.reverse_append]
    show de_m ((nI (ln_N X), nI p, nI f, nI n) :: D.reverse) (nI y) = _
    rw [de_put (by omega) hy (by omega), ln_c_app]
    by_cases e : y < ln_N X
    · rw [if_pos e, if_pos e]; exact h y e
    · rw [if_neg e, if_neg e, ln_c1, hn, if_pos (by omega), eq]

