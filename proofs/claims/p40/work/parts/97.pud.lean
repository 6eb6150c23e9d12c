/-! PURE: mending: what holds afterwards -/
theorem de_cut {R : List tt_R} {b n q : Nat} (hn : n < 2 ^ 30) (hb : b < 2 ^ 30) (hq : q < 2 ^ 30) : de_m ((nI b, -1, -1, nI n) :: R) (nI q) = if q < b then de_m R (nI q) else de_m R (nI (q + n)) := by
  rw [de_m]
  dsimp only
  by_cases e : q < b
  · have h1 : nI q - nI b < 0 := pk_sneg (by omega) e
    rw [if_pos e, if_pos h1, if_pos (Int32.lt_of_lt_of_le h1 (nI_pos' (by omega))), if_pos h1]
  · rw [nI_sub (by omega), if_neg e, if_neg (nI_pos (by omega)), if_pos rfl, nI_add]
theorem de_in {R : List tt_R} {b p f n q : Nat} (hp : p < 30) (hn : n < 2 ^ 30) (hb : b < 2 ^ 30) (hq : q < 2 ^ 30) : de_m ((nI b, nI p, nI f, nI n) :: R) (nI q) = if q < b then de_m R (nI q) else if q < b + n then 100000 * nI p + nI f + nI (q - b) else de_m R (nI (q - n)) := by
  rw [de_m]
  dsimp only
  by_cases e : q < b
  · have h1 : nI q - nI b < 0 := pk_sneg (by omega) e
    rw [if_pos e, if_pos h1, if_pos (Int32.lt_of_lt_of_le h1 (nI_pos' (by omega))), if_pos h1]
  · rw [nI_sub (by omega), if_neg e, if_neg (nI_pos (by omega)), if_neg (fun z => absurd (show nI p < 0 by rw [z]; decide) (nI_pos (by omega)))]
    by_cases e2 : q < b + n
    · rw [if_pos e2, if_pos (nI_lt (by omega) (by omega)), if_neg (nI_pos (by omega))]
    · rw [if_neg e2, if_neg (nI_nlt (by omega) (by omega)), nI_sub (by omega)]
theorem de_xd {kp : Nat} (hkp : kp ≤ 30) : ∀ (g D : List tt_R) (F : Nat → Int32) (b Q : Nat), (∀ q ∈ g, st_w kp q) → (∀ x, x < Q → de_m D.reverse (nI x) = F x) → b ≤ Q → Q + ln_N g < 2 ^ 29 → ∀ x, x < Q + ln_N g → de_m (D ++ ro_xd g (nI b)).reverse (nI x) = if x < b then F x else if x < b + ln_N g then ln_c g (x - b) else F (x - ln_N g)
  | [], D, F, b, Q, _, h, _, _, x, hx => by
    rw [ro_xd, List.append_nil]
    rw [ln_N] at hx ⊢
    rw [h x (by omega)]
    by_cases e : x < b
    · rw [if_pos e]
    · rw [if_neg e, if_neg (by omega)]; rfl
  | q :: g, D, F, b, Q, hg, h, hb, hN, x, hx => by
    obtain ⟨t, p, f, n, eq, g1, g2, g3, g4⟩ := hg q List.mem_cons_self
    have hn : rl q = n := by rw [eq]; exact nI_clamp (by omega)
    rw [ln_N, hn] at hN hx ⊢
    have e1 : ro_xd (q :: g) (nI b) = (nI b, nI p, nI f, nI n) :: ro_xd g (nI (b + n)) := by
      rw [ro_xd, eq, ← nI_add]
    rw [e1, List.append_cons D]
    have ih := de_xd hkp g (D ++ [(nI b, nI p, nI f, nI n)]) (fun x => if x < b then F x else if x < b + n then 100000 * nI p + nI f + nI (x - b) else F (x - n)) (b + n) (Q + n) (fun y hy => hg y (List.mem_cons_of_mem _ hy)) (fun y hy => by
      rw [List.reverse_append]
      show de_m ((nI b, nI p, nI f, nI n) :: D.reverse) (nI y) = _
      rw [de_in (by omega) (by omega) (by omega) (by omega)]
      by_cases z1 : y < b
      · rw [if_pos z1, if_pos z1]; exact h y (by omega)
      · rw [if_neg z1, if_neg z1]
        by_cases z2 : y < b + n
        · rw [if_pos z2, if_pos z2]
        · rw [if_neg z2, if_neg z2]; exact h _ (by omega)) (by omega) (by omega) x (by omega)
    rw [ih]
    by_cases z1 : x < b
    · rw [if_pos (by omega), if_pos z1, if_pos z1]
    · rw [if_neg z1]
      by_cases z2 : x < b + n
      · rw [if_pos z2, if_neg z1, if_pos z2, if_pos (by omega), ln_c, hn, if_pos (by omega), eq]
      · rw [if_neg z2]
        by_cases z3 : x < b + n + ln_N g
        · rw [if_pos z3, if_neg z1, if_pos (show x < b + (n + ln_N g) by omega), ln_c, hn, if_neg (by omega)]; congr 1; omega
        · rw [if_neg z3, if_neg (show ¬ x - ln_N g < b by omega), if_neg (show ¬ x - ln_N g < b + n by omega), if_neg z1, if_neg (show ¬ x < b + (n + ln_N g) by omega)]; congr 1; omega
theorem kA_f {kp b : Nat} : ∀ (T : List tt_R) (a : Nat), (∀ r ∈ T, ln_k kp r) → (∀ r ∈ kA b T a, ln_k kp r) ∧ ln_N (kA b T a) = min (a + ln_N T) b - a ∧ ∀ q, q < min (a + ln_N T) b - a → ln_c (kA b T a) q = ln_c T q
  | [], a, _ => ⟨fun r hr => absurd hr List.not_mem_nil, by rw [kA, ln_N]; omega, fun q hq => rfl⟩
  | r :: T, a, h => by
    have hw := h r List.mem_cons_self
    have hr := hw.ln
    obtain ⟨i1, i2, i3⟩ := kA_f (b := b) T (a + rl r) (fun x hx => h x (List.mem_cons_of_mem _ hx))
    have hx : (∀ x ∈ kA1 b a r, ln_k kp x) ∧ ln_N (kA1 b a r) = min (rl r) (b - a) ∧ ∀ q, q < min (rl r) (b - a) → ln_c (kA1 b a r) q = 100000 * r.2.1 + r.2.2.1 + nI q := by
      unfold kA1
      by_cases e : r.1 = 0
      · obtain ⟨b1, x, f, b2, b3, b4, b5⟩ := hr.2.2.1 e
        rw [if_pos e]
        by_cases e2 : a < b
        · rw [if_pos e2]
          have h1 : rl (0, r.2.1, r.2.2.1, nI (min (rl r) (b - a))) = min (rl r) (b - a) := nI_clamp (by omega)
          refine ⟨fun y hy => ?_, by rw [ln_N1, h1], fun q hq => by rw [ln_c1, h1, if_pos hq]⟩
          rw [List.mem_singleton.mp hy]
          exact Or.inl ⟨rfl, x, f, min (rl r) (b - a), by rw [b3, b4], b2, by omega, by omega⟩
        · rw [if_neg e2]
          exact ⟨fun y hy => absurd hy List.not_mem_nil, by rw [ln_N]; omega, fun q hq => absurd hq (by omega)⟩
      · have h0 := hr.2.2.2 e
        have hS : ∀ P : Prop, [Decidable P] → (∀ x ∈ (if P then [r] else []), ln_k kp x) ∧ ln_N (if P then [r] else []) = min (rl r) (b - a) ∧ ∀ q, q < min (rl r) (b - a) → ln_c (if P then [r] else []) q = 100000 * r.2.1 + r.2.2.1 + nI q := by
          intro P _
          refine ⟨fun y hy => ?_, ?_, fun q hq => absurd hq (by omega)⟩
          · split at hy
            · rw [List.mem_singleton.mp hy]; exact hw
            · exact absurd hy List.not_mem_nil
          · split
            · rw [ln_N1]; omega
            · rw [ln_N]; omega
        rw [if_neg e]
        by_cases e2 : r.1 = 2
        · rw [if_pos e2]; exact hS _
        · rw [if_neg e2]; exact hS _
    obtain ⟨x1, x2, x3⟩ := hx
    rw [kA, ln_N_app, x2, i2, ln_N]
    refine ⟨fun y hy => (List.mem_append.mp hy).elim (x1 y) (i1 y), by omega, fun q hq => ?_⟩
    rw [ln_c_app, x2, ln_c]
    by_cases e : q < min (rl r) (b - a)
    · rw [if_pos e, if_pos (by omega), x3 q e]
    · rw [if_neg e, if_neg (by omega), i3 _ (by omega)]; congr 1; omega
theorem kB_f {kp e : Nat} : ∀ (T : List tt_R) (a : Nat), (∀ r ∈ T, ln_k kp r) → (∀ r ∈ kB e T a, ln_k kp r) ∧ ln_N (kB e T a) = a + ln_N T - max a e ∧ ∀ q, q < a + ln_N T - max a e → ln_c (kB e T a) q = ln_c T (max a e - a + q)
  | [], a, _ => ⟨fun r hr => absurd hr List.not_mem_nil, by rw [kB, ln_N]; omega, fun q hq => rfl⟩
  | r :: T, a, h => by
    have hw := h r List.mem_cons_self
    have hr := hw.ln
    obtain ⟨i1, i2, i3⟩ := kB_f (e := e) T (a + rl r) (fun x hx => h x (List.mem_cons_of_mem _ hx))
    have hx : (∀ x ∈ kB1 e a r, ln_k kp x) ∧ ln_N (kB1 e a r) = a + rl r - max a e ∧ ∀ q, q < a + rl r - max a e → ln_c (kB1 e a r) q = 100000 * r.2.1 + r.2.2.1 + nI (max a e - a + q) := by
      unfold kB1
      by_cases e1 : r.1 = 0
      · obtain ⟨b1, x, f, b2, b3, b4, b5⟩ := hr.2.2.1 e1
        rw [if_pos e1]
        by_cases e2 : e < a + rl r
        · rw [if_pos e2]
          have h1 : rl (0, r.2.1, r.2.2.1 + nI (max a e - a), nI (a + rl r - max a e)) = a + rl r - max a e := nI_clamp (by omega)
          refine ⟨fun y hy => ?_, by rw [ln_N1, h1], fun q hq => by rw [ln_c1, h1, if_pos hq, ← nI_add]; dsimp only; grind⟩
          rw [List.mem_singleton.mp hy]
          exact Or.inl ⟨rfl, x, f + (max a e - a), a + rl r - max a e, by rw [b3, b4, nI_add], b2, by omega, by omega⟩
        · rw [if_neg e2]
          exact ⟨fun y hy => absurd hy List.not_mem_nil, by rw [ln_N]; omega, fun q hq => absurd hq (by omega)⟩
      · have h0 := hr.2.2.2 e1
        have hS : ∀ P : Prop, [Decidable P] → (∀ x ∈ (if P then [r] else []), ln_k kp x) ∧ ln_N (if P then [r] else []) = a + rl r - max a e ∧ ∀ q, q < a + rl r - max a e → ln_c (if P then [r] else []) q = 100000 * r.2.1 + r.2.2.1 + nI (max a e - a + q) := by
          intro P _
          refine ⟨fun y hy => ?_, ?_, fun q hq => absurd hq (by omega)⟩
          · split at hy
            · rw [List.mem_singleton.mp hy]; exact hw
            · exact absurd hy List.not_mem_nil
          · split
            · rw [ln_N1]; omega
            · rw [ln_N]; omega
        rw [if_neg e1]
        by_cases e2 : r.1 = 2
        · rw [if_pos e2]; exact hS _
        · rw [if_neg e2]; exact hS _
    obtain ⟨x1, x2, x3⟩ := hx
    rw [kB, ln_N_app, x2, i2, ln_N]
    refine ⟨fun y hy => (List.mem_append.mp hy).elim (x1 y) (i1 y), by omega, fun q hq => ?_⟩
    rw [ln_c_app, x2, ln_c]
    by_cases z : q < a + rl r - max a e
    · rw [if_pos z, if_pos (by omega), x3 q z]
    · rw [if_neg z, if_neg (by omega), i3 _ (by omega)]; congr 1; omega
theorem kA1_len {b a : Nat} {r : tt_R} : (kA1 b a r).length ≤ 1 ∧ (b < a → kA1 b a r = []) := by
  unfold kA1
  refine ⟨?_, fun z => ?_⟩
  · split
    · split <;> simp
    · split
      · split <;> simp
      · split <;> simp
  · simp only [if_neg (show ¬ a < b by omega), if_neg (show ¬ a ≤ b by omega), ite_self]
theorem kB1_len {e a : Nat} {r : tt_R} : (kB1 e a r).length ≤ 1 := by
  unfold kB1
  split
  · split <;> simp
  · split
    · split <;> simp
    · split <;> simp
theorem kB_le {e : Nat} : ∀ (T : List tt_R) (a : Nat), (kB e T a).length ≤ T.length
  | [], _ => Nat.le_refl _
  | r :: T, a => by
    have h1 := kB_le (e := e) T (a + rl r)
    have h2 := kB1_len (e := e) (a := a) (r := r)
    rw [kB, List.length_append, List.length_cons]; omega
theorem kA_nil {b : Nat} : ∀ (T : List tt_R) (a : Nat), b < a → kA b T a = []
  | [], _, _ => rfl
  | r :: T, a, h => by rw [kA, kA1_len.2 h, kA_nil T _ (by omega)]; rfl
theorem kAB_len {b e : Nat} (hbe : b < e) : ∀ (T : List tt_R) (a : Nat), (kA b T a).length + (kB e T a).length ≤ T.length + 1
  | [], _ => Nat.zero_le _
  | r :: T, a => by
    have ih := kAB_len hbe T (a + rl r)
    have h1 := kB1_len (e := e) (a := a) (r := r)
    have h2 := (kA1_len (b := b) (a := a) (r := r)).1
    rw [kA, kB, List.length_append, List.length_append, List.length_cons]
    by_cases z : b < a + rl r
    · have h3 := kB_le (e := e) T (a + rl r)
      rw [kA_nil T _ z, List.length_nil]; omega
    · have h4 : (kB1 e a r).length = 0 := by
        unfold kB1
        simp only [if_neg (show ¬ e < a + rl r by omega), if_neg (show ¬ e ≤ a by omega), if_neg (show ¬ e < a by omega), ite_self, List.length_nil]
      omega
theorem xs_f {kp : Nat} : ∀ (g : List tt_R), (∀ q ∈ g, st_w kp q) → (∀ r ∈ ro_xs g, ln_k kp r) ∧ ln_N (ro_xs g) = ln_N g ∧ (ro_xs g).length = 2 * g.length ∧ ∀ x, ln_c (ro_xs g) x = ln_c g x
  | [], _ => ⟨fun r hr => absurd hr List.not_mem_nil, rfl, rfl, fun _ => rfl⟩
  | q :: g, h => by
    obtain ⟨i1, i2, i3, i4⟩ := xs_f g (fun x hx => h x (List.mem_cons_of_mem _ hx))
    obtain ⟨t, p, f, n, eq, g1, g2, g3, g4⟩ := h q List.mem_cons_self
    have hn : rl (0, q.2.1, q.2.2.1, q.2.2.2) = rl q := rfl
    have hj : rl (1, -1, -1, 0) = 0 := by decide
    rw [ro_xs]
    refine ⟨fun r hr => ?_, by rw [ln_N, ln_N, ln_N, hn, hj, i2]; omega, by rw [List.length_cons, List.length_cons, List.length_cons, i3]; omega, fun x => ?_⟩
    · rcases List.mem_cons.mp hr with z | z
      · rw [z]; exact Or.inl ⟨rfl, p, f, n, by rw [eq], g2, g3, g4⟩
      rcases List.mem_cons.mp z with z | z
      · rw [z]; exact Or.inr ⟨Or.inl rfl, rfl⟩
      · exact i1 r z
    · rw [ln_c, ln_c, ln_c, hn, hj, if_neg (Nat.not_lt_zero _), i4, Nat.sub_zero]
def md_L (b e d : Int32) : List tt_R → List tt_R
  | [] => []
  | r :: L => if r.2.1 < e then (if r.2.1 < b then r :: md_L b e d L else md_L b e d L) else (r.1, r.2.1 + d, r.2.2.1, r.2.2.2) :: md_L b e d L
theorem md_L_app {b e d : Int32} : ∀ (A B : List tt_R), md_L b e d (A ++ B) = md_L b e d A ++ md_L b e d B
  | [], _ => rfl
  | r :: A, B => by
    rw [List.cons_append, md_L, md_L, md_L_app A B]
    split
    · split <;> rfl
    · rfl
theorem md_L_len {b e d : Int32} : ∀ (L : List tt_R), (md_L b e d L).length ≤ L.length
  | [] => Nat.le_refl _
  | r :: L => by
    have := md_L_len (b := b) (e := e) (d := d) L
    rw [md_L, List.length_cons]
    split
    · split
      · rw [List.length_cons]; omega
      · omega
    · rw [List.length_cons]; omega
theorem fa_c_f {b e d : Int32} : ∀ (R : List tt_R) (n : Nat) (D : List tt_R), (fa_c b e d R n D).1 = md_L b e d R.reverse ++ D ∧ (fa_c b e d R n D).2 + (md_L b e d R.reverse).length = n + R.length
  | [], n, D => ⟨rfl, rfl⟩
  | r :: R, n, D => by
    rw [fa_c, List.reverse_cons, md_L_app, List.length_append, List.length_cons]
    by_cases e1 : r.2.1 < e
    · rw [if_pos e1]
      by_cases e2 : r.2.1 < b
      · have h1 : md_L b e d [r] = [r] := by rw [md_L, if_pos e1, if_pos e2]; rfl
        obtain ⟨i1, i2⟩ := fa_c_f (b := b) (e := e) (d := d) R n (r :: D)
        rw [if_pos e2, h1]
        refine ⟨by rw [i1]; simp, ?_⟩
        rw [List.length_cons, List.length_nil]; omega
      · have h1 : md_L b e d [r] = [] := by rw [md_L, if_pos e1, if_neg e2]; rfl
        obtain ⟨i1, i2⟩ := fa_c_f (b := b) (e := e) (d := d) R (n + 1) D
        rw [if_neg e2, h1]
        refine ⟨by rw [i1]; simp, ?_⟩
        rw [List.length_nil]; omega
    · have h1 : md_L b e d [r] = [(r.1, r.2.1 + d, r.2.2.1, r.2.2.2)] := by rw [md_L, if_neg e1]; rfl
      obtain ⟨i1, i2⟩ := fa_c_f (b := b) (e := e) (d := d) R n ((r.1, r.2.1 + d, r.2.2.1, r.2.2.2) :: D)
      rw [if_neg e1, h1]
      refine ⟨by rw [i1]; simp, ?_⟩
      rw [List.length_cons, List.length_nil]; omega

