/-! PURE: what is kept ahead of a cut and behind it -/
def kA1 (b a : Nat) (r : tt_R) : List tt_R := if r.1 = 0 then (if a < b then [(0, r.2.1, r.2.2.1, nI (min (rl r) (b - a)))] else []) else if r.1 = 2 then (if a ≤ b then [r] else []) else (if a < b then [r] else [])
def kB1 (e a : Nat) (r : tt_R) : List tt_R := if r.1 = 0 then (if e < a + rl r then [(0, r.2.1, r.2.2.1 + nI (max a e - a), nI (a + rl r - max a e))] else []) else if r.1 = 2 then (if e ≤ a then [r] else []) else (if e < a then [r] else [])
def kA (b : Nat) : List tt_R → Nat → List tt_R
  | [], _ => []
  | r :: L, a => kA1 b a r ++ kA b L (a + rl r)
def kB (e : Nat) : List tt_R → Nat → List tt_R
  | [], _ => []
  | r :: L, a => kB1 e a r ++ kB e L (a + rl r)
def dv (p : Nat) : List tt_R → Nat → List tt_R
  | [], _ => []
  | r :: L, a => if p ≤ a then r :: dv p L (a + rl r) else if rl r ≤ p - a then r :: dv p L (a + rl r) else (r.1, r.2.1, r.2.2.1, nI (p - a)) :: (0, r.2.1, r.2.2.1 + nI (p - a), nI (rl r - (p - a))) :: L
theorem ro_dv_N {kp p : Nat} (hp : p < 2 ^ 30) : ∀ (T : List tt_R) (a : Nat), (∀ r ∈ T, ln_k kp r) → a + ln_N T < 2 ^ 30 → ro_dv (nI p) T (nI a) = dv p T a
  | [], a, _, _ => rfl
  | r :: T, a, h, hN => by
    have hr := (h r List.mem_cons_self).ln
    rw [ln_N] at hN
    have ih := ro_dv_N hp T (a + rl r) (fun x hx => h x (List.mem_cons_of_mem _ hx)) (by omega)
    rw [ro_dv, dv, hr.1, nI_add, ih]
    by_cases e : p ≤ a
    · have : nI p - nI a ≤ 0 := by
        rcases Nat.lt_or_ge p a with z | z
        · exact Int32.le_of_lt (pk_sneg (by omega) z)
        · rw [show p = a by omega, nI_sub (Nat.le_refl _), Nat.sub_self]; decide
      rw [if_pos this, if_pos e]
    · rw [nI_sub (by omega), if_neg (nI_nle (by omega) (by omega)), if_neg e]
      by_cases e2 : rl r ≤ p - a
      · rw [if_pos (nI_le e2 (by omega)), if_pos e2]
      · rw [if_neg (nI_ge (show p - a < rl r by omega) (by omega)), if_neg e2, nI_sub (by omega)]
theorem dv_ok {kp p : Nat} : ∀ (T : List tt_R) (a : Nat), (∀ r ∈ T, ln_k kp r) → (∀ r ∈ dv p T a, ln_k kp r) ∧ ln_N (dv p T a) = ln_N T
  | [], a, h => ⟨h, rfl⟩
  | r :: T, a, h => by
    have hr := (h r List.mem_cons_self).ln
    obtain ⟨i1, i2⟩ := dv_ok (p := p) T (a + rl r) (fun x hx => h x (List.mem_cons_of_mem _ hx))
    have hcons : (∀ x ∈ r :: dv p T (a + rl r), ln_k kp x) ∧ ln_N (r :: dv p T (a + rl r)) = ln_N (r :: T) := by
      refine ⟨fun x hx => ?_, by rw [ln_N, i2, ln_N]⟩
      rcases List.mem_cons.mp hx with z | z
      · rw [z]; exact h r List.mem_cons_self
      · exact i1 x z
    rw [dv]
    by_cases e : p ≤ a
    · rw [if_pos e]; exact hcons
    · rw [if_neg e]
      by_cases e2 : rl r ≤ p - a
      · rw [if_pos e2]; exact hcons
      · rw [if_neg e2]
        have hk : r.1 = 0 := by
          rcases Decidable.em (r.1 = 0) with z | z
          · exact z
          · have := hr.2.2.2 z; omega
        obtain ⟨b1, x, f, b2, b3, b4, b5⟩ := hr.2.2.1 hk
        have h1 : rl (r.1, r.2.1, r.2.2.1, nI (p - a)) = p - a := nI_clamp (by omega)
        have h2 : rl (0, r.2.1, r.2.2.1 + nI (p - a), nI (rl r - (p - a))) = rl r - (p - a) := nI_clamp (by omega)
        refine ⟨fun y hy => ?_, by rw [ln_N, ln_N, ln_N, h1, h2]; omega⟩
        rcases List.mem_cons.mp hy with z | z
        · rw [z]; exact Or.inl ⟨hk, x, f, p - a, by rw [b3, b4], b2, by omega, by omega⟩
        rcases List.mem_cons.mp z with z | z
        · rw [z]; exact Or.inl ⟨rfl, x, f + (p - a), rl r - (p - a), by rw [b3, b4, nI_add], b2, by omega, by omega⟩
        · exact h y (List.mem_cons_of_mem _ z)
theorem dv_kA {kp b p : Nat} (hbp : b ≤ p) : ∀ (T : List tt_R) (a : Nat), (∀ r ∈ T, ln_k kp r) → kA b (dv p T a) a = kA b T a
  | [], a, _ => rfl
  | r :: T, a, h => by
    have hr := (h r List.mem_cons_self).ln
    have ih := dv_kA (kp := kp) hbp T (a + rl r) (fun x hx => h x (List.mem_cons_of_mem _ hx))
    rw [dv]
    by_cases e : p ≤ a
    · rw [if_pos e, kA, kA, ih]
    · rw [if_neg e]
      by_cases e2 : rl r ≤ p - a
      · rw [if_pos e2, kA, kA, ih]
      · rw [if_neg e2]
        have hk : r.1 = 0 := by
          rcases Decidable.em (r.1 = 0) with z | z
          · exact z
          · have := hr.2.2.2 z; omega
        have h1 : rl (r.1, r.2.1, r.2.2.1, nI (p - a)) = p - a := nI_clamp (by omega)
        have h2 : rl (0, r.2.1, r.2.2.1 + nI (p - a), nI (rl r - (p - a))) = rl r - (p - a) := nI_clamp (by omega)
        rw [kA, kA, kA, h1, h2, show a + (p - a) + (rl r - (p - a)) = a + rl r by omega, show a + (p - a) = p by omega]
        have x2 : kA1 b p (0, r.2.1, r.2.2.1 + nI (p - a), nI (rl r - (p - a))) = [] := by rw [kA1, if_pos rfl, if_neg (by omega)]
        have x1 : kA1 b a (r.1, r.2.1, r.2.2.1, nI (p - a)) = kA1 b a r := by
          rw [kA1, kA1, h1, if_pos hk, if_pos hk]
          by_cases e3 : a < b
          · rw [if_pos e3, if_pos e3, Nat.min_eq_right (by omega), Nat.min_eq_right (by omega)]
          · rw [if_neg e3, if_neg e3]
        rw [x1, x2, List.nil_append]
theorem dv_kB {kp e p : Nat} (hpe : p ≤ e) : ∀ (T : List tt_R) (a : Nat), (∀ r ∈ T, ln_k kp r) → kB e (dv p T a) a = kB e T a
  | [], a, _ => rfl
  | r :: T, a, h => by
    have hr := (h r List.mem_cons_self).ln
    have ih := dv_kB (kp := kp) hpe T (a + rl r) (fun x hx => h x (List.mem_cons_of_mem _ hx))
    rw [dv]
    by_cases e1 : p ≤ a
    · rw [if_pos e1, kB, kB, ih]
    · rw [if_neg e1]
      by_cases e2 : rl r ≤ p - a
      · rw [if_pos e2, kB, kB, ih]
      · rw [if_neg e2]
        have hk : r.1 = 0 := by
          rcases Decidable.em (r.1 = 0) with z | z
          · exact z
          · have := hr.2.2.2 z; omega
        have h1 : rl (r.1, r.2.1, r.2.2.1, nI (p - a)) = p - a := nI_clamp (by omega)
        have h2 : rl (0, r.2.1, r.2.2.1 + nI (p - a), nI (rl r - (p - a))) = rl r - (p - a) := nI_clamp (by omega)
        rw [kB, kB, kB, h1, h2, show a + (p - a) + (rl r - (p - a)) = a + rl r by omega, show a + (p - a) = p by omega]
        have x1 : kB1 e a (r.1, r.2.1, r.2.2.1, nI (p - a)) = [] := by rw [kB1, h1, if_pos hk, if_neg (by omega)]
        have x2 : kB1 e p (0, r.2.1, r.2.2.1 + nI (p - a), nI (rl r - (p - a))) = kB1 e a r := by
          rw [kB1, kB1, h2, if_pos rfl, if_pos hk, show p + (rl r - (p - a)) = a + rl r by omega]
          by_cases e3 : e < a + rl r
          · rw [if_pos e3, if_pos e3, Nat.max_eq_right (by omega), Nat.max_eq_right (by omega)]
            dsimp only
            rw [Int32.add_assoc, nI_add, show p - a + (e - p) = e - a by omega]
          · rw [if_neg e3, if_neg e3]
        rw [x1, x2, List.nil_append]
/-- no row lies on both sides of a place -/
def ns (p : Nat) : List tt_R → Nat → Prop
  | [], _ => True
  | r :: L, a => ¬ (a < p ∧ p < a + rl r) ∧ ns p L (a + rl r)
theorem ns_ge {p : Nat} : ∀ (T : List tt_R) (a : Nat), p ≤ a → ns p T a
  | [], _, _ => trivial
  | r :: T, a, h => ⟨fun z => by omega, ns_ge T _ (by omega)⟩
theorem dv_ns {p : Nat} : ∀ (T : List tt_R) (a : Nat), (∀ r ∈ T, rl r ≤ 90000) → ns p (dv p T a) a
  | [], _, _ => trivial
  | r :: T, a, h => by
    have ih := dv_ns (p := p) T (a + rl r) (fun x hx => h x (List.mem_cons_of_mem _ hx))
    have := h r List.mem_cons_self
    rw [dv]
    by_cases e1 : p ≤ a
    · rw [if_pos e1]; exact ns_ge _ a e1
    · rw [if_neg e1]
      by_cases e2 : rl r ≤ p - a
      · rw [if_pos e2]; exact ⟨fun z => by omega, ih⟩
      · rw [if_neg e2]
        have h1 : rl (r.1, r.2.1, r.2.2.1, nI (p - a)) = p - a := nI_clamp (by omega)
        exact ⟨by rw [h1]; omega, by rw [h1]; exact ns_ge _ _ (by omega)⟩
theorem dv_ns2 {b p : Nat} (hbp : b ≤ p) : ∀ (T : List tt_R) (a : Nat), (∀ r ∈ T, rl r ≤ 90000) → ns b T a → ns b (dv p T a) a
  | [], _, _, _ => trivial
  | r :: T, a, h, hn => by
    have ih := dv_ns2 hbp T (a + rl r) (fun x hx => h x (List.mem_cons_of_mem _ hx)) hn.2
    have := h r List.mem_cons_self
    rw [dv]
    by_cases e1 : p ≤ a
    · rw [if_pos e1]; exact ⟨hn.1, ih⟩
    · rw [if_neg e1]
      by_cases e2 : rl r ≤ p - a
      · rw [if_pos e2]; exact ⟨hn.1, ih⟩
      · rw [if_neg e2]
        have h1 : rl (r.1, r.2.1, r.2.2.1, nI (p - a)) = p - a := nI_clamp (by omega)
        refine ⟨by rw [h1]; have := hn.1; omega, ?_⟩
        rw [h1]; exact ns_ge _ _ (by omega)
theorem ns_app {p : Nat} : ∀ (A B : List tt_R) (a : Nat), ns p (A ++ B) a ↔ ns p A a ∧ ns p B (a + ln_N A)
  | [], B, a => ⟨fun z => ⟨trivial, z⟩, fun z => z.2⟩
  | r :: A, B, a => by
    show (_ ∧ ns p (A ++ B) (a + rl r)) ↔ (_ ∧ ns p A (a + rl r)) ∧ ns p B (a + (rl r + ln_N A))
    rw [ns_app A B, Nat.add_assoc]
    exact ⟨fun z => ⟨⟨z.1, z.2.1⟩, z.2.2⟩, fun z => ⟨z.1.1, z.1.2, z.2⟩⟩
theorem kA_app {b : Nat} : ∀ (A B : List tt_R) (a : Nat), kA b (A ++ B) a = kA b A a ++ kA b B (a + ln_N A)
  | [], B, a => rfl
  | r :: A, B, a => by
    show kA1 b a r ++ kA b (A ++ B) (a + rl r) = kA1 b a r ++ kA b A (a + rl r) ++ kA b B (a + (rl r + ln_N A))
    rw [kA_app A B, List.append_assoc, Nat.add_assoc]
theorem kB_app {e : Nat} : ∀ (A B : List tt_R) (a : Nat), kB e (A ++ B) a = kB e A a ++ kB e B (a + ln_N A)
  | [], B, a => rfl
  | r :: A, B, a => by
    show kB1 e a r ++ kB e (A ++ B) (a + rl r) = kB1 e a r ++ kB e A (a + rl r) ++ kB e B (a + (rl r + ln_N A))
    rw [kB_app A B, List.append_assoc, Nat.add_assoc]
theorem kB_0 {e : Nat} : ∀ (L : List tt_R) (a : Nat), a + ln_N L < e → kB e L a = []
  | [], _, _ => rfl
  | r :: L, a, h => by
    rw [ln_N] at h
    rw [kB, kB_0 L _ (by omega), kB1]
    rw [List.append_nil]
    split
    · rw [if_neg (by omega)]
    · split
      · rw [if_neg (by omega)]
      · rw [if_neg (by omega)]
theorem ro_ct_N {kp b e : Nat} (hbe : b < e) (he : e < 2 ^ 30) : ∀ (R : List tt_R) (n : Nat) (d : List tt_R), (∀ r ∈ R, ln_k kp r) → ln_N R < 2 ^ 30 → ns b R.reverse 0 → ns e R.reverse 0 → ro_ct (nI b) (nI e) R n (nI (ln_N R)) d = (kA b R.reverse 0 ++ kB e R.reverse 0 ++ d, n + (kB e R.reverse 0).length)
  | [], n, d, _, _, _, _ => rfl
  | r :: R, n, d, h, hN, nb, ne => by
    have hw := h r List.mem_cons_self
    have hr := hw.ln
    rw [ln_N] at hN
    rw [List.reverse_cons, ns_app] at nb ne
    have hb1 := nb.2.1
    have he1 := ne.2.1
    rw [ln_N_rev, Nat.zero_add] at hb1 he1
    have hR : ∀ x ∈ R, ln_k kp x := fun x hx => h x (List.mem_cons_of_mem _ hx)
    have ih := fun (n : Nat) (d : List tt_R) => ro_ct_N hbe he R n d hR (by omega) nb.1 ne.1
    have ea : nI (ln_N (r :: R)) - nI (rl r) = nI (ln_N R) := by rw [ln_N, nI_sub (by omega)]; congr 1; omega
    have hKA : kA b (R.reverse ++ [r]) 0 = kA b R.reverse 0 ++ kA1 b (ln_N R) r := by rw [kA_app, ln_N_rev, Nat.zero_add]; show _ ++ (_ ++ []) = _; rw [List.append_nil]
    have hKB : kB e (R.reverse ++ [r]) 0 = kB e R.reverse 0 ++ kB1 e (ln_N R) r := by rw [kB_app, ln_N_rev, Nat.zero_add]; show _ ++ (_ ++ []) = _; rw [List.append_nil]
    -- behind, taken out, ahead
    have cB : kA1 b (ln_N R) r = [] → kB1 e (ln_N R) r = [r] → ro_ct (nI b) (nI e) R (n + 1) (nI (ln_N R)) (r :: d) = (kA b (r :: R).reverse 0 ++ kB e (r :: R).reverse 0 ++ d, n + (kB e (r :: R).reverse 0).length) := by
      intro z1 z2
      rw [ih, List.reverse_cons, hKA, hKB, z1, z2, List.append_nil, List.length_append]
      refine Prod.ext ?_ ?_
      · simp
      · show n + 1 + _ = n + (_ + 1); omega
    have cO : kA1 b (ln_N R) r = [] → kB1 e (ln_N R) r = [] → ro_ct (nI b) (nI e) R n (nI (ln_N R)) d = (kA b (r :: R).reverse 0 ++ kB e (r :: R).reverse 0 ++ d, n + (kB e (r :: R).reverse 0).length) := by
      intro z1 z2
      rw [ih, List.reverse_cons, hKA, hKB, z1, z2, List.append_nil, List.append_nil]
    have cA : ln_N R ≤ b → kA1 b (ln_N R) r = [r] → kB1 e (ln_N R) r = [] → ro_ct (nI b) (nI e) R n (nI (ln_N R)) (r :: d) = (kA b (r :: R).reverse 0 ++ kB e (r :: R).reverse 0 ++ d, n + (kB e (r :: R).reverse 0).length) := by
      intro z0 z1 z2
      have hk0 : kB e R.reverse 0 = [] := kB_0 _ 0 (by rw [ln_N_rev]; omega)
      rw [ih, List.reverse_cons, hKA, hKB, z1, z2, hk0]
      simp
    rw [ro_ct, hr.1, ea]
    by_cases k1 : r.1 = 1
    · have k2 : ¬ r.1 = 2 := by rw [k1]; decide
      have k0 : ¬ r.1 = 0 := by rw [k1]; decide
      have xA : kA1 b (ln_N R) r = if ln_N R < b then [r] else [] := by rw [kA1, if_neg k0, if_neg k2]
      have xB : kB1 e (ln_N R) r = if e < ln_N R then [r] else [] := by rw [kB1, if_neg k0, if_neg k2]
      rw [if_pos k1]
      by_cases g1 : ln_N R ≤ e
      · rw [if_pos (nI_le g1 (by omega)), if_neg k2]
        by_cases g2 : ln_N R < b
        · rw [if_pos (nI_lt g2 (by omega))]; exact cA (by omega) (by rw [xA, if_pos g2]) (by rw [xB, if_neg (by omega)])
        · rw [if_neg (nI_nlt (by omega) (by omega))]; exact cO (by rw [xA, if_neg g2]) (by rw [xB, if_neg (by omega)])
      · rw [if_neg (nI_ge (by omega) (by omega))]; exact cB (by rw [xA, if_neg (by omega)]) (by rw [xB, if_pos (by omega)])
    · rw [if_neg k1]
      by_cases k2 : r.1 = 2
      · have k0 : ¬ r.1 = 0 := by rw [k2]; decide
        have xA : kA1 b (ln_N R) r = if ln_N R ≤ b then [r] else [] := by rw [kA1, if_neg k0, if_pos k2]
        have xB : kB1 e (ln_N R) r = if e ≤ ln_N R then [r] else [] := by rw [kB1, if_neg k0, if_pos k2]
        by_cases g1 : ln_N R < e
        · rw [if_pos (nI_lt g1 (by omega)), if_pos k2]
          by_cases g2 : ln_N R ≤ b
          · rw [if_pos (nI_le g2 (by omega))]; exact cA g2 (by rw [xA, if_pos g2]) (by rw [xB, if_neg (by omega)])
          · rw [if_neg (nI_ge (by omega) (by omega))]; exact cO (by rw [xA, if_neg g2]) (by rw [xB, if_neg (by omega)])
        · rw [if_neg (nI_nlt (by omega) (by omega))]; exact cB (by rw [xA, if_neg (by omega)]) (by rw [xB, if_pos (by omega)])
      · have k0 : r.1 = 0 := by
          rcases hw with ⟨z, -⟩ | ⟨z | z, -⟩
          · exact z
          · exact absurd z k1
          · exact absurd z k2
        obtain ⟨b1, x, f, b2, b3, b4, b5⟩ := hr.2.2.1 k0
        have er : ∀ y, y = rl r → (0, r.2.1, r.2.2.1, nI y) = r := fun y hy => by
          rw [hy, ← hr.1, ← k0]
        have xA : kA1 b (ln_N R) r = if ln_N R < b then [r] else [] := by
          rw [kA1, if_pos k0]
          by_cases g : ln_N R < b
          · rw [if_pos g, if_pos g, er _ (by omega)]
          · rw [if_neg g, if_neg g]
        have xB : kB1 e (ln_N R) r = if e ≤ ln_N R then [r] else [] := by
          rw [kB1, if_pos k0]
          by_cases g : e ≤ ln_N R
          · rw [if_pos g, if_pos (by omega), Nat.max_eq_left g, Nat.sub_self, nI_0, show r.2.2.1 + 0 = r.2.2.1 by grind, er _ (by omega)]
          · rw [if_neg g, if_neg (by omega)]
        by_cases g1 : ln_N R < e
        · rw [if_pos (nI_lt g1 (by omega)), if_neg k2]
          by_cases g2 : ln_N R < b
          · rw [if_pos (nI_lt g2 (by omega))]; exact cA (by omega) (by rw [xA, if_pos g2]) (by rw [xB, if_neg (by omega)])
          · rw [if_neg (nI_nlt (by omega) (by omega))]; exact cO (by rw [xA, if_neg g2]) (by rw [xB, if_neg (by omega)])
        · rw [if_neg (nI_nlt (by omega) (by omega))]; exact cB (by rw [xA, if_neg (by omega)]) (by rw [xB, if_pos (by omega)])
/-- the mended row of things -/
theorem ro_xt_N {kp b e : Nat} {T : List tt_R} (g : List tt_R) (hbe : b < e) (he : e ≤ ln_N T) (h : ∀ r ∈ T, ln_k kp r) (hN : ln_N T < 2 ^ 30) : ro_xt (nI b) (nI e) (nI (ln_N T)) T g = kA b T 0 ++ (1, -1, -1, 0) :: (ro_xs g ++ kB e T 0) := by
  have d1 := dv_ok (kp := kp) (p := b) T 0 h
  have d2 := dv_ok (kp := kp) (p := e) (dv b T 0) 0 d1.1
  have e1 : ro_dv (nI b) T 0 = dv b T 0 := ro_dv_N (by omega) T 0 h (by omega)
  have e2 : ro_dv (nI e) (dv b T 0) 0 = dv e (dv b T 0) 0 := ro_dv_N (by omega) _ 0 d1.1 (by rw [d1.2]; omega)
  have n1 : ns b (dv e (dv b T 0) 0) 0 := dv_ns2 (by omega) _ 0 (fun r hr => (d1.1 r hr).ln.2.1) (dv_ns T 0 (fun r hr => (h r hr).ln.2.1))
  have n2 : ns e (dv e (dv b T 0) 0) 0 := dv_ns _ 0 (fun r hr => (d1.1 r hr).ln.2.1)
  have hct := ro_ct_N (kp := kp) hbe (by omega) (dv e (dv b T 0) 0).reverse 0 [] (fun r hr => d2.1 r (List.mem_reverse.mp hr)) (by rw [ln_N_rev, d2.2, d1.2]; omega) (by rw [List.reverse_reverse]; exact n1) (by rw [List.reverse_reverse]; exact n2)
  rw [ln_N_rev, d2.2, d1.2, List.reverse_reverse, List.append_nil, Nat.zero_add, dv_kA (kp := kp) (by omega) _ 0 d1.1, dv_kB (kp := kp) (by omega) _ 0 d1.1, dv_kA (kp := kp) (Nat.le_refl _) T 0 h, dv_kB (kp := kp) (by omega) T 0 h] at hct
  have hex : ro_ex (nI b) (nI e) (nI (ln_N T)) T = (kA b T 0 ++ kB e T 0, (kB e T 0).length) := by unfold ro_ex; rw [e1, e2]; exact hct
  unfold ro_xt
  rw [hex]
  dsimp only
  rw [List.length_append, Nat.add_sub_cancel, List.take_left, List.drop_left]

