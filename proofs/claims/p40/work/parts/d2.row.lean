/-! P40, PURE: the row of things: no two spans touch; its last thing; its repeaters -/
def h0 : List tt_R → Prop
  | [] => False
  | r :: _ => r.1 = 0
def nj : List tt_R → Prop
  | [] => True
  | r :: L => ¬ (r.1 = 0 ∧ h0 L) ∧ nj L
/-- the last thing is a span -/
def e0 (L : List tt_R) : Prop := ∃ A q, L = A ++ [q] ∧ q.1 = 0
theorem h0_snoc (A : List tt_R) (r q : tt_R) : h0 (A ++ [r, q]) ↔ h0 (A ++ [r]) := by
  cases A <;> exact Iff.rfl
theorem nj_app : ∀ (A B : List tt_R), nj (A ++ B) ↔ nj A ∧ nj B ∧ ¬ (h0 A.reverse ∧ h0 B)
  | [], B => ⟨fun h => ⟨trivial, h, fun z => z.1⟩, fun h => h.2.1⟩
  | [r], B => ⟨fun h => ⟨⟨fun z => z.2, trivial⟩, h.2, h.1⟩, fun h => ⟨h.2.2, h.2.1⟩⟩
  | r :: q :: A, B => by
    have ih := nj_app (q :: A) B
    have e : h0 (r :: q :: A).reverse ↔ h0 (q :: A).reverse := by
      rw [List.reverse_cons, List.reverse_cons, List.append_assoc]
      exact h0_snoc _ _ _
    show (¬ (r.1 = 0 ∧ q.1 = 0) ∧ nj (q :: A ++ B)) ↔ (¬ (r.1 = 0 ∧ q.1 = 0) ∧ nj (q :: A)) ∧ nj B ∧ ¬ (h0 (r :: q :: A).reverse ∧ h0 B)
    rw [ih, e, and_assoc]
theorem nj_s {A : List tt_R} {r : tt_R} : nj (A ++ [r]) ↔ nj A ∧ ¬ (h0 A.reverse ∧ r.1 = 0) := by
  rw [nj_app]
  exact ⟨fun h => ⟨h.1, h.2.2⟩, fun h => ⟨h.1, ⟨fun z => z.2, trivial⟩, h.2⟩⟩
theorem nj_no : ∀ (L : List tt_R), (∀ q ∈ L, ¬ q.1 = 0) → nj L ∧ ¬ h0 L
  | [], _ => ⟨trivial, id⟩
  | r :: L, h => ⟨⟨fun z => h r List.mem_cons_self z.1, (nj_no L (fun q hq => h q (List.mem_cons_of_mem _ hq))).1⟩, h r List.mem_cons_self⟩
theorem rn_app {k : Int32} : ∀ (A B : List tt_R) (s : Int32), ro_n k (A ++ B) s = ro_n k B (ro_n k A s)
  | [], B, s => rfl
  | r :: A, B, s => rn_app A B _
theorem lk_c {A : List tt_R} {r : tt_R} (h : A.length < 2 ^ 30) : ro_lk (A ++ [r]) = r.1 := by
  unfold ro_lk
  rw [List.length_append, show [r].length = 1 from rfl, nI_m1, tt_g_nI ls_snoc_get (by omega)]; rfl
theorem lk_nil : ro_lk [] = -1 := tt_g_neg nI_neg1
theorem e0.lk {L : List tt_R} (h : e0 L) (hl : L.length < 2 ^ 30) : ro_lk L = 0 := by
  obtain ⟨A, q, rfl, h2⟩ := h
  rw [List.length_append] at hl
  rw [lk_c (by omega), h2]
/-! metres that are put at the end -/
theorem ap_n {p f n : Int32} {T : List tt_R} (h : nj T) : nj (ro_ap p f n T) ∧ e0 (ro_ap p f n T) ∧ ro_n 2 (ro_ap p f n T) 0 = ro_n 2 T 0 := by
  rcases List.eq_nil_or_concat T with e | ⟨L, r, e⟩
  · subst e
    rw [ro_ap_nil]
    exact ⟨⟨fun z => z.2, trivial⟩, ⟨[], _, rfl, rfl⟩, rfl⟩
  · rw [List.concat_eq_append] at e
    subst e
    by_cases h1 : r.1 = 0
    · by_cases h2 : r.2.1 = p ∧ r.2.2.1 + r.2.2.2 = f
      · rw [ro_ap_1 h1 h2]
        exact ⟨nj_s.mpr (show nj L ∧ ¬ (h0 L.reverse ∧ r.1 = 0) from nj_s.mp h), ⟨_, _, rfl, h1⟩, by rw [rn_app, rn_app]; rfl⟩
      · rw [ro_ap_2 h1 h2]
        refine ⟨nj_s.mpr ⟨nj_s.mpr ⟨h, fun z => absurd z.2 (by decide)⟩, fun z => ?_⟩, ⟨_, _, rfl, rfl⟩, by rw [rn_app, rn_app]; rfl⟩
        rw [List.reverse_append] at z
        exact absurd (show (1 : Int32) = 0 from z.1) (by decide)
    · rw [ro_ap_3 h1]
      refine ⟨nj_s.mpr ⟨h, fun z => ?_⟩, ⟨_, _, rfl, rfl⟩, by rw [rn_app]; rfl⟩
      rw [List.reverse_append] at z
      exact h1 z.1
theorem al_n : ∀ (g T : List tt_R), nj T → nj (ap_l g T) ∧ (¬ g = [] → e0 (ap_l g T)) ∧ ro_n 2 (ap_l g T) 0 = ro_n 2 T 0
  | [], T, h => ⟨h, fun z => absurd rfl z, rfl⟩
  | [q], T, h => ⟨(ap_n h).1, fun _ => (ap_n h).2.1, (ap_n h).2.2⟩
  | q :: r :: g, T, h => by
    obtain ⟨a, b, c⟩ := ap_n (p := q.2.1) (f := q.2.2.1) (n := q.2.2.2) h
    obtain ⟨x, y, z⟩ := al_n (r :: g) (ro_ap q.2.1 q.2.2.1 q.2.2.2 T) a
    exact ⟨x, fun _ => y (by simp), z.trans c⟩
/-! a storm -/
theorem le_n : ∀ (R : List tt_R) (m : Int32), nj R.reverse → nj (ro_le R m) ∧ (ro_le R m = [] ∨ e0 (ro_le R m))
  | [], m, _ => ⟨trivial, Or.inl rfl⟩
  | r :: R, m, h => by
    rw [List.reverse_cons] at h
    have hR := (nj_s.mp h).1
    rw [ro_le]
    split
    · rename_i h1
      split
      · exact le_n R _ hR
      · exact ⟨nj_s.mpr (show nj R.reverse ∧ ¬ (h0 R.reverse.reverse ∧ r.1 = 0) from nj_s.mp h), Or.inr ⟨_, _, rfl, h1⟩⟩
    · exact le_n R _ hR
/-! a cell that is cut out -/
theorem kA_ge {b : Nat} : ∀ (T : List tt_R) (a : Nat), b ≤ a → ∀ q ∈ kA b T a, ¬ q.1 = 0
  | [], a, _, q, hq => nomatch hq
  | r :: T, a, h, q, hq => by
    rcases List.mem_append.mp (show q ∈ kA1 b a r ++ kA b T (a + rl r) from hq) with z | z
    · unfold kA1 at z
      split at z
      · rw [if_neg (by omega)] at z; exact nomatch z
      · rename_i h1
        split at z
        · split at z
          · rw [List.mem_singleton.mp z]; exact h1
          · exact nomatch z
        · rw [if_neg (by omega)] at z; exact nomatch z
    · exact kA_ge T (a + rl r) (by omega) q z
theorem kA_n {b : Nat} : ∀ (T : List tt_R) (a : Nat), nj T → nj (kA b T a) ∧ (h0 (kA b T a) → h0 T)
  | [], a, h => ⟨trivial, id⟩
  | r :: T, a, h => by
    rcases Nat.lt_or_ge a b with z | z
    · obtain ⟨x, y⟩ := kA_n T (a + rl r) h.2
      have e : ∃ r', kA1 b a r = [r'] ∧ r'.1 = r.1 := by
        unfold kA1
        by_cases h1 : r.1 = 0
        · rw [if_pos h1, if_pos z]; exact ⟨_, rfl, h1.symm⟩
        · rw [if_neg h1]
          by_cases h2 : r.1 = 2
          · rw [if_pos h2, if_pos (by omega)]; exact ⟨_, rfl, rfl⟩
          · rw [if_neg h2, if_pos z]; exact ⟨_, rfl, rfl⟩
      obtain ⟨r', e1, e2⟩ := e
      show nj (kA1 b a r ++ kA b T (a + rl r)) ∧ (h0 (kA1 b a r ++ kA b T (a + rl r)) → _)
      rw [e1]
      refine ⟨⟨fun w => h.1 ⟨e2.symm.trans w.1, y w.2⟩, x⟩, fun w => e2.symm.trans w⟩
    · obtain ⟨x, y⟩ := nj_no _ (kA_ge (r :: T) a z)
      exact ⟨x, fun w => absurd w y⟩
theorem kB_all {kp e : Nat} : ∀ (T : List tt_R) (a : Nat), (∀ r ∈ T, ln_k kp r) → e < a → kB e T a = T
  | [], a, _, _ => rfl
  | r :: T, a, h, z => by
    have hr := (h r List.mem_cons_self).ln
    show kB1 e a r ++ kB e T (a + rl r) = r :: T
    rw [kB_all T (a + rl r) (fun q hq => h q (List.mem_cons_of_mem _ hq)) (by omega)]
    have e1 : kB1 e a r = [r] := by
      unfold kB1
      by_cases h1 : r.1 = 0
      · rw [if_pos h1, if_pos (by omega), show max a e - a = 0 by omega, show a + rl r - max a e = rl r by omega, ← hr.1, nI_0]
        obtain ⟨r1, r2, r3, r4⟩ := r
        obtain rfl : r1 = 0 := h1
        rw [show r3 + 0 = r3 by grind]
      · rw [if_neg h1]
        by_cases h2 : r.1 = 2
        · rw [if_pos h2, if_pos (by omega)]
        · rw [if_neg h2, if_pos z]
    rw [e1]; rfl
theorem kB_n {kp e : Nat} : ∀ (T : List tt_R) (a : Nat), (∀ r ∈ T, ln_k kp r) → nj T → nj (kB e T a)
  | [], a, _, _ => trivial
  | r :: T, a, hk, h => by
    have hT : ∀ q ∈ T, ln_k kp q := fun q hq => hk q (List.mem_cons_of_mem _ hq)
    have ih := kB_n (e := e) T (a + rl r) hT h.2
    show nj (kB1 e a r ++ kB e T (a + rl r))
    unfold kB1
    by_cases h1 : r.1 = 0
    · rw [if_pos h1]
      by_cases z : e < a + rl r
      · rw [if_pos z, kB_all T _ hT z]
        exact ⟨fun w => h.1 ⟨h1, w.2⟩, h.2⟩
      · rw [if_neg z]; exact ih
    · rw [if_neg h1]
      by_cases h2 : r.1 = 2
      · rw [if_pos h2]
        split
        · exact ⟨fun w => h1 w.1, ih⟩
        · exact ih
      · rw [if_neg h2]
        split
        · exact ⟨fun w => h1 w.1, ih⟩
        · exact ih
theorem xs_n : ∀ (g B : List tt_R), nj B → nj (ro_xs g ++ B)
  | [], B, h => h
  | q :: g, B, h => ⟨fun z => absurd (show (1 : Int32) = 0 from z.2) (by decide), fun z => absurd (show (1 : Int32) = 0 from z.1) (by decide), xs_n g B h⟩
theorem md_n {kp b e : Nat} {T g : List tt_R} (hk : ∀ r ∈ T, ln_k kp r) (h : nj T) : nj (md_T b e T g) := by
  unfold md_T
  rw [nj_app]
  exact ⟨(kA_n T 0 h).1, ⟨fun z => absurd (show (1 : Int32) = 0 from z.1) (by decide), xs_n g _ (kB_n T 0 hk h)⟩, fun z => absurd (show (1 : Int32) = 0 from z.2) (by decide)⟩
theorem md_last {kp b e : Nat} {T g : List tt_R} (hk : ∀ r ∈ T, ln_k kp r) (he : e < ln_N T) : ∃ A q A' q', T = A ++ [q] ∧ md_T b e T g = A' ++ [q'] ∧ q'.1 = q.1 := by
  rcases List.eq_nil_or_concat T with z | ⟨A, q, z⟩
  · rw [z] at he; exact absurd he (Nat.not_lt_zero _)
  · rw [List.concat_eq_append] at z
    subst z
    have hq := (hk q (List.mem_append_right _ (List.mem_singleton.mpr rfl))).ln
    rw [ln_N_app, ln_N1] at he
    have e1 : ∃ q', kB1 e (0 + ln_N A) q = [q'] ∧ q'.1 = q.1 := by
      rw [Nat.zero_add]
      unfold kB1
      by_cases h1 : q.1 = 0
      · rw [if_pos h1, if_pos he]; exact ⟨_, rfl, h1.symm⟩
      · have := hq.2.2.2 h1
        rw [if_neg h1]
        by_cases h2 : q.1 = 2
        · rw [if_pos h2, if_pos (by omega)]; exact ⟨_, rfl, rfl⟩
        · rw [if_neg h2, if_pos (by omega)]; exact ⟨_, rfl, rfl⟩
    obtain ⟨q', e1, e2⟩ := e1
    refine ⟨A, q, kA b (A ++ [q]) 0 ++ (1, -1, -1, 0) :: (ro_xs g ++ kB e A 0), q', rfl, ?_, e2⟩
    unfold md_T
    rw [kB_app, show kB e [q] (0 + ln_N A) = [q'] from (show kB1 e (0 + ln_N A) q ++ [] = [q'] by rw [e1]; rfl)]
    simp
