/-! PURE: lists of the line by metres -/
def ln_k (kp : Nat) (r : tt_R) : Prop := (r.1 = 0 ∧ ∃ p f n : Nat, r.2 = (nI p, nI f, nI n) ∧ p < kp ∧ 1 ≤ n ∧ f + n ≤ 90000) ∨ ((r.1 = 1 ∨ r.1 = 2) ∧ r.2 = (-1, -1, 0))
theorem ln_k.w {kp : Nat} {r : tt_R} (h : ln_k kp r) (hk : kp ≤ 30) : ln_w r := by
  rcases h with ⟨h, p, f, n, h1, h2, h3⟩ | h
  · exact Or.inl ⟨h, p, f, n, h1, by omega, h3⟩
  · exact Or.inr h
theorem ln_k.mono {kp kq : Nat} {r : tt_R} (h : ln_k kp r) (hk : kp ≤ kq) : ln_k kq r := by
  rcases h with ⟨h, p, f, n, h1, h2, h3⟩ | h
  · exact Or.inl ⟨h, p, f, n, h1, by omega, h3⟩
  · exact Or.inr h
theorem ln_W.of {kp : Nat} {T : List tt_R} (h : ∀ r ∈ T, ln_k kp r) (hk : kp ≤ 30) (hl : T.length ≤ 8000) : ln_W T := ⟨hl, fun _ r hr => (h r (List.mem_of_getElem? hr)).w hk⟩
theorem ln_N_app : ∀ (A B : List tt_R), ln_N (A ++ B) = ln_N A + ln_N B
  | [], B => by show ln_N B = 0 + ln_N B; omega
  | r :: A, B => by show rl r + ln_N (A ++ B) = rl r + ln_N A + ln_N B; rw [ln_N_app A B]; omega
theorem ln_N_rev : ∀ (A : List tt_R), ln_N A.reverse = ln_N A
  | [] => rfl
  | r :: A => by rw [List.reverse_cons, ln_N_app, ln_N_rev A]; show ln_N A + (rl r + 0) = rl r + ln_N A; omega
/-- what lies at a place: 100000 times the piece, and the metre -/
def ln_c : List tt_R → Nat → Int32
  | [], _ => -1
  | r :: L, q => if q < rl r then 100000 * r.2.1 + r.2.2.1 + nI q else ln_c L (q - rl r)
theorem ln_c1 (r : tt_R) (q : Nat) : ln_c [r] q = if q < rl r then 100000 * r.2.1 + r.2.2.1 + nI q else -1 := rfl
theorem ln_c_app : ∀ (A B : List tt_R) (q : Nat), ln_c (A ++ B) q = if q < ln_N A then ln_c A q else ln_c B (q - ln_N A)
  | [], B, q => by rw [if_neg (by show ¬ q < 0; omega)]; rfl
  | r :: A, B, q => by
    show (if q < rl r then _ else ln_c (A ++ B) (q - rl r)) = _
    rw [ln_c_app A B, ln_N, ln_c]
    by_cases h1 : q < rl r
    · rw [if_pos h1, if_pos (by omega), if_pos h1]
    · rw [if_neg h1]
      by_cases h2 : q - rl r < ln_N A
      · rw [if_pos h2, if_pos (by omega), if_neg h1]
      · rw [if_neg h2, if_neg (by omega)]
        congr 1; omega
theorem ln_k.ln {kp : Nat} {r : tt_R} (h : ln_k kp r) : r.2.2.2 = nI (rl r) ∧ rl r ≤ 90000 ∧ (r.1 = 0 → 1 ≤ rl r ∧ ∃ p f, p < kp ∧ r.2.1 = nI p ∧ r.2.2.1 = nI f ∧ f + rl r ≤ 90000) ∧ (¬ r.1 = 0 → rl r = 0) := by
  unfold rl
  rcases h with ⟨h, p, f, n, h1, h2, h3, h4⟩ | ⟨h1, h2⟩
  · rw [h1]
    dsimp only
    rw [nI_clamp (show n < 2 ^ 31 by omega)]
    exact ⟨rfl, by omega, fun _ => ⟨h3, p, f, h2, rfl, rfl, h4⟩, fun z => absurd h z⟩
  · rw [h2]
    exact ⟨by decide, by decide, fun z => by rw [z] at h1; exact absurd h1 (by decide), fun _ => by decide⟩
theorem ro_le_f {kp : Nat} : ∀ (R : List tt_R) (m : Nat), (∀ r ∈ R, ln_k kp r) → m ≤ ln_N R → ln_N R < 2 ^ 31 → (∀ r ∈ ro_le R (nI m), ln_k kp r) ∧ ln_N (ro_le R (nI m)) = ln_N R - m ∧ (ro_le R (nI m)).length ≤ R.length ∧ ∀ q, q < ln_N R - m → ln_c (ro_le R (nI m)) q = ln_c R.reverse q
  | [], m, h, hm, _ => ⟨fun r hr => by simp [ro_le] at hr, by show 0 = 0 - m; omega, Nat.le_refl _, fun q hq => absurd hq (by show ¬ q < 0 - m; omega)⟩
  | r :: R, m, h, hm, hN => by
    have hr := (h r List.mem_cons_self).ln
    have hR : ∀ q ∈ R, ln_k kp q := fun q hq => h q (List.mem_cons_of_mem _ hq)
    rw [ln_N] at hm hN ⊢
    have hrec : rl r ≤ m → (∀ q ∈ ro_le R (nI (m - rl r)), ln_k kp q) ∧ ln_N (ro_le R (nI (m - rl r))) = rl r + ln_N R - m ∧ (ro_le R (nI (m - rl r))).length ≤ (r :: R).length ∧ ∀ q, q < rl r + ln_N R - m → ln_c (ro_le R (nI (m - rl r))) q = ln_c (r :: R).reverse q := by
      intro hc
      obtain ⟨a1, a2, a3, a4⟩ := ro_le_f R (m - rl r) hR (by omega) (by omega)
      refine ⟨a1, by omega, by rw [List.length_cons]; omega, fun q hq => ?_⟩
      rw [a4 q (by omega), List.reverse_cons, ln_c_app, if_pos (by rw [ln_N_rev]; omega)]
    rw [ro_le, hr.1]
    by_cases hk : r.1 = 0
    · rw [if_pos hk]
      by_cases hc : rl r ≤ m
      · rw [if_pos (nI_le hc (by omega)), nI_sub hc]; exact hrec hc
      · rw [if_neg (nI_ge (show m < rl r by omega) (by omega)), nI_sub (by omega)]
        obtain ⟨b1, p, f, b2, b3, b4, b5⟩ := hr.2.2.1 hk
        have hrl : rl (r.1, r.2.1, r.2.2.1, nI (rl r - m)) = rl r - m := nI_clamp (by omega)
        refine ⟨fun q hq => ?_, ?_, ?_, fun q hq => ?_⟩
        · rcases List.mem_append.mp hq with hq | hq
          · exact hR q (List.mem_reverse.mp hq)
          · rw [List.mem_singleton.mp hq]
            exact Or.inl ⟨hk, p, f, rl r - m, by rw [b3, b4], b2, by omega, by omega⟩
        · rw [ln_N_app, ln_N_rev, ln_N, hrl, ln_N]; omega
        · rw [List.length_append, List.length_reverse]; exact Nat.le_refl _
        · rw [List.reverse_cons, ln_c_app, ln_c_app, ln_N_rev]
          by_cases h1 : q < ln_N R
          · rw [if_pos h1, if_pos h1]
          · rw [if_neg h1, if_neg h1, ln_c1, ln_c1, hrl, if_pos (by omega), if_pos (by omega)]
    · rw [if_neg hk]
      have h0 := hr.2.2.2 hk
      rw [nI_sub (by omega)]
      exact hrec (by omega)
/-- appending what went out -/
theorem ro_ap_f {kp : Nat} {T : List tt_R} {p f n : Nat} (h : ∀ r ∈ T, ln_k kp r) (hp : p < kp) (hn : 1 ≤ n) (hf : f + n ≤ 90000) : (∀ r ∈ ro_ap (nI p) (nI f) (nI n) T, ln_k kp r) ∧ ln_N (ro_ap (nI p) (nI f) (nI n) T) = ln_N T + n ∧ ∀ q, ln_c (ro_ap (nI p) (nI f) (nI n) T) q = ln_c (T ++ [(0, nI p, nI f, nI n)]) q := by
  have hw : ln_k kp (0, nI p, nI f, nI n) := Or.inl ⟨rfl, p, f, n, rfl, hp, hn, hf⟩
  have hrl : rl (0, nI p, nI f, nI n) = n := nI_clamp (by omega)
  have hj : rl (1, -1, -1, 0) = 0 := by decide
  rcases List.eq_nil_or_concat T with rfl | ⟨L, r, rfl⟩
  · rw [ro_ap_nil]
    refine ⟨fun r hr => by rw [List.mem_singleton.mp hr]; exact hw, ?_, fun q => rfl⟩
    show rl _ + 0 = 0 + n; rw [hrl]; omega
  rw [List.concat_eq_append] at h ⊢
  have hr := (h r (by simp)).ln
  have hL : ∀ q ∈ L, ln_k kp q := fun q hq => h q (List.mem_append_left _ hq)
  by_cases h1 : r.1 = 0
  · by_cases h2 : r.2.1 = nI p ∧ r.2.2.1 + r.2.2.2 = nI f
    · rw [ro_ap_1 h1 h2]
      obtain ⟨b1, p', f', b2, b3, b4, b5⟩ := hr.2.2.1 h1
      have e2 : f' + rl r = f := (nI_eq (by omega) (by omega)).mp (by rw [← nI_add, ← b4, ← hr.1]; exact h2.2)
      have e1 : p' = p ∨ True := Or.inr trivial
      have hrl2 : rl (r.1, r.2.1, r.2.2.1, r.2.2.2 + nI n) = rl r + n := by
        show (r.2.2.2 + nI n).toNatClampNeg = _
        rw [hr.1, nI_add, nI_clamp (by omega)]
      refine ⟨fun q hq => ?_, ?_, fun q => ?_⟩
      · rcases List.mem_append.mp hq with hq | hq
        · exact hL q hq
        · rw [List.mem_singleton.mp hq]
          exact Or.inl ⟨h1, p', f', rl r + n, by show (r.2.1, r.2.2.1, r.2.2.2 + nI n) = _; rw [hr.1, nI_add, b3, b4], b2, by omega, by omega⟩
      · rw [ln_N_app, ln_N_app, ln_N, ln_N, ln_N, ln_N, hrl2]; omega
      · rw [ln_c_app, ln_c_app, ln_N_app, ln_c_app]
        show (if q < ln_N L then ln_c L q else ln_c [_] (q - ln_N L)) = if q < ln_N L + (rl r + 0) then (if q < ln_N L then ln_c L q else ln_c [r] (q - ln_N L)) else _
        by_cases c1 : q < ln_N L
        · rw [if_pos c1, if_pos (by omega), if_pos c1]
        · rw [if_neg c1, ln_c1, hrl2, ln_c1, ln_c1, hrl]
          by_cases c2 : q - ln_N L < rl r
          · rw [if_pos (by omega), if_pos (by omega), if_neg c1, if_pos c2]
          · by_cases c3 : q - ln_N L < rl r + n
            · rw [if_pos c3, if_neg (by omega), if_pos (by show q - (ln_N L + (rl r + 0)) < n; omega)]
              show 100000 * r.2.1 + r.2.2.1 + nI (q - ln_N L) = 100000 * nI p + nI f + nI (q - (ln_N L + (rl r + 0)))
              have e4 : q - ln_N L = rl r + (q - (ln_N L + (rl r + 0))) := by omega
              rw [e4, ← nI_add, ← h2.2, ← hr.1, ← h2.1]; grind
            · rw [if_neg c3, if_neg (by omega), if_neg (by show ¬ q - (ln_N L + (rl r + 0)) < n; omega)]
    · rw [ro_ap_2 h1 h2]
      refine ⟨fun q hq => ?_, ?_, fun q => ?_⟩
      · simp only [List.append_assoc, List.mem_append, List.mem_singleton] at hq
        rcases hq with hq | rfl | rfl | rfl
        · exact hL q hq
        · exact h _ (by simp)
        · exact Or.inr ⟨Or.inl rfl, rfl⟩
        · exact hw
      · rw [ln_N_app, ln_N_app]; show ln_N (L ++ [r]) + (rl (1, -1, -1, 0) + 0) + (rl (0, nI p, nI f, nI n) + 0) = _; rw [hrl, hj]; omega
      · rw [ln_c_app, ln_N_app, ln_c_app (L ++ [r]) [(0, nI p, nI f, nI n)], ln_c_app (L ++ [r]) [(1, -1, -1, 0)]]
        show (if q < ln_N (L ++ [r]) + (rl (1, -1, -1, 0) + 0) then _ else ln_c [(0, nI p, nI f, nI n)] (q - (ln_N (L ++ [r]) + (rl (1, -1, -1, 0) + 0)))) = _
        rw [hj]
        by_cases c1 : q < ln_N (L ++ [r])
        · rw [if_pos (by omega), if_pos c1, if_pos c1]
        · rw [if_neg (by omega), if_neg c1]; rfl
  · rw [ro_ap_3 h1]
    refine ⟨fun q hq => ?_, ?_, fun q => rfl⟩
    · rcases List.mem_append.mp hq with hq | hq
      · exact h q hq
      · rw [List.mem_singleton.mp hq]; exact hw
    · rw [ln_N_app]; show _ + (rl (0, nI p, nI f, nI n) + 0) = _; rw [hrl]; omega

