/-! PURE: the ways of the network -/
def lk_k (r : tt_R) : Prop := ∃ a b : Nat, r.1 = nI a ∧ r.2.1 = nI b ∧ a < 4 ∧ b < 4 ∧ ¬ a = b
theorem nI_m1n {t : Nat} (ht : t < 2 ^ 31) : ¬ nI t = -1 := fun z => absurd (show nI t < 0 by rw [z]; decide) (nI_pos ht)
theorem oe_c {r : tt_R} {a b v : Nat} (h1 : r.1 = nI a) (h2 : r.2.1 = nI b) (ha : a < 4) (hb : b < 4) (hv : v < 4) : ne_oe r (nI v) = if a = v then nI b else if b = v then nI a else -1 := by
  unfold ne_oe
  rw [h1, h2]
  by_cases e : a = v
  · rw [if_pos e, if_pos (by rw [e])]
  · rw [if_neg e, if_neg (fun z => e ((nI_eq (by omega) (by omega)).mp z))]
    by_cases e2 : b = v
    · rw [if_pos e2, if_pos (by rw [e2])]
    · rw [if_neg e2, if_neg (fun z => e2 ((nI_eq (by omega) (by omega)).mp z))]
def ed (L : List tt_R) (u : Int32) (i v t : Nat) : Prop := t < 4 ∧ bt u i = true ∧ ∃ r, L[i]? = some r ∧ ne_oe r (nI v) = nI t
def rch (L : List tt_R) (u : Int32) (b : Nat) : Nat → Nat → Prop
  | 0, v => v = b
  | n + 1, v => ∃ i t, ed L u i v t ∧ rch L u b n t
def st_d (st : Nat → Int32) (d : Nat → Nat) : Prop := ∀ v, v < 4 → st v = nI (d v) ∧ d v ≤ 4
theorem sf_d {st : Nat → Int32} {d : Nat → Nat} (h : st_d st d) {t : Nat} (ht : t < 4) : ne_sf st (nI t) = nI (d t) := by
  unfold ne_sf
  rw [if_neg (nI_pos (by omega)), if_neg (show ¬ (4 : Int32) ≤ _ from nI_ge (b := 4) ht (by decide)), nI_clamp (by omega)]
  exact (h t ht).1
theorem sh_f {st : Nat → Int32} {d : Nat → Nat} {f t : Nat} (hf : f < 4) (ht : t < 4) (h : st_d st d) : ∃ d', st_d (ne_sh st (nI f) (nI t)) d' ∧ (∀ v, d' v ≤ d v) ∧ d' f ≤ d t + 1 ∧ ∀ v, d' v = d v ∨ (v = f ∧ d' v = d t + 1) := by
  have e1 : ne_sh st (nI f) (nI t) = if d f ≤ d t + 1 then st else upd st f (nI (d t + 1)) := by
    have h1 := (h f hf).2
    have h2 := (h t ht).2
    unfold ne_sh
    rw [if_neg (nI_pos (by omega)), if_neg (show ¬ (4 : Int32) ≤ _ from nI_ge (b := 4) hf (by decide)), nI_clamp (by omega), (h f hf).1, sf_d h ht, nI_1]
    by_cases e : d f ≤ d t + 1
    · rw [if_pos e, if_pos (nI_le e (by omega))]
    · rw [if_neg e, if_neg (nI_ge (by omega) (by omega))]
  rw [e1]
  by_cases e : d f ≤ d t + 1
  · rw [if_pos e]
    exact ⟨d, h, fun _ => Nat.le_refl _, e, fun _ => Or.inl rfl⟩
  · rw [if_neg e]
    refine ⟨fun v => if v = f then d t + 1 else d v, fun v hv => ?_, fun v => ?_, ?_, fun v => ?_⟩
    · by_cases z : v = f
      · subst z
        have := (h v hv).2
        refine ⟨pk_us.trans ?_, ?_⟩
        · dsimp only; rw [if_pos rfl]
        · dsimp only; rw [if_pos rfl]; omega
      · refine ⟨(pk_un z).trans ?_, ?_⟩
        · dsimp only; rw [if_neg z]; exact (h v hv).1
        · dsimp only; rw [if_neg z]; exact (h v hv).2
    · dsimp only
      split
      · rename_i z; rw [z]; omega
      · exact Nat.le_refl _
    · dsimp only; rw [if_pos rfl]; exact Nat.le_refl _
    · dsimp only
      by_cases z : v = f
      · rw [if_pos z]; exact Or.inr ⟨z, rfl⟩
      · rw [if_neg z]; exact Or.inl rfl
def sd_d (L : List tt_R) (u : Int32) (b : Nat) (d : Nat → Nat) : Prop := ∀ v, v < 4 → d v ≤ 3 → rch L u b (d v) v
theorem rd_f {L : List tt_R} {u : Int32} {b : Nat} (hk : ∀ r ∈ L, lk_k r) (h6 : L.length ≤ 6) : ∀ (S : List tt_R) (i : Nat) (st : Nat → Int32) (d : Nat → Nat), (∀ j r, S[j]? = some r → L[i + j]? = some r) → st_d st d → sd_d L u b d → ∃ d', st_d (ne_rd u S i st) d' ∧ sd_d L u b d' ∧ (∀ v, d' v ≤ d v) ∧ ∀ j r v t, S[j]? = some r → bt u (i + j) = true → v < 4 → t < 4 → ne_oe r (nI v) = nI t → d' v ≤ d t + 1
  | [], i, st, d, _, h1, h2 => ⟨d, h1, h2, fun _ => Nat.le_refl _, fun j r v t hr => by simp at hr⟩
  | r :: S, i, st, d, hS, h1, h2 => by
    have hr : L[i]? = some r := hS 0 r rfl
    have hi : i < 6 := by have := (List.getElem?_eq_some_iff.mp hr).1; omega
    have hS' : ∀ j q, S[j]? = some q → L[i + 1 + j]? = some q := fun j q hq => by
      rw [show i + 1 + j = i + (j + 1) by omega]; exact hS (j + 1) q hq
    obtain ⟨x, y, e1, e2, hx, hy, hxy⟩ := hk r (List.mem_of_getElem? hr)
    rw [ne_rd]
    by_cases e : bt u i = true
    · rw [if_pos ((bt_b1 hi).mpr e), e1, e2]
      have hed1 : ed L u i x y := ⟨hy, e, r, hr, by rw [oe_c e1 e2 hx hy hx, if_pos rfl]⟩
      have hed2 : ed L u i y x := ⟨hx, e, r, hr, by rw [oe_c e1 e2 hx hy hy, if_neg hxy, if_pos rfl]⟩
      obtain ⟨d1, a1, a2, a3, a4⟩ := sh_f hx hy h1
      have s1 : sd_d L u b d1 := fun v hv h3 => by
        rcases a4 v with z | ⟨z, z2⟩
        · rw [z] at h3 ⊢; exact h2 v hv h3
        · rw [z2] at h3 ⊢; rw [z]; exact ⟨i, y, hed1, h2 y hy (by omega)⟩
      obtain ⟨d2, b1, b2, b3, b4⟩ := sh_f hy hx a1
      have s2 : sd_d L u b d2 := fun v hv h3 => by
        rcases b4 v with z | ⟨z, z2⟩
        · rw [z] at h3 ⊢; exact s1 v hv h3
        · rw [z2] at h3 ⊢; rw [z]; exact ⟨i, x, hed2, s1 x hx (by omega)⟩
      obtain ⟨d3, c1, c2, c3, c4⟩ := rd_f hk h6 S (i + 1) _ d2 hS' b1 s2
      refine ⟨d3, c1, c2, fun v => Nat.le_trans (c3 v) (Nat.le_trans (b2 v) (a2 v)), fun j q v t hq hb hv ht hoe => ?_⟩
      cases j with
      | zero =>
        cases hq
        rw [oe_c e1 e2 hx hy hv] at hoe
        by_cases z : x = v
        · rw [if_pos z] at hoe
          have : y = t := (nI_eq (by omega) (by omega)).mp hoe
          subst z this
          exact Nat.le_trans (c3 _) (Nat.le_trans (b2 _) a3)
        · rw [if_neg z] at hoe
          by_cases z2 : y = v
          · rw [if_pos z2] at hoe
            have : x = t := (nI_eq (by omega) (by omega)).mp hoe
            subst z2 this
            have := c3 y
            have := a2 x
            omega
          · rw [if_neg z2] at hoe
            exact absurd hoe.symm (nI_m1n (by omega))
      | succ j =>
        have := c4 j q v t hq (by rw [show i + 1 + j = i + (j + 1) by omega]; exact hb) hv ht hoe
        have := b2 t
        have := a2 t
        omega
    · rw [if_neg (fun z => e ((bt_b1 hi).mp z))]
      obtain ⟨d3, c1, c2, c3, c4⟩ := rd_f hk h6 S (i + 1) _ d hS' h1 h2
      refine ⟨d3, c1, c2, c3, fun j q v t hq hb hv ht hoe => ?_⟩
      cases j with
      | zero => exact absurd hb e
      | succ j => exact c4 j q v t hq (by rw [show i + 1 + j = i + (j + 1) by omega]; exact hb) hv ht hoe
theorem cs_f {L : List tt_R} {u : Int32} {b : Nat} (hk : ∀ r ∈ L, lk_k r) (h6 : L.length ≤ 6) (hb : b < 4) (st : Nat → Int32) : ∃ d, st_d (ne_cs L st (nI b) u) d ∧ sd_d L u b d ∧ ∀ n v, n ≤ 3 → v < 4 → rch L u b n v → d v ≤ n := by
  have hc : st_d (ne_c1 st (nI b)) (fun v => if v = b then 0 else 4) := fun v hv => by
    unfold ne_c1
    rw [if_neg (nI_pos (by omega)), if_neg (show ¬ (4 : Int32) ≤ _ from nI_ge (b := 4) hb (by decide)), nI_clamp (by omega)]
    by_cases z : v = b
    · refine ⟨?_, by dsimp only; rw [if_pos z]; omega⟩
      rw [z]
      refine pk_us.trans ?_
      dsimp only; rw [if_pos rfl]; rfl
    · refine ⟨(pk_un z).trans ?_, by dsimp only; rw [if_neg z]; omega⟩
      dsimp only; rw [if_neg z]
      unfold ne_f4
      rcases v with _ | _ | _ | _ | v
      · rfl
      · rfl
      · rfl
      · rfl
      · omega
  have hs : sd_d L u b (fun v => if v = b then 0 else 4) := fun v hv h3 => by
    dsimp only at h3 ⊢
    by_cases z : v = b
    · rw [if_pos z]; exact z
    · rw [if_neg z] at h3; omega
  have h0 : ∀ j r, L[j]? = some r → L[0 + j]? = some r := fun j r hr => by rw [Nat.zero_add]; exact hr
  obtain ⟨d1, a1, a2, a3, a4⟩ := rd_f hk h6 L 0 _ _ h0 hc hs
  obtain ⟨d2, b1, b2, b3, b4⟩ := rd_f hk h6 L 0 _ _ h0 a1 a2
  obtain ⟨d3, c1, c2, c3, c4⟩ := rd_f hk h6 L 0 _ _ h0 b1 b2
  have step : ∀ (d d' : Nat → Nat), (∀ j r v t, L[j]? = some r → bt u (0 + j) = true → v < 4 → t < 4 → ne_oe r (nI v) = nI t → d' v ≤ d t + 1) → ∀ n, (∀ v, v < 4 → rch L u b n v → d v ≤ n) → ∀ v, v < 4 → rch L u b (n + 1) v → d' v ≤ n + 1 := fun d d' h n hn v hv hr => by
    obtain ⟨i, t, ⟨ht, hbt, r, hr1, hoe⟩, hr2⟩ := hr
    have := h i r v t hr1 (by rw [Nat.zero_add]; exact hbt) hv ht hoe
    have := hn t ht hr2
    omega
  have z0 : ∀ v, v < 4 → rch L u b 0 v → (fun v => if v = b then 0 else 4) v ≤ 0 := fun v _ hr => by
    dsimp only; rw [if_pos (show v = b from hr)]; exact Nat.le_refl _
  have z1 : ∀ v, v < 4 → rch L u b 0 v → d1 v ≤ 0 := fun v hv hr => Nat.le_trans (a3 v) (z0 v hv hr)
  have z2 : ∀ v, v < 4 → rch L u b 0 v → d2 v ≤ 0 := fun v hv hr => Nat.le_trans (b3 v) (z1 v hv hr)
  have o1 := step _ d1 a4 0 z0
  have o2 : ∀ v, v < 4 → rch L u b (0 + 1) v → d2 v ≤ 0 + 1 := step _ d2 b4 0 z1
  refine ⟨d3, c1, c2, fun n v hn hv hr => ?_⟩
  rcases n with _ | _ | _ | _ | n
  · exact Nat.le_trans (c3 v) (z2 v hv hr)
  · exact step _ d3 c4 0 z2 v hv hr
  · exact step _ d3 c4 1 o2 v hv hr
  · exact step _ d3 c4 2 (step _ d2 b4 1 o1) v hv hr
  · omega
