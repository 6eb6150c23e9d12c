/-! PURE: the first of all ways is the one that is gone step by step -/
def mw_t (L : List tt_R) (u : Int32) (i : Nat) (nd vis : Int32) : Int32 := if bt u i = true then (match L[i]? with | none => -1 | some r => if ne_oe r nd = -1 then -1 else if (vis >>> (ne_oe r nd &&& 31)) &&& 1 = 0 then ne_oe r nd else -1) else -1
def mw (L : List tt_R) (u : Int32) : Nat → Nat → Int32 → Int32 → Int32 → Int32 × Int32
  | 0, _, nd, _, us => (nd, us)
  | k + 1, x, nd, vis, us => if nd = -1 then (nd, us) else mw L u k x (mw_t L u (x / 6 ^ k % 6) nd vis) (vis ||| (if mw_t L u (x / 6 ^ k % 6) nd vis = -1 then 0 else (1 : Int32) <<< (mw_t L u (x / 6 ^ k % 6) nd vis &&& 31))) (us ||| ne_1 (x / 6 ^ k % 6))
theorem mw_m1 {L : List tt_R} {u : Int32} : ∀ (k x : Nat) (vis us : Int32), mw L u k x (-1) vis us = (-1, us)
  | 0, _, _, _ => rfl
  | k + 1, x, vis, us => by rw [mw, if_pos rfl]
theorem oe_or {r : tt_R} (h : lk_k r) {v : Nat} (hv : v < 4) : ne_oe r (nI v) = -1 ∨ ∃ t, t < 4 ∧ ne_oe r (nI v) = nI t := by
  obtain ⟨a, b, h1, h2, ha, hb, -⟩ := h
  rw [oe_c h1 h2 ha hb hv]
  split
  · exact Or.inr ⟨b, hb, rfl⟩
  · split
    · exact Or.inr ⟨a, ha, rfl⟩
    · exact Or.inl rfl
section GR
variable {L : List tt_R} {u : Int32} {b : Nat}
theorem mwt_or (hk : ∀ r ∈ L, lk_k r) {i v : Nat} (hv : v < 4) (vis : Int32) : mw_t L u i (nI v) vis = -1 ∨ ∃ t, mw_t L u i (nI v) vis = nI t ∧ ed L u i v t := by
  unfold mw_t
  by_cases e : bt u i = true
  · rw [if_pos e]
    cases hr : L[i]? with
    | none => exact Or.inl rfl
    | some r =>
      dsimp only
      rcases oe_or (hk r (List.mem_of_getElem? hr)) hv with z | ⟨t, ht, z⟩
      · rw [if_pos z]; exact Or.inl rfl
      · rw [z, if_neg (nI_m1n (by omega))]
        split
        · exact Or.inr ⟨t, rfl, ht, e, r, hr, z⟩
        · exact Or.inl rfl
  · rw [if_neg e]; exact Or.inl rfl
theorem mw_rch (hk : ∀ r ∈ L, lk_k r) (hb : b < 4) : ∀ (k x v : Nat) (vis us : Int32), v < 4 → (mw L u k x (nI v) vis us).1 = nI b → rch L u b k v
  | 0, x, v, vis, us, hv, h => (nI_eq (by omega) (by omega)).mp h
  | k + 1, x, v, vis, us, hv, h => by
    rw [mw, if_neg (nI_m1n (by omega))] at h
    rcases mwt_or (u := u) hk (i := x / 6 ^ k % 6) hv vis with z | ⟨t, z, hed⟩
    · rw [z, mw_m1] at h
      exact absurd h.symm (nI_m1n (by omega))
    · rw [z] at h
      exact ⟨_, t, hed, mw_rch hk hb k x t _ _ hed.1 h⟩
/-- the step that the class takes -/
theorem bi_f (hk : ∀ r ∈ L, lk_k r) (h6 : L.length ≤ 6) {st : Nat → Int32} {d : Nat → Nat} (hd : st_d st d) {s k : Nat} (hs : s < 4) (hk4 : k < 4) (f : Int32) : ∀ (S : List tt_R) (i : Nat), (∀ j r, S[j]? = some r → L[i + j]? = some r) → (∃ j r t, S[j]? = some r ∧ bt u (i + j) = true ∧ t < 4 ∧ ne_oe r (nI s) = nI t ∧ d t = k) → ∃ j t, ed L u (i + j) s t ∧ d t = k ∧ i + j < 6 ∧ ne_bi u (nI s) st (nI (k + 1)) S i f = (nI t, f ||| ne_1 (i + j)) ∧ ∀ j' t', j' < j → ed L u (i + j') s t' → d t' = k → False
  | [], i, _, ⟨j, r, t, hr, _⟩ => by simp at hr
  | r :: S, i, hS, h => by
    have hr : L[i]? = some r := hS 0 r rfl
    have hi : i < 6 := by have := (List.getElem?_eq_some_iff.mp hr).1; omega
    have hS' : ∀ j q, S[j]? = some q → L[i + 1 + j]? = some q := fun j q hq => by
      rw [show i + 1 + j = i + (j + 1) by omega]; exact hS (j + 1) q hq
    have hleft : nI (k + 1) - 1 = nI k := nI_m1 k
    rw [ne_bi, hleft]
    have hno : (∀ t, ed L u i s t → d t = k → False) → ∃ j t, ed L u (i + j) s t ∧ d t = k ∧ i + j < 6 ∧ ne_bi u (nI s) st (nI (k + 1)) S (i + 1) f = (nI t, f ||| ne_1 (i + j)) ∧ ∀ j' t', j' < j → ed L u (i + j') s t' → d t' = k → False := by
      intro hn
      obtain ⟨j, q, t, hq, hbt, ht, hoe, hdt⟩ := h
      cases j with
      | zero =>
        cases hq
        exact absurd (hn t ⟨ht, hbt, _, hr, hoe⟩ hdt) id
      | succ j =>
        obtain ⟨j2, t2, c1, c2, c3, c4, c5⟩ := bi_f hk h6 hd hs hk4 f S (i + 1) hS' ⟨j, q, t, hq, by rw [show i + 1 + j = i + (j + 1) by omega]; exact hbt, ht, hoe, hdt⟩
        rw [show i + 1 + j2 = i + (j2 + 1) by omega] at c1 c3 c4
        refine ⟨j2 + 1, t2, c1, c2, c3, c4, fun j' t' hj' hed hdt' => ?_⟩
        cases j' with
        | zero => exact hn t' hed hdt'
        | succ j' => exact c5 j' t' (by omega) (by rw [show i + 1 + j' = i + (j' + 1) by omega]; exact hed) hdt'
    by_cases e : bt u i = true
    · rw [if_pos ((bt_b1 hi).mpr e)]
      rcases oe_or (hk r (List.mem_of_getElem? hr)) hs with z | ⟨t, ht, z⟩
      · rw [if_pos z]
        refine hno (fun t' hed _ => ?_)
        obtain ⟨ht', -, q, hq, hoe⟩ := hed
        rw [hr] at hq
        cases hq
        rw [z] at hoe
        exact nI_m1n (by omega) hoe.symm
      · rw [z, if_neg (nI_m1n (by omega)), sf_d hd ht]
        by_cases e2 : d t = k
        · rw [if_pos (by rw [e2])]
          exact ⟨0, t, ⟨ht, e, r, hr, z⟩, e2, hi, rfl, fun j' t' hj' => absurd hj' (Nat.not_lt_zero j')⟩
        · rw [if_neg (fun y => e2 ((nI_eq (by have := (hd t ht).2; omega) (by omega)).mp y))]
          refine hno (fun t' hed hdt => ?_)
          obtain ⟨ht', -, q, hq, hoe⟩ := hed
          rw [hr] at hq
          cases hq
          rw [z] at hoe
          have := (nI_eq (by omega) (by omega)).mp hoe
          rw [this] at e2
          exact e2 hdt
    · rw [if_neg (fun z => e ((bt_b1 hi).mp z))]
      exact hno (fun t' hed _ => e hed.2.1)
theorem vis_b {vis : Int32} {t : Nat} (ht : t < 4) : (vis >>> (nI t &&& 31)) &&& 1 = 0 ↔ bt vis t = false := bt_b0 (by omega)
theorem ed_t {i v t t' : Nat} (h : ed L u i v t) (h' : ed L u i v t') : t = t' := by
  obtain ⟨h1, -, q, hq, ho⟩ := h
  obtain ⟨h2, -, q2, hq2, ho2⟩ := h'
  rw [hq] at hq2
  cases hq2
  exact (nI_eq (by omega) (by omega)).mp (ho.symm.trans ho2)
theorem p6 {k : Nat} (h : k ≤ 2) : 6 ^ k = 1 ∨ 6 ^ k = 6 ∨ 6 ^ k = 36 := by
  rcases k with _ | _ | _ | k
  · exact Or.inl rfl
  · exact Or.inr (Or.inl rfl)
  · exact Or.inr (Or.inr rfl)
  · omega
theorem p6_a {k x j g : Nat} (hk : k ≤ 2) (hj : j < 6) (hg : g < 6 ^ k) (h : x % 6 ^ (k + 1) = 6 ^ k * j + g) : x / 6 ^ k % 6 = j ∧ x % 6 ^ k = g := by
  rw [Nat.mod_pow_succ] at h
  rcases p6 hk with z | z | z <;> rw [z] at h hg ⊢ <;> omega
theorem p6_b {k x j g : Nat} (hk : k ≤ 2) (hg : g < 6 ^ k) (h : j < x / 6 ^ k % 6 ∨ x / 6 ^ k % 6 = j ∧ g ≤ x % 6 ^ k) : 6 ^ k * j + g ≤ x % 6 ^ (k + 1) := by
  rw [Nat.mod_pow_succ]
  rcases p6 hk with z | z | z <;> rw [z] at h hg ⊢ <;> omega
theorem p6_c {k j g : Nat} (hk : k ≤ 2) (hj : j < 6) (hg : g < 6 ^ k) : 6 ^ k * j + g < 6 ^ (k + 1) := by
  rw [Nat.pow_succ]
  rcases p6 hk with z | z | z <;> rw [z] at hg ⊢ <;> omega
theorem gw_f (hk : ∀ r ∈ L, lk_k r) (h6 : L.length ≤ 6) (hb : b < 4) {st : Nat → Int32} {d : Nat → Nat} (hd : st_d st d) (hs : sd_d L u b d) (hc : ∀ n v, n ≤ 3 → v < 4 → rch L u b n v → d v ≤ n) : ∀ (k s : Nat), k ≤ 3 → s < 4 → d s = k → ∃ g, g < 6 ^ k ∧ (∀ x vis us, x % 6 ^ k = g → (∀ v, v < 4 → bt vis v = true → k ≤ d v) → mw L u k x (nI s) vis us = (nI b, ne_bw L u st k (nI s) us)) ∧ ∀ y vis us, (mw L u k y (nI s) vis us).1 = nI b → g ≤ y % 6 ^ k
  | 0, s, _, h4, e => ⟨0, by decide, fun x vis us _ _ => by
      have : s = b := by have := hs s h4 (by omega); rw [e] at this; exact this
      rw [mw, ne_bw, this], fun _ _ _ _ => Nat.zero_le _⟩
  | k + 1, s, h3, h4, e => by
    have key : ∀ i t, ed L u i s t → d t ≤ k → d t = k := fun i t hed hle => by
      have h1 : rch L u b (d t + 1) s := ⟨i, t, hed, hs t hed.1 (by omega)⟩
      have := hc (d t + 1) s (by omega) h4 h1
      omega
    have hr : rch L u b (k + 1) s := by have := hs s h4 (by omega); rw [e] at this; exact this
    obtain ⟨i0, t0, hed0, hr0⟩ := hr
    have hd0 := key i0 t0 hed0 (hc k t0 (by omega) hed0.1 hr0)
    obtain ⟨ht0, hbt0, r0, hr00, hoe0⟩ := hed0
    have hbi := fun f => bi_f (u := u) hk h6 hd h4 (show k < 4 by omega) f L 0 (fun j r hj => by rw [Nat.zero_add]; exact hj) ⟨i0, r0, t0, hr00, by rw [Nat.zero_add]; exact hbt0, ht0, hoe0, hd0⟩
    obtain ⟨j, t, hed, hdt, hj6, -, hmin⟩ := hbi 0
    rw [Nat.zero_add] at hed hj6
    have hbi2 : ∀ f, ne_bi u (nI s) st (nI (k + 1)) L 0 f = (nI t, f ||| ne_1 j) := fun f => by
      obtain ⟨j2, t2, hed2, hdt2, hj62, e2, hmin2⟩ := hbi f
      rw [Nat.zero_add] at hed2 hj62 e2
      have hjj : j = j2 := by
        rcases Nat.lt_trichotomy j j2 with z | z | z
        · exact absurd (hmin2 j t z (by rw [Nat.zero_add]; exact hed) hdt) id
        · exact z
        · exact absurd (hmin j2 t2 z (by rw [Nat.zero_add]; exact hed2) hdt2) id
      subst hjj
      rw [e2, ed_t hed hed2]
    obtain ⟨g, i0, i1, i2⟩ := gw_f hk h6 hb hd hs hc k t (by omega) hed.1 hdt
    have hed' := hed
    obtain ⟨ht, hbt, r, hr, hoe⟩ := hed
    refine ⟨6 ^ k * j + g, p6_c (by omega) hj6 i0, fun x vis us hx hv => ?_, fun y vis us hy => ?_⟩
    · obtain ⟨hx1, hx2⟩ := p6_a (by omega) hj6 i0 hx
      have hmt : mw_t L u j (nI s) vis = nI t := by
        unfold mw_t
        rw [if_pos hbt, hr]
        dsimp only
        rw [hoe, if_neg (nI_m1n (by omega)), if_pos]
        rw [vis_b ht]
        cases hv2 : bt vis t
        · rfl
        · have := hv t ht hv2; omega
      rw [mw, if_neg (nI_m1n (by omega)), hx1, hmt, if_neg (nI_m1n (by omega)), ne_bw, hbi2]
      exact i1 x _ _ hx2 (fun v hv4 hbv => by
        rw [show (1 : Int32) <<< (nI t &&& 31) = ne_1 t from rfl, bt_o1 (by omega) (by omega), Bool.or_eq_true] at hbv
        rcases hbv with z | z
        · have := hv v hv4 z; omega
        · rw [← of_decide_eq_true z, hdt]; exact Nat.le_refl _)
    · refine p6_b (by omega) i0 ?_
      rw [mw, if_neg (nI_m1n (by omega))] at hy
      rcases mwt_or (u := u) hk (i := y / 6 ^ k % 6) h4 vis with z | ⟨t', z, hed2⟩
      · rw [z, mw_m1] at hy
        exact absurd hy.symm (nI_m1n (by omega))
      · rw [z] at hy
        have hdt' := key _ t' hed2 (hc k t' (by omega) hed2.1 (mw_rch hk hb k y t' _ _ hed2.1 hy))
        rcases Nat.lt_trichotomy j (y / 6 ^ k % 6) with z1 | z1 | z1
        · exact Or.inl z1
        · rw [← z1] at hed2
          have := ed_t hed' hed2
          subst this
          exact Or.inr ⟨z1.symm, i2 y _ _ hy⟩
        · exact absurd (hmin _ t' z1 (by rw [Nat.zero_add]; exact hed2) hdt') id
end GR
