/-! PURE: the search of the model finds the way of the class -/
def ms (L : List tt_R) (u : Int32) (k a b : Nat) : Nat → Nat → Int32
  | 0, _ => 0
  | n + 1, x => if (mw L u k x (nI a) (ne_1 a) 0).1 = nI b then (mw L u k x (nI a) (ne_1 a) 0).2 else ms L u k a b n (x + 1)
def mcr (L : List tt_R) (u : Int32) (a b : Nat) : Int32 := if ms L u 1 a b 6 0 = 0 then (if ms L u 2 a b 36 0 = 0 then ms L u 3 a b 216 0 else ms L u 2 a b 36 0) else ms L u 1 a b 6 0
theorem or_64 {z j : Nat} (hz : z < 64) (hj : j < 6) : ∃ y, y < 64 ∧ nI z ||| ne_1 j = nI y := by
  have : ∀ z : Fin 64, ∀ j : Fin 6, nI z.val ||| ne_1 j.val = nI (z.val ||| 2 ^ j.val) := by decide +kernel
  refine ⟨z ||| 2 ^ j, ?_, this ⟨z, hz⟩ ⟨j, hj⟩⟩
  exact Nat.or_lt_two_pow (n := 6) hz (Nat.pow_lt_pow_right (by decide) hj)
section SR
variable {L : List tt_R} {u : Int32} {a b : Nat}
theorem mw_64 : ∀ (k x : Nat) (nd vis : Int32) (z : Nat), z < 64 → ∃ y, y < 64 ∧ (mw L u k x nd vis (nI z)).2 = nI y
  | 0, x, nd, vis, z, hz => ⟨z, hz, rfl⟩
  | k + 1, x, nd, vis, z, hz => by
    rw [mw]
    split
    · exact ⟨z, hz, rfl⟩
    · obtain ⟨y, hy, e⟩ := or_64 hz (show x / 6 ^ k % 6 < 6 from Nat.mod_lt _ (by decide))
      rw [e]
      exact mw_64 k x _ _ y hy
theorem mw_mono {i : Nat} (hi : i < 32) : ∀ (k x : Nat) (nd vis us : Int32), bt us i = true → bt (mw L u k x nd vis us).2 i = true
  | 0, x, nd, vis, us, h => h
  | k + 1, x, nd, vis, us, h => by
    rw [mw]
    split
    · exact h
    · exact mw_mono hi k x _ _ _ (by rw [bt_or, h, Bool.true_or])
theorem ms_64 {k : Nat} : ∀ (n x : Nat), ∃ y, y < 64 ∧ ms L u k a b n x = nI y
  | 0, x => ⟨0, by decide, rfl⟩
  | n + 1, x => by
    rw [ms]
    split
    · exact mw_64 k x _ _ 0 (by decide)
    · exact ms_64 n (x + 1)
theorem ms_0 {k : Nat} (h : ∀ y, ¬ (mw L u k y (nI a) (ne_1 a) 0).1 = nI b) : ∀ (n x : Nat), ms L u k a b n x = 0
  | 0, x => rfl
  | n + 1, x => by rw [ms, if_neg (h x)]; exact ms_0 h n (x + 1)
theorem ms_1 {k g : Nat} (h1 : ∀ y, y < g → ¬ (mw L u k y (nI a) (ne_1 a) 0).1 = nI b) (h2 : (mw L u k g (nI a) (ne_1 a) 0).1 = nI b) : ∀ (n x : Nat), x ≤ g → g < x + n → ms L u k a b n x = (mw L u k g (nI a) (ne_1 a) 0).2
  | 0, x, h3, h4 => by omega
  | n + 1, x, h3, h4 => by
    rw [ms]
    by_cases e : x = g
    · rw [e, if_pos h2]
    · rw [if_neg (h1 x (by omega))]; exact ms_1 h1 h2 n (x + 1) (by omega) (by omega)
theorem mcr_64 : ∃ y, y < 64 ∧ mcr L u a b = nI y := by
  unfold mcr
  split
  · split
    · exact ms_64 _ _
    · exact ms_64 _ _
  · exact ms_64 _ _
theorem mcr_f (hk : ∀ r ∈ L, lk_k r) (h6 : L.length ≤ 6) (ha : a < 4) (hb : b < 4) (hab : ¬ a = b) (st : Nat → Int32) : ne_bs L u (ne_cs L st (nI b) u) (nI a) = mcr L u a b := by
  obtain ⟨d, hd, hs, hc⟩ := cs_f (u := u) hk h6 hb st
  have h0 : 1 ≤ d a := by
    rcases Nat.eq_zero_or_pos (d a) with z | z
    · have := hs a ha (by omega)
      rw [z] at this
      exact absurd this hab
    · exact z
  have h4 := (hd a ha).2
  have hno : ∀ k, k ≤ 3 → k < d a → ∀ n x, ms L u k a b n x = 0 := fun k hk3 hlt => ms_0 (fun y hy => by
    have := hc k a hk3 ha (mw_rch hk hb k y a _ _ ha hy)
    omega)
  have hyes : ∀ k, k ≤ 3 → d a = k → 1 ≤ k → ms L u k a b (6 ^ k) 0 = ne_bw L u (ne_cs L st (nI b) u) k (nI a) 0 ∧ ¬ ms L u k a b (6 ^ k) 0 = 0 := fun k hk3 hda hk1 => by
    obtain ⟨g, g0, g1, g2⟩ := gw_f hk h6 hb hd hs hc k a hk3 ha hda
    have e := g1 g (ne_1 a) 0 (Nat.mod_eq_of_lt g0) (fun v hv hbv => by
      rw [bt_1 (by omega) (by omega)] at hbv
      rw [← of_decide_eq_true hbv, hda]; exact Nat.le_refl _)
    have e1 := ms_1 (n := 6 ^ k) (x := 0) (k := k) (g := g) (L := L) (u := u) (a := a) (b := b) (fun y hy hp => by
      have := g2 y _ _ hp
      have := Nat.mod_le y (6 ^ k)
      omega) (by rw [e]) (Nat.zero_le _) (by omega)
    refine ⟨by rw [e1, e], ?_⟩
    rw [e1]
    cases k with
    | zero => omega
    | succ k =>
      intro z
      have hm := mw_mono (L := L) (u := u) (i := g / 6 ^ k % 6) (by have := Nat.mod_lt (g / 6 ^ k) (show 6 > 0 by decide); omega) k g (mw_t L u (g / 6 ^ k % 6) (nI a) (ne_1 a)) (ne_1 a ||| (if mw_t L u (g / 6 ^ k % 6) (nI a) (ne_1 a) = -1 then 0 else (1 : Int32) <<< (mw_t L u (g / 6 ^ k % 6) (nI a) (ne_1 a) &&& 31))) (0 ||| ne_1 (g / 6 ^ k % 6)) (by rw [bt_o1 (Nat.mod_lt _ (by decide)) (by have := Nat.mod_lt (g / 6 ^ k) (show 6 > 0 by decide); omega), decide_eq_true rfl, Bool.or_true])
      rw [mw, if_neg (nI_m1n (by omega))] at z
      rw [z, bt_z] at hm
      cases hm
  unfold ne_bs
  rw [sf_d hd ha, if_neg (nI_nle h0 (by omega))]
  unfold mcr
  rcases show d a = 1 ∨ d a = 2 ∨ d a = 3 ∨ d a = 4 by omega with z | z | z | z
  · obtain ⟨y1, y2⟩ := hyes 1 (by decide) z (by decide)
    rw [if_neg (show ¬ (4 : Int32) ≤ _ from nI_ge (b := 4) (by omega) (by decide)), nI_clamp (by omega), if_neg y2, z]; exact y1.symm
  · obtain ⟨y1, y2⟩ := hyes 2 (by decide) z (by decide)
    rw [if_neg (show ¬ (4 : Int32) ≤ _ from nI_ge (b := 4) (by omega) (by decide)), nI_clamp (by omega), if_pos (hno 1 (by decide) (by omega) _ _), if_neg y2, z]; exact y1.symm
  · obtain ⟨y1, y2⟩ := hyes 3 (by decide) z (by decide)
    rw [if_neg (show ¬ (4 : Int32) ≤ _ from nI_ge (b := 4) (by omega) (by decide)), nI_clamp (by omega), if_pos (hno 1 (by decide) (by omega) _ _), if_pos (hno 2 (by decide) (by omega) _ _), z]; exact y1.symm
  · rw [z, if_pos (show (4 : Int32) ≤ nI 4 by decide), if_pos (hno 1 (by decide) (by omega) _ _), if_pos (hno 2 (by decide) (by omega) _ _), hno 3 (by decide) (by omega)]
end SR
