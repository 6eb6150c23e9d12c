/-! PURE: what holds of the class's state after each call -/
section IVN
variable {n k kp lo wa mk : Nat} {s : cl_S} {c : Nat → Nat}
theorem ivx.up (h : ivx n s k kp lo wa mk c) : ivx (n + 1) s k kp lo wa mk c := by
  obtain ⟨b1, b2, b3, b4, b5, b6, b7, b8, b9, b10, b11, b12⟩ := h
  exact ⟨b1, b2, b3, ⟨b4.1, Nat.le_trans b4.2 (by omega)⟩, b5, b6, b7, b8, ⟨b9.1, Nat.le_trans b9.2 (by omega)⟩, b10, b11, b12⟩
theorem iv.up (h : iv n s) : iv (n + 1) s := by
  obtain ⟨k, kp, lo, wa, mk, c, hx⟩ := h
  exact ⟨k, kp, lo, wa, mk, c, hx.up⟩
theorem ii_N {x : Int32} {b : Nat} (hb : b < 2 ^ 31) (h : ii x 0 (nI b)) : ∃ y : Nat, y ≤ b ∧ x = nI y := by
  obtain ⟨y, hy, rfl⟩ := nI_of (x := x) (Int32.not_lt.mpr h.1)
  exact ⟨y, (nI_leI hy hb).mp h.2, rfl⟩
theorem iv_sound (h : iv n s) (i d e : Int32) : iv n (cm_sound s i d e).2 := by
  unfold cm_sound
  split
  · rename_i h1
    split
    · obtain ⟨k, kp, lo, wa, mk, c, b1, b2, b3, b4, b5, b6, b7, b8, b9, b10, b11, b12⟩ := h
      refine ⟨k, kp, lo, wa, mk, c, b1, b2, b3, b4, b5, b6, b7, b8, b9, b10, ⟨b11.1, fun j hj => ?_, b11.2.2⟩, b12⟩
      obtain ⟨x, hx, rfl⟩ := ii_N (b := 6000) (by decide) h1.2.1
      show ∃ d, d ≤ 6000 ∧ (cs_snd s.2.1 i (nI x) e).1 j = nI d
      unfold cs_snd
      split
      · by_cases z : j = i.toNatClampNeg
        · exact ⟨x, hx, by rw [z]; exact pk_us⟩
        · obtain ⟨y, hy, e1⟩ := b11.2.1 j hj
          exact ⟨y, hy, (pk_un z).trans e1⟩
      · exact b11.2.1 j hj
    · exact h
  · exact h
theorem iv_weather (h : iv n s) (x : Int32) : iv n (cm_weather s x).2 := by
  unfold cm_weather
  split
  · split
    · exact h
    · exact h
  · exact h
theorem iv_days (hn : n ≤ 513) : ∀ (N : Nat) (s : cl_S), iv n s → iv n (cl_days N s)
  | 0, s, h => h
  | N + 1, s, h => iv_days hn N (cl_day s) (iv_day h hn)
theorem iv_pass (h : iv n s) (hn : n ≤ 513) (x : Int32) : iv n (cm_pass s x).2 := by
  unfold cm_pass
  split
  · split
    · exact iv_days hn _ s h
    · exact h
  · exact h
theorem ii_1 {x : Int32} {b : Nat} (hb : b < 2 ^ 31) (h : ii x 1 (nI b)) : ∃ y : Nat, 1 ≤ y ∧ y ≤ b ∧ x = nI y := by
  obtain ⟨y, hy, rfl⟩ := nI_of (x := x) (fun k => absurd (Int32.le_trans h.1 (Int32.le_of_lt k)) (by decide))
  exact ⟨y, (nI_leI (by decide : 1 < 2 ^ 31) hy).mp h.1, (nI_leI hy hb).mp h.2, rfl⟩
theorem iv_make (h : iv n s) (t x w : Int32) : iv (n + 1) (cm_make s t x w).2 := by
  unfold cm_make
  split
  · rename_i h1
    split
    · rename_i h2
      obtain ⟨t, ht, rfl⟩ := ii_N (b := 3) (by decide) h1.1
      obtain ⟨x, hx1, hx, rfl⟩ := ii_1 (b := 90000) (by decide) h1.2.1
      obtain ⟨w, hw, rfl⟩ := ii_N (b := 2) (by decide) h1.2.2
      obtain ⟨k, kp, lo, wa, mk, c, b1, b2, b3, b4, b5, b6, b7, b8, b9, b10, b11, b12⟩ := h
      have e := b2.1
      have hkp : kp < 30 := by
        rw [e] at h2
        exact (nI_ltI (b := 30) (by have := b2.2.1; omega) (by decide)).mp h2
      have ec : (nI kp).toNatClampNeg = kp := nI_clamp (by omega)
      have e1 : ln_N (s.1 0 ++ [(nI w, nI kp, 0, nI x)]) = ln_N (s.1 0) + x := by
        rw [ln_N_app, ln_N1]
        show _ + (nI x).toNatClampNeg = _
        rw [nI_clamp (by omega)]
      rw [e, ec]
      refine ⟨k, kp + 1, lo, wa, mk + x, c, b1, ⟨nI_1 kp, hkp, fun p hp => ?_⟩, ⟨?_, fun r hr => ?_⟩, ⟨fun r hr => (b4.1 r hr).mono (by omega), ?_⟩, b5, b6, ⟨b7.1, ?_, ?_, ?_⟩, b8, ⟨b9.1, ?_⟩, b10, b11, b12⟩
      · show sm (upd s.2.2.2.1.1 kp (nI t) p)
        by_cases z : p = kp
        · rw [z, show upd s.2.2.2.1.1 kp (nI t) kp = nI t from pk_us]
          rcases show t = 0 ∨ t = 1 ∨ t = 2 ∨ t = 3 by omega with z | z | z | z <;> rw [z]
          · exact Or.inl rfl
          · exact Or.inr (Or.inl rfl)
          · exact Or.inr (Or.inr (Or.inl rfl))
          · exact Or.inr (Or.inr (Or.inr rfl))
        · rw [show upd s.2.2.2.1.1 kp (nI t) p = s.2.2.2.1.1 p from pk_un z]
          exact b2.2.2 p (by omega)
      · show (s.1 0 ++ [_]).length ≤ kp + 1
        rw [List.length_append]
        have := b3.1
        show _ + 1 ≤ _; omega
      · rcases List.mem_append.mp (show r ∈ s.1 0 ++ [(nI w, nI kp, 0, nI x)] from hr) with z | z
        · obtain ⟨t', p, f, m, e9, h3, h4, h5, h6⟩ := b3.2 r z
          exact ⟨t', p, f, m, e9, h3, by omega, h5, h6⟩
        · exact ⟨w, kp, 0, x, by rw [List.mem_singleton.mp z]; rfl, by omega, by omega, hx1, by omega⟩
      · show (s.1 2).length + 2 * (s.1 0 ++ [_]).length ≤ 2 * k + 6 * (n + 1)
        rw [List.length_append]
        have := b4.2
        show (s.1 2).length + 2 * ((s.1 0).length + 1) ≤ _; omega
      · show s.2.2.2.1.2.2 + nI x = _
        rw [b7.2.1, nI_add]
      · show ln_N (s.1 0 ++ [(nI w, nI kp, 0, nI x)]) + ln_N (s.1 2) + wa = mk + x
        have := b7.2.2.1
        rw [e1]; omega
      · have := b7.2.2.2; omega
      · show (s.1 3).length + (s.1 0 ++ [_]).length + (if cl_bu s = 0 then 1 else 0) ≤ k + 3 * (n + 1) + 1
        rw [List.length_append]
        have := b9.2
        show (s.1 3).length + ((s.1 0).length + 1) + _ ≤ _
        omega
    · exact h.up
  · exact h.up
theorem iv_ly {sl t : Int32} (hsl : ii sl 0 50) (htt : ii t 0 2) : ∀ (N d : Nat) (s : cl_S), iv n s → iv n (cl_ly sl t N d s).2
  | 0, d, s, h => h
  | N + 1, d, s, h => by
    rw [cl_ly]
    split
    · exact iv_ly hsl htt N (d + 1) _ (iv_l1 h hsl htt)
    · exact iv_l1 h hsl htt
theorem iv_lay (h : iv n s) (x sl t : Int32) : iv n (cm_lay s x sl t).2 := by
  unfold cm_lay
  split
  · rename_i h1
    split
    · exact h
    · exact iv_ly h1.2.1 h1.2.2 _ _ s h
  · exact h
theorem iv_repeater (h : iv n s) : iv (n + 1) (cm_repeater s).2 := by
  unfold cm_repeater
  split
  · rename_i h1
    obtain ⟨k, kp, lo, wa, mk, c, b1, b2, b3, b4, b5, b6, b7, b8, b9, b10, b11, b12⟩ := h
    have e1 : ln_N (s.1 2 ++ [(2, -1, -1, 0)]) = ln_N (s.1 2) := by rw [ln_N_app, ln_N1]; rfl
    refine ⟨k, kp, lo, wa, mk, c, ⟨b1.1, b1.2.1, fun z => ?_⟩, b2, b3, ⟨fun r hr => ?_, ?_⟩, ⟨b5.1, ?_, b5.2.2⟩, b6, ⟨b7.1, b7.2.1, ?_, b7.2.2.2⟩, ?_, ⟨fun q hq => ?_, Nat.le_trans b9.2 (by omega)⟩, ⟨b10.1, fun r hr => ?_⟩, b11, b12⟩
    · have e0 : cl_me s = nI (ln_N (s.1 2)) := b8
      rw [b1.2.2 z] at e0
      rw [e0] at h1
      exact absurd h1.1 (by decide)
    · rcases List.mem_append.mp (show r ∈ s.1 2 ++ [(2, -1, -1, 0)] from hr) with z | z
      · exact b4.1 r z
      · rw [List.mem_singleton.mp z]; exact Or.inr ⟨Or.inr rfl, rfl⟩
    · show (s.1 2 ++ [_]).length + 2 * (s.1 0).length ≤ 2 * k + 6 * (n + 1)
      rw [List.length_append]
      have := b4.2
      show (s.1 2).length + 1 + _ ≤ _
      omega
    · exact b5.2.1.trans e1.symm
    · show ln_N (s.1 0) + ln_N (s.1 2 ++ [(2, -1, -1, 0)]) + wa = mk
      rw [e1]; exact b7.2.2.1
    · show cl_me s = nI (ln_N (s.1 2 ++ [(2, -1, -1, 0)]))
      rw [e1]; exact b8
    · have hq' : q < ln_N (s.1 2 ++ [(2, -1, -1, 0)]) := hq
      rw [e1] at hq'
      show de_m (s.1 3).reverse (nI q) = ln_c (s.1 2 ++ [(2, -1, -1, 0)]) q
      rw [ln_c_app, if_pos hq']; exact b9.1 q hq'
    · obtain ⟨h2, q, h3, h4⟩ := b10.2 r hr
      exact ⟨h2, q, by show q < ln_N (s.1 2 ++ [(2, -1, -1, 0)]); rw [e1]; exact h3, h4⟩
  · exact h.up
theorem iv_takeUp (h : iv n s) (t : Int32) : iv (n + 1) (cm_takeUp s t).2 := by
  unfold cm_takeUp
  have ht1 : iv (n + 1) (tu_1 s t) := by
    obtain ⟨k, kp, lo, wa, mk, c, hx⟩ := h
    exact ⟨k, kp, lo, wa, mk, c, (ivx_t1 hx _).up⟩
  split
  · rename_i h1
    split
    · split
      · rename_i h3
        split
        · obtain ⟨t, ht, rfl⟩ := ii_N (b := 2) (by decide) h1
          obtain ⟨k, kp, lo, wa, mk, c, hx⟩ := h
          obtain ⟨c', hc⟩ := ivx_tk hx (t := t) (by omega) h3
          exact ⟨k, kp, 0, wa, mk, c', hc⟩
        · exact ht1
      · exact ht1
    · exact h.up
  · exact h.up
theorem iv_mend (h : iv n s) (i t : Int32) : iv (n + 1) (cm_mend s i t).2 := by
  unfold cm_mend
  have ht1 : iv (n + 1) (me_1 s i t) := by
    obtain ⟨k, kp, lo, wa, mk, c, hx⟩ := h
    exact ⟨k, kp, lo, wa, mk, c, (ivx_t1 hx _).up⟩
  split
  · rename_i h1
    split
    · split
      · rename_i h3
        split
        · rename_i h4
          obtain ⟨k, kp, lo, wa, mk, c, hx⟩ := h
          obtain ⟨j, hj, rfl⟩ := ii_nI h1.1
          obtain ⟨t, ht, rfl⟩ := ii_N (b := 2) (by decide) h1.2
          have hjk : j < k := by
            have := h3.1
            rw [hx.1.1] at this
            exact (nI_ltI (by omega) (by have := hx.1.2.1; omega)).mp this
          obtain ⟨wa', c', hc⟩ := ivx_md hx hjk (t := t) (by omega) h4.1
          exact ⟨k, kp, lo, wa', mk, c', hc⟩
        · exact ht1
      · exact h.up
    · exact h.up
  · exact h.up
end IVN
