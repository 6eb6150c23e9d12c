/-! PURE: what holds of the class's state after each call -/
section IVN
variable {n k kp lo wa mk : Nat} {s : cl_S} {c : Nat → Nat}
theorem ivx.up (h : ivx n s k kp lo wa mk c) : ivx (n + 1) s k kp lo wa mk c := by
  obtain ⟨b1, b2, b3, b4, b5, b6, b7, b8, b9, b10, b11, b12⟩ := h
  exact ⟨b1, b2, b3, ⟨b4.1, Nat.le_trans b4.2 (by omega)⟩, b5, b6, b7, b8, ⟨b9.1, Nat.le_trans b9.2 (by omega)⟩, b10, b11, b12⟩
theorem iv.up (h : iv n s) : iv (n + 1) s := by
  obtain ⟨k, kp, lo, wa, mk, c, hx⟩ := h
  exact ⟨k, kp, lo, wa, mk, c, hx.up⟩
theorem ii_N {x : Int32} {b : Nat} (hb : b < 2 ^ 31) (h : ii x 0 (nI b)) : ∃ y : Nat, y ≤ b ∧ x = nI y := by
  obtain ⟨y, hy, rfl⟩ := nI_of (x := x) (Int32.not_lt.mpr h.1)
  exact ⟨y, (nI_leI hy hb).mp h.2, rfl⟩
theorem iv_sound (h : iv n s) (i d e : Int32) : iv n (cm_sound s i d e).2 := by
  unfold cm_sound
  split
  · rename_i h1
    split
    · obtain ⟨k, kp, lo, wa, mk, c, b1, b2, b3, b4, b5, b6, b7, b8, b9, b10, b11, b12⟩ := h
      refine ⟨k, kp, lo, wa, mk, c, b1, b2, b3, b4, b5, b6, b7, b8, b9, b10, ⟨b11.1, fun j hj => ?_, b11.2.2⟩, b12⟩
      obtain ⟨x, hx, rfl⟩ := ii_N (b := 6000) (by decide) h1.2.1
      show ∃ d, d ≤ 6000 ∧ (cs_snd s.2.1 i (nI x) e).1 j = nI d
      unfold cs_snd
      split
      · by_cases z : j = i.toNatClampNeg
        · exact ⟨x, hx, by rw [z]; exact pk_us⟩
        · obtain ⟨y, hy, e1⟩ := b11.2.1 j hj
          exact ⟨y, hy, (pk_un z).trans e1⟩
      · exact b11.2.1 j hj
    · exact h
  · exact h
theorem iv_wreck (h : iv n s) (i x : Int32) : iv n (cm_wreck s i x).2 := by
  unfold cm_wreck
  split
  · exact h
  · exact h
theorem iv_crossing (h : iv n s) (i x : Int32) : iv n (cm_crossing s i x).2 := by
  unfold cm_crossing
  split
  · exact h
  · exact h
theorem iv_weather (h : iv n s) (x : Int32) : iv n (cm_weather s x).2 := by
  unfold cm_weather
  split
  · split
    · exact h
    · exact h
  · exact h
theorem iv_days (hn : n ≤ 513) : ∀ (N : Nat) (s : cl_S), iv n s → iv n (cl_days N s)
  | 0, s, h => h
  | N + 1, s, h => iv_days hn N (cl_day s) (iv_day h hn)
theorem iv_pass (h : iv n s) (hn : n ≤ 513) (x : Int32) : iv n (cm_pass s x).2 := by
  unfold cm_pass
  split
  · split
    · exact iv_days hn _ s h
    · exact h
  · exact h
theorem iv_feed (h : iv n s) (a b : Int32) : iv n (cm_feed s a b).2 := by
  unfold cm_feed
  split
  · rename_i h1
    obtain ⟨x, hx, rfl⟩ := ii_N (b := 9999) (by decide) h1.1
    obtain ⟨y, hy, rfl⟩ := ii_N (b := 9999) (by decide) h1.2
    obtain ⟨k, kp, lo, wa, mk, c, b1, b2, b3, b4, b5, b6, b7, b8, b9, b10, b11, b12⟩ := h
    exact ⟨k, kp, lo, wa, mk, c, b1, b2, b3, b4, b5, b6, b7, b8, b9, b10, ⟨b11.1, b11.2.1, x, y, hx, hy, rfl, rfl⟩, b12⟩
  · exact h
theorem ii_1 {x : Int32} {b : Nat} (hb : b < 2 ^ 31) (h : ii x 1 (nI b)) : ∃ y : Nat, 1 ≤ y ∧ y ≤ b ∧ x = nI y := by
  obtain ⟨y, hy, rfl⟩ := nI_of (x := x) (fun k => absurd (Int32.le_trans h.1 (Int32.le_of_lt k)) (by decide))
  exact ⟨y, (nI_leI (by decide : 1 < 2 ^ 31) hy).mp h.1, (nI_leI hy hb).mp h.2, rfl⟩
theorem iv_make (h : iv n s) (t x w : Int32) : iv (n + 1) (cm_make s t x w).2 := by
  unfold cm_make
  split
  · rename_i h1
    split
    · rename_i h2
      obtain ⟨t, ht, rfl⟩ := ii_N (b := 3) (by decide) h1.1
      obtain ⟨x, hx1, hx, rfl⟩ := ii_1 (b := 90000) (by decide) h1.2.1
      obtain ⟨w, hw, rfl⟩ := ii_N (b := 2) (by decide) h1.2.2
      obtain ⟨k, kp, lo, wa, mk, c, b1, b2, b3, b4, b5, b6, b7, b8, b9, b10, b11, b12⟩ := h
      have e := b2.1
      have hkp : kp < 30 := by
        rw [e] at h2
        exact (nI_ltI (b := 30) (by have := b2.2.1; omega) (by decide)).mp h2
      have ec : (nI kp).toNatClampNeg = kp := nI_clamp (by omega)
      have e1 : ln_N (s.1 0 ++ [(nI w, nI kp, 0, nI x)]) = ln_N (s.1 0) + x := by
        rw [ln_N_app, ln_N1]
        show _ + (nI x).toNatClampNeg = _
        rw [nI_clamp (by omega)]
      rw [e, ec]
      refine ⟨k, kp + 1, lo, wa, mk + x, c, b1, ⟨nI_1 kp, hkp, fun p hp => ?_⟩, ⟨?_, fun r hr => ?_⟩, ⟨fun r hr => (b4.1 r hr).mono (by omega), ?_⟩, b5, b6, ⟨b7.1, ?_, ?_, ?_⟩, b8, ⟨b9.1, ?_⟩, b10, b11, b12⟩
      · show sm (upd s.2.2.2.1.1 kp (nI t) p)
        by_cases z : p = kp
        · rw [z, show upd s.2.2.2.1.1 kp (nI t) kp = nI t from pk_us]
          rcases show t = 0 ∨ t = 1 ∨ t = 2 ∨ t = 3 by omega with z | z | z | z <;> rw [z]
          · exact Or.inl rfl
          · exact Or.inr (Or.inl rfl)
          · exact Or.inr (Or.inr (Or.inl rfl))
          · exact Or.inr (Or.inr (Or.inr rfl))
        · rw [show upd s.2.2.2.1.1 kp (nI t) p = s.2.2.2.1.1 p from pk_un z]
          exact b2.2.2 p (by omega)
      · show (s.1 0 ++ [_]).length ≤ kp + 1
        rw [List.length_append]
        have := b3.1
        show _ + 1 ≤ _; omega
      · rcases List.mem_append.mp (show r ∈ s.1 0 ++ [(nI w, nI kp, 0, nI x)] from hr) with z | z
        · obtain ⟨t', p, f, m, e9, h3, h4, h5, h6⟩ := b3.2 r z
          exact ⟨t', p, f, m, e9, h3, by omega, h5, h6⟩
        · exact ⟨w, kp, 0, x, by rw [List.mem_singleton.mp z]; rfl, by omega, by omega, hx1, by omega⟩
      · show (s.1 2).length + 2 * (s.1 0 ++ [_]).length ≤ 2 * k + 6 * (n + 1)
        rw [List.length_append]
        have := b4.2
        show (s.1 2).length + 2 * ((s.1 0).length + 1) ≤ _; omega
      · show s.2.2.2.1.2.2 + nI x = _
        rw [b7.2.1, nI_add]
      · show ln_N (s.1 0 ++ [(nI w, nI kp, 0, nI x)]) + ln_N (s.1 2) + wa = mk + x
        have := b7.2.2.1
        rw [e1]; omega
      · have := b7.2.2.2; omega
      · show (s.1 3).length + (s.1 0 ++ [_]).length + (if cl_bu s = 0 then 1 else 0) ≤ k + 3 * (n + 1) + 1
        rw [List.length_append]
        have := b9.2
        show (s.1 3).length + ((s.1 0).length + 1) + _ ≤ _
        omega
    · exact h.up
  · exact h.up
theorem iv_ly {sl t : Int32} (hsl : ii sl 0 50) (htt : ii t 0 2) : ∀ (N d : Nat) (s : cl_S), iv n s → iv n (cl_ly sl t N d s).2
  | 0, d, s, h => h
  | N + 1, d, s, h => by
    rw [cl_ly]
    split
    · exact iv_ly hsl htt N (d + 1) _ (iv_l1 h hsl htt)
    · exact iv_l1 h hsl htt
theorem iv_lay (h : iv n s) (x sl t : Int32) : iv n (cm_lay s x sl t).2 := by
  unfold cm_lay
  split
  · rename_i h1
    split
    · exact h
    · exact iv_ly h1.2.1 h1.2.2 _ _ s h
  · exact h
theorem iv_repeater (h : iv n s) : iv (n + 1) (cm_repeater s).2 := by
  unfold cm_repeater
  split
  · rename_i h1
    obtain ⟨k, kp, lo, wa, mk, c, b1, b2, b3, b4, b5, b6, b7, b8, b9, b10, b11, b12⟩ := h
    have e1 : ln_N (s.1 2 ++ [(2, -1, -1, 0)]) = ln_N (s.1 2) := by rw [ln_N_app, ln_N1]; rfl
    refine ⟨k, kp, lo, wa, mk, c, ⟨b1.1, b1.2.1, fun z => ?_⟩, b2, b3, ⟨fun r hr => ?_, ?_⟩, ⟨b5.1, ?_, b5.2.2⟩, b6, ⟨b7.1, b7.2.1, ?_, b7.2.2.2⟩, ?_, ⟨fun q hq => ?_, Nat.le_trans b9.2 (by omega)⟩, ⟨b10.1, fun r hr => ?_⟩, b11, b12⟩
    · have e0 : cl_me s = nI (ln_N (s.1 2)) := b8
      rw [b1.2.2 z] at e0
      rw [e0] at h1
      exact absurd h1.1 (by decide)
    · rcases List.mem_append.mp (show r ∈ s.1 2 ++ [(2, -1, -1, 0)] from hr) with z | z
      · exact b4.1 r z
      · rw [List.mem_singleton.mp z]; exact Or.inr ⟨Or.inr rfl, rfl⟩
    · show (s.1 2 ++ [_]).length + 2 * (s.1 0).length ≤ 2 * k + 6 * (n + 1)
      rw [List.length_append]
      have := b4.2
      show (s.1 2).length + 1 + _ ≤ _
      omega
    · exact b5.2.1.trans e1.symm
    · show ln_N (s.1 0) + ln_N (s.1 2 ++ [(2, -1, -1, 0)]) + wa = mk
      rw [e1]; exact b7.2.2.1
    · show cl_me s = nI (ln_N (s.1 2 ++ [(2, -1, -1, 0)]))
      rw [e1]; exact b8
    · have hq' : q < ln_N (s.1 2 ++ [(2, -1, -1, 0)]) := hq
      rw [e1] at hq'
      show de_m (s.1 3).reverse (nI q) = ln_c (s.1 2 ++ [(2, -1, -1, 0)]) q
      rw [ln_c_app, if_pos hq']; exact b9.1 q hq'
    · obtain ⟨h2, q, h3, h4⟩ := b10.2 r hr
      exact ⟨h2, q, by show q < ln_N (s.1 2 ++ [(2, -1, -1, 0)]); rw [e1]; exact h3, h4⟩
  · exact h.up
theorem iv_takeUp (h : iv n s) (t : Int32) : iv (n + 1) (cm_takeUp s t).2 := by
  unfold cm_takeUp
  have ht1 : iv (n + 1) (tu_1 s t) := by
    obtain ⟨k, kp, lo, wa, mk, c, hx⟩ := h
    exact ⟨k, kp, lo, wa, mk, c, (ivx_t1 hx _).up⟩
  split
  · rename_i h1
    split
    · split
      · rename_i h3
        split
        · obtain ⟨t, ht, rfl⟩ := ii_N (b := 2) (by decide) h1
          obtain ⟨k, kp, lo, wa, mk, c, hx⟩ := h
          obtain ⟨c', hc⟩ := ivx_tk hx (t := t) (by omega) h3
          exact ⟨k, kp, 0, wa, mk, c', hc⟩
        · exact ht1
      · exact ht1
    · exact h.up
  · exact h.up
theorem iv_fl (h : iv n s) {a : Int32} {q : Nat} {x y : Int32} (ha : a = 0 ∨ a = 1) (hq : q < ln_N (s.1 2)) (h4 : nI (s.1 4).length < 4) : iv n (va_up s.1 4 (s.1 4 ++ [(a, nI q, x, y)]), s.2) := by
  obtain ⟨k, kp, lo, wa, mk, c, b1, b2, b3, b4, b5, b6, b7, b8, b9, b10, b11, b12⟩ := h
  refine ⟨k, kp, lo, wa, mk, c, b1, b2, b3, b4, b5, b6, b7, b8, b9, ⟨?_, fun r hr => ?_⟩, b11, b12⟩
  · have := (nI_ltI (b := 4) (by have := b10.1; omega) (by decide)).mp h4
    show (s.1 4 ++ [_]).length ≤ 4
    rw [List.length_append]
    exact this
  · rcases List.mem_append.mp (show r ∈ s.1 4 ++ [(a, nI q, x, y)] from hr) with z | z
    · exact b10.2 r z
    · rw [List.mem_singleton.mp z]
      exact ⟨ha, q, hq, rfl⟩
theorem iv_fault (h : iv n s) (a q : Int32) : iv n (cm_fault s a q).2 := by
  unfold cm_fault
  split
  · rename_i h1
    split
    · rename_i h4
      have hm : cl_me s = nI (ln_N (s.1 2)) ∧ ln_N (s.1 2) ≤ 2700000 := by
        obtain ⟨k, kp, lo, wa, mk, c, hx⟩ := h
        exact ⟨hx.2.2.2.2.2.2.2.1, hx.N⟩
      obtain ⟨a, ha, rfl⟩ := ii_N (b := 1) (by decide) h1.1
      have h2 := h1.2
      rw [hm.1] at h2
      have h3 := (ix_eq (by omega)).mp h2
      obtain ⟨q, hq, rfl⟩ := nI_of (x := q) (Int32.not_lt.mpr h3.1)
      exact iv_fl h (by rcases show a = 0 ∨ a = 1 by omega with z | z <;> rw [z]; exact Or.inl rfl; exact Or.inr rfl) ((nI_ltI hq (by omega)).mp h3.2) h4
    · exact h
  · exact h
theorem cs_lt9 {c : Nat → Nat} {j : Nat} : ∀ k, j < k → cs c j + c j ≤ cs c k
  | 0, h => by omega
  | k + 1, h => by
    show _ ≤ cs c k + c k
    by_cases e : j = k
    · rw [e]; exact Nat.le_refl _
    · have := cs_lt9 (c := c) k (show j < k by omega)
      omega
theorem iv_net (h : iv n s) (i : Int32) : iv n (cm_net s i).2 := by
  unfold cm_net
  split
  · rename_i h1
    split
    · rename_i h4
      split
      · exact h
      · rename_i h5
        split
        · exact h
        · split
          · exact h
          · have h' := h
            obtain ⟨k, kp, lo, wa, mk, c, hx⟩ := h'
            obtain ⟨j, hj, rfl⟩ := ii_nI h1
            have hk := hx.1.2.1
            have hjk : j < k := by
              have : ¬ nI k ≤ nI j := by rw [← hx.1.1]; exact h5
              rcases Nat.lt_or_ge j k with z | z
              · exact z
              · exact absurd (nI_le z (by omega)) this
            obtain ⟨d, -, -, v1, -, -, v2, -⟩ := md_v hx hjk
            have hN := hx.N
            have hcs := cs_lt9 (c := c) k hjk
            have hcn := hx.2.2.2.2.1.2.1
            have hcj := hx.2.2.2.2.1.2.2 j hjk
            have hlo := hx.2.2.2.2.2.1.2.2.1
            have e : cl_nm s (nI j) = nI (cs c j + c j / 2) := by
              unfold cl_nm
              rw [show ro_bs s.2.2.2.2.1.1 (nI j).toNatClampNeg = nI (cs c j) from v1]
              unfold ro_mi
              rw [if_pos h1, nI_clamp (by omega), v2, show (2 : Int32) = nI 2 from rfl, pk_div (by omega) (by decide) (by decide), nI_add]
            rw [e]
            exact iv_fl h (Or.inr rfl) (by rw [← hcn]; split at hcj <;> omega) h4
    · exact h
  · exact h
theorem iv_measure (h : iv n s) (fb vo dr : Int32) : iv n (cm_measure s fb vo dr).2 := by
  unfold cm_measure
  split
  · split
    · split
      · exact h
      · rename_i h3
        split
        · exact h
        · obtain ⟨k, kp, lo, wa, mk, c, b1, b2, b3, b4, b5, b6, b7, b8, b9, b10, b11, b12⟩ := h
          refine ⟨k, kp, lo, wa, mk, c, b1, b2, b3, b4, b5, b6, b7, b8, b9, ⟨?_, fun r hr => ?_⟩, b11, b12⟩
          · show ((s.1 4).set _ _).length ≤ 4
            rw [List.length_set]; exact b10.1
          · rcases List.mem_or_eq_of_mem_set (show r ∈ (s.1 4).set _ _ from hr) with z | z
            · exact b10.2 r z
            · rcases fa_n_or (L0 := s.1 4) (fb := fb) (oe := vo) (s.1 4) 0 (-1) with y | ⟨j, y, -, hj⟩
              · exact absurd y h3
              · rw [Nat.zero_add] at hj
                have ej : (ms_f s fb vo).toNatClampNeg = j := by
                  unfold ms_f
                  rw [y]
                  exact nI_clamp (by have := b10.1; omega)
                rw [ej, List.getElem?_eq_getElem hj] at z
                obtain ⟨g1, q, g2, g3⟩ := b10.2 (s.1 4)[j] (List.getElem_mem hj)
                rw [z]
                exact ⟨g1, q, g2, g3⟩
    · exact h
  · exact h
theorem iv_mend (h : iv n s) (i t : Int32) : iv (n + 1) (cm_mend s i t).2 := by
  unfold cm_mend
  have ht1 : iv (n + 1) (me_1 s i t) := by
    obtain ⟨k, kp, lo, wa, mk, c, hx⟩ := h
    exact ⟨k, kp, lo, wa, mk, c, (ivx_t1 hx _).up⟩
  split
  · rename_i h1
    split
    · split
      · rename_i h3
        split
        · rename_i h4
          obtain ⟨k, kp, lo, wa, mk, c, hx⟩ := h
          obtain ⟨j, hj, rfl⟩ := ii_nI h1.1
          obtain ⟨t, ht, rfl⟩ := ii_N (b := 2) (by decide) h1.2
          have hjk : j < k := by
            have := h3.1
            rw [hx.1.1] at this
            exact (nI_ltI (by omega) (by have := hx.1.2.1; omega)).mp this
          obtain ⟨wa', c', hc⟩ := ivx_md hx hjk (t := t) (by omega) h4.1
          exact ⟨k, kp, lo, wa', mk, c', hc⟩
        · exact ht1
      · exact h.up
    · exact h.up
  · exact h.up
theorem iv_link (h : iv n s) (a b w : Int32) : iv n (cm_link s a b w).2 := by
  unfold cm_link
  split
  · rename_i h1
    split
    · rename_i h2
      obtain ⟨a, ha, rfl⟩ := ii_N (b := 3) (by decide) h1.1.1
      obtain ⟨b, hb, rfl⟩ := ii_N (b := 3) (by decide) h1.1.2.1
      obtain ⟨w, hw1, hw, rfl⟩ := ii_1 (b := 20) (by decide) h1.2
      obtain ⟨k, kp, lo, wa, mk, c, b1, b2, b3, b4, b5, b6, b7, b8, b9, b10, b11, ⟨g1, g2, g3, g4⟩, b12⟩ := h
      have hl := (nI_ltI (b := 6) (by omega) (by decide)).mp h2
      refine ⟨k, kp, lo, wa, mk, c, b1, b2, b3, b4, b5, b6, b7, b8, b9, b10, b11, ⟨?_, ?_, ?_, fun r hr => ?_⟩, b12⟩
      · show 1 ≤ (s.1 5 ++ [_]).length
        rw [List.length_append]; omega
      · show (s.1 5 ++ [_]).length ≤ 6
        rw [List.length_append]; exact hl
      · show (s.1 5 ++ [_])[0]? = _
        rw [List.getElem?_append_left (by omega)]; exact g3
      · rcases List.mem_append.mp (show r ∈ s.1 5 ++ [(nI a, nI b, nI w, 0)] from hr) with z | z
        · exact g4 r z
        · exact ⟨a, b, w, 0, by rw [List.mem_singleton.mp z]; rfl, by omega, by omega, fun e => h1.1.2.2 (by rw [e]), hw1, hw, by decide⟩
    · exact h
  · exact h
theorem iv_dead (h : iv n s) (i x : Int32) : iv n (cm_dead s i x).2 := by
  unfold cm_dead
  split
  · rename_i h1
    split
    · rename_i h2
      obtain ⟨k, kp, lo, wa, mk, c, b1, b2, b3, b4, b5, b6, b7, b8, b9, b10, b11, ⟨g1, g2, g3, g4⟩, b12⟩ := h
      obtain ⟨j, hj, rfl⟩ := nI_of (x := i) (Int32.not_lt.mpr h1.1)
      have hjl : j < (s.1 5).length := (nI_ltI hj (by omega)).mp h1.2
      have hj0 : ¬ j = 0 := fun z => h2 (by rw [z]; rfl)
      have hq := List.getElem?_eq_getElem hjl
      rw [nI_clamp hj, hq, Option.getD_some]
      obtain ⟨a, b, w, d, eq, c1, c2, c3, c4, c5, c6⟩ := g4 _ (List.mem_of_getElem? hq)
      refine ⟨k, kp, lo, wa, mk, c, b1, b2, b3, b4, b5, b6, b7, b8, b9, b10, b11, ⟨?_, ?_, ?_, fun r hr => ?_⟩, b12⟩
      · show 1 ≤ ((s.1 5).set _ _).length
        rw [List.length_set]; exact g1
      · show ((s.1 5).set _ _).length ≤ 6
        rw [List.length_set]; exact g2
      · show ((s.1 5).set _ _)[0]? = _
        rw [List.getElem?_set_ne hj0]; exact g3
      · rcases List.mem_or_eq_of_mem_set (show r ∈ (s.1 5).set _ _ from hr) with z | z
        · exact g4 r z
        · refine ⟨a, b, w, if x = 0 then 0 else 1, ?_, c1, c2, c3, c4, c5, by split <;> decide⟩
          rw [z, eq]
          split
          · rfl
          · rfl
    · exact h
  · exact h
theorem iv_demand (h : iv n s) (a b w : Int32) : iv n (cm_demand s a b w).2 := by
  unfold cm_demand
  split
  · rename_i h1
    split
    · rename_i h2
      have hL := h.D.1
      have hl := (nI_ltI (b := 10) (by omega) (by decide)).mp h2
      have hk := dm_kq h1
      have hiq : iv n (dm_t s (dm_q s a b w)) := iv_dt h (by unfold dm_q; rw [List.length_append]; exact hl) (fun q hq => by
        unfold dm_q at hq
        rcases List.mem_append.mp hq with z | z
        · exact h.D.2 q z
        · rw [List.mem_singleton.mp z]; exact hk)
      obtain ⟨z, hz, e⟩ := dm_kw hiq hk s.2.2.2.2.2.1
      have e' : ne_w (s.1 5) (dm_q s a b w) s.2.2.2.2.2.1 (cl_dl s) (a, b, w, 0) = nI z := e
      refine iv_dem h (by rw [List.length_append]; exact hl) (fun q hq => ?_) _
      rcases List.mem_append.mp hq with y | y
      · exact h.D.2 q y
      · rw [List.mem_singleton.mp y, e']
        exact hk.e hz
    · exact h
  · exact h
theorem cd_k (h : iv n s) : ∀ (R P : List tt_R) (st : Nat → Int32) (nd : Int32), P.length + R.length ≤ 10 → (∀ q ∈ P ++ R, dm_k q) → (ne_cd (s.1 5) (cl_dl s) R P st nd).1.length ≤ 10 ∧ ∀ q ∈ (ne_cd (s.1 5) (cl_dl s) R P st nd).1, dm_k q
  | [], P, st, nd, hl, hk => by
    rw [List.append_nil] at hk
    exact ⟨hl, hk⟩
  | q :: R, P, st, nd, hl, hk => by
    rw [List.length_cons] at hl
    have hi2 : iv n (dm_t s (P ++ q :: R)) := iv_dt h (by rw [List.length_append, List.length_cons]; omega) hk
    have hq := hk q (List.mem_append_right _ List.mem_cons_self)
    have hst : ∀ x, dm_k x → ∀ y ∈ (P ++ [x]) ++ R, dm_k y := fun x hx y hy => by
      rw [List.append_assoc] at hy
      rcases List.mem_append.mp hy with z | z
      · exact hk y (List.mem_append_left _ z)
      · rcases List.mem_cons.mp z with z | z
        · rw [z]; exact hx
        · exact hk y (List.mem_append_right _ (List.mem_cons_of_mem _ z))
    have hln : ∀ x : tt_R, (P ++ [x]).length + R.length ≤ 10 := fun x => by
      rw [List.length_append]; show P.length + 1 + _ ≤ _; omega
    rw [ne_cd]
    split
    · obtain ⟨z, hz64, hz⟩ := dm_kw hi2 hq st
      have hz' : ne_w (s.1 5) (P ++ q :: R) st (cl_dl s) q = nI z := hz
      rw [hz']
      exact cd_k h R _ _ _ (hln _) (hst _ (hq.e hz64))
    · exact cd_k h R _ _ _ (hln _) (hst _ hq)
theorem iv_restore (h : iv n s) : iv n (cm_restore s).2 := by
  have := cd_k h ((s.1 6).map (ne_off (cl_dl s))) [] s.2.2.2.2.2.1 0 (by rw [List.length_map]; have := h.D.1; show 0 + _ ≤ _; omega) (fun q hq => by
    obtain ⟨y, hy, rfl⟩ := List.mem_map.mp hq
    exact off_k (h.D.2 y hy))
  exact iv_dem h this.1 this.2 _
end IVN
