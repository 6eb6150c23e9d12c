/-! THE SEVEN TABLES of a ship: 0 stowed, 1 gathered, 2 things, 3 deeds, 4 faults, 5 links, 6 demands -/
def tp (i : Nat) : Nat := match i with
  | 0 => 9
  | 1 => 11
  | 2 => 14
  | 3 => 17
  | 4 => 21
  | 5 => 24
  | _ => 26
def fx (p : Nat) : Bool := decide (p < 32) && !(p == 10 || p == 12 || p == 15 || p == 18 || p == 22 || p == 25 || p == 27)
def fy (p : Nat) : Bool := fx p && !(p == 9 || p == 11 || p == 14 || p == 17 || p == 21 || p == 24 || p == 26)
def s7 (ns : Nat → Nat) : Nat := ns 0 + ns 1 + ns 2 + ns 3 + ns 4 + ns 5 + ns 6
def tt_V (h : mm_H) (vs : Nat → Nat) : Prop := (∀ i, i < 7 → vs i < h.2.1 ∧ fx (vs i) = false) ∧ (∀ i j, i < 7 → j < 7 → vs i = vs j → i = j) ∧ 32 ≤ h.2.1
/-- the arrays made so far: each growth of a table more than doubles its room -/
def tt_G (ns : Nat → Nat) (c c0 : Nat) : Prop := ∃ gs : Nat → Nat, (∀ i, i < 7 → 2 ^ gs i ≤ ns i) ∧ c ≤ c0 + s7 gs
def tt_S (h : mm_H) (tb : Nat → List tt_R) (c0 n0 : Nat) : Prop := ∃ vs ns, tt_V h vs ∧ (∀ i, i < 7 → tt_T h (tp i) (vs i) (ns i) (tb i)) ∧ tt_G ns h.2.2.1 c0 ∧ h.2.2.2 ≤ n0 + 2 * s7 ns
def tt_F (h h' : mm_H) : Prop := ∀ p, fy p = true → h'.1 p = h.1 p
theorem tt_F.refl (h : mm_H) : tt_F h h := fun _ _ => rfl
theorem tt_F.trans {a b c : mm_H} (h1 : tt_F a b) (h2 : tt_F b c) : tt_F a c := fun p hp => (h2 p hp).trans (h1 p hp)
theorem tp_fx : ∀ i, i < 7 → fx (tp i) = true := by decide
theorem tp_fy : ∀ i, i < 7 → fy (tp i) = false := by decide
theorem tp_lt : ∀ i, i < 7 → tp i < 32 := by decide
theorem tp_inj : ∀ i, i < 7 → ∀ j, j < 7 → tp i = tp j → i = j := by decide
theorem fx_ne {a b : Nat} (h1 : fx a = true) (h2 : fx b = false) : ¬ a = b := fun e => by rw [e, h2] at h1; cases h1
theorem fy_fx {p : Nat} (h : fy p = true) : fx p = true := by
  unfold fy at h
  exact (Bool.and_eq_true_iff.mp h).1
theorem tt_T.kept {h h' : mm_H} {t v n : Nat} {L : List tt_R} (hT : tt_T h t v n L) (h1 : h'.1 t = h.1 t) (h2 : h'.1 v = h.1 v) : tt_T h' t v n L := by
  obtain ⟨a, b, c, f, d, e⟩ := hT
  exact ⟨by rw [h1]; exact a, b, c, f, by rw [h2]; exact d, e⟩
theorem tS_upd {h h' : mm_H} {tb : Nat → List tt_R} {c0 n0 : Nat} {vs ns : Nat → Nat} (hV : tt_V h vs) (hT : ∀ i, i < 7 → tt_T h (tp i) (vs i) (ns i) (tb i)) (hc : tt_G ns h.2.2.1 c0) (hn : h.2.2.2 ≤ n0 + 2 * s7 ns) {i v' n' : Nat} {L' : List tt_R} (hi : i < 7) (hT' : tt_T h' (tp i) v' n' L')
    (hk : ∀ p, ¬ p = tp i → ¬ p = v' → h'.1 p = h.1 p) (hg : (v' = vs i ∧ n' = ns i ∧ h'.2 = h.2) ∨ (v' = h.2.1 ∧ 2 * ns i < n' ∧ h'.2 = (h.2.1 + 1, h.2.2.1 + 1, h.2.2.2 + n'))) : tt_S h' (va_up tb i L') c0 n0 ∧ tt_F h h' := by
  obtain ⟨hV1, hV2, hV3⟩ := hV
  have hv' : fx v' = false ∧ v' < h'.2.1 ∧ 32 ≤ h'.2.1 := by
    rcases hg with ⟨rfl, rfl, e⟩ | ⟨rfl, g, e⟩
    · rw [e]; exact ⟨(hV1 i hi).2, (hV1 i hi).1, hV3⟩
    · rw [e]
      refine ⟨?_, Nat.lt_succ_self _, Nat.le_succ_of_le hV3⟩
      unfold fx
      rw [decide_eq_false (by omega)]; rfl
  have hne : ∀ j, j < 7 → ¬ j = i → ¬ vs j = v' := by
    intro j hj hji
    rcases hg with ⟨rfl, rfl, e⟩ | ⟨rfl, g, e⟩
    · exact fun z => hji (hV2 j i hj hi z)
    · exact Nat.ne_of_lt (hV1 j hj).1
  have hle : h.2.1 ≤ h'.2.1 := by
    rcases hg with ⟨-, -, e⟩ | ⟨-, -, e⟩ <;> rw [e]
    · exact Nat.le_refl _
    · exact Nat.le_succ _
  refine ⟨⟨va_up vs i v', va_up ns i n', ⟨fun j hj => ?_, fun j k hj hk' hjk => ?_, hv'.2.2⟩, fun j hj => ?_, ?_, ?_⟩, fun p hp => ?_⟩
  · by_cases hji : j = i
    · simp only [va_up, if_pos hji]; exact ⟨hv'.2.1, hv'.1⟩
    · simp only [va_up, if_neg hji]; exact ⟨Nat.lt_of_lt_of_le (hV1 j hj).1 hle, (hV1 j hj).2⟩
  · by_cases hji : j = i <;> by_cases hki : k = i
    · rw [hji, hki]
    · simp only [va_up, if_pos hji, if_neg hki] at hjk; exact absurd hjk.symm (hne k hk' hki)
    · simp only [va_up, if_neg hji, if_pos hki] at hjk; exact absurd hjk (hne j hj hji)
    · simp only [va_up, if_neg hji, if_neg hki] at hjk; exact hV2 j k hj hk' hjk
  · by_cases hji : j = i
    · subst hji
      simp only [va_up, if_pos rfl]; exact hT'
    · simp only [va_up, if_neg hji]
      refine (hT j hj).kept (hk _ (fun z => hji (tp_inj j hj i hi z)) (fx_ne (tp_fx j hj) hv'.1)) (hk _ (fun z => ?_) (hne j hj hji))
      exact fx_ne (tp_fx i hi) (hV1 j hj).2 z.symm
  · obtain ⟨gs, hg1, hg2⟩ := hc
    rcases hg with ⟨-, rfl, e⟩ | ⟨-, g, e⟩
    · rw [e]
      refine ⟨gs, fun j hj => ?_, hg2⟩
      by_cases hji : j = i
      · subst hji; simp only [va_up, if_pos rfl]; exact hg1 j hj
      · simp only [va_up, if_neg hji]; exact hg1 j hj
    · rw [e]
      refine ⟨va_up gs i (gs i + 1), fun j hj => ?_, ?_⟩
      · by_cases hji : j = i
        · subst hji
          have := hg1 j hj
          rw [show va_up gs j (gs j + 1) j = gs j + 1 from if_pos rfl, show va_up ns j n' j = n' from if_pos rfl, Nat.pow_succ]
          omega
        · simp only [va_up, if_neg hji]; exact hg1 j hj
      · have hs : s7 (va_up gs i (gs i + 1)) = s7 gs + 1 := by
          rcases (by omega : i = 0 ∨ i = 1 ∨ i = 2 ∨ i = 3 ∨ i = 4 ∨ i = 5 ∨ i = 6) with rfl | rfl | rfl | rfl | rfl | rfl | rfl <;> simp [s7, va_up] <;> omega
        rw [hs]; dsimp only; omega
  · have hs : s7 (va_up ns i n') + ns i = s7 ns + n' := by
      rcases (by omega : i = 0 ∨ i = 1 ∨ i = 2 ∨ i = 3 ∨ i = 4 ∨ i = 5 ∨ i = 6) with rfl | rfl | rfl | rfl | rfl | rfl | rfl <;> simp [s7, va_up] <;> omega
    rcases hg with ⟨-, rfl, e⟩ | ⟨-, g, e⟩ <;> rw [e] <;> (try dsimp only) <;> omega
  · refine hk p (fun z => ?_) (fx_ne (fy_fx hp) hv'.1)
    rw [z, tp_fy i hi] at hp
    cases hp
/-- a fixed cell that is no table changes: the tables stay -/
theorem tS_fix {h : mm_H} {tb : Nat → List tt_R} {c0 n0 p : Nat} {e : mm_E} (hS : tt_S h tb c0 n0) (hp : fy p = true) : tt_S (mm_set h p e) tb c0 n0 := by
  obtain ⟨vs, ns, hV, hT, hc, hn⟩ := hS
  refine ⟨vs, ns, hV, fun i hi => (hT i hi).kept (mm_set_ne (fun z => ?_) rfl) (mm_set_ne (fun z => ?_) rfl), hc, hn⟩
  · rw [← z, tp_fy i hi] at hp; cases hp
  · exact fx_ne (fy_fx hp) (hV.1 i hi).2 z.symm
theorem tS_exc {h : mm_H} {tb : Nat → List tt_R} {c0 n0 : Nat} (hS : tt_S h tb c0 n0) : tt_S (mm_exc h) tb (c0 + 1) (n0 + 6) := by
  obtain ⟨vs, ns, hV, hT, hc, hn⟩ := hS
  obtain ⟨gs, hg1, hg2⟩ := hc
  exact ⟨vs, ns, hV, hT, ⟨gs, hg1, by show h.2.2.1 + 1 ≤ _; omega⟩, by show h.2.2.2 + 6 ≤ _; omega⟩
theorem tS_row {h : mm_H} {tb : Nat → List tt_R} {c0 n0 : Nat} (hS : tt_S h tb c0 n0) (i : Nat) (hi : i < 7) : ∃ v, h.1 (tp i) = some (.inr (7, [.ref v, .int (nI (tb i).length)])) := by
  obtain ⟨vs, ns, hV, hT, hc, hn⟩ := hS
  exact ⟨vs i, (hT i hi).1⟩
theorem tS_len {h : mm_H} {tb : Nat → List tt_R} {c0 n0 : Nat} (hS : tt_S h tb c0 n0) (i : Nat) (hi : i < 7) : (tb i).length ≤ 100000 := by
  obtain ⟨vs, ns, hV, hT, hc, hn⟩ := hS
  have := (hT i hi).2.1
  have := (hT i hi).2.2.1
  omega
section TS
variable {l : Launch} {G : mm_G} {h : mm_H} {tb : Nat → List tt_R} {c0 n0 : Nat}
theorem tS_get (hS : tt_S h tb c0 n0) (i : Nat) (hi : i < 7) (x : Int32) (c : Nat) (cv : Int32) (hcv : cv = nI c) (hc : c < 4) : mm_Ct l G mX7_get [.ref (tp i), .int x, .int cv] h (mm_ri (.int (tt_g (tb i) x c)) h) := by
  obtain ⟨vs, ns, hV, hT, -, -⟩ := hS
  exact c_X7_get (hT i hi) x c cv hcv hc
theorem tS_set (hS : tt_S h tb c0 n0) (i : Nat) (hi : i < 7) (j : Nat) (r : tt_R) (hr : (tb i)[j]? = some r) (jv : Int32) (hjv : jv = nI j) (c : Nat) (cv : Int32) (hcv : cv = nI c) (hc : c < 4) (x : Int32) :
    mm_Ct l G mX7_set [.ref (tp i), .int jv, .int cv, .int x] h (mm_qv (fun h' => tt_S h' (va_up tb i ((tb i).set j (tt_s r c x))) c0 n0 ∧ tt_F h h')) := by
  obtain ⟨vs, ns, hV, hT, h1, h2⟩ := hS
  have htv := fx_ne (tp_fx i hi) (hV.1 i hi).2
  obtain ⟨hj, rfl⟩ := List.getElem?_eq_some_iff.mp hr
  refine mm_ct_mono (c_X7_set (hT i hi) htv j hj jv hjv c cv hcv hc x) (fun r9 h9 ⟨q0, f', q1, q2⟩ => ⟨q0, ?_⟩)
  exact tS_upd hV hT h1 h2 hi q2 (fun p p1 p2 => by rw [q1]; exact mm_set_ne p2 rfl) (Or.inl ⟨rfl, rfl, by rw [q1]; rfl⟩)
theorem tS_clear (hS : tt_S h tb c0 n0) (i : Nat) (hi : i < 7) : mm_Ct l G mX7_clear [.ref (tp i)] h (mm_qv (fun h' => tt_S h' (va_up tb i []) c0 n0 ∧ tt_F h h')) := by
  obtain ⟨vs, ns, hV, hT, h1, h2⟩ := hS
  have htv := fx_ne (tp_fx i hi) (hV.1 i hi).2
  refine mm_ct_mono (c_X7_clear (hT i hi) htv) (fun r9 h9 ⟨q0, f', q1, q2⟩ => ⟨q0, ?_⟩)
  exact tS_upd hV hT h1 h2 hi q2 (fun p p1 p2 => by rw [q1]; exact mm_set_ne p1 rfl) (Or.inl ⟨rfl, rfl, by rw [q1]; rfl⟩)
theorem tS_remove (hS : tt_S h tb c0 n0) (i : Nat) (hi : i < 7) (j : Nat) (hj : j < (tb i).length) (jv : Int32) (hjv : jv = nI j) : mm_Ct l G mX7_remove [.ref (tp i), .int jv] h (mm_qv (fun h' => tt_S h' (va_up tb i ((tb i).eraseIdx j)) c0 n0 ∧ tt_F h h')) := by
  obtain ⟨vs, ns, hV, hT, h1, h2⟩ := hS
  have htv := fx_ne (tp_fx i hi) (hV.1 i hi).2
  refine mm_ct_mono (c_X7_remove (hT i hi) htv j hj jv hjv) (fun r9 h9 ⟨q0, e, e', q1, q2⟩ => ⟨q0, ?_⟩)
  exact tS_upd hV hT h1 h2 hi q2 (fun p p1 p2 => by rw [q1]; exact mm_set_ne p1 (mm_set_ne p2 rfl)) (Or.inl ⟨rfl, rfl, by rw [q1]; rfl⟩)
theorem tS_insert (hS : tt_S h tb c0 n0) (i : Nat) (hi : i < 7) (hL : (tb i).length ≤ 20000) (j : Nat) (hj : j ≤ (tb i).length) (jv : Int32) (hjv : jv = nI j) (a b c d : Int32) : mm_Ct l G mX7_insert [.ref (tp i), .int jv, .int a, .int b, .int c, .int d] h (mm_qv (fun h' => tt_S h' (va_up tb i ((tb i).take j ++ (a, b, c, d) :: (tb i).drop j)) c0 n0 ∧ tt_F h h')) := by
  obtain ⟨vs, ns, hV, hT, h1, h2⟩ := hS
  have htv := fx_ne (tp_fx i hi) (hV.1 i hi).2
  have := tp_lt i hi
  have := hV.2.2
  refine mm_ct_mono (c_X7_insert (hT i hi) htv (by omega) (hV.1 i hi).1 hL j hj jv hjv a b c d) (fun r9 h9 ⟨q0, v', n', q1, q2, q3⟩ => ⟨q0, ?_⟩)
  exact tS_upd hV hT h1 h2 hi q1 q2 q3
theorem tS_add (hS : tt_S h tb c0 n0) (i : Nat) (hi : i < 7) (hL : (tb i).length ≤ 20000) (a b c d : Int32) : mm_Ct l G mX7_add [.ref (tp i), .int a, .int b, .int c, .int d] h (mm_qv (fun h' => tt_S h' (va_up tb i (tb i ++ [(a, b, c, d)])) c0 n0 ∧ tt_F h h')) := by
  obtain ⟨vs, ns, hV, hT, h1, h2⟩ := hS
  have htv := fx_ne (tp_fx i hi) (hV.1 i hi).2
  have := tp_lt i hi
  have := hV.2.2
  refine mm_ct_mono (c_X7_add (hT i hi) htv (by omega) (hV.1 i hi).1 hL a b c d) (fun r9 h9 ⟨q0, v', n', q1, q2, q3⟩ => ⟨q0, ?_⟩)
  exact tS_upd hV hT h1 h2 hi q1 q2 q3
end TS
