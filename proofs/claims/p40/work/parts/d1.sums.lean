/-! P40, PURE: what lies in a tank, what goes out of it, of one type -/
def ts (t : Nat) : List tt_R → Nat
  | [] => 0
  | r :: L => (if r.1 = nI t then rl r else 0) + ts t L
theorem ts_app (t : Nat) : ∀ (A B : List tt_R), ts t (A ++ B) = ts t A + ts t B
  | [], B => (Nat.zero_add _).symm
  | r :: A, B => by show _ + ts t (A ++ B) = _ + ts t A + ts t B; rw [ts_app t A B]; omega
theorem ts_1 (t : Nat) (r : tt_R) : ts t [r] = if r.1 = nI t then rl r else 0 := Nat.add_zero _
theorem ts_rev (t : Nat) : ∀ (A : List tt_R), ts t A.reverse = ts t A
  | [] => rfl
  | r :: A => by rw [List.reverse_cons, ts_app, ts_rev t A, ts_1, ts]; omega
theorem ts_le (t : Nat) : ∀ (A : List tt_R), ts t A ≤ ln_N A
  | [] => Nat.le_refl _
  | r :: A => by
    have := ts_le t A
    rw [ts, ln_N]
    split <;> omega
theorem ho_m_ts {kp t : Nat} : ∀ (L : List tt_R) (a : Nat), (∀ r ∈ L, st_w kp r) → ho_m (nI t) L (nI a) = nI (a + ts t L)
  | [], a, _ => rfl
  | r :: L, a, h => by
    have hr := (h r List.mem_cons_self).ln
    have hL := fun a => ho_m_ts (t := t) L a (fun q hq => h q (List.mem_cons_of_mem _ hq))
    rw [ho_m, ts]
    by_cases e : r.1 = nI t
    · rw [if_pos e, if_pos e, hr.1, nI_add, hL]; congr 1; omega
    · rw [if_neg e, if_neg e, hL]; congr 1; omega
theorem ho_m_ts0 {kp t : Nat} {L : List tt_R} (h : ∀ r ∈ L, st_w kp r) : ho_m (nI t) L 0 = nI (ts t L) := by
  have := ho_m_ts (t := t) L 0 h
  rw [Nat.zero_add] at this
  exact this
theorem st_t {kp u t : Nat} {r : tt_R} (hu : u < 3) (ht : t < 3) (e : r.1 = nI t) : r.1 = nI u ↔ u = t := by
  rw [e, nI_eq (by omega) (by omega)]
  exact ⟨fun z => z.symm, fun z => z.symm⟩
theorem ts_sum {kp : Nat} : ∀ (L : List tt_R), (∀ r ∈ L, st_w kp r) → ts 0 L + ts 1 L + ts 2 L = ln_N L
  | [], _ => rfl
  | r :: L, h => by
    have hL := ts_sum L (fun q hq => h q (List.mem_cons_of_mem _ hq))
    obtain ⟨t, p, f, n, er, h1, -⟩ := h r List.mem_cons_self
    have e : r.1 = nI t := by rw [er]
    have k : ∀ u, u < 3 → (if r.1 = nI u then rl r else 0) = if u = t then rl r else 0 := fun u hu => by
      by_cases z : u = t
      · rw [if_pos z, if_pos ((st_t (kp := kp) hu h1 e).mpr z)]
      · rw [if_neg z, if_neg (fun y => z ((st_t (kp := kp) hu h1 e).mp y))]
    rw [ts, ts, ts, ln_N, k 0 (by decide), k 1 (by decide), k 2 (by decide)]
    rcases (by omega : t = 0 ∨ t = 1 ∨ t = 2) with z | z | z <;> subst z <;> simp <;> omega
theorem ga_ts {kp t : Nat} (ht : t < 3) : ∀ (R : List tt_R) (M : Nat), (∀ r ∈ R, st_w kp r) → M < 2 ^ 31 → ln_N (ho_ga (nI t) R (nI M) []).1 = min M (ts t R) ∧ ∀ u, u < 3 → ts u (ho_so (nI t) R (nI M) []) + (if u = t then min M (ts t R) else 0) = ts u R
  | [], M, _, _ => ⟨by show 0 = min M 0; omega, fun u _ => by show 0 + (if u = t then min M 0 else 0) = 0; split <;> omega⟩
  | r :: R, M, h, hM => by
    have hR : ∀ q ∈ R, st_w kp q := fun q hq => h q (List.mem_cons_of_mem _ hq)
    by_cases hm : M = 0
    · subst hm
      rw [ho_ga_0 (by decide), ho_so_0 (by decide), List.append_nil]
      exact ⟨by show 0 = _; omega, fun u _ => by rw [ts_rev]; split <;> omega⟩
    have hm2 : ¬ nI M ≤ 0 := fun z => hm ((nI_le0 hM).mp z)
    obtain ⟨w1, w2, w3⟩ := (h r List.mem_cons_self).ln
    rw [ho_ga, ho_so, if_neg hm2, if_neg hm2]
    by_cases e : r.1 = nI t
    · rw [if_pos e, if_pos e, ho_ga_acc, w1, mn_nI hM (by omega), nI_sub (Nat.min_le_left _ _)]
      obtain ⟨a1, a2⟩ := ga_ts ht R (M - min M (rl r)) hR (by omega)
      have hq0 : rl (nI t, r.2.1, r.2.2.1, nI (min M (rl r))) = min M (rl r) := nI_clamp (by omega)
      have hgn : ln_N ([] ++ [(nI t, r.2.1, r.2.2.1, nI (min M (rl r)))] ++ (ho_ga (nI t) R (nI (M - min M (rl r))) []).1) = min M (rl r) + ln_N (ho_ga (nI t) R (nI (M - min M (rl r))) []).1 := by
        rw [List.nil_append, List.singleton_append, ln_N, hq0]
      dsimp only
      refine ⟨by rw [hgn, a1, ts, if_pos e]; omega, fun u hu => ?_⟩
      have b := a2 u hu
      rw [ts, ts, if_pos e]
      by_cases z : u = t
      · rw [if_pos z] at b ⊢
        rw [if_pos ((st_t (kp := kp) hu ht e).mpr z)]
        by_cases hf : nI (min M (rl r)) = nI (rl r)
        · rw [if_pos hf]
          have hf2 := (nI_eq (by omega) (by omega)).mp hf
          omega
        · rw [if_neg hf, ho_so_acc R _ [_], ts_app, ts_1, if_pos (show r.1 = nI u from (st_t (kp := kp) hu ht e).mpr z)]
          have : rl (r.1, r.2.1, r.2.2.1 + nI (min M (rl r)), nI (rl r) - nI (min M (rl r))) = rl r - min M (rl r) := by
            rw [nI_sub (Nat.min_le_right _ _)]; exact nI_clamp (by omega)
          rw [this]; omega
      · rw [if_neg z] at b ⊢
        rw [if_neg (fun y => z ((st_t (kp := kp) hu ht e).mp y))]
        by_cases hf : nI (min M (rl r)) = nI (rl r)
        · rw [if_pos hf]; omega
        · rw [if_neg hf, ho_so_acc R _ [_], ts_app, ts_1, if_neg (show ¬ r.1 = nI u from fun y => z ((st_t (kp := kp) hu ht e).mp y))]; omega
    · rw [if_neg e, if_neg e]
      obtain ⟨a1, a2⟩ := ga_ts ht R M hR hM
      refine ⟨by rw [a1, ts, if_neg e]; omega, fun u hu => ?_⟩
      have b := a2 u hu
      rw [ho_so_acc R _ [r], ts_app, ts_1, ts, ts, if_neg e]
      by_cases z : u = t
      · rw [if_pos z] at b ⊢; rw [Nat.zero_add]; omega
      · rw [if_neg z] at b ⊢; omega
/-! one type -/
theorem ty_any {types : Nat → Int32} {kp : Nat} {y : Int32} (hk : kp ≤ 30) (h : ∀ p, p < kp → types p = y) (x : Int32) : ho_ty types (nI kp) x = -1 ∨ ho_ty types (nI kp) x = y := by
  unfold ho_ty
  split
  · rename_i z
    obtain ⟨j, hj, rfl⟩ := nI_of (x := x) (Int32.not_lt.mpr z.1)
    have := (nI_ltI hj (by omega)).mp z.2.1
    rw [nI_clamp hj]
    exact Or.inr (h j this)
  · exact Or.inl rfl
theorem nr_y {a b y : Int32} (ha : a = -1 ∨ a = y) (hb : b = -1 ∨ b = y) : ho_nr a b = true := by
  rcases ha with rfl | rfl
  · exact nr_1 rfl
  · rcases hb with rfl | rfl
    · exact nr_2 rfl
    · refine nr_3 ?_
      rw [show b - b = 0 by grind]; decide
theorem fi_y {types : Nat → Int32} {kp : Nat} {y b : Int32} (hk : kp ≤ 30) (h : ∀ p, p < kp → types p = y) (hb : b = -1 ∨ b = y) : ∀ (g : List tt_R) (a : Int32), (a = -1 ∨ a = y) → ho_fi (ho_ty types (nI kp)) g a b = true
  | [], a, ha => nr_y ha hb
  | r :: g, a, ha => by
    have := ty_any hk h r.2.1
    rw [ho_fi, nr_y ha this, fi_y hk h hb g _ this]; rfl
theorem ha_y {types : Nat → Int32} {kp : Nat} {y x : Int32} (hk : kp ≤ 30) (h : ∀ p, p < kp → types p = y) : ∀ (g : List tt_R), (∀ q ∈ g, st_w kp q) → ho_pl y x ≤ ho_mp y → ho_ha (ho_ty types (nI kp)) x g = true
  | [], _, _ => rfl
  | r :: g, hg, hy => by
    obtain ⟨t, p, f, n, er, h1, h2, -⟩ := hg r List.mem_cons_self
    have e : ho_ty types (nI kp) r.2.1 = y := by rw [er]; exact (ho_ty_at hk h2).trans (h p h2)
    rw [ho_ha, e, decide_eq_true hy, ha_y hk h g (fun q hq => hg q (List.mem_cons_of_mem _ hq)) hy]; rfl
theorem ha_n {types : Nat → Int32} {kp : Nat} {y x : Int32} (hk : kp ≤ 30) (h : ∀ p, p < kp → types p = y) {g : List tt_R} (hg : ∀ q ∈ g, st_w kp q) (hne : ¬ ln_N g = 0) (hy : ¬ ho_pl y x ≤ ho_mp y) : ¬ ho_ha (ho_ty types (nI kp)) x g = true := by
  cases g with
  | nil => exact absurd rfl hne
  | cons r g =>
    obtain ⟨t, p, f, n, er, h1, h2, -⟩ := hg r List.mem_cons_self
    have e : ho_ty types (nI kp) r.2.1 = y := by rw [er]; exact (ho_ty_at hk h2).trans (h p h2)
    rw [ho_ha, e, decide_eq_false hy, Bool.false_and]; decide
