def sm (x : Int32) : Prop := x = 0 ∨ x = 1 ∨ x = 2 ∨ x = 3
def rl (r : tt_R) : Nat := r.2.2.2.toNatClampNeg
def ln_N : List tt_R → Nat
  | [] => 0
  | r :: L => rl r + ln_N L
theorem ln_w.ln {r : tt_R} (h : ln_w r) : r.2.2.2 = nI (rl r) ∧ rl r ≤ 90000 ∧ (r.1 = 0 → 1 ≤ rl r ∧ ∃ p, p < 30 ∧ r.2.1 = nI p) ∧ (¬ r.1 = 0 → rl r = 0) := by
  unfold rl
  rcases h with ⟨h, p, f, n, h1, h2, h3, h4⟩ | ⟨h1, h2⟩
  · rw [h1]
    dsimp only
    rw [nI_clamp (show n < 2 ^ 31 by omega)]
    exact ⟨rfl, by omega, fun _ => ⟨h3, p, h2, rfl⟩, fun z => absurd h z⟩
  · rw [h2]
    exact ⟨by decide, by decide, fun z => by rw [z] at h1; exact absurd h1 (by decide), fun _ => by decide⟩
theorem ln_W.tail {r : tt_R} {T : List tt_R} (h : ln_W (r :: T)) : ln_w r ∧ ln_W T := by
  refine ⟨h.2 0 r rfl, ?_, fun i q hq => h.2 (i + 1) q hq⟩
  have := h.1
  rw [List.length_cons] at this
  omega
theorem ln_m_N : ∀ (T : List tt_R) (a : Nat), ln_W T → ln_m T (nI a) = nI (a + ln_N T)
  | [], a, _ => rfl
  | r :: T, a, h => by
    obtain ⟨h1, h2⟩ := h.tail
    rw [ln_m, h1.ln.1, nI_add, ln_m_N T _ h2, ln_N, Nat.add_assoc]
def ln_ta (types : Nat → Int32) : List tt_R → Nat → Int32
  | [], _ => -1
  | r :: L, q => if q < rl r then types r.2.1.toNatClampNeg else ln_ta types L (q - rl r)
def ap_l : List tt_R → List tt_R → List tt_R
  | [], T => T
  | q :: g, T => ap_l g (ro_ap q.2.1 q.2.2.1 q.2.2.2 T)
theorem cl_pb_ap : ∀ (g T D : List tt_R) (me : Int32), (cl_pb g T D me).1 = ap_l g T
  | [], _, _, _ => rfl
  | _ :: g, _, _, _ => cl_pb_ap g _ _ _
section MOD
variable {l : Launch} {G : mm_G} {h0 h : mm_H} {s : mo_S} {S : se_T} {T W g : List tt_R}
end MOD
