/-! further rows of whole -/
theorem ho_ty_at {types : Nat → Int32} {kp p : Nat} (hk : kp ≤ 30) (hp : p < kp) : ho_ty types (nI kp) (nI p) = types p := by
  rw [ho_ty, if_pos ⟨nI_pos' (by omega), nI_lt hp (by omega), nI_lt (b := 30) (by omega) (by decide)⟩, nI_clamp (by omega)]
section MOD
variable {l : Launch} {G : mm_G} {h0 h : mm_H} {s : mo_S} {S : se_T} {T W g : List tt_R}
end MOD
theorem ro_ma_c {kp : Nat} : ∀ (T : List tt_R) (p s : Nat), (∀ r ∈ T, ln_k kp r) → s ≤ p → s + ln_N T < 2 ^ 31 → p < 2 ^ 31 → ro_ma (nI p) T (nI s) = ln_c T (p - s)
  | [], p, s, _, _, _, _ => rfl
  | r :: T, p, s, h, hs, hN, hp => by
    have hr := (h r List.mem_cons_self).ln
    rw [ln_N] at hN
    rw [ro_ma, hr.1, nI_add, if_neg (nI_nlt hs (by omega)), ln_c]
    by_cases hc : p - s < rl r
    · rw [if_neg (nI_ge (show p < s + rl r by omega) (by omega)), if_pos hc, ← nI_sub hs]; grind
    · rw [if_pos (nI_le (show s + rl r ≤ p by omega) hp), if_neg hc, ro_ma_c T p (s + rl r) (fun q hq => h q (List.mem_cons_of_mem _ hq)) (by omega) (by omega) hp, show p - s - rl r = p - (s + rl r) by omega]
