section MMM
variable {l : Launch} {G : mm_G} {M : mm_M} {Q : mm_R → mm_H → Prop} {pc idx : Nat} {ls st : List Value} {h : mm_H}
theorem ex_min {x y : Int32} (hd : decode M.2.1 pc = .ok (.invokestatic idx, 3)) (hm : mm_MS mJ9_min_7cf53 2) (hl : Cond.methodLink M.1.cls idx yJ9_min_7cf53 ∈ mm_W) (hfr : 1 ≤ M.2.2.2.2.2.1) (hlo : (st.map fun v => v.category).sum + 13 ≤ M.2.2.2.2.2.2) (k : mm_Ex l G M Q (pc + 3) ls (.int (if y < x then y else x) :: st) h) : mm_Ex l G M Q pc ls (.int y :: .int x :: st) h :=
  mm_exH k (Nat.le_refl _) (Nat.le_refl _) (fun p e R s m args below meth c A ws0 h' Z ws H locs cells slots L stC X b1 b2 hS hs hsz w => by
    obtain ⟨_, rfl, hs0⟩ := hs.int; obtain ⟨_, rfl, hs1⟩ := hs0.int
    have g1 := hS.2.2.2.2.2.1
    have g2 := hS.2.2.2.2.2.2
    refine va_mmin X.1 X.2.1 hsz.symm X.2.2.2.2.1 (X.2.2.2.1 _ hl) (X.2.2.2.1 _ hm.2.1) (X.2.2.2.1 _ hm.2.2.1) (X.2.2.2.1 _ hm.2.2.2.1) (by rw [X.2.2.2.2.2.2.2.2.1]; exact hfr) (by rw [X.2.2.2.2.2.2.2.2.2.1, hs1.cat]; exact hlo) (by omega) (by omega) hd (w ws H locs cells slots _ (mm_k.refl ws) hS hs1.pi))
theorem ex_abs {x : Int32} (hd : decode M.2.1 pc = .ok (.invokestatic idx, 3)) (hm : mm_MS mJ9_abs_0f7a4 1) (hl : Cond.methodLink M.1.cls idx yJ9_abs_0f7a4 ∈ mm_W) (hfr : 1 ≤ M.2.2.2.2.2.1) (hlo : (st.map fun v => v.category).sum + 13 ≤ M.2.2.2.2.2.2) (k : mm_Ex l G M Q (pc + 3) ls (.int (if 0 ≤ x then x else 0 - x) :: st) h) : mm_Ex l G M Q pc ls (.int x :: st) h :=
  mm_exH k (Nat.le_refl _) (Nat.le_refl _) (fun p e R s m args below meth c A ws0 h' Z ws H locs cells slots L stC X b1 b2 hS hs hsz w => by
    obtain ⟨_, rfl, hs1⟩ := hs.int
    have g1 := hS.2.2.2.2.2.1
    have g2 := hS.2.2.2.2.2.2
    refine va_mabs X.1 X.2.1 hsz.symm X.2.2.2.2.1 (X.2.2.2.1 _ hl) (X.2.2.2.1 _ hm.2.1) (X.2.2.2.1 _ hm.2.2.1) (X.2.2.2.1 _ hm.2.2.2.1) (by rw [X.2.2.2.2.2.2.2.2.1]; exact hfr) (by rw [X.2.2.2.2.2.2.2.2.2.1, hs1.cat]; exact hlo) (by omega) (by omega) hd (w ws H locs cells slots _ (mm_k.refl ws) hS hs1.pi))
end MMM
