section MMR3
variable {l : Launch} {G : mm_G} {M : mm_M} {Q : mm_R → mm_H → Prop} {pc pc' : Nat} {ls ls' st st' : List Value} {h h2 : mm_H}
theorem mm_arr {cA : mm_A} {ws : va_W} {h : mm_H} (hh : mm_h cA h ws) {o a : Nat} {E : va_E} (hk : ws[o]? = some (a, E)) {ty : FieldType} {x : vp_A} (he : h.1 o = some (.inl (ty, x))) : ws[o]? = some (a, .inl (cA ty, x)) := by
  obtain ⟨q, e1, e2⟩ := hh.2 o _ he
  rw [hk] at e1
  cases e1
  rw [hk]
  exact congrArg (fun z => some (a, z)) e2
theorem ex_iaload {o n : Nat} {f : Nat → Int32} {i : Int32} (hd : decode M.2.1 pc = .ok (.iaload, 1)) (he : h.1 o = some (.inl (.int, n, .inl f))) (hi : vp_in i n) (k : mm_Ex l G M Q (pc + 1) ls (.int (f i.toNatClampNeg) :: st) h) : mm_Ex l G M Q pc ls (.int i :: .ref o :: st) h :=
  mm_exH k (Nat.le_refl _) (Nat.le_refl _) (fun p e R s m args below meth c A ws0 h' Z ws H locs cells slots L stC X b1 b2 hS hs hsz w => by
    obtain ⟨_, rfl, hs0⟩ := hs.int
    obtain ⟨a, E, _, hk, rfl, hs1⟩ := hs0.ref
    exact va_iald X.1 X.2.1 X.2.2.2.2.2.1.1 hS.1 o 0 (mm_arr hS.2.2.2.1 hk he) rfl hi hd (w ws H locs cells slots _ (mm_k.refl ws) hS hs1.pi))
theorem ex_baload {o n : Nat} {f : Nat → Int32} {i : Int32} (hd : decode M.2.1 pc = .ok (.baload, 1)) (he : h.1 o = some (.inl (.boolean, n, .inl f))) (hi : vp_in i n) (k : mm_Ex l G M Q (pc + 1) ls (.int (f i.toNatClampNeg) :: st) h) : mm_Ex l G M Q pc ls (.int i :: .ref o :: st) h :=
  mm_exH k (Nat.le_refl _) (Nat.le_refl _) (fun p e R s m args below meth c A ws0 h' Z ws H locs cells slots L stC X b1 b2 hS hs hsz w => by
    obtain ⟨_, rfl, hs0⟩ := hs.int
    obtain ⟨a, E, _, hk, rfl, hs1⟩ := hs0.ref
    exact va_zald X.1 X.2.1 X.2.2.2.2.2.1.1 hS.1 o 1 (mm_arr hS.2.2.2.1 hk he) rfl hi hd (w ws H locs cells slots _ (mm_k.refl ws) hS hs1.pi))
theorem ex_iastore {o n : Nat} {f : Nat → Int32} {i x : Int32} (hd : decode M.2.1 pc = .ok (.iastore, 1)) (he : h.1 o = some (.inl (.int, n, .inl f))) (hi : vp_in i n) (k : mm_Ex l G M Q (pc + 1) ls st (mm_set h o (.inl (.int, n, .inl (upd f i.toNatClampNeg x))))) : mm_Ex l G M Q pc ls (.int x :: .int i :: .ref o :: st) h :=
  mm_exH k (Nat.le_refl _) (Nat.le_refl _) (fun p e R s m args below meth c A ws0 h' Z ws H locs cells slots L stC X b1 b2 hS hs hsz w => by
    obtain ⟨_, rfl, hsa⟩ := hs.int
    obtain ⟨_, rfl, hs0⟩ := hsa.int
    obtain ⟨a, E, _, hk, rfl, hs1⟩ := hs0.ref
    exact va_iast X.1 X.2.1 X.2.2.2.2.2.1.1 hS.1 hS.2.1 hS.2.2.1 o 0 (mm_arr hS.2.2.2.1 hk he) rfl hi hd (fun H1 locs1 q1 q2 q3 => w _ H1 locs1 cells slots _ (mm_k.set hk) ⟨q1, q2, q3, hS.2.2.2.1.set hk rfl, hS.2.2.2.2.1.trans (mm_k.set hk), hS.2.2.2.2.2⟩ (hs1.mono (mm_k.set hk))))
theorem ex_bastore {o n : Nat} {f : Nat → Int32} {i x : Int32} (hd : decode M.2.1 pc = .ok (.bastore, 1)) (he : h.1 o = some (.inl (.boolean, n, .inl f))) (hi : vp_in i n) (hx : x = 0 ∨ x = 1) (k : mm_Ex l G M Q (pc + 1) ls st (mm_set h o (.inl (.boolean, n, .inl (upd f i.toNatClampNeg x))))) : mm_Ex l G M Q pc ls (.int x :: .int i :: .ref o :: st) h :=
  mm_exH k (Nat.le_refl _) (Nat.le_refl _) (fun p e R s m args below meth c A ws0 h' Z ws H locs cells slots L stC X b1 b2 hS hs hsz w => by
    obtain ⟨_, rfl, hsa⟩ := hs.int
    obtain ⟨_, rfl, hs0⟩ := hsa.int
    obtain ⟨a, E, _, hk, rfl, hs1⟩ := hs0.ref
    have hx' : vp_nar .boolean x = x := by rcases hx with rfl | rfl <;> rfl
    exact va_zast X.1 X.2.1 X.2.2.2.2.2.1.1 hS.1 hS.2.1 hS.2.2.1 o 1 (mm_arr hS.2.2.2.1 hk he) rfl hi hd (fun H1 locs1 q1 q2 q3 => by
      rw [hx'] at q1 q2
      exact w _ H1 locs1 cells slots _ (mm_k.set hk) ⟨q1, q2, q3, hS.2.2.2.1.set hk rfl, hS.2.2.2.2.1.trans (mm_k.set hk), hS.2.2.2.2.2⟩ (hs1.mono (mm_k.set hk))))
theorem ex_alen {o : Nat} {x : vp_A} {ty : FieldType} (hd : decode M.2.1 pc = .ok (.arraylength, 1)) (he : h.1 o = some (.inl (ty, x))) (hty : ty = .int ∨ ty = .boolean) (k : mm_Ex l G M Q (pc + 1) ls (.int (Int32.ofNat x.1) :: st) h) : mm_Ex l G M Q pc ls (.ref o :: st) h :=
  mm_exH k (Nat.le_refl _) (Nat.le_refl _) (fun p e R s m args below meth c A ws0 h' Z ws H locs cells slots L stC X b1 b2 hS hs hsz w => by
    obtain ⟨a, E, _, hk, rfl, hs1⟩ := hs.ref
    have w' := w ws H locs cells slots _ (mm_k.refl ws) hS hs1.pi
    rcases hty with rfl | rfl
    · exact va_alen X.1 X.2.1 X.2.2.2.2.2.1.1 hS.1 o 0 (mm_arr hS.2.2.2.1 hk he) rfl rfl hd w'
    · exact va_alen X.1 X.2.1 X.2.2.2.2.2.1.1 hS.1 o 1 (mm_arr hS.2.2.2.1 hk he) rfl rfl hd w')
def mm_nw (own : String) (idx ci N : Nat) (fs : List Value) : Prop := ∃ (C : String) (T : u_T) (ty : Nat → FieldType), vwCl[ci]? = some (C, T, N) ∧ (∀ w ∈ u_ws C T N, w ∈ mm_W) ∧ (∀ k, k < N → parseFieldDescriptor (T k).2.2.1 = some (ty k)) ∧ Cond.classLink own idx C ∈ mm_W ∧ Cond.instantiable C N ∈ mm_W ∧ Cond.initialized C ∈ mm_W ∧ (∀ j, j < N → defaultValue (ty j) = vp_V fs j) ∧ (∀ v ∈ fs, v = .null ∨ v = .int 0 ∨ v = .long 0)
theorem ex_new {idx ci N : Nat} {fs : List Value} (hd : decode M.2.1 pc = .ok (.new idx, 3)) (hg : mm_nw M.1.cls idx ci N fs) (k : mm_Ex l G M Q (pc + 3) ls (.ref h.2.1 :: st) (mm_new h (.inr (ci, fs)) N)) : mm_Ex l G M Q pc ls st h :=
  mm_exH k (Nat.le_succ _) (Nat.le_add_right _ _) (fun p e R s m args below meth c A ws0 h' Z ws H locs cells slots L stC X b1 b2 hS hs hsz w => by
    obtain ⟨C, T, ty, g1, g3, g5, g6, g7, g8, g9, g10⟩ := hg
    have b1' : h.2.2.1 + 1 ≤ h'.2.2.1 := b1
    have b2' : h.2.2.2 + N ≤ h'.2.2.2 := b2
    obtain ⟨hP, hD, hSS, hh, hk0, hc1, hc2⟩ := hS
    have hrel : ∀ ws : va_W, mm_e G.2.1 ws (.inr (ci, fs)) (.inr (ci, fs)) := fun ws => ⟨fs, rfl, rfl, fun j v hj => ⟨v, hj, by
      rcases g10 v (List.mem_of_getElem? hj) with rfl | rfl | rfl <;> rfl⟩⟩
    refine va_new X.1 X.2.1 X.2.2.2.1 g3 ty g5 X.2.2.2.2.1 (X.2.2.2.1 _ g6) (X.2.2.2.1 _ g7) (X.2.2.2.1 _ g8) X.2.2.2.2.2.1.1 hP hD hSS X.2.2.2.2.2.2.1 g1 g9 (by omega) (by omega) hd (fun q H1 q1 q2 q3 => ?_)
    have hk1 : mm_k ws (ws ++ [(q, .inr (ci, fs))]) := mm_k.push ws _
    refine w _ H1 locs (cells + 1) (slots + N) _ hk1 ⟨q1, q2, q3, hh.push (hrel ws), hk0.trans hk1, ?_, ?_⟩ (mm_s.pr (a := q) (E := .inr (ci, fs)) ?_ (hs.mono hk1))
    · show cells + 1 + h'.2.2.1 ≤ R.cells + (h.2.2.1 + 1); omega
    · show slots + N + h'.2.2.2 ≤ R.slots + (h.2.2.2 + N); omega
    · rw [← hh.1, List.getElem?_append_right (Nat.le_refl _), Nat.sub_self]; rfl)
theorem mm_cA {D : va_G} {cA : mm_A} {s : State} {c9 : ClassId} {ty : FieldType} {t0 : Nat} (hK : va_K D vwCl (mm_tys cA) s) (ht : (mm_tys cA)[t0]? = some (cA ty, ty)) (hK2 : va_K D vwCl (mm_tys cA ++ [(c9, ty)]) s) (hty : ty = .int ∨ ty = .boolean ∨ ty = .long) : c9 = cA ty := by
  have h1 := (hK.2 t0 _ ht).2
  have h2 := (hK2.2 2 (c9, ty) rfl).2
  rcases hty with rfl | rfl | rfl <;> exact Option.some.inj (h2.symm.trans h1)
theorem ex_newI {n : Int32} {N : Nat} (hd : decode M.2.1 pc = .ok (.newarray .int, 2)) (hw : Cond.arrayClass .int ∈ mm_W) (hn : ¬ n < 0) (hN : n.toNatClampNeg = N) (hb : N ≤ 100000000) (k : mm_Ex l G M Q (pc + 2) ls (.ref h.2.1 :: st) (mm_new h (.inl (.int, N, .inl (fun _ => 0))) N)) : mm_Ex l G M Q pc ls (.int n :: st) h :=
  mm_exH k (Nat.le_succ _) (Nat.le_add_right _ _) (fun p e R s m args below meth c A ws0 h' Z ws H locs cells slots L stC X b1 b2 hS hs hsz w => by
    have b1' : h.2.2.1 + 1 ≤ h'.2.2.1 := b1
    have b2' : h.2.2.2 + N ≤ h'.2.2.2 := b2
    obtain ⟨_, rfl, hs1⟩ := hs.int
    obtain ⟨hP, hD, hSS, hh, hk0, hc1, hc2⟩ := hS
    refine va_newa (atype := .int) (ty := .int) (N' := N) (a0 := (N, .inl (fun _ => 0))) X.1 X.2.1 (X.2.2.2.1 _ hw) rfl X.2.2.2.2.2.1.1 hP hD hSS X.2.2.2.2.2.2.1 (fun cA => rfl) hn hN (by show N * 4 ≤ _; omega) (by omega) (by omega) hd (fun q c9 H1 hK2 q1 q2 q3 => ?_)
    have hc9 := mm_cA (t0 := 0) X.2.2.2.2.2.1.1 rfl hK2 (Or.inl rfl)
    subst hc9
    have hk1 : mm_k ws (ws ++ [(q, .inl (G.2.1 .int, N, .inl (fun _ => 0)))]) := mm_k.push ws _
    refine w _ H1 locs (cells + 1) (slots + N) _ hk1 ⟨q1, q2, q3, hh.push rfl, hk0.trans hk1, ?_, ?_⟩ (mm_s.pr (a := q) (E := .inl (G.2.1 .int, N, .inl (fun _ => 0))) ?_ (hs1.mono hk1))
    · show cells + 1 + h'.2.2.1 ≤ R.cells + (h.2.2.1 + 1); omega
    · show slots + N + h'.2.2.2 ≤ R.slots + (h.2.2.2 + N); omega
    · rw [← hh.1, List.getElem?_append_right (Nat.le_refl _), Nat.sub_self]; rfl)
theorem ex_newZ {n : Int32} {N : Nat} (hd : decode M.2.1 pc = .ok (.newarray .boolean, 2)) (hw : Cond.arrayClass .boolean ∈ mm_W) (hn : ¬ n < 0) (hN : n.toNatClampNeg = N) (hb : N ≤ 100000000) (k : mm_Ex l G M Q (pc + 2) ls (.ref h.2.1 :: st) (mm_new h (.inl (.boolean, N, .inl (fun _ => 0))) N)) : mm_Ex l G M Q pc ls (.int n :: st) h :=
  mm_exH k (Nat.le_succ _) (Nat.le_add_right _ _) (fun p e R s m args below meth c A ws0 h' Z ws H locs cells slots L stC X b1 b2 hS hs hsz w => by
    have b1' : h.2.2.1 + 1 ≤ h'.2.2.1 := b1
    have b2' : h.2.2.2 + N ≤ h'.2.2.2 := b2
    obtain ⟨_, rfl, hs1⟩ := hs.int
    obtain ⟨hP, hD, hSS, hh, hk0, hc1, hc2⟩ := hS
    refine va_newa (atype := .boolean) (ty := .boolean) (N' := N) (a0 := (N, .inl (fun _ => 0))) X.1 X.2.1 (X.2.2.2.1 _ hw) rfl X.2.2.2.2.2.1.1 hP hD hSS X.2.2.2.2.2.2.1 (fun cA => rfl) hn hN (by show N * 1 ≤ _; omega) (by omega) (by omega) hd (fun q c9 H1 hK2 q1 q2 q3 => ?_)
    have hc9 := mm_cA (t0 := 1) X.2.2.2.2.2.1.1 rfl hK2 (Or.inr (Or.inl rfl))
    subst hc9
    have hk1 : mm_k ws (ws ++ [(q, .inl (G.2.1 .boolean, N, .inl (fun _ => 0)))]) := mm_k.push ws _
    refine w _ H1 locs (cells + 1) (slots + N) _ hk1 ⟨q1, q2, q3, hh.push rfl, hk0.trans hk1, ?_, ?_⟩ (mm_s.pr (a := q) (E := .inl (G.2.1 .boolean, N, .inl (fun _ => 0))) ?_ (hs1.mono hk1))
    · show cells + 1 + h'.2.2.1 ≤ R.cells + (h.2.2.1 + 1); omega
    · show slots + N + h'.2.2.2 ≤ R.slots + (h.2.2.2 + N); omega
    · rw [← hh.1, List.getElem?_append_right (Nat.le_refl _), Nat.sub_self]; rfl)
theorem ex_copyI {idx o0 o1 n0 n1 : Nat} {f g : Nat → Int32} {sp dp n : Int32} (hd : decode M.2.1 pc = .ok (.invokestatic idx, 3)) (hl : Cond.methodLink M.1.cls idx arraycopyName ∈ mm_W ∧ Cond.native arraycopyName ∈ mm_W ∧ Cond.static arraycopyName ∈ mm_W ∧ Cond.initialized "java/lang/System" ∈ mm_W)
    (he0 : h.1 o0 = some (.inl (.int, n0, .inl f))) (he1 : h.1 o1 = some (.inl (.int, n1, .inl g))) (h1 : ¬ sp < 0) (h2' : ¬ dp < 0) (h3 : ¬ n < 0) (h4 : sp.toNatClampNeg + n.toNatClampNeg ≤ n0) (h5 : dp.toNatClampNeg + n.toNatClampNeg ≤ n1)
    (hfr : 1 ≤ M.2.2.2.2.2.1) (hlo : (st.map fun v => v.category).sum + (nativeFrameWords "java/lang/System" "arraycopy" 5 + 11) ≤ M.2.2.2.2.2.2)
    (k : mm_Ex l G M Q (pc + 3) ls st (mm_set h o1 (.inl (.int, n1, .inl (va_cpy f g sp.toNatClampNeg dp.toNatClampNeg n.toNatClampNeg))))) : mm_Ex l G M Q pc ls (.int n :: .int dp :: .ref o1 :: .int sp :: .ref o0 :: st) h :=
  mm_exH k (Nat.le_refl _) (Nat.le_refl _) (fun p e R s m args below meth c A ws0 h' Z ws H locs cells slots L stC X b1 b2 hS hs hsz w => by
    obtain ⟨_, rfl, ha⟩ := hs.int
    obtain ⟨_, rfl, hb⟩ := ha.int
    obtain ⟨a1, E1, _, hk1, rfl, hc⟩ := hb.ref
    obtain ⟨_, rfl, hd'⟩ := hc.int
    obtain ⟨a0, E0, _, hk0, rfl, hs1⟩ := hd'.ref
    exact va_copyi X.1 X.2.1 hsz.symm X.2.2.2.2.1 (X.2.2.2.1 _ hl.1) (X.2.2.2.1 _ hl.2.1) (X.2.2.2.1 _ hl.2.2.1) (X.2.2.2.1 _ hl.2.2.2) X.2.2.2.2.2.1.1 hS.1 hS.2.1 hS.2.2.1 o0 o1 0 0 (mm_arr hS.2.2.2.1 hk0 he0) (mm_arr hS.2.2.2.1 hk1 he1) rfl rfl rfl h1 h2' h3 h4 h5 (fun _ _ => rfl) (by rw [X.2.2.2.2.2.2.2.2.1]; exact hfr) (by rw [X.2.2.2.2.2.2.2.2.2.1, hs1.cat]; exact hlo) hd
      (fun H1 locs1 q1 q2 q3 => w _ H1 locs1 cells slots _ (mm_k.set hk1) ⟨q1, q2, q3, hS.2.2.2.1.set hk1 rfl, hS.2.2.2.2.1.trans (mm_k.set hk1), hS.2.2.2.2.2⟩ (hs1.mono (mm_k.set hk1))))
theorem ex_objInit {idx o : Nat} (hd : decode M.2.1 pc = .ok (.invokespecial idx, 3)) (hl : Cond.methodLink M.1.cls idx Lib.objectInit ∈ mm_W ∧ Cond.instanceMethod Lib.objectInit ∈ mm_W ∧ Cond.code Lib.objectInit ⟨#[0xb1]⟩ 1 none ∈ mm_W) (hfr : 1 ≤ M.2.2.2.2.2.1) (hlo : (st.map fun v => v.category).sum + 12 ≤ M.2.2.2.2.2.2) (k : mm_Ex l G M Q (pc + 3) ls st h) : mm_Ex l G M Q pc ls (.ref o :: st) h :=
  mm_exH k (Nat.le_refl _) (Nat.le_refl _) (fun p e R s m args below meth c A ws0 h' Z ws H locs cells slots L stC X b1 b2 hS hs hsz w => by
    obtain ⟨a, E, _, hk, rfl, hs1⟩ := hs.ref
    refine W.objInit X.1 X.2.1 X.2.2.2.2.1 (X.2.2.2.1 _ hl.1) (X.2.2.2.1 _ hl.2.1) (X.2.2.2.1 _ hl.2.2) rfl hsz rfl hd (by rw [X.2.2.2.2.2.2.2.2.1]; exact hfr) ?_ (w ws H locs cells slots _ (mm_k.refl ws) hS hs1)
    rw [X.2.2.2.2.2.2.2.2.2.1, hs1.cat]
    show 2 * 0 + _ + 12 ≤ _
    omega)
theorem ex_ireturn {x : Int32} (hd : decode M.2.1 pc = .ok (.ireturn, 1)) (hn : ∃ ty, M.2.2.2.1 = some ty ∧ narrow ty (.int x) = .int x) (q : Q (.inl (some (.int x))) h) : mm_Ex l G M Q pc ls [.int x] h :=
  ⟨_, h, ⟨Nat.le_refl _, Nat.le_refl _, fun p e R s m args below meth c A ws0 Z X F ws H locs cells slots L stC hS hl hlen hs => by
    obtain ⟨L0, rfl, hs1⟩ := hs.int
    rw [show L0 = [] from hs1]
    exact (F.1 ws H locs cells slots L hS).1 x pc rfl hn hd⟩, q⟩
theorem ex_return (hd : decode M.2.1 pc = .ok (.return_, 1)) (hn : M.2.2.2.1 = none) (q : Q (.inl none) h) : mm_Ex l G M Q pc ls [] h :=
  ⟨_, h, ⟨Nat.le_refl _, Nat.le_refl _, fun p e R s m args below meth c A ws0 Z X F ws H locs cells slots L stC hS hl hlen hs => by
    rw [show stC = [] from hs]
    exact (F.1 ws H locs cells slots L hS).2.2.1 pc rfl hn hd⟩, q⟩
theorem ex_areturn {o : Nat} (hd : decode M.2.1 pc = .ok (.areturn, 1)) (hn : ∃ t, M.2.2.2.1 = some (.array t)) (q : Q (.inl (some (.ref o))) h) : mm_Ex l G M Q pc ls [.ref o] h :=
  ⟨_, h, ⟨Nat.le_refl _, Nat.le_refl _, fun p e R s m args below meth c A ws0 Z X F ws H locs cells slots L stC hS hl hlen hs => by
    obtain ⟨a, E, L0, hk, rfl, hs1⟩ := hs.ref
    rw [show L0 = [] from hs1]
    exact (F.1 ws H locs cells slots L hS).2.1 o a E pc rfl hk hn hd⟩, q⟩
end MMR3
