theorem mm_ctH {l : Launch} {G : mm_G} {M : mm_M} {Q : mm_R → mm_H → Prop} {as ls : List Value} {h : mm_H} (hy : plainName M.1.cls = true) (hnl : ¬ M.1.name = "law") (hH : mm_wsx M = mm_wsH M) (hne : ¬ M.2.2.2.2.1 = []) (hcat : ∀ v ∈ as, v.category = 1) (hlen : as.length ≤ M.2.2.1) (hls : ls = as ++ List.replicate (M.2.2.1 - as.length) .null)
    (hQ : ∀ E h', ¬ Q (.inr E) h') (k : mm_Ex l G M Q 0 ls [] h) : mm_Ct l G M as h Q := by
  subst hls
  obtain ⟨r, h', ⟨k1, k2, k3⟩, q⟩ := k
  refine ⟨r, h', ⟨k1, k2, fun ws0 sz asC hh hs => ?_⟩, q⟩
  rw [hH]
  refine vx_ofWH (cc := M.2.1) (maxL := M.2.2.1) (ret := M.2.2.2.1) (hh := M.2.2.2.2.1) hy rfl ?_
  intro p e s m args below meth c s₁ B hml hP
  obtain ⟨rfl, rfl, hP, hD, hV, ⟨hZ1, hZ2⟩, hXS⟩ := hP
  have hts : ∀ w ∈ mm_wsH M, w.before asC.toArray s = true := atoms_spec (ws := mm_wsH M) B.pre
  have hex2 : c.exceptionTable.toList = tableOf M.2.2.2.2.1 := vx_table (x := M.1) B (hts _ List.mem_cons_self)
  have hlocks := B.notSynchronized
  have X : mm_X G M p (headSpec (mm_wsH M) (mm_rm M h h')).room s m asC.toArray meth c (va_A ws0 s.heap.size) :=
    ⟨B.exec, B.bytes, hml, fun w hw => hts w (List.mem_cons_of_mem _ hw), findClass_of_methodNamed B.named, hV, fun q hq => Or.inr hq, ⟨hZ1, hZ2⟩, rfl, rfl, fun _ => ⟨hex2, (name_of_methodNamed B.named B.method).1⟩, hXS⟩
  have hrc : (headSpec (mm_wsH M) (mm_rm M h h')).room.cells = h'.2.2.1 - h.2.2.1 := rfl
  have hrs : (headSpec (mm_wsH M) (mm_rm M h h')).room.slots = h'.2.2.2 - h.2.2.2 := rfl
  rw [lg_entry_eq]
  refine k3 p e _ s m _ below meth c (va_A ws0 s.heap.size) ws0 _ X ⟨fun ws H locs cells slots L hS => ?_, ?_⟩ ws0 s.heap [] 0 0 _ [] ⟨hP, hD.self, va_S.rf, hh, mm_k.refl ws0, by rw [hrc]; omega, by rw [hrs]; omega⟩ (mm_entry hs hcat hlen) (by simp; omega) rfl
  · have hc1 : cells ≤ h'.2.2.1 - h.2.2.1 := by have := hS.2.2.2.2.2.1; rw [hrc] at this; omega
    have hc2 : slots ≤ h'.2.2.2 - h.2.2.2 := by have := hS.2.2.2.2.2.2; rw [hrs] at this; omega
    have hq : ∀ (ov V : Option Value), r = .inl ov → mm_o ws ov V → ∀ t : State, t.heap = H → s.WarmedH t.vm → mm_Q G ws0 s.heap.size r h' asC.toArray s (.returned V) t := fun ov V hr ho t ht hW =>
      ⟨⟨ov, V, ws, hr, rfl, ho, hS.2.2.2.2.1, by rw [ht]; exact hS.1, hS.2.1, hS.2.2.2.1⟩, hS.2.2.1.F ht⟩
    refine ⟨fun x pc hr ⟨ty, hty, hnar⟩ hd => ?_, fun o a E pc hr hk ⟨t, ht⟩ hd => ?_, fun pc hr hn hd => ?_, fun E pc rest q9 ce hr hH' hce hcv hcl => ?_⟩
    · exact W.widen hc1 hc2 (vx_ret (W.zret B.exec B.bytes (B.returns.trans hty) hnar (hq _ _ hr ⟨_, rfl, rfl⟩) (fun z hz => hS.2.2.1.2.2 z hz) hd))
    · exact W.widen hc1 hc2 (vx_ret (W.aret B.exec B.bytes (B.returns.trans ht) (Or.inr ⟨t, rfl⟩) (Or.inr ⟨a, rfl⟩) (hq _ _ hr ⟨_, rfl, ⟨_, hk, rfl⟩⟩) (fun z hz => hS.2.2.1.2.2 z hz) hd))
    · exact W.widen hc1 hc2 (vx_ret (W.vret B.exec B.bytes (B.returns.trans hn) (hq _ _ hr rfl) (fun z hz => hS.2.2.1.2.2 z hz) hd))
    · exact absurd hH' hne
  · intro E pc h9 ws H locs cells slots L hlt hr
    subst hr
    exact absurd q (hQ E h')
/-- the exception class E, thrown by a call at pc, is caught, and the body goes on at tgt -/
def mm_Ca (G : mm_G) (M : mm_M) (pc : Nat) (E : String) (tgt : Nat) : Prop := ∃ (pre : List ExceptionTableEntry) (x : ExceptionTableEntry) (suf : List ExceptionTableEntry) (name : String),
  tableOf M.2.2.2.2.1 = pre ++ x :: suf ∧ (∀ z ∈ pre, covers z pc = false ∨ (z.catchType ≠ 0 ∧ ∃ nm : String, Cond.classLink M.1.cls z.catchType nm ∈ mm_W ∧ ∀ s : State, mm_V G s → va_Nc E nm s)) ∧ covers x pc = true ∧ x.catchType ≠ 0 ∧ Cond.classLink M.1.cls x.catchType name ∈ mm_W ∧ Cond.castable E name ∈ mm_N ∧ x.handlerPc = tgt
section MMW
variable {l : Launch} {G : mm_G} {M M' : mm_M} {Q Q1 : mm_R → mm_H → Prop} {pc idx n : Nat} {ls st as stk : List Value} {h : mm_H}
theorem ex_callVH {o ci : Nat} {fs : List Value} (hnl : ¬ M.1.name = "law") (hd : decode M.2.1 pc = .ok (.invokevirtual idx, 3)) (hL : mm_LV M.1.cls idx M' ci n) (hR : mm_rr M M') (hn : as.length = n) (ho : h.1 o = some (.inr (ci, fs))) (hst : (st.map fun v => v.category).sum ≤ 8)
    (hc : mm_Ct l G M' (.ref o :: as) h Q1) (hstk : stk = as.reverse ++ (.ref o :: st))
    (k : ∀ (ov : Option Value) (h1 : mm_H), Q1 (.inl ov) h1 → mm_Ex l G M Q (pc + 3) ls (ov.toList ++ st) h1) (kx : ∀ (E : String) (h1 : mm_H), Q1 (.inr E) h1 → ∃ tgt, mm_Ca G M pc E tgt ∧ mm_Ex l G M Q tgt ls [.float 0] h1) : mm_Ex l G M Q pc ls stk h := by
  obtain ⟨hLw, hL1, ⟨hL2, hL3, hL4⟩, hL5⟩ := hL
  obtain ⟨r1, h1, ⟨l1, l2, hM⟩, q1⟩ := hc
  rw [hLw] at hM
  have core : ∀ (p : Program) (e : Env) (R : Room) (s : State) (m : MethodId) (args : Array Value) (below : List Frame) (meth : Method) (c : Code) (A : Nat → Prop) (ws0 ws : va_W) (H : Heap) (locs : List Loc) (cells slots : Nat) (L : Array Slot) (stC : List Value) (h' : mm_H),
      mm_X G M p R s m args meth c A → mm_S G R s A ws0 h h' ws H locs cells slots → h1.2.2.1 ≤ h'.2.2.1 → h1.2.2.2 ≤ h'.2.2.2 → L.size = M.2.2.1 → mm_s ws stk stC →
      ∃ st0 : List Value, mm_s ws st st0 ∧ vx_Run p l e R s m args below meth c H locs cells slots (h1.2.2.1 - h.2.2.1) (h1.2.2.2 - h.2.2.2) (F0 m pc L stC) st0 (mm_Q G ws H.size r1 h1 (stC.reverse).toArray) (mm_XC G ws H.size r1 h1) (va_A ws H.size) := by
    intro p e R s m args below meth c A ws0 ws H locs cells slots L stC h' X hS b1 b2 hsz hs
    rw [hstk] at hs
    obtain ⟨ra, sb, rfl, hs1, hs2, -⟩ := mm_s.app hs
    obtain ⟨a0, E0, st0, hq0, rfl, hs3⟩ := hs2.ref
    obtain ⟨q9, e1, fs', e2, e3, e4⟩ := hS.2.2.2.1.2 o _ ho
    rw [hq0] at e1
    cases e1
    have e2' : E0 = .inr (ci, fs') := e2
    subst e2'
    cases hv : vwCl[ci]? with
    | none => rw [hv] at hL5; cases hL5
    | some q =>
      rw [hv] at hL5
      have hqc : q.1 = M'.1.cls := Option.some.inj hL5
      have hrec := va_recv X.2.2.2.2.2.1.1 hS.1 hv hq0
      rw [hqc] at hrec
      have hs1' := hs1.rev
      rw [List.reverse_reverse] at hs1'
      have hs5 : mm_s ws (.ref o :: as) (.ref a0 :: ra.reverse) := mm_s.pr hq0 hs1'
      have hM' := hM ws H.size _ hS.2.2.2.1 hs5
      have hr := vx_runV (p := p) (e := e) (below := below) (meth := meth) (locs := locs) (cells := cells) (slots := slots) (own := M.1.cls) (C := M'.1.cls) (n := n) (As := ra.reverse) (rest := st0) (g := F0 m pc L (ra ++ .ref a0 :: st0)) ⟨X.1, X.2.1, X.2.2.1, X.2.2.2.2.1, X.2.2.2.1⟩ hM' (cwV n X.2.2.2.1 (mm_gi hL1) rfl rfl rfl ⟨rfl, hL2, hL3, hL4⟩ ⟨by rw [X.2.2.2.2.2.2.2.2.1]; exact hR.1, by rw [X.2.2.2.2.2.2.2.2.2.1]; exact hR.2⟩) ⟨mm_blind, hrec, mm_pre X hS⟩ rfl (by rw [hs1'.len, hn]) hsz (by rw [List.reverse_reverse]) (lv_room (by rw [hs3.cat]; exact hst)) hd ⟨by have := hS.2.2.2.2.2.1; omega, by have := hS.2.2.2.2.2.2; omega⟩
      exact ⟨st0, hs3, hr⟩
  cases r1 with
  | inl ov =>
    obtain ⟨r, h', ⟨k1, k2, k3⟩, q⟩ := k ov h1 q1
    refine ⟨r, h', ⟨Nat.le_trans l1 k1, Nat.le_trans l2 k2, fun p e R s m args below meth c A ws0 Z X F0 ws H locs cells slots L stC hS hl hlen hs => ?_⟩, q⟩
    obtain ⟨st0, hs3, hrun⟩ := core p e R s m args below meth c A ws0 ws H locs cells slots L stC h' X hS k1 k2 (by rw [hl.2.1, hlen]) hs
    refine mm_after X hS rfl rfl l1 l2 hrun (fun ov2 V ws1 H1 locs1 hr ho hk hS1 => ?_) (fun E ws1 H1 locs1 q9 ce hr hk hS1 _ _ _ => by cases hr)
    cases hr
    refine k3 p e R s m args below meth c A ws0 Z X F0 ws1 H1 locs1 _ _ L _ hS1 (hl.mono hk) hlen ?_
    cases ov with
    | none => rw [show V = none from ho]; exact hs3.mono hk
    | some v => obtain ⟨W', rfl, hv⟩ := ho; exact ⟨W', _, rfl, hv, hs3.mono hk⟩
  | inr E =>
    obtain ⟨tgt, hCa, r, h', ⟨k1, k2, k3⟩, q⟩ := kx E h1 q1
    refine ⟨r, h', ⟨Nat.le_trans l1 k1, Nat.le_trans l2 k2, fun p e R s m args below meth c A ws0 Z X F0 ws H locs cells slots L stC hS hl hlen hs => ?_⟩, q⟩
    obtain ⟨st0, hs3, hrun⟩ := core p e R s m args below meth c A ws0 ws H locs cells slots L stC h' X hS k1 k2 (by rw [hl.2.1, hlen]) hs
    refine mm_after X hS rfl rfl l1 l2 hrun (fun ov2 V ws1 H1 locs1 hr ho hk hS1 => by cases hr) (fun E2 ws1 H1 locs1 q9 ce hr hk hS1 hce hcv hcl => ?_)
    cases hr
    obtain ⟨pre, x, suf, name, c1, c2, c3, c4, c5, c6, c7⟩ := hCa
    subst c7
    exact vx_catch X.2.2.2.2.1 pre x suf (by rw [(X.2.2.2.2.2.2.2.2.2.2.1 hnl).1, c1]) (fun z hz => (c2 z hz).imp id (fun ⟨z0, nm, z1, z2⟩ => ⟨z0, nm, X.2.2.2.1 _ z1, z2 s X.2.2.2.2.2.1⟩)) c3 c4 (X.2.2.2.1 _ c5) (va_Nw.use (mm_N_tab c6) (X.2.2.2.2.2.1.2.2.2.2.2.2 _ c6)) hce hcv hcl
      (k3 p e R s m args below meth c A ws0 Z X F0 ws1 H1 locs1 _ _ L _ hS1 (hl.mono hk) hlen ⟨.ref q9, [], rfl, ⟨q9, rfl⟩, rfl⟩)
theorem ex_callSX (hd : decode M.2.1 pc = .ok (.invokestatic idx, 3)) (hL : mm_wsx M' = mm_wsH M' ∧ mm_LSW M.1.cls idx M' n) (hR : mm_rr M M') (hn : as.length = n) (hst : (st.map fun v => v.category).sum ≤ 8) (hH : M.2.2.2.2.1 = [])
    (hc : mm_Ct l G M' as h Q1) (hstk : stk = as.reverse ++ st)
    (k : ∀ (ov : Option Value) (h1 : mm_H), Q1 (.inl ov) h1 → mm_Ex l G M Q (pc + 3) ls (ov.toList ++ st) h1) (kx : ∀ (E : String) (h1 : mm_H), Q1 (.inr E) h1 → Q (.inr E) h1) : mm_Ex l G M Q pc ls stk h := by
  refine mm_call hc hstk hH (fun p e R s m args below meth c A ws H locs cells slots L asC stC r1 h1 X hP hh hs hcat hsz hpre hroom hM => ?_) k kx
  obtain ⟨hLw, hL1, hL2, hL3, hL4⟩ := hL
  rw [hLw] at hM
  refine vx_runSX (own := M.1.cls) (n := n) (As := asC) ⟨X.1, X.2.1, X.2.2.1, X.2.2.2.2.1, X.2.2.2.1⟩ hM (vx_cwSW n X.2.2.2.1 (mm_gi hL1) rfl rfl rfl ⟨hL2, hL3, hL4⟩ ⟨by rw [X.2.2.2.2.2.2.2.2.1]; exact hR.1, by rw [X.2.2.2.2.2.2.2.2.2.1]; exact hR.2⟩) ⟨mm_blind, hpre⟩ rfl (by rw [hs.len, hn]) hsz rfl ?_ hd hroom
  exact lv_room (by rw [hcat]; exact hst)
theorem mm_s.rx {ws : va_W} {u : Nat} {l L : List Value} (h : mm_s ws (.retAddr u :: l) L) : ∃ L', L = .ref u :: L' ∧ mm_s ws l L' := by
  obtain ⟨V, L', h1, h2, h3⟩ := h
  rw [show V = .ref u from h2] at h1
  exact ⟨L', h1, h3⟩
theorem ex_xlen {u : Nat} (hd : decode M.2.1 pc = .ok (.arraylength, 1)) (hu : u = G.2.2.2.1) (k : mm_Ex l G M Q (pc + 1) ls (.int (Int32.ofNat G.2.2.2.2.1) :: st) h) : mm_Ex l G M Q pc ls (.retAddr u :: st) h :=
  mm_exH k (Nat.le_refl _) (Nat.le_refl _) (fun p e R s m args below meth c A ws0 h' Z ws H locs cells slots L stC X b1 b2 hS hs hsz w => by
    subst hu
    obtain ⟨_, rfl, hs1⟩ := hs.rx
    obtain ⟨x1, x2, x3⟩ := X.2.2.2.2.2.2.2.2.2.2.2
    exact va_slen X.1 X.2.1 x1 x2 x3 hS.2.2.1 hd (w ws H locs cells slots _ (mm_k.refl ws) hS hs1.pi))
theorem ex_xload {u : Nat} {i : Int32} (hd : decode M.2.1 pc = .ok (.iaload, 1)) (hu : u = G.2.2.2.1) (hi : vp_in i G.2.2.2.2.1) (k : mm_Ex l G M Q (pc + 1) ls (.int (G.2.2.2.2.2 i.toNatClampNeg) :: st) h) : mm_Ex l G M Q pc ls (.int i :: .retAddr u :: st) h :=
  mm_exH k (Nat.le_refl _) (Nat.le_refl _) (fun p e R s m args below meth c A ws0 h' Z ws H locs cells slots L stC X b1 b2 hS hs hsz w => by
    subst hu
    obtain ⟨_, rfl, hs0⟩ := hs.int
    obtain ⟨_, rfl, hs1⟩ := hs0.rx
    obtain ⟨x1, x2, x3⟩ := X.2.2.2.2.2.2.2.2.2.2.2
    exact va_sld X.1 X.2.1 x1 x2 x3 hS.2.2.1 hi hd (w ws H locs cells slots _ (mm_k.refl ws) hS hs1.pi))
end MMW
