theorem mm_gi {ws : List Cond} (h : ∀ w ∈ ws, w ∈ mm_W) : GoodIn mm_W ws := fun w hw => ⟨h w hw, good_of_word (List.mem_filter.mp (h w hw)).2⟩
theorem mm_in {w : Cond} (i : Nat) (h : lw_tbl[i]? = some w) (hg : goodWord w = true) : w ∈ mm_W := List.mem_filter.mpr ⟨List.mem_of_getElem? h, hg⟩
theorem mm_V.same {G : mm_G} {u U : State} (hv : U.vm = u.vm) (h : mm_V G u) : mm_V G U :=
  ⟨h.1.moved (by rw [hv]; exact Vm.Alike.refl _), h.2.1.same hv, h.2.2.1.same hv, h.2.2.2.1.same hv, trivial, trivial, fun w hw => va_Nw.same (mm_N_tab hw) hv.symm (h.2.2.2.2.2.2 w hw)⟩
theorem mm_blind {G : mm_G} {ws0 : va_W} {sz : Nat} {asC : List Value} : FrameBlind (va_Pc asC (mm_P G ws0 sz)) := fun a U g mk h =>
  ⟨h.1, h.2.1, h.2.2.1, h.2.2.2.1, mm_V.same (u := U) (U := U.calling g mk a) rfl h.2.2.2.2.1, ⟨vx_Zq.moved (u := U) (U := U.calling g mk a) (Vm.Alike.refl U.vm) h.2.2.2.2.2.1.1, vx_Zq.moved (u := U) (U := U.calling g mk a) (Vm.Alike.refl U.vm) h.2.2.2.2.2.1.2⟩, va_X.moved (u := U) (U := U.calling g mk a) (Vm.Alike.refl U.vm) h.2.2.2.2.2.2.1, h.2.2.2.2.2.2.2⟩
section MMC
variable {p : Program} {l : Launch} {e : Env} {R : Room} {s : State} {m : MethodId} {args : Array Value} {below : List Frame} {meth : Method} {c : Code} {H : Heap} {locs : List Loc} {cells slots : Nat}
variable {G : mm_G} {M : mm_M} {A : Nat → Prop} {ws0 ws : va_W} {h h' h1 : mm_H}
theorem mm_free (hS : mm_S G R s A ws0 h h' ws H locs cells slots) (hA : ∀ q, s.heap.size ≤ q → A q) : ∀ q, va_A ws H.size q → A q := fun q hq => by
  rcases hq with ⟨k, e, hk⟩ | hq
  · exact hS.2.1.2 k (q, e) hk
  · exact hA q (Nat.le_trans hS.2.2.1.1 hq)
/-- the callee's start -/
theorem mm_pre (X : mm_X G M p R s m args meth c A) (hS : mm_S G R s A ws0 h h' ws H locs cells slots) {asC : List Value} : ∀ U : State, U.heap = H → s.WarmedH U.vm → va_Pc asC (mm_P G ws H.size) asC.toArray U := fun U hU hW => by
  have hz : ∀ {C n d : String}, vx_Zq C n d A s s.heap → vx_Zq C n d (va_A ws H.size) U U.heap := fun hq => by
    rw [hU]
    exact (vx_Zq.moved hW.alike (hq.kept hS.2.2.1.2.1)).narrow (mm_free hS X.2.2.2.2.2.2.1)
  exact ⟨rfl, by rw [hU], by rw [hU]; exact hS.1, hS.2.1.weaken (fun _ _ _ _ => trivial), X.2.2.2.2.2.1.warm hW, ⟨hz X.2.2.2.2.2.2.2.1.1, hz X.2.2.2.2.2.2.2.1.2⟩, by
    obtain ⟨x1, x2, x3⟩ := X.2.2.2.2.2.2.2.2.2.2.2
    rw [hU]
    exact ⟨va_X.moved hW.alike (x1.kept (hS.2.2.1.2.1 _ x2 x3)), Nat.lt_of_lt_of_le x2 hS.2.2.1.1, fun hq => hq.elim (fun ⟨k, e, hk⟩ => x3 (hS.2.1.2 k _ hk)) (fun hq => absurd (Nat.lt_of_lt_of_le x2 hS.2.2.1.1) (Nat.not_lt.mpr hq))⟩⟩
theorem mm_after {Z : State → Prop} {pc : Nat} {L : Array Slot} {st0 rest : List Value} {r1 : mm_R} {a : Array Value} {mc ms : Nat} (X : mm_X G M p R s m args meth c A) (hS : mm_S G R s A ws0 h h' ws H locs cells slots)
    (hmc : mc = h1.2.2.1 - h.2.2.1) (hms : ms = h1.2.2.2 - h.2.2.2) (l1 : h.2.2.1 ≤ h1.2.2.1) (l2 : h.2.2.2 ≤ h1.2.2.2)
    (hr : vx_Run p l e R s m args below meth c H locs cells slots mc ms (F0 m pc L st0) rest (mm_Q G ws H.size r1 h1 a) (mm_XC G ws H.size r1 h1) (va_A ws H.size))
    (kk : ∀ (ov V : Option Value) (ws1 : va_W) (H1 : Heap) (locs1 : List Loc), r1 = .inl ov → mm_o ws1 ov V → mm_k ws ws1 → mm_S G R s A ws0 h1 h' ws1 H1 locs1 (cells + mc) (slots + ms) → W p l e R s m args below meth c H1 locs1 (cells + mc) (slots + ms) Z (F0 m (pc + 3) L (V.toList ++ rest)))
    (kx : ∀ (E : String) (ws1 : va_W) (H1 : Heap) (locs1 : List Loc) (q : Addr) (ce : Cell), r1 = .inr E → mm_k ws ws1 → mm_S G R s A ws0 h1 h' ws1 H1 locs1 (cells + mc) (slots + ms) → H1[q]? = some ce → ce.vm = .none → s.vm.findClass E = some ce.cls → vx_W p l e R s m args below meth c H1 locs1 (cells + mc) (slots + ms) Z (F0 m pc L rest) q) :
    W p l e R s m args below meth c H locs cells slots Z (F0 m pc L st0) := by
  have hf := mm_free hS X.2.2.2.2.2.2.1
  intro T hT XX
  rcases hr T hT XX with ⟨v, st₀, t, T', L', h0, X', hL, e1, e2, ⟨⟨ov, V, ws1, hr1, hv, ho, hk, hP, hD, hh⟩, hF⟩, stp⟩ | ⟨q, st₀, t, T', L', E, ce, h0, X', hL, e1, e2, ⟨⟨ws1, hr1, hk, hP, hD, hh⟩, hF⟩, hce, hcv, hcl, stp⟩
  · cases hv
    obtain ⟨z1, z2, z3⟩ := vx_keep h0 e1 hS.2.2.1 (fun q _ hq => hf q hq) hf hL hF
    obtain ⟨t2, a1, b1⟩ := kk ov _ ws1 T'.heap (locs ++ L') hr1 ho hk ⟨by rw [e1]; exact hP, hD.weaken (fun _ _ _ hq => hf _ hq), z3, hh, hS.2.2.2.2.1.trans hk, by have := hS.2.2.2.2.2.1; omega, by have := hS.2.2.2.2.2.2; omega⟩ T' rfl X'
    exact ⟨t2, stp t2 a1, b1⟩
  · obtain ⟨z1, z2, z3⟩ := vx_keep h0 e1 hS.2.2.1 (fun q _ hq => hf q hq) hf hL hF
    obtain ⟨t2, a1, b1⟩ := kx E ws1 T'.heap (locs ++ L') q ce hr1 hk ⟨by rw [e1]; exact hP, hD.weaken (fun _ _ _ hq => hf _ hq), z3, hh, hS.2.2.2.2.1.trans hk, by have := hS.2.2.2.2.2.1; omega, by have := hS.2.2.2.2.2.2; omega⟩ (by rw [e1]; exact hce) hcv hcl T' rfl X'
    exact ⟨t2, stp.trans a1, b1⟩
end MMC
/-- how a method is linked, by the way of its call; the words of it -/
def mm_nm (y : MethodName) (n : Nat) : Prop := y.cls ≠ "java/lang/invoke/MethodHandle" ∧ y.cls ≠ "java/lang/invoke/VarHandle" ∧ (parseMethodDescriptor y.desc).map (fun d => d.parameters.length) = some n
def mm_LV (own : String) (idx : Nat) (M' : mm_M) (ci n : Nat) : Prop := mm_wsx M' = mm_ws M' ∧ (∀ w ∈ wsV own idx M'.1.cls M'.1 (mm_ws M'), w ∈ mm_W) ∧ mm_nm M'.1 n ∧ (vwCl[ci]?.map (fun q => q.1)) = some M'.1.cls
def mm_LS (own : String) (idx : Nat) (M' : mm_M) (n : Nat) : Prop := mm_wsx M' = mm_ws M' ∧ (∀ w ∈ va_wsS own idx M'.1 (mm_ws M'), w ∈ mm_W) ∧ mm_nm M'.1 n
def mm_LI (own : String) (idx : Nat) (M' : mm_M) (n : Nat) : Prop := mm_wsx M' = mm_ws M' ∧ (∀ w ∈ mm_ws M', w ∈ mm_W) ∧ Cond.initialized M'.1.cls ∈ mm_W ∧ Cond.methodLink own idx M'.1 ∈ mm_W ∧ Cond.instanceMethod M'.1 ∈ mm_W ∧ M'.1.name = "<init>" ∧ mm_nm M'.1 n ∧ M'.2.2.2.1 = none
def mm_LIN (own : String) (idx : Nat) (M' : mm_M) (host : String) (n : Nat) : Prop := mm_wsx M' = mm_ws M' ∧ (∀ w ∈ mm_ws M', w ∈ mm_W) ∧ Cond.initialized M'.1.cls ∈ mm_W ∧ Cond.methodLinkNest own idx M'.1 host ∈ mm_N ∧ Cond.instanceMethod M'.1 ∈ mm_W ∧ M'.1.name = "<init>" ∧ mm_nm M'.1 n ∧ M'.2.2.2.1 = none
def mm_LSN (own : String) (idx : Nat) (M' : mm_M) (host : String) (n : Nat) : Prop := mm_wsx M' = mm_ws M' ∧ (∀ w ∈ mm_ws M', w ∈ mm_W) ∧ Cond.initialized M'.1.cls ∈ mm_W ∧ Cond.methodLinkNest own idx M'.1 host ∈ mm_N ∧ Cond.static M'.1 ∈ mm_W ∧ mm_nm M'.1 n
def mm_LSW (own : String) (idx : Nat) (M' : mm_M) (n : Nat) : Prop := (∀ w ∈ va_wsS own idx M'.1 (mm_wsH M'), w ∈ mm_W) ∧ mm_nm M'.1 n
/-- the room of a callee in its caller's -/
def mm_rr (M M' : mm_M) : Prop := M'.2.2.2.2.2.1 + 1 ≤ M.2.2.2.2.2.1 ∧ 8 + (M'.2.2.1 + 11) + M'.2.2.2.2.2.2 ≤ M.2.2.2.2.2.2
section MMK
variable {l : Launch} {G : mm_G} {M M' : mm_M} {Q Q1 : mm_R → mm_H → Prop} {pc idx n : Nat} {ls st as stk : List Value} {h : mm_H}
/-- the frame of every call rule: as is what is passed, receiver first -/
theorem mm_call (hc : mm_Ct l G M' as h Q1) (hstk : stk = as.reverse ++ st) (hH : M.2.2.2.2.1 = [])
    (F : ∀ (p : Program) (e : Env) (R : Room) (s : State) (m : MethodId) (args : Array Value) (below : List Frame) (meth : Method) (c : Code) (A : Nat → Prop) (ws : va_W) (H : Heap) (locs : List Loc) (cells slots : Nat) (L : Array Slot) (asC stC : List Value) (r1 : mm_R) (h1 : mm_H),
      mm_X G M p R s m args meth c A → va_P G.1 vwCl ws H → mm_h G.2.1 h ws → mm_s ws as asC → (stC.map fun v => v.category).sum = (st.map fun v => v.category).sum → L.size = M.2.2.1 → (∀ U : State, U.heap = H → s.WarmedH U.vm → va_Pc asC (mm_P G ws H.size) asC.toArray U) → cells + (h1.2.2.1 - h.2.2.1) ≤ R.cells ∧ slots + (h1.2.2.2 - h.2.2.2) ≤ R.slots →
      vx_Met l M'.1 (mm_wsx M') (mm_rm M' h h1) (va_Pc asC (mm_P G ws H.size)) (mm_Q G ws H.size r1 h1) (mm_XC G ws H.size r1 h1) (h1.2.2.1 - h.2.2.1) (h1.2.2.2 - h.2.2.2) (va_A ws H.size) →
      vx_Run p l e R s m args below meth c H locs cells slots (h1.2.2.1 - h.2.2.1) (h1.2.2.2 - h.2.2.2) (F0 m pc L (asC.reverse ++ stC)) stC (mm_Q G ws H.size r1 h1 asC.toArray) (mm_XC G ws H.size r1 h1) (va_A ws H.size))
    (k : ∀ (ov : Option Value) (h1 : mm_H), Q1 (.inl ov) h1 → mm_Ex l G M Q (pc + 3) ls (ov.toList ++ st) h1) (kx : ∀ (E : String) (h1 : mm_H), Q1 (.inr E) h1 → Q (.inr E) h1) : mm_Ex l G M Q pc ls stk h := by
  subst hstk
  obtain ⟨r1, h1, ⟨l1, l2, hM⟩, q1⟩ := hc
  cases r1 with
  | inl ov =>
    obtain ⟨r, h', ⟨k1, k2, k3⟩, q⟩ := k ov h1 q1
    refine ⟨r, h', ⟨Nat.le_trans l1 k1, Nat.le_trans l2 k2, fun p e R s m args below meth c A ws0 Z X F0 ws H locs cells slots L stC hS hl hlen hs => ?_⟩, q⟩
    obtain ⟨ra, stC', rfl, hs1, hs2, -⟩ := mm_s.app hs
    have hs3 := hs1.rev
    rw [List.reverse_reverse] at hs3
    have hrun := F p e R s m args below meth c A ws H locs cells slots L ra.reverse stC' (.inl ov) h1 X hS.1 hS.2.2.2.1 hs3 hs2.cat (by rw [hl.2.1, hlen]) (mm_pre X hS) ⟨by have := hS.2.2.2.2.2.1; omega, by have := hS.2.2.2.2.2.2; omega⟩ (hM ws H.size ra.reverse hS.2.2.2.1 hs3)
    rw [List.reverse_reverse] at hrun
    refine mm_after X hS rfl rfl l1 l2 hrun (fun ov2 V ws1 H1 locs1 hr ho hk hS1 => ?_) (fun E ws1 H1 locs1 q9 ce hr hk hS1 _ _ _ => by cases hr)
    cases hr
    refine k3 p e R s m args below meth c A ws0 Z X F0 ws1 H1 locs1 _ _ L _ hS1 (hl.mono hk) hlen ?_
    cases ov with
    | none => rw [show V = none from ho]; exact hs2.mono hk
    | some v => obtain ⟨W', rfl, hv⟩ := ho; exact ⟨W', _, rfl, hv, hs2.mono hk⟩
  | inr E =>
    refine ⟨.inr E, h1, ⟨l1, l2, fun p e R s m args below meth c A ws0 Z X F0 ws H locs cells slots L stC hS hl hlen hs => ?_⟩, kx E h1 q1⟩
    obtain ⟨ra, stC', rfl, hs1, hs2, -⟩ := mm_s.app hs
    have hs3 := hs1.rev
    rw [List.reverse_reverse] at hs3
    have hrun := F p e R s m args below meth c A ws H locs cells slots L ra.reverse stC' (.inr E) h1 X hS.1 hS.2.2.2.1 hs3 hs2.cat (by rw [hl.2.1, hlen]) (mm_pre X hS) ⟨by have := hS.2.2.2.2.2.1; omega, by have := hS.2.2.2.2.2.2; omega⟩ (hM ws H.size ra.reverse hS.2.2.2.1 hs3)
    rw [List.reverse_reverse] at hrun
    refine mm_after X hS rfl rfl l1 l2 hrun (fun ov2 V ws1 H1 locs1 hr ho hk hS1 => by cases hr) (fun E2 ws1 H1 locs1 q9 ce hr hk hS1 hce hcv hcl => ?_)
    cases hr
    exact (F0.1 ws1 H1 locs1 _ _ L hS1).2.2.2 E pc stC' q9 ce rfl hH hce hcv hcl
theorem ex_callV {o ci : Nat} {fs : List Value} (hd : decode M.2.1 pc = .ok (.invokevirtual idx, 3)) (hL : mm_LV M.1.cls idx M' ci n) (hR : mm_rr M M') (hn : as.length = n) (ho : h.1 o = some (.inr (ci, fs))) (hst : (st.map fun v => v.category).sum ≤ 8) (hH : M.2.2.2.2.1 = [])
    (hc : mm_Ct l G M' (.ref o :: as) h Q1) (hstk : stk = as.reverse ++ (.ref o :: st))
    (k : ∀ (ov : Option Value) (h1 : mm_H), Q1 (.inl ov) h1 → mm_Ex l G M Q (pc + 3) ls (ov.toList ++ st) h1) (kx : ∀ (E : String) (h1 : mm_H), Q1 (.inr E) h1 → Q (.inr E) h1) : mm_Ex l G M Q pc ls stk h := by
  refine mm_call hc (by rw [hstk, List.reverse_cons, List.append_assoc]; rfl) hH (fun p e R s m args below meth c A ws H locs cells slots L asC stC r1 h1 X hP hh hs hcat hsz hpre hroom hM => ?_) k kx
  obtain ⟨hLw, hL1, ⟨hL2, hL3, hL4⟩, hL5⟩ := hL
  rw [hLw] at hM
  obtain ⟨V, asC', rfl, ⟨q0, hq0, rfl⟩, hs'⟩ := hs
  obtain ⟨q9, e1, fs', e2, e3, e4⟩ := hh.2 o _ ho
  rw [hq0] at e1
  cases e1
  obtain ⟨a0, E0⟩ := q0
  have e2' : E0 = .inr (ci, fs') := e2
  subst e2'
  cases hv : vwCl[ci]? with
  | none => rw [hv] at hL5; cases hL5
  | some q =>
    rw [hv] at hL5
    have hqc : q.1 = M'.1.cls := Option.some.inj hL5
    have hrec := va_recv X.2.2.2.2.2.1.1 hP hv hq0
    rw [hqc] at hrec
    refine vx_runV (own := M.1.cls) (C := M'.1.cls) (n := n) (As := asC') ⟨X.1, X.2.1, X.2.2.1, X.2.2.2.2.1, X.2.2.2.1⟩ hM (cwV n X.2.2.2.1 (mm_gi hL1) rfl rfl rfl ⟨rfl, hL2, hL3, hL4⟩ ⟨by rw [X.2.2.2.2.2.2.2.2.1]; exact hR.1, by rw [X.2.2.2.2.2.2.2.2.2.1]; exact hR.2⟩) ⟨mm_blind, hrec, hpre⟩ rfl (by rw [hs'.len, hn]) hsz (by rw [List.reverse_cons, List.append_assoc]; rfl) ?_ hd hroom
    exact lv_room (by rw [hcat]; exact hst)
theorem ex_callS (hd : decode M.2.1 pc = .ok (.invokestatic idx, 3)) (hL : mm_LS M.1.cls idx M' n) (hR : mm_rr M M') (hn : as.length = n) (hst : (st.map fun v => v.category).sum ≤ 8) (hH : M.2.2.2.2.1 = [])
    (hc : mm_Ct l G M' as h Q1) (hstk : stk = as.reverse ++ st)
    (k : ∀ (ov : Option Value) (h1 : mm_H), Q1 (.inl ov) h1 → mm_Ex l G M Q (pc + 3) ls (ov.toList ++ st) h1) (kx : ∀ (E : String) (h1 : mm_H), Q1 (.inr E) h1 → Q (.inr E) h1) : mm_Ex l G M Q pc ls stk h := by
  refine mm_call hc hstk hH (fun p e R s m args below meth c A ws H locs cells slots L asC stC r1 h1 X hP hh hs hcat hsz hpre hroom hM => ?_) k kx
  obtain ⟨hLw, hL1, hL2, hL3, hL4⟩ := hL
  rw [hLw] at hM
  refine vx_runS (own := M.1.cls) (n := n) (As := asC) ⟨X.1, X.2.1, X.2.2.1, X.2.2.2.2.1, X.2.2.2.1⟩ hM (va_cwS n X.2.2.2.1 (mm_gi hL1) rfl rfl rfl ⟨hL2, hL3, hL4⟩ ⟨by rw [X.2.2.2.2.2.2.2.2.1]; exact hR.1, by rw [X.2.2.2.2.2.2.2.2.2.1]; exact hR.2⟩) ⟨mm_blind, hpre⟩ rfl (by rw [hs.len, hn]) hsz rfl ?_ hd hroom
  exact lv_room (by rw [hcat]; exact hst)
theorem ex_callSN {host : String} (hd : decode M.2.1 pc = .ok (.invokestatic idx, 3)) (hL : mm_LSN M.1.cls idx M' host n) (hR : mm_rr M M') (hn : as.length = n) (hst : (st.map fun v => v.category).sum ≤ 8) (hH : M.2.2.2.2.1 = [])
    (hc : mm_Ct l G M' as h Q1) (hstk : stk = as.reverse ++ st)
    (k : ∀ (ov : Option Value) (h1 : mm_H), Q1 (.inl ov) h1 → mm_Ex l G M Q (pc + 3) ls (ov.toList ++ st) h1) (kx : ∀ (E : String) (h1 : mm_H), Q1 (.inr E) h1 → Q (.inr E) h1) : mm_Ex l G M Q pc ls stk h := by
  refine mm_call hc hstk hH (fun p e R s m args below meth c A ws H locs cells slots L asC stC r1 h1 X hP hh hs hcat hsz hpre hroom hM => ?_) k kx
  obtain ⟨hLw, hL1, hL2, hL3, hL4, hL5⟩ := hL
  rw [hLw] at hM
  refine vx_runSN (own := M.1.cls) (n := n) (As := asC) ⟨X.1, X.2.1, X.2.2.1, X.2.2.2.2.1, X.2.2.2.1⟩ hM ⟨va_cnB n X.2.2.2.1 (mm_gi hL1) rfl rfl rfl (X.2.2.2.2.2.1.2.2.2.2.2.2 _ hL3) (X.2.2.2.1 _ hL2) hL5 ⟨by rw [X.2.2.2.2.2.2.2.2.1]; exact hR.1, by rw [X.2.2.2.2.2.2.2.2.2.1]; exact hR.2⟩, X.2.2.2.1 _ hL4, trivial⟩ ⟨mm_blind, hpre⟩ rfl (by rw [hs.len, hn]) hsz rfl ?_ hd hroom
  exact lv_room (by rw [hcat]; exact hst)
theorem ex_callI {o : Nat} (hd : decode M.2.1 pc = .ok (.invokespecial idx, 3)) (hL : mm_LI M.1.cls idx M' n) (hR : mm_rr M M') (hn : as.length = n) (hst : (st.map fun v => v.category).sum ≤ 8) (hH : M.2.2.2.2.1 = [])
    (hc : mm_Ct l G M' (.ref o :: as) h Q1) (hstk : stk = as.reverse ++ (.ref o :: st))
    (k : ∀ (ov : Option Value) (h1 : mm_H), Q1 (.inl ov) h1 → mm_Ex l G M Q (pc + 3) ls (ov.toList ++ st) h1) (kx : ∀ (E : String) (h1 : mm_H), Q1 (.inr E) h1 → Q (.inr E) h1) : mm_Ex l G M Q pc ls stk h := by
  refine mm_call hc (by rw [hstk, List.reverse_cons, List.append_assoc]; rfl) hH (fun p e R s m args below meth c A ws H locs cells slots L asC stC r1 h1 X hP hh hs hcat hsz hpre hroom hM => ?_) k kx
  obtain ⟨hLw, hL1, hL2, hL3, hL4, hL5, hL6, hL7⟩ := hL
  rw [hLw] at hM
  obtain ⟨V, asC', rfl, ⟨q0, hq0, rfl⟩, hs'⟩ := hs
  refine vx_runI (own := M.1.cls) (n := n) (As := asC') (b := q0.1) ⟨X.1, X.2.1, X.2.2.1, X.2.2.2.2.1, X.2.2.2.1⟩ hM (cwI n X.2.2.2.1 (mm_gi hL1) (by rw [mm_ws, hL7]) rfl rfl (X.2.2.2.1 _ hL2) (X.2.2.2.1 _ hL3) (X.2.2.2.1 _ hL4) hL5 hL6 ⟨by rw [X.2.2.2.2.2.2.2.2.1]; exact hR.1, by rw [X.2.2.2.2.2.2.2.2.2.1]; exact hR.2⟩) ⟨mm_blind, hpre⟩ rfl (by rw [hs'.len, hn]) hsz (by rw [List.reverse_cons, List.append_assoc]; rfl) ?_ hd hroom
  exact lv_room (by rw [hcat]; exact hst)
theorem ex_callIN {o : Nat} {host : String} (hd : decode M.2.1 pc = .ok (.invokespecial idx, 3)) (hL : mm_LIN M.1.cls idx M' host n) (hR : mm_rr M M') (hn : as.length = n) (hst : (st.map fun v => v.category).sum ≤ 8) (hH : M.2.2.2.2.1 = [])
    (hc : mm_Ct l G M' (.ref o :: as) h Q1) (hstk : stk = as.reverse ++ (.ref o :: st))
    (k : ∀ (ov : Option Value) (h1 : mm_H), Q1 (.inl ov) h1 → mm_Ex l G M Q (pc + 3) ls (ov.toList ++ st) h1) (kx : ∀ (E : String) (h1 : mm_H), Q1 (.inr E) h1 → Q (.inr E) h1) : mm_Ex l G M Q pc ls stk h := by
  refine mm_call hc (by rw [hstk, List.reverse_cons, List.append_assoc]; rfl) hH (fun p e R s m args below meth c A ws H locs cells slots L asC stC r1 h1 X hP hh hs hcat hsz hpre hroom hM => ?_) k kx
  obtain ⟨hLw, hL1, hL2, hL3, hL4, hL5, hL6, hL7⟩ := hL
  rw [hLw] at hM
  obtain ⟨V, asC', rfl, ⟨q0, hq0, rfl⟩, hs'⟩ := hs
  refine vx_runIN (own := M.1.cls) (n := n) (As := asC') (b := q0.1) ⟨X.1, X.2.1, X.2.2.1, X.2.2.2.2.1, X.2.2.2.1⟩ hM ⟨by rw [← hL7]; exact va_cnB n X.2.2.2.1 (mm_gi hL1) rfl rfl rfl (X.2.2.2.2.2.1.2.2.2.2.2.2 _ hL3) (X.2.2.2.1 _ hL2) hL6 ⟨by rw [X.2.2.2.2.2.2.2.2.1]; exact hR.1, by rw [X.2.2.2.2.2.2.2.2.2.1]; exact hR.2⟩, hL5, X.2.2.2.1 _ hL4⟩ ⟨mm_blind, hpre⟩ rfl (by rw [hs'.len, hn]) hsz (by rw [List.reverse_cons, List.append_assoc]; rfl) ?_ hd hroom
  exact lv_room (by rw [hcat]; exact hst)
end MMK
