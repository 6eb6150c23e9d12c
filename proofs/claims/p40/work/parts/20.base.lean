/-! THE PURE PICTURE OF THE MACHINE: a heap of cells at places 0, 1, 2 ..; locals and operands hold places, not addresses; unknown or dropped references are null -/
abbrev mm_E : Type := (FieldType × vp_A) ⊕ (Nat × List Value)
abbrev mm_H : Type := (Nat → Option mm_E) × Nat × Nat × Nat
abbrev mm_R : Type := Option Value ⊕ String
abbrev mm_M : Type := MethodName × ByteArray × Nat × Option FieldType × List (Nat × Nat × Nat × Nat) × Nat × Nat
abbrev mm_A : Type := FieldType → ClassId
/-- the class numbers; the class numbers of arrays; where the three texts lie; the script: its address, length and ints -/
abbrev mm_G : Type := va_G × mm_A × (Nat × Nat × Nat) × (Nat × Nat × (Nat → Int32))
def mm_tys (cA : mm_A) : List (ClassId × FieldType) := [(cA .int, .int), (cA .boolean, .boolean)]
def mm_v (ws : va_W) (v V : Value) : Prop := match v with
  | .ref k => ∃ q : Nat × va_E, ws[k]? = some q ∧ V = .ref q.1
  | .null => V.category = 1
  | .retAddr u => V = .ref u
  | .float _ => ∃ q : Nat, V = .ref q
  | v => V = v
def mm_e (cA : mm_A) (ws : va_W) (e : mm_E) (E : va_E) : Prop := match e with
  | .inl a => E = .inl (cA a.1, a.2)
  | .inr o => ∃ fs : List Value, E = .inr (o.1, fs) ∧ fs.length = o.2.length ∧ ∀ (k : Nat) (v : Value), o.2[k]? = some v → ∃ V, fs[k]? = some V ∧ mm_v ws v V
def mm_h (cA : mm_A) (h : mm_H) (ws : va_W) : Prop := ws.length = h.2.1 ∧ ∀ (k : Nat) (e : mm_E), h.1 k = some e → ∃ q, ws[k]? = some q ∧ mm_e cA ws e q.2
def mm_s (ws : va_W) : List Value → List Value → Prop
  | [], L => L = []
  | v :: l, L => ∃ V L', L = V :: L' ∧ mm_v ws v V ∧ mm_s ws l L'
def mm_l (ws : va_W) (ls : List Value) (L : Array Slot) : Prop := lv_wf L ∧ L.size = ls.length ∧ ∀ (k : Nat) (v : Value), ls[k]? = some v → v.category = 1 → v ≠ .null → ∃ V, L[k]? = some (.val V) ∧ mm_v ws v V ∧ V.category = 1
def mm_k (ws ws' : va_W) : Prop := ∀ (k : Nat) (q : Nat × va_E), ws[k]? = some q → ∃ q', ws'[k]? = some q' ∧ q'.1 = q.1
def mm_set (h : mm_H) (k : Nat) (e : mm_E) : mm_H := (fun j => if j = k then some e else h.1 j, h.2)
def mm_new (h : mm_H) (e : mm_E) (n : Nat) : mm_H := (fun j => if j = h.2.1 then some e else h.1 j, h.2.1 + 1, h.2.2.1 + 1, h.2.2.2 + n)
theorem mm_k.refl (ws : va_W) : mm_k ws ws := fun _ q h => ⟨q, h, rfl⟩
theorem mm_k.trans {a b c : va_W} (h : mm_k a b) (g : mm_k b c) : mm_k a c := fun k q hq => by
  obtain ⟨q1, h1, e1⟩ := h k q hq
  obtain ⟨q2, h2, e2⟩ := g k q1 h1
  exact ⟨q2, h2, e2.trans e1⟩
theorem mm_k.set {ws : va_W} {k a : Nat} {E0 E : va_E} (h : ws[k]? = some (a, E0)) : mm_k ws (ws.set k (a, E)) := fun j q hq => by
  by_cases hj : k = j
  · subst hj
    rw [h] at hq
    cases hq
    exact ⟨(a, E), by rw [List.getElem?_set_self (List.getElem?_eq_some_iff.mp h).1], rfl⟩
  · exact ⟨q, by rw [List.getElem?_set_ne hj]; exact hq, rfl⟩
theorem mm_k.push (ws : va_W) (q : Nat × va_E) : mm_k ws (ws ++ [q]) := fun j r hr => ⟨r, by rw [List.getElem?_append_left (List.getElem?_eq_some_iff.mp hr).1]; exact hr, rfl⟩
theorem mm_v.mono {ws ws' : va_W} (hk : mm_k ws ws') {v V : Value} (h : mm_v ws v V) : mm_v ws' v V := by
  cases v with
  | ref k =>
    obtain ⟨q, h1, h2⟩ := h
    obtain ⟨q', h3, h4⟩ := hk k q h1
    exact ⟨q', h3, by rw [h4]; exact h2⟩
  | _ => exact h
theorem mm_e.mono {cA : mm_A} {ws ws' : va_W} (hk : mm_k ws ws') {e : mm_E} {E : va_E} (h : mm_e cA ws e E) : mm_e cA ws' e E := by
  cases e with
  | inl a => exact h
  | inr o =>
    obtain ⟨fs, h1, h2, h3⟩ := h
    refine ⟨fs, h1, h2, fun k v hv => ?_⟩
    obtain ⟨V, h4, h5⟩ := h3 k v hv
    exact ⟨V, h4, h5.mono hk⟩
theorem mm_s.mono {ws ws' : va_W} (hk : mm_k ws ws') : ∀ {l L : List Value}, mm_s ws l L → mm_s ws' l L
  | [], _, h => h
  | _ :: _, _, ⟨V, L', h1, h2, h3⟩ => ⟨V, L', h1, h2.mono hk, mm_s.mono hk h3⟩
theorem mm_l.mono {ws ws' : va_W} (hk : mm_k ws ws') {ls : List Value} {L : Array Slot} (h : mm_l ws ls L) : mm_l ws' ls L :=
  ⟨h.1, h.2.1, fun k v h1 h2 h3 => by
    obtain ⟨V, a, b, c⟩ := h.2.2 k v h1 h2 h3
    exact ⟨V, a, b.mono hk, c⟩⟩
theorem mm_h.set {cA : mm_A} {h : mm_H} {ws : va_W} {k a : Nat} {e : mm_E} {E0 E : va_E} (hh : mm_h cA h ws) (hw : ws[k]? = some (a, E0)) (he : mm_e cA ws e E) : mm_h cA (mm_set h k e) (ws.set k (a, E)) := by
  have hl := (List.getElem?_eq_some_iff.mp hw).1
  refine ⟨by rw [List.length_set]; exact hh.1, fun j e' hj => ?_⟩
  by_cases hjk : j = k
  · subst hjk
    simp only [mm_set, if_pos rfl] at hj
    cases hj
    exact ⟨(a, E), by rw [List.getElem?_set_self hl], he.mono (mm_k.set hw)⟩
  · simp only [mm_set, if_neg hjk] at hj
    obtain ⟨q, h1, h2⟩ := hh.2 j e' hj
    exact ⟨q, by rw [List.getElem?_set_ne (Ne.symm hjk)]; exact h1, h2.mono (mm_k.set hw)⟩
theorem mm_h.push {cA : mm_A} {h : mm_H} {ws : va_W} {a n : Nat} {e : mm_E} {E : va_E} (hh : mm_h cA h ws) (he : mm_e cA ws e E) : mm_h cA (mm_new h e n) (ws ++ [(a, E)]) := by
  refine ⟨by rw [List.length_append]; show ws.length + 1 = h.2.1 + 1; rw [hh.1], fun j e' hj => ?_⟩
  by_cases hjk : j = h.2.1
  · subst hjk
    simp only [mm_new, if_pos rfl] at hj
    cases hj
    exact ⟨(a, E), by rw [← hh.1, List.getElem?_append_right (Nat.le_refl _), Nat.sub_self]; rfl, he.mono (mm_k.push ws _)⟩
  · simp only [mm_new, if_neg hjk] at hj
    obtain ⟨q, h1, h2⟩ := hh.2 j e' hj
    exact ⟨q, by rw [List.getElem?_append_left (List.getElem?_eq_some_iff.mp h1).1]; exact h1, h2.mono (mm_k.push ws _)⟩
theorem mm_v.cat {ws : va_W} {v V : Value} (h : mm_v ws v V) : V.category = v.category := by
  cases v with
  | ref k => obtain ⟨q, -, h2⟩ := h; rw [h2]; rfl
  | null => exact h
  | retAddr u => rw [show V = _ from h]; rfl
  | float u => obtain ⟨q, h1⟩ := h; rw [h1]; rfl
  | _ => rw [show V = _ from h]
theorem mm_s.cat {ws : va_W} : ∀ {l L : List Value}, mm_s ws l L → (L.map fun v => v.category).sum = (l.map fun v => v.category).sum
  | [], _, h => by rw [show _ = [] from h]
  | _ :: _, _, ⟨V, L', h1, h2, h3⟩ => by
    rw [h1]
    simp only [List.map_cons, List.sum_cons]
    rw [h2.cat, mm_s.cat h3]
theorem mm_s.app {ws : va_W} : ∀ {a b L : List Value}, mm_s ws (a ++ b) L → ∃ A B, L = A ++ B ∧ mm_s ws a A ∧ mm_s ws b B ∧ A.length = a.length
  | [], b, L, h => ⟨[], L, rfl, rfl, h, rfl⟩
  | v :: a, b, L, ⟨V, L', h1, h2, h3⟩ => by
    obtain ⟨A, B, e1, e2, e3, e4⟩ := mm_s.app h3
    exact ⟨V :: A, B, by rw [h1, e1]; rfl, ⟨V, A, rfl, h2, e2⟩, e3, by simp [e4]⟩
theorem mm_s.join {ws : va_W} : ∀ {a b A B : List Value}, mm_s ws a A → mm_s ws b B → mm_s ws (a ++ b) (A ++ B)
  | [], b, A, B, h1, h2 => by rw [show A = [] from h1]; exact h2
  | v :: a, b, A, B, ⟨V, L', h1, h2, h3⟩, h4 => ⟨V, L' ++ B, by rw [h1]; rfl, h2, mm_s.join h3 h4⟩
theorem mm_s.rev {ws : va_W} : ∀ {a A : List Value}, mm_s ws a A → mm_s ws a.reverse A.reverse
  | [], A, h => by rw [show A = [] from h]; exact rfl
  | v :: a, A, ⟨V, L', h1, h2, h3⟩ => by
    rw [h1, List.reverse_cons, List.reverse_cons]
    exact (mm_s.rev h3).join ⟨V, [], rfl, h2, rfl⟩
theorem mm_s.len {ws : va_W} : ∀ {a A : List Value}, mm_s ws a A → A.length = a.length
  | [], A, h => by rw [show A = [] from h]
  | v :: a, A, ⟨V, L', h1, h2, h3⟩ => by rw [h1, List.length_cons, List.length_cons, mm_s.len h3]
theorem mm_s.int {ws : va_W} {x : Int32} {l L : List Value} (h : mm_s ws (.int x :: l) L) : ∃ L', L = .int x :: L' ∧ mm_s ws l L' := by
  obtain ⟨V, L', h1, h2, h3⟩ := h
  rw [show V = .int x from h2] at h1
  exact ⟨L', h1, h3⟩
theorem mm_s.long {ws : va_W} {x : Int64} {l L : List Value} (h : mm_s ws (.long x :: l) L) : ∃ L', L = .long x :: L' ∧ mm_s ws l L' := by
  obtain ⟨V, L', h1, h2, h3⟩ := h
  rw [show V = .long x from h2] at h1
  exact ⟨L', h1, h3⟩
theorem mm_s.ref {ws : va_W} {k : Nat} {l L : List Value} (h : mm_s ws (.ref k :: l) L) : ∃ a E L', ws[k]? = some (a, E) ∧ L = .ref a :: L' ∧ mm_s ws l L' := by
  obtain ⟨V, L', h1, ⟨q, h2, h4⟩, h3⟩ := h
  exact ⟨q.1, q.2, L', h2, by rw [h1, h4], h3⟩
theorem mm_s.pi {ws : va_W} {x : Int32} {l L : List Value} (h : mm_s ws l L) : mm_s ws (.int x :: l) (.int x :: L) := ⟨_, _, rfl, rfl, h⟩
theorem mm_s.pl {ws : va_W} {x : Int64} {l L : List Value} (h : mm_s ws l L) : mm_s ws (.long x :: l) (.long x :: L) := ⟨_, _, rfl, rfl, h⟩
theorem mm_s.pr {ws : va_W} {k a : Nat} {E : va_E} {l L : List Value} (hk : ws[k]? = some (a, E)) (h : mm_s ws l L) : mm_s ws (.ref k :: l) (.ref a :: L) := ⟨_, _, rfl, ⟨_, hk, rfl⟩, h⟩
def mm_isN (w : Cond) : Bool := match w with
  | .methodLinkNest .. => true
  | .castable .. => true
  | .declares .. => true
  | _ => false
def mm_N : List Cond := lw_tbl.filter mm_isN
theorem mm_N_warm {s U : State} (hW : s.WarmedH U.vm) {w : Cond} (hw : w ∈ mm_N) (h : va_Nw w s) : va_Nw w U := by
  have h1 := (List.mem_filter.mp hw).2
  cases w <;> first | exact va_Nw.warmM hW h | exact va_Nw.warmC hW h | exact va_Nw.warmD hW h | (simp [mm_isN] at h1)
theorem mm_N_tab {w : Cond} (hw : w ∈ mm_N) : w.onTables = true := by
  have h1 := (List.mem_filter.mp hw).2
  cases w <;> first | rfl | (simp [mm_isN] at h1)
/-- what the tables say, good for every method -/
def mm_V (G : mm_G) (s : State) : Prop := va_K G.1 vwCl (mm_tys G.2.1) s ∧ vk_R RX8 371 "an argument is out of its range" G.2.2.1.1 s ∧ vk_R RX8 378 "this cannot be done now" G.2.2.1.2.1 s ∧ vk_R RX8 383 "there is none of this number" G.2.2.1.2.2 s ∧ True ∧ True ∧ ∀ w ∈ mm_N, va_Nw w s
theorem mm_V.warm {G : mm_G} {s U : State} (hW : s.WarmedH U.vm) (h : mm_V G s) : mm_V G U :=
  ⟨h.1.moved hW.alike, h.2.1.warm hW, h.2.2.1.warm hW, h.2.2.2.1.warm hW, trivial, trivial, fun w hw => mm_N_warm hW hw (h.2.2.2.2.2.2 w hw)⟩
def mm_W : List Cond := lw_tbl.filter goodWord
def mm_ws (M : mm_M) : List Cond := .code M.1 M.2.1 M.2.2.1 M.2.2.2.1 :: mm_W
def mm_wsH (M : mm_M) : List Cond := .codeWith M.1 M.2.1 M.2.2.1 M.2.2.2.1 M.2.2.2.2.1 :: mm_W
def mm_wsx (M : mm_M) : List Cond := match M.2.2.2.2.1 with
  | [] => mm_ws M
  | _ => mm_wsH M
abbrev mm_Z1 (A : Nat → Prop) (s : State) : Prop := vx_Zq Bundle.tN "UNASSIGNED_STACK" Bundle.steD A s s.heap ∧ vx_Zq Bundle.tN "SUPPRESSED_SENTINEL" Bundle.listD A s s.heap
/-- the script: it stands as it stood -/
def mm_XS (G : mm_G) (A : Nat → Prop) (s : State) (H : Heap) : Prop := va_X G.2.2.2.1 G.2.2.2.2.1 G.2.2.2.2.2 s H ∧ G.2.2.2.1 < H.size ∧ ¬ A G.2.2.2.1
/-- what holds of the machine in a method's body -/
def mm_X (G : mm_G) (M : mm_M) (p : Program) (R : Room) (s : State) (m : MethodId) (args : Array Value) (meth : Method) (c : Code) (A : Nat → Prop) : Prop :=
  p.tables.exec = Jvm.exec ∧ c.code = M.2.1 ∧ c.maxLocals = M.2.2.1 ∧ (∀ w ∈ mm_W, w.before args s = true) ∧ s.vm.findClass M.1.cls = some m.cls ∧ mm_V G s ∧ (∀ q, s.heap.size ≤ q → A q) ∧ mm_Z1 A s ∧ R.frames = M.2.2.2.2.2.1 ∧ R.locals = M.2.2.2.2.2.2 ∧ (¬ M.1.name = "law" → c.exceptionTable.toList = tableOf M.2.2.2.2.1 ∧ meth.name = M.1.name) ∧ mm_XS G A s s.heap
/-- how the pure heap h stands for the cells H; h' is the heap at the end -/
def mm_S (G : mm_G) (R : Room) (s : State) (A : Nat → Prop) (ws0 : va_W) (h h' : mm_H) (ws : va_W) (H : Heap) (locs : List Loc) (cells slots : Nat) : Prop :=
  va_P G.1 vwCl ws H ∧ va_D A ws ∧ va_S A s.heap H locs ∧ mm_h G.2.1 h ws ∧ mm_k ws0 ws ∧ cells + h'.2.2.1 ≤ R.cells + h.2.2.1 ∧ slots + h'.2.2.2 ≤ R.slots + h.2.2.2
abbrev mm_chain : List String := ["java/lang/RuntimeException", "java/lang/Exception"]
/-- at pc the method M makes an exception of the class cls and throws it -/
def mm_Th (G : mm_G) (M : mm_M) (pc : Nat) (cls : String) : Prop := ∃ (ik is ic : Nat) (text : String) (sa : Nat),
  decode M.2.1 pc = .ok (.new ik, 3) ∧ decode M.2.1 (pc + 3) = .ok (.dup, 1) ∧ decode M.2.1 (pc + 4) = .ok (.ldc_w is, 3) ∧ decode M.2.1 (pc + 7) = .ok (.invokespecial ic, 3) ∧ decode M.2.1 (pc + 10) = .ok (.athrow, 1) ∧
  Bundle.fit cls = true ∧ Cond.classLink M.1.cls ik cls ∈ mm_W ∧ Cond.initialized cls ∈ mm_W ∧ (∀ w ∈ (vx_atS M.1.cls ic cls mm_chain).filter goodWord, w ∈ mm_W) ∧ (∀ w ∈ (vx_atS M.1.cls ic cls mm_chain).filter (fun w => !goodWord w), w ∈ mm_N) ∧ (∀ w ∈ Cond.classLink M.1.cls ik cls :: Cond.initialized cls :: vx_atS M.1.cls ic cls mm_chain, vx_ot w = true) ∧
  (∀ s : State, mm_V G s → vk_R M.1.cls is text sa s) ∧ M.2.2.2.2.1 = [] ∧ 5 < M.2.2.2.2.2.1 ∧ 82 ≤ M.2.2.2.2.2.2
/-- what the ends of a method's body must come to -/
def mm_F (G : mm_G) (M : mm_M) (p : Program) (l : Launch) (e : Env) (R : Room) (s : State) (m : MethodId) (args : Array Value) (below : List Frame) (meth : Method) (c : Code) (A : Nat → Prop) (ws0 : va_W) (r : mm_R) (h' : mm_H) (Z : State → Prop) : Prop :=
  (∀ (ws : va_W) (H : Heap) (locs : List Loc) (cells slots : Nat) (L : Array Slot), mm_S G R s A ws0 h' h' ws H locs cells slots →
    (∀ (x : Int32) (pc : Nat), r = .inl (some (.int x)) → (∃ ty, M.2.2.2.1 = some ty ∧ narrow ty (.int x) = .int x) → decode M.2.1 pc = .ok (.ireturn, 1) → W p l e R s m args below meth c H locs cells slots Z (F0 m pc L [.int x])) ∧
    (∀ (k a : Nat) (E : va_E) (pc : Nat), r = .inl (some (.ref k)) → ws[k]? = some (a, E) → (∃ t, M.2.2.2.1 = some (.array t)) → decode M.2.1 pc = .ok (.areturn, 1) → W p l e R s m args below meth c H locs cells slots Z (F0 m pc L [.ref a])) ∧
    (∀ (pc : Nat), r = .inl none → M.2.2.2.1 = none → decode M.2.1 pc = .ok (.return_, 1) → W p l e R s m args below meth c H locs cells slots Z (F0 m pc L [])) ∧
    (∀ (E : String) (pc : Nat) (rest : List Value) (q : Addr) (ce : Cell), r = .inr E → M.2.2.2.2.1 = [] → H[q]? = some ce → ce.vm = .none → s.vm.findClass E = some ce.cls → vx_W p l e R s m args below meth c H locs cells slots Z (F0 m pc L rest) q)) ∧
  (∀ (E : String) (pc : Nat) (h : mm_H) (ws : va_W) (H : Heap) (locs : List Loc) (cells slots : Nat) (L : Array Slot), l.stackTraces = false → r = .inr E → h' = (h.1, h.2.1, h.2.2.1 + 1, h.2.2.2 + 6) → mm_Th G M pc E → mm_S G R s A ws0 h h' ws H locs cells slots → L.size = c.maxLocals → W p l e R s m args below meth c H locs cells slots Z (F0 m pc L []))
/-- from the place pc of the method M, with these locals, operands and heap, M comes to the end r with the heap h' -/
def mm_Go (l : Launch) (G : mm_G) (M : mm_M) (r : mm_R) (h' : mm_H) (pc : Nat) (ls st : List Value) (h : mm_H) : Prop :=
  h.2.2.1 ≤ h'.2.2.1 ∧ h.2.2.2 ≤ h'.2.2.2 ∧
  ∀ (p : Program) (e : Env) (R : Room) (s : State) (m : MethodId) (args : Array Value) (below : List Frame) (meth : Method) (c : Code) (A : Nat → Prop) (ws0 : va_W) (Z : State → Prop),
    mm_X G M p R s m args meth c A → mm_F G M p l e R s m args below meth c A ws0 r h' Z →
    ∀ (ws : va_W) (H : Heap) (locs : List Loc) (cells slots : Nat) (L : Array Slot) (stC : List Value),
      mm_S G R s A ws0 h h' ws H locs cells slots → mm_l ws ls L → ls.length = M.2.2.1 → mm_s ws st stC → W p l e R s m args below meth c H locs cells slots Z (F0 m pc L stC)
/-- what a caller may take of the method M: on these arguments and this heap it ends as r, with the heap h' -/
def mm_P (G : mm_G) (ws0 : va_W) (sz : Nat) : State → Prop := fun U => U.heap.size = sz ∧ va_P G.1 vwCl ws0 U.heap ∧ va_D (fun _ => True) ws0 ∧ mm_V G U ∧ mm_Z1 (va_A ws0 sz) U ∧ mm_XS G (va_A ws0 sz) U U.heap
def mm_o (ws : va_W) (v V : Option Value) : Prop := match v with
  | none => V = none
  | some v => ∃ W, V = some W ∧ mm_v ws v W
def mm_Q (G : mm_G) (ws0 : va_W) (sz : Nat) (r : mm_R) (h' : mm_H) : Array Value → State → Outcome → State → Prop := fun _ st oc t =>
  (∃ (v V : Option Value) (ws : va_W), r = .inl v ∧ oc = .returned V ∧ mm_o ws v V ∧ mm_k ws0 ws ∧ va_P G.1 vwCl ws t.heap ∧ va_D (va_A ws0 sz) ws ∧ mm_h G.2.1 h' ws) ∧ va_F (va_A ws0 sz) st t
def mm_XC (G : mm_G) (ws0 : va_W) (sz : Nat) (r : mm_R) (h' : mm_H) : String → State → State → Prop := fun E st t =>
  (∃ ws : va_W, r = .inr E ∧ mm_k ws0 ws ∧ va_P G.1 vwCl ws t.heap ∧ va_D (va_A ws0 sz) ws ∧ mm_h G.2.1 h' ws) ∧ va_F (va_A ws0 sz) st t
def mm_rm (M : mm_M) (h h' : mm_H) : Room := { frames := M.2.2.2.2.2.1, cells := h'.2.2.1 - h.2.2.1, slots := h'.2.2.2 - h.2.2.2, locals := M.2.2.2.2.2.2 }
def mm_Met (l : Launch) (G : mm_G) (M : mm_M) (as : List Value) (h : mm_H) (r : mm_R) (h' : mm_H) : Prop :=
  h.2.2.1 ≤ h'.2.2.1 ∧ h.2.2.2 ≤ h'.2.2.2 ∧ ∀ (ws0 : va_W) (sz : Nat) (asC : List Value), mm_h G.2.1 h ws0 → mm_s ws0 as asC →
    vx_Met l M.1 (mm_wsx M) (mm_rm M h h') (va_Pc asC (mm_P G ws0 sz)) (mm_Q G ws0 sz r h') (mm_XC G ws0 sz r h') (h'.2.2.1 - h.2.2.1) (h'.2.2.2 - h.2.2.2) (va_A ws0 sz)

