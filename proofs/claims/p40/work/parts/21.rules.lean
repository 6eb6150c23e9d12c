/-- existential form: the method comes to some end with Q -/
def mm_Ex (l : Launch) (G : mm_G) (M : mm_M) (Q : mm_R → mm_H → Prop) (pc : Nat) (ls st : List Value) (h : mm_H) : Prop := ∃ r h', mm_Go l G M r h' pc ls st h ∧ Q r h'
def mm_Ct (l : Launch) (G : mm_G) (M : mm_M) (as : List Value) (h : mm_H) (Q : mm_R → mm_H → Prop) : Prop := ∃ r h', mm_Met l G M as h r h' ∧ Q r h'
section MMR
variable {l : Launch} {G : mm_G} {M : mm_M} {Q : mm_R → mm_H → Prop} {pc pc' : Nat} {ls st st' : List Value} {h : mm_H}
theorem mm_ex1 (k : mm_Ex l G M Q pc' ls st' h) (F : ∀ (p : Program) (e : Env) (R : Room) (s : State) (m : MethodId) (args : Array Value) (below : List Frame) (meth : Method) (c : Code) (A : Nat → Prop) (Z : State → Prop) (ws : va_W) (H : Heap) (locs : List Loc) (cells slots : Nat) (L : Array Slot) (stC : List Value),
    mm_X G M p R s m args meth c A → mm_l ws ls L → mm_s ws st stC → ∃ stC', mm_s ws st' stC' ∧ (W p l e R s m args below meth c H locs cells slots Z (F0 m pc' L stC') → W p l e R s m args below meth c H locs cells slots Z (F0 m pc L stC))) : mm_Ex l G M Q pc ls st h := by
  obtain ⟨r, h', ⟨k1, k2, k3⟩, q⟩ := k
  refine ⟨r, h', ⟨k1, k2, fun p e R s m args below meth c A ws0 Z X F0 ws H locs cells slots L stC hS hl hn hs => ?_⟩, q⟩
  obtain ⟨stC', h1, h2⟩ := F p e R s m args below meth c A Z ws H locs cells slots L stC X hl hs
  exact h2 (k3 p e R s m args below meth c A ws0 Z X F0 ws H locs cells slots L stC' hS hl hn h1)
theorem ex_iconst {n : Int} {v : Int32} (hd : decode M.2.1 pc = .ok (.iconst n, 1)) (hv : Int32.ofInt n = v) (k : mm_Ex l G M Q (pc + 1) ls (.int v :: st) h) : mm_Ex l G M Q pc ls st h :=
  mm_ex1 k (fun p e R s m args below meth c A Z ws H locs cells slots L stC X hl hs => ⟨_, hs.pi, fun w => lv_iconst X.1 X.2.1 hd hv w⟩)
theorem ex_bipush {n : Int} {v : Int32} (hd : decode M.2.1 pc = .ok (.bipush n, 2)) (hv : (Int8.ofInt n).toInt32 = v) (k : mm_Ex l G M Q (pc + 2) ls (.int v :: st) h) : mm_Ex l G M Q pc ls st h :=
  mm_ex1 k (fun p e R s m args below meth c A Z ws H locs cells slots L stC X hl hs => ⟨_, hs.pi, fun w => lv_bipush X.1 X.2.1 hd hv w⟩)
theorem ex_sipush {n : Int} {v : Int32} (hd : decode M.2.1 pc = .ok (.sipush n, 3)) (hv : (Int16.ofInt n).toInt32 = v) (k : mm_Ex l G M Q (pc + 3) ls (.int v :: st) h) : mm_Ex l G M Q pc ls st h :=
  mm_ex1 k (fun p e R s m args below meth c A Z ws H locs cells slots L stC X hl hs => ⟨_, hs.pi, fun w => lv_sipush X.1 X.2.1 hd hv w⟩)
theorem ex_lconst {n : Fin 2} {v : Int64} (hd : decode M.2.1 pc = .ok (.lconst n, 1)) (hv : Int64.ofNat (n : Nat) = v) (k : mm_Ex l G M Q (pc + 1) ls (.long v :: st) h) : mm_Ex l G M Q pc ls st h :=
  mm_ex1 k (fun p e R s m args below meth c A Z ws H locs cells slots L stC X hl hs => ⟨_, hs.pl, fun w => lv_lconst X.1 X.2.1 hd hv w⟩)
theorem ex_ldc {i : Nat} {v : Int32} (hd : decode M.2.1 pc = .ok (.ldc i, 2)) (hc : Cond.constant M.1.cls i v ∈ mm_W) (k : mm_Ex l G M Q (pc + 2) ls (.int v :: st) h) : mm_Ex l G M Q pc ls st h :=
  mm_ex1 k (fun p e R s m args below meth c A Z ws H locs cells slots L stC X hl hs => ⟨_, hs.pi, fun w => lv_ldc X.1 X.2.1 X.2.2.2.2.1 (X.2.2.2.1 _ hc) hd w⟩)
theorem ex_ldcw {i : Nat} {v : Int32} (hd : decode M.2.1 pc = .ok (.ldc_w i, 3)) (hc : Cond.constant M.1.cls i v ∈ mm_W) (k : mm_Ex l G M Q (pc + 3) ls (.int v :: st) h) : mm_Ex l G M Q pc ls st h :=
  mm_ex1 k (fun p e R s m args below meth c A Z ws H locs cells slots L stC X hl hs => ⟨_, hs.pi, fun w => lv_ldcw X.1 X.2.1 X.2.2.2.2.1 (X.2.2.2.1 _ hc) hd w⟩)
theorem mm_l.geti {ws : va_W} {L : Array Slot} (hl : mm_l ws ls L) {i : Nat} {x : Int32} (hv : ls[i]? = some (.int x)) : L[i]? = some (.val (.int x)) := by
  obtain ⟨V, h1, h2, -⟩ := hl.2.2 i _ hv rfl (by simp)
  rw [h1, show V = .int x from h2]
theorem mm_l.getr {ws : va_W} {L : Array Slot} (hl : mm_l ws ls L) {i k : Nat} (hv : ls[i]? = some (.ref k)) : ∃ a E, ws[k]? = some (a, E) ∧ L[i]? = some (.val (.ref a)) := by
  obtain ⟨V, h1, ⟨q, h2, h3⟩, -⟩ := hl.2.2 i _ hv rfl (by simp)
  exact ⟨q.1, q.2, h2, by rw [h1, h3]⟩
theorem ex_iload_n {n : Fin 4} {x : Int32} (hd : decode M.2.1 pc = .ok (.iload_n n, 1)) (hv : ls[(n : Nat)]? = some (.int x)) (k : mm_Ex l G M Q (pc + 1) ls (.int x :: st) h) : mm_Ex l G M Q pc ls st h :=
  mm_ex1 k (fun p e R s m args below meth c A Z ws H locs cells slots L stC X hl hs => ⟨_, hs.pi, fun w => lv_iload_n X.1 X.2.1 hd rfl (hl.geti hv) w⟩)
theorem ex_iload {i : Nat} {x : Int32} (hd : decode M.2.1 pc = .ok (.iload i, 2)) (hv : ls[i]? = some (.int x)) (k : mm_Ex l G M Q (pc + 2) ls (.int x :: st) h) : mm_Ex l G M Q pc ls st h :=
  mm_ex1 k (fun p e R s m args below meth c A Z ws H locs cells slots L stC X hl hs => ⟨_, hs.pi, fun w => lv_iload X.1 X.2.1 hd (hl.geti hv) w⟩)
theorem ex_aload_n {n : Fin 4} {x : Nat} (hd : decode M.2.1 pc = .ok (.aload_n n, 1)) (hv : ls[(n : Nat)]? = some (.ref x)) (k : mm_Ex l G M Q (pc + 1) ls (.ref x :: st) h) : mm_Ex l G M Q pc ls st h :=
  mm_ex1 k (fun p e R s m args below meth c A Z ws H locs cells slots L stC X hl hs => by
    obtain ⟨a, E, h1, h2⟩ := hl.getr hv
    exact ⟨_, hs.pr h1, fun w => lv_aload_n X.1 X.2.1 hd rfl h2 w⟩)
theorem ex_aload {i : Nat} {x : Nat} (hd : decode M.2.1 pc = .ok (.aload i, 2)) (hv : ls[i]? = some (.ref x)) (k : mm_Ex l G M Q (pc + 2) ls (.ref x :: st) h) : mm_Ex l G M Q pc ls st h :=
  mm_ex1 k (fun p e R s m args below meth c A Z ws H locs cells slots L stC X hl hs => by
    obtain ⟨a, E, h1, h2⟩ := hl.getr hv
    exact ⟨_, hs.pr h1, fun w => lv_aload X.1 X.2.1 hd h2 w⟩)
theorem ex_aload_x {n : Fin 4} {u : Nat} (hd : decode M.2.1 pc = .ok (.aload_n n, 1)) (hv : ls[(n : Nat)]? = some (.retAddr u)) (k : mm_Ex l G M Q (pc + 1) ls (.retAddr u :: st) h) : mm_Ex l G M Q pc ls st h :=
  mm_ex1 k (fun p e R s m args below meth c A Z ws H locs cells slots L stC X hl hs => by
    obtain ⟨V, h1, h2, -⟩ := hl.2.2 _ _ hv rfl (by simp)
    rw [show V = .ref u from h2] at h1
    exact ⟨_, ⟨_, _, rfl, rfl, hs⟩, fun w => lv_aload_n X.1 X.2.1 hd rfl h1 w⟩)
theorem ex_iadd {x y : Int32} (hd : decode M.2.1 pc = .ok (.iadd, 1)) (k : mm_Ex l G M Q (pc + 1) ls (.int (x + y) :: st) h) : mm_Ex l G M Q pc ls (.int y :: .int x :: st) h :=
  mm_ex1 k (fun p e R s m args below meth c A Z ws H locs cells slots L stC X hl hs => by
    obtain ⟨_, rfl, hs1⟩ := hs.int; obtain ⟨_, rfl, hs2⟩ := hs1.int
    exact ⟨_, hs2.pi, fun w => lv_iadd X.1 X.2.1 hd w⟩)
theorem ex_isub {x y : Int32} (hd : decode M.2.1 pc = .ok (.isub, 1)) (k : mm_Ex l G M Q (pc + 1) ls (.int (x - y) :: st) h) : mm_Ex l G M Q pc ls (.int y :: .int x :: st) h :=
  mm_ex1 k (fun p e R s m args below meth c A Z ws H locs cells slots L stC X hl hs => by
    obtain ⟨_, rfl, hs1⟩ := hs.int; obtain ⟨_, rfl, hs2⟩ := hs1.int
    exact ⟨_, hs2.pi, fun w => lv_isub X.1 X.2.1 hd w⟩)
theorem ex_imul {x y : Int32} (hd : decode M.2.1 pc = .ok (.imul, 1)) (k : mm_Ex l G M Q (pc + 1) ls (.int (x * y) :: st) h) : mm_Ex l G M Q pc ls (.int y :: .int x :: st) h :=
  mm_ex1 k (fun p e R s m args below meth c A Z ws H locs cells slots L stC X hl hs => by
    obtain ⟨_, rfl, hs1⟩ := hs.int; obtain ⟨_, rfl, hs2⟩ := hs1.int
    exact ⟨_, hs2.pi, fun w => lv_imul X.1 X.2.1 hd w⟩)
theorem ex_iand {x y : Int32} (hd : decode M.2.1 pc = .ok (.iand, 1)) (k : mm_Ex l G M Q (pc + 1) ls (.int (x &&& y) :: st) h) : mm_Ex l G M Q pc ls (.int y :: .int x :: st) h :=
  mm_ex1 k (fun p e R s m args below meth c A Z ws H locs cells slots L stC X hl hs => by
    obtain ⟨_, rfl, hs1⟩ := hs.int; obtain ⟨_, rfl, hs2⟩ := hs1.int
    exact ⟨_, hs2.pi, fun w => lv_iand X.1 X.2.1 hd w⟩)
theorem ex_ior {x y : Int32} (hd : decode M.2.1 pc = .ok (.ior, 1)) (k : mm_Ex l G M Q (pc + 1) ls (.int (x ||| y) :: st) h) : mm_Ex l G M Q pc ls (.int y :: .int x :: st) h :=
  mm_ex1 k (fun p e R s m args below meth c A Z ws H locs cells slots L stC X hl hs => by
    obtain ⟨_, rfl, hs1⟩ := hs.int; obtain ⟨_, rfl, hs2⟩ := hs1.int
    exact ⟨_, hs2.pi, fun w => lv_ior X.1 X.2.1 hd w⟩)
theorem ex_ishl {x y : Int32} (hd : decode M.2.1 pc = .ok (.ishl, 1)) (k : mm_Ex l G M Q (pc + 1) ls (.int (x <<< (y &&& 31)) :: st) h) : mm_Ex l G M Q pc ls (.int y :: .int x :: st) h :=
  mm_ex1 k (fun p e R s m args below meth c A Z ws H locs cells slots L stC X hl hs => by
    obtain ⟨_, rfl, hs1⟩ := hs.int; obtain ⟨_, rfl, hs2⟩ := hs1.int
    exact ⟨_, hs2.pi, fun w => lv_ishl X.1 X.2.1 hd w⟩)
theorem ex_ishr {x y : Int32} (hd : decode M.2.1 pc = .ok (.ishr, 1)) (k : mm_Ex l G M Q (pc + 1) ls (.int (x >>> (y &&& 31)) :: st) h) : mm_Ex l G M Q pc ls (.int y :: .int x :: st) h :=
  mm_ex1 k (fun p e R s m args below meth c A Z ws H locs cells slots L stC X hl hs => by
    obtain ⟨_, rfl, hs1⟩ := hs.int; obtain ⟨_, rfl, hs2⟩ := hs1.int
    exact ⟨_, hs2.pi, fun w => lv_ishr X.1 X.2.1 hd w⟩)
theorem ex_idiv {x y : Int32} (hd : decode M.2.1 pc = .ok (.idiv, 1)) (hy : ¬ y = 0) (k : mm_Ex l G M Q (pc + 1) ls (.int (x / y) :: st) h) : mm_Ex l G M Q pc ls (.int y :: .int x :: st) h :=
  mm_ex1 k (fun p e R s m args below meth c A Z ws H locs cells slots L stC X hl hs => by
    obtain ⟨_, rfl, hs1⟩ := hs.int; obtain ⟨_, rfl, hs2⟩ := hs1.int
    exact ⟨_, hs2.pi, fun w => lv_idiv X.1 X.2.1 hd hy w⟩)
theorem ex_irem {x y : Int32} (hd : decode M.2.1 pc = .ok (.irem, 1)) (hy : ¬ y = 0) (k : mm_Ex l G M Q (pc + 1) ls (.int (x - x / y * y) :: st) h) : mm_Ex l G M Q pc ls (.int y :: .int x :: st) h :=
  mm_ex1 k (fun p e R s m args below meth c A Z ws H locs cells slots L stC X hl hs => by
    obtain ⟨_, rfl, hs1⟩ := hs.int; obtain ⟨_, rfl, hs2⟩ := hs1.int
    exact ⟨_, hs2.pi, fun w => lv_irem X.1 X.2.1 hd hy w⟩)
theorem ex_ineg {x : Int32} (hd : decode M.2.1 pc = .ok (.ineg, 1)) (k : mm_Ex l G M Q (pc + 1) ls (.int (-x) :: st) h) : mm_Ex l G M Q pc ls (.int x :: st) h :=
  mm_ex1 k (fun p e R s m args below meth c A Z ws H locs cells slots L stC X hl hs => by
    obtain ⟨_, rfl, hs1⟩ := hs.int
    exact ⟨_, hs1.pi, fun w => lv_ineg X.1 X.2.1 hd w⟩)
theorem ex_ladd {x y : Int64} (hd : decode M.2.1 pc = .ok (.ladd, 1)) (k : mm_Ex l G M Q (pc + 1) ls (.long (x + y) :: st) h) : mm_Ex l G M Q pc ls (.long y :: .long x :: st) h :=
  mm_ex1 k (fun p e R s m args below meth c A Z ws H locs cells slots L stC X hl hs => by
    obtain ⟨_, rfl, hs1⟩ := hs.long; obtain ⟨_, rfl, hs2⟩ := hs1.long
    exact ⟨_, hs2.pl, fun w => lv_ladd X.1 X.2.1 hd w⟩)
theorem ex_lcmp {x y : Int64} (hd : decode M.2.1 pc = .ok (.lcmp, 1)) (k : mm_Ex l G M Q (pc + 1) ls (.int (lg_cmp x y) :: st) h) : mm_Ex l G M Q pc ls (.long y :: .long x :: st) h :=
  mm_ex1 k (fun p e R s m args below meth c A Z ws H locs cells slots L stC X hl hs => by
    obtain ⟨_, rfl, hs1⟩ := hs.long; obtain ⟨_, rfl, hs2⟩ := hs1.long
    exact ⟨_, hs2.pi, fun w => W.lcmp X.1 X.2.1 hd w⟩)
theorem ex_i2l {x : Int32} (hd : decode M.2.1 pc = .ok (.i2l, 1)) (k : mm_Ex l G M Q (pc + 1) ls (.long x.toInt64 :: st) h) : mm_Ex l G M Q pc ls (.int x :: st) h :=
  mm_ex1 k (fun p e R s m args below meth c A Z ws H locs cells slots L stC X hl hs => by
    obtain ⟨_, rfl, hs1⟩ := hs.int
    exact ⟨_, hs1.pl, fun w => lv_i2l X.1 X.2.1 hd rfl w⟩)
theorem ex_l2i {x : Int64} (hd : decode M.2.1 pc = .ok (.l2i, 1)) (k : mm_Ex l G M Q (pc + 1) ls (.int x.toInt32 :: st) h) : mm_Ex l G M Q pc ls (.long x :: st) h :=
  mm_ex1 k (fun p e R s m args below meth c A Z ws H locs cells slots L stC X hl hs => by
    obtain ⟨_, rfl, hs1⟩ := hs.long
    exact ⟨_, hs1.pi, fun w => lv_l2i X.1 X.2.1 hd rfl w⟩)
theorem ex_dup {v : Value} (hd : decode M.2.1 pc = .ok (.dup, 1)) (hv : v.category = 1) (k : mm_Ex l G M Q (pc + 1) ls (v :: v :: st) h) : mm_Ex l G M Q pc ls (v :: st) h :=
  mm_ex1 k (fun p e R s m args below meth c A Z ws H locs cells slots L stC X hl hs => by
    obtain ⟨V, _, rfl, h2, hs1⟩ := hs
    exact ⟨_, ⟨V, _, rfl, h2, V, _, rfl, h2, hs1⟩, fun w => lv_dup X.1 X.2.1 hd (by rw [h2.cat, hv]) w⟩)
theorem ex_pop {v : Value} (hd : decode M.2.1 pc = .ok (.pop, 1)) (hv : v.category = 1) (k : mm_Ex l G M Q (pc + 1) ls st h) : mm_Ex l G M Q pc ls (v :: st) h :=
  mm_ex1 k (fun p e R s m args below meth c A Z ws H locs cells slots L stC X hl hs => by
    obtain ⟨V, _, rfl, h2, hs1⟩ := hs
    exact ⟨_, hs1, fun w => lv_pop X.1 X.2.1 hd (by rw [h2.cat, hv]) w⟩)
theorem ex_dup2 {v v2 : Value} (hd : decode M.2.1 pc = .ok (.dup2, 1)) (hv : v.category = 1) (hv2 : v2.category = 1) (k : mm_Ex l G M Q (pc + 1) ls (v :: v2 :: v :: v2 :: st) h) : mm_Ex l G M Q pc ls (v :: v2 :: st) h :=
  mm_ex1 k (fun p e R s m args below meth c A Z ws H locs cells slots L stC X hl hs => by
    obtain ⟨V, _, rfl, h2, V2, _, rfl, h3, hs1⟩ := hs
    exact ⟨_, ⟨V, _, rfl, h2, V2, _, rfl, h3, V, _, rfl, h2, V2, _, rfl, h3, hs1⟩, fun w => lv_dup2_11 X.1 X.2.1 hd (by rw [h2.cat, hv]) (by rw [h3.cat, hv2]) w⟩)
theorem ex_goto {off : Int} {tgt : Nat} (hd : decode M.2.1 pc = .ok (.goto off, 3)) (ht : (pc : Int) + off = (tgt : Int)) (k : mm_Ex l G M Q tgt ls st h) : mm_Ex l G M Q pc ls st h :=
  mm_ex1 k (fun p e R s m args below meth c A Z ws H locs cells slots L stC X hl hs => ⟨_, hs, fun w => lv_goto X.1 X.2.1 hd ht w⟩)
end MMR
