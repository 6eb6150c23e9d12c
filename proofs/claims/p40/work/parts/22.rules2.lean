def mm_lv (L : Array Slot) (n : Nat) : List (Nat × Value) := (List.range n).filterMap (fun k => match (L[k]? : Option Slot) with
  | some (Slot.val V) => if V.category = 1 then some (k, V) else none
  | _ => none)
theorem mm_lv_mem {L : Array Slot} {n k : Nat} {V : Value} : (k, V) ∈ mm_lv L n ↔ k < n ∧ L[k]? = some (.val V) ∧ V.category = 1 := by
  simp only [mm_lv, List.mem_filterMap, List.mem_range]
  constructor
  · rintro ⟨j, hj, he⟩
    cases hL : L[j]? with
    | none => simp [hL] at he
    | some x =>
      cases x with
      | val W =>
        simp only [hL] at he
        by_cases hc : W.category = 1
        · rw [if_pos hc] at he
          cases he
          exact ⟨hj, hL, hc⟩
        · rw [if_neg hc] at he
          cases he
      | _ => simp [hL] at he
  · rintro ⟨h1, h2, h3⟩
    exact ⟨k, h1, by simp [h2, h3]⟩
theorem mm_l.has {ws : va_W} {ls : List Value} {L : Array Slot} (hl : mm_l ws ls L) {n : Nat} (hn : ls.length = n) : lv_has L n (mm_lv L n) :=
  ⟨by rw [hl.2.1, hn], hl.1, fun q hq => (mm_lv_mem.mp (show (q.1, q.2) ∈ _ from hq)).2.1⟩
theorem mm_l.back {ws : va_W} {ls : List Value} {L L' : Array Slot} (hl : mm_l ws ls L) {i n : Nat} {v V : Value} (hn : ls.length = n) (h : lv_has L' n ((i, V) :: (mm_lv L n).filter (fun q => !(q.1 == i) && !(q.1 + 1 == i && q.2.category == 2)))) (hV : mm_v ws v V) (hc : v.category = 1) : mm_l ws (ls.set i v) L' := by
  refine ⟨h.2.1, by rw [h.1, List.length_set, hn], fun k u hk hu hu2 => ?_⟩
  by_cases hik : i = k
  · subst hik
    have hlt : i < ls.length := by
      have := (List.getElem?_eq_some_iff.mp hk).1
      rwa [List.length_set] at this
    rw [List.getElem?_set_self hlt] at hk
    cases hk
    exact ⟨V, h.2.2 (i, V) List.mem_cons_self, hV, by rw [hV.cat, hc]⟩
  · rw [List.getElem?_set_ne hik] at hk
    obtain ⟨U, h1, h2, h3⟩ := hl.2.2 k u hk hu hu2
    refine ⟨U, h.2.2 (k, U) (List.mem_cons_of_mem _ (List.mem_filter.mpr ⟨mm_lv_mem.mpr ⟨?_, h1, h3⟩, ?_⟩)), h2, h3⟩
    · rw [← hn]; exact (List.getElem?_eq_some_iff.mp hk).1
    · have e1 : (k == i) = false := by simp [Ne.symm hik]
      simp [e1, h3]
section MMR2
variable {l : Launch} {G : mm_G} {M : mm_M} {Q : mm_R → mm_H → Prop} {pc pc' : Nat} {ls ls' st st' : List Value} {h h2 : mm_H}
theorem mm_exL (k : mm_Ex l G M Q pc' ls' st' h) (hlen : ls'.length = ls.length) (F : ∀ (p : Program) (e : Env) (R : Room) (s : State) (m : MethodId) (args : Array Value) (below : List Frame) (meth : Method) (c : Code) (A : Nat → Prop) (Z : State → Prop) (ws : va_W) (H : Heap) (locs : List Loc) (cells slots : Nat) (L : Array Slot) (stC : List Value),
    mm_X G M p R s m args meth c A → mm_l ws ls L → mm_s ws st stC → ls.length = M.2.2.1 → (∀ (L' : Array Slot) (stC' : List Value), mm_l ws ls' L' → mm_s ws st' stC' → W p l e R s m args below meth c H locs cells slots Z (F0 m pc' L' stC')) → W p l e R s m args below meth c H locs cells slots Z (F0 m pc L stC)) : mm_Ex l G M Q pc ls st h := by
  obtain ⟨r, h', ⟨k1, k2, k3⟩, q⟩ := k
  refine ⟨r, h', ⟨k1, k2, fun p e R s m args below meth c A ws0 Z X F0 ws H locs cells slots L stC hS hl hn hs => ?_⟩, q⟩
  exact F p e R s m args below meth c A Z ws H locs cells slots L stC X hl hs hn (fun L' stC' h1 h2 => k3 p e R s m args below meth c A ws0 Z X F0 ws H locs cells slots L' stC' hS h1 (hlen.trans hn) h2)
theorem ex_istore_n {n : Fin 4} {x : Int32} (hd : decode M.2.1 pc = .ok (.istore_n n, 1)) (hi : (n : Nat) < ls.length) (k : mm_Ex l G M Q (pc + 1) (ls.set (n : Nat) (.int x)) st h) : mm_Ex l G M Q pc ls (.int x :: st) h :=
  mm_exL k (by simp) (fun p e R s m args below meth c A Z ws H locs cells slots L stC X hl hs hn w => by
    obtain ⟨_, rfl, hs1⟩ := hs.int
    exact lv_istore_n X.1 X.2.1 hd rfl (hl.has rfl) hi rfl (fun L' hL' => w L' _ (hl.back rfl hL' rfl rfl) hs1))
theorem ex_istore {i : Nat} {x : Int32} (hd : decode M.2.1 pc = .ok (.istore i, 2)) (hi : i < ls.length) (k : mm_Ex l G M Q (pc + 2) (ls.set i (.int x)) st h) : mm_Ex l G M Q pc ls (.int x :: st) h :=
  mm_exL k (by simp) (fun p e R s m args below meth c A Z ws H locs cells slots L stC X hl hs hn w => by
    obtain ⟨_, rfl, hs1⟩ := hs.int
    exact lv_istore X.1 X.2.1 hd (hl.has rfl) hi rfl (fun L' hL' => w L' _ (hl.back rfl hL' rfl rfl) hs1))
theorem ex_astore_n {n : Fin 4} {x : Nat} (hd : decode M.2.1 pc = .ok (.astore_n n, 1)) (hi : (n : Nat) < ls.length) (k : mm_Ex l G M Q (pc + 1) (ls.set (n : Nat) (.ref x)) st h) : mm_Ex l G M Q pc ls (.ref x :: st) h :=
  mm_exL k (by simp) (fun p e R s m args below meth c A Z ws H locs cells slots L stC X hl hs hn w => by
    obtain ⟨a, E, _, hk, rfl, hs1⟩ := hs.ref
    exact lv_astore_n X.1 X.2.1 hd rfl (hl.has rfl) hi rfl (fun L' hL' => w L' _ (hl.back rfl hL' ⟨_, hk, rfl⟩ rfl) hs1))
theorem ex_astore {i : Nat} {x : Nat} (hd : decode M.2.1 pc = .ok (.astore i, 2)) (hi : i < ls.length) (k : mm_Ex l G M Q (pc + 2) (ls.set i (.ref x)) st h) : mm_Ex l G M Q pc ls (.ref x :: st) h :=
  mm_exL k (by simp) (fun p e R s m args below meth c A Z ws H locs cells slots L stC X hl hs hn w => by
    obtain ⟨a, E, _, hk, rfl, hs1⟩ := hs.ref
    exact lv_astore X.1 X.2.1 hd (hl.has rfl) hi rfl (fun L' hL' => w L' _ (hl.back rfl hL' ⟨_, hk, rfl⟩ rfl) hs1))
theorem ex_astore_x {i : Nat} {u : UInt32} (hd : decode M.2.1 pc = .ok (.astore i, 2)) (hi : i < ls.length) (k : mm_Ex l G M Q (pc + 2) (ls.set i .null) st h) : mm_Ex l G M Q pc ls (.float u :: st) h :=
  mm_exL k (by simp) (fun p e R s m args below meth c A Z ws H locs cells slots L stC X hl hs hn w => by
    obtain ⟨V, L', rfl, ⟨q, rfl⟩, hs1⟩ := hs
    exact lv_astore X.1 X.2.1 hd (hl.has rfl) hi rfl (fun L' hL' => w L' _ (hl.back (v := .null) rfl hL' rfl rfl) hs1))
theorem ex_astore_xn {n : Fin 4} {u : UInt32} (hd : decode M.2.1 pc = .ok (.astore_n n, 1)) (hi : (n : Nat) < ls.length) (k : mm_Ex l G M Q (pc + 1) (ls.set (n : Nat) .null) st h) : mm_Ex l G M Q pc ls (.float u :: st) h :=
  mm_exL k (by simp) (fun p e R s m args below meth c A Z ws H locs cells slots L stC X hl hs hn w => by
    obtain ⟨V, L', rfl, ⟨q, rfl⟩, hs1⟩ := hs
    exact lv_astore_n X.1 X.2.1 hd rfl (hl.has rfl) hi rfl (fun L' hL' => w L' _ (hl.back (v := .null) rfl hL' rfl rfl) hs1))
theorem ex_iinc {i : Nat} {n : Int} {x d : Int32} (hd : decode M.2.1 pc = .ok (.iinc i n, 3)) (hv : ls[i]? = some (.int x)) (hn : Int32.ofInt n = d) (k : mm_Ex l G M Q (pc + 3) (ls.set i (.int (x + d))) st h) : mm_Ex l G M Q pc ls st h :=
  mm_exL k (by simp) (fun p e R s m args below meth c A Z ws H locs cells slots L stC X hl hs hlen w => by
    subst hn
    have hi : i < ls.length := (List.getElem?_eq_some_iff.mp hv).1
    obtain ⟨V, h1, h2, h3⟩ := hl.2.2 i _ hv rfl (by simp)
    rw [show V = .int x from h2] at h1
    obtain ⟨j, hj⟩ := List.getElem?_of_mem (mm_lv_mem.mpr ⟨hi, h1, rfl⟩)
    exact lv_iinc X.1 X.2.1 hd (hl.has rfl) hj rfl hi rfl (fun L' hL' => w L' _ (hl.back rfl hL' rfl rfl) hs))

theorem ex_if_eq {x : Int32} {off : Int} {tgt : Nat} (hd : decode M.2.1 pc = .ok (.ifCond .eq off, 3)) (ht : (pc : Int) + off = (tgt : Int)) (kt : x = 0 → mm_Ex l G M Q tgt ls st h) (kf : ¬ x = 0 → mm_Ex l G M Q (pc + 3) ls st h) : mm_Ex l G M Q pc ls (.int x :: st) h := by
  by_cases hc : x = 0
  · exact mm_ex1 (kt hc) (fun p e R s m args below meth c A Z ws H locs cells slots L stC X hl hs => by
      obtain ⟨_, rfl, hs1⟩ := hs.int
      exact ⟨_, hs1, fun w => lv_if_eq X.1 X.2.1 hd ht (fun _ => w) (fun z => absurd hc z)⟩)
  · exact mm_ex1 (kf hc) (fun p e R s m args below meth c A Z ws H locs cells slots L stC X hl hs => by
      obtain ⟨_, rfl, hs1⟩ := hs.int
      exact ⟨_, hs1, fun w => lv_if_eq X.1 X.2.1 hd ht (fun z => absurd z hc) (fun _ => w)⟩)
theorem ex_icmp_eq {x y : Int32} {off : Int} {tgt : Nat} (hd : decode M.2.1 pc = .ok (.if_icmp .eq off, 3)) (ht : (pc : Int) + off = (tgt : Int)) (kt : x = y → mm_Ex l G M Q tgt ls st h) (kf : ¬ x = y → mm_Ex l G M Q (pc + 3) ls st h) : mm_Ex l G M Q pc ls (.int y :: .int x :: st) h := by
  by_cases hc : x = y
  · exact mm_ex1 (kt hc) (fun p e R s m args below meth c A Z ws H locs cells slots L stC X hl hs => by
      obtain ⟨_, rfl, hs0⟩ := hs.int; obtain ⟨_, rfl, hs1⟩ := hs0.int
      exact ⟨_, hs1, fun w => lv_icmp_eq X.1 X.2.1 hd ht (fun _ => w) (fun z => absurd hc z)⟩)
  · exact mm_ex1 (kf hc) (fun p e R s m args below meth c A Z ws H locs cells slots L stC X hl hs => by
      obtain ⟨_, rfl, hs0⟩ := hs.int; obtain ⟨_, rfl, hs1⟩ := hs0.int
      exact ⟨_, hs1, fun w => lv_icmp_eq X.1 X.2.1 hd ht (fun z => absurd z hc) (fun _ => w)⟩)
theorem ex_if_ne {x : Int32} {off : Int} {tgt : Nat} (hd : decode M.2.1 pc = .ok (.ifCond .ne off, 3)) (ht : (pc : Int) + off = (tgt : Int)) (kt : ¬ x = 0 → mm_Ex l G M Q tgt ls st h) (kf : x = 0 → mm_Ex l G M Q (pc + 3) ls st h) : mm_Ex l G M Q pc ls (.int x :: st) h := by
  by_cases hc : x = 0
  · exact mm_ex1 (kf hc) (fun p e R s m args below meth c A Z ws H locs cells slots L stC X hl hs => by
      obtain ⟨_, rfl, hs1⟩ := hs.int
      exact ⟨_, hs1, fun w => lv_if_ne X.1 X.2.1 hd ht (fun z => absurd hc z) (fun _ => w)⟩)
  · exact mm_ex1 (kt hc) (fun p e R s m args below meth c A Z ws H locs cells slots L stC X hl hs => by
      obtain ⟨_, rfl, hs1⟩ := hs.int
      exact ⟨_, hs1, fun w => lv_if_ne X.1 X.2.1 hd ht (fun _ => w) (fun z => absurd z hc)⟩)
theorem ex_icmp_ne {x y : Int32} {off : Int} {tgt : Nat} (hd : decode M.2.1 pc = .ok (.if_icmp .ne off, 3)) (ht : (pc : Int) + off = (tgt : Int)) (kt : ¬ x = y → mm_Ex l G M Q tgt ls st h) (kf : x = y → mm_Ex l G M Q (pc + 3) ls st h) : mm_Ex l G M Q pc ls (.int y :: .int x :: st) h := by
  by_cases hc : x = y
  · exact mm_ex1 (kf hc) (fun p e R s m args below meth c A Z ws H locs cells slots L stC X hl hs => by
      obtain ⟨_, rfl, hs0⟩ := hs.int; obtain ⟨_, rfl, hs1⟩ := hs0.int
      exact ⟨_, hs1, fun w => lv_icmp_ne X.1 X.2.1 hd ht (fun z => absurd hc z) (fun _ => w)⟩)
  · exact mm_ex1 (kt hc) (fun p e R s m args below meth c A Z ws H locs cells slots L stC X hl hs => by
      obtain ⟨_, rfl, hs0⟩ := hs.int; obtain ⟨_, rfl, hs1⟩ := hs0.int
      exact ⟨_, hs1, fun w => lv_icmp_ne X.1 X.2.1 hd ht (fun _ => w) (fun z => absurd z hc)⟩)
theorem ex_if_lt {x : Int32} {off : Int} {tgt : Nat} (hd : decode M.2.1 pc = .ok (.ifCond .lt off, 3)) (ht : (pc : Int) + off = (tgt : Int)) (kt : x < 0 → mm_Ex l G M Q tgt ls st h) (kf : ¬ x < 0 → mm_Ex l G M Q (pc + 3) ls st h) : mm_Ex l G M Q pc ls (.int x :: st) h := by
  by_cases hc : x < 0
  · exact mm_ex1 (kt hc) (fun p e R s m args below meth c A Z ws H locs cells slots L stC X hl hs => by
      obtain ⟨_, rfl, hs1⟩ := hs.int
      exact ⟨_, hs1, fun w => lv_if_lt X.1 X.2.1 hd ht (fun _ => w) (fun z => absurd hc z)⟩)
  · exact mm_ex1 (kf hc) (fun p e R s m args below meth c A Z ws H locs cells slots L stC X hl hs => by
      obtain ⟨_, rfl, hs1⟩ := hs.int
      exact ⟨_, hs1, fun w => lv_if_lt X.1 X.2.1 hd ht (fun z => absurd z hc) (fun _ => w)⟩)
theorem ex_icmp_lt {x y : Int32} {off : Int} {tgt : Nat} (hd : decode M.2.1 pc = .ok (.if_icmp .lt off, 3)) (ht : (pc : Int) + off = (tgt : Int)) (kt : x < y → mm_Ex l G M Q tgt ls st h) (kf : ¬ x < y → mm_Ex l G M Q (pc + 3) ls st h) : mm_Ex l G M Q pc ls (.int y :: .int x :: st) h := by
  by_cases hc : x < y
  · exact mm_ex1 (kt hc) (fun p e R s m args below meth c A Z ws H locs cells slots L stC X hl hs => by
      obtain ⟨_, rfl, hs0⟩ := hs.int; obtain ⟨_, rfl, hs1⟩ := hs0.int
      exact ⟨_, hs1, fun w => lv_icmp_lt X.1 X.2.1 hd ht (fun _ => w) (fun z => absurd hc z)⟩)
  · exact mm_ex1 (kf hc) (fun p e R s m args below meth c A Z ws H locs cells slots L stC X hl hs => by
      obtain ⟨_, rfl, hs0⟩ := hs.int; obtain ⟨_, rfl, hs1⟩ := hs0.int
      exact ⟨_, hs1, fun w => lv_icmp_lt X.1 X.2.1 hd ht (fun z => absurd z hc) (fun _ => w)⟩)
theorem ex_if_ge {x : Int32} {off : Int} {tgt : Nat} (hd : decode M.2.1 pc = .ok (.ifCond .ge off, 3)) (ht : (pc : Int) + off = (tgt : Int)) (kt : 0 ≤ x → mm_Ex l G M Q tgt ls st h) (kf : ¬ 0 ≤ x → mm_Ex l G M Q (pc + 3) ls st h) : mm_Ex l G M Q pc ls (.int x :: st) h := by
  by_cases hc : 0 ≤ x
  · exact mm_ex1 (kt hc) (fun p e R s m args below meth c A Z ws H locs cells slots L stC X hl hs => by
      obtain ⟨_, rfl, hs1⟩ := hs.int
      exact ⟨_, hs1, fun w => lv_if_ge X.1 X.2.1 hd ht (fun _ => w) (fun z => absurd hc z)⟩)
  · exact mm_ex1 (kf hc) (fun p e R s m args below meth c A Z ws H locs cells slots L stC X hl hs => by
      obtain ⟨_, rfl, hs1⟩ := hs.int
      exact ⟨_, hs1, fun w => lv_if_ge X.1 X.2.1 hd ht (fun z => absurd z hc) (fun _ => w)⟩)
theorem ex_icmp_ge {x y : Int32} {off : Int} {tgt : Nat} (hd : decode M.2.1 pc = .ok (.if_icmp .ge off, 3)) (ht : (pc : Int) + off = (tgt : Int)) (kt : y ≤ x → mm_Ex l G M Q tgt ls st h) (kf : ¬ y ≤ x → mm_Ex l G M Q (pc + 3) ls st h) : mm_Ex l G M Q pc ls (.int y :: .int x :: st) h := by
  by_cases hc : y ≤ x
  · exact mm_ex1 (kt hc) (fun p e R s m args below meth c A Z ws H locs cells slots L stC X hl hs => by
      obtain ⟨_, rfl, hs0⟩ := hs.int; obtain ⟨_, rfl, hs1⟩ := hs0.int
      exact ⟨_, hs1, fun w => lv_icmp_ge X.1 X.2.1 hd ht (fun _ => w) (fun z => absurd hc z)⟩)
  · exact mm_ex1 (kf hc) (fun p e R s m args below meth c A Z ws H locs cells slots L stC X hl hs => by
      obtain ⟨_, rfl, hs0⟩ := hs.int; obtain ⟨_, rfl, hs1⟩ := hs0.int
      exact ⟨_, hs1, fun w => lv_icmp_ge X.1 X.2.1 hd ht (fun z => absurd z hc) (fun _ => w)⟩)
theorem ex_if_gt {x : Int32} {off : Int} {tgt : Nat} (hd : decode M.2.1 pc = .ok (.ifCond .gt off, 3)) (ht : (pc : Int) + off = (tgt : Int)) (kt : 0 < x → mm_Ex l G M Q tgt ls st h) (kf : ¬ 0 < x → mm_Ex l G M Q (pc + 3) ls st h) : mm_Ex l G M Q pc ls (.int x :: st) h := by
  by_cases hc : 0 < x
  · exact mm_ex1 (kt hc) (fun p e R s m args below meth c A Z ws H locs cells slots L stC X hl hs => by
      obtain ⟨_, rfl, hs1⟩ := hs.int
      exact ⟨_, hs1, fun w => lv_if_gt X.1 X.2.1 hd ht (fun _ => w) (fun z => absurd hc z)⟩)
  · exact mm_ex1 (kf hc) (fun p e R s m args below meth c A Z ws H locs cells slots L stC X hl hs => by
      obtain ⟨_, rfl, hs1⟩ := hs.int
      exact ⟨_, hs1, fun w => lv_if_gt X.1 X.2.1 hd ht (fun z => absurd z hc) (fun _ => w)⟩)
theorem ex_icmp_gt {x y : Int32} {off : Int} {tgt : Nat} (hd : decode M.2.1 pc = .ok (.if_icmp .gt off, 3)) (ht : (pc : Int) + off = (tgt : Int)) (kt : y < x → mm_Ex l G M Q tgt ls st h) (kf : ¬ y < x → mm_Ex l G M Q (pc + 3) ls st h) : mm_Ex l G M Q pc ls (.int y :: .int x :: st) h := by
  by_cases hc : y < x
  · exact mm_ex1 (kt hc) (fun p e R s m args below meth c A Z ws H locs cells slots L stC X hl hs => by
      obtain ⟨_, rfl, hs0⟩ := hs.int; obtain ⟨_, rfl, hs1⟩ := hs0.int
      exact ⟨_, hs1, fun w => lv_icmp_gt X.1 X.2.1 hd ht (fun _ => w) (fun z => absurd hc z)⟩)
  · exact mm_ex1 (kf hc) (fun p e R s m args below meth c A Z ws H locs cells slots L stC X hl hs => by
      obtain ⟨_, rfl, hs0⟩ := hs.int; obtain ⟨_, rfl, hs1⟩ := hs0.int
      exact ⟨_, hs1, fun w => lv_icmp_gt X.1 X.2.1 hd ht (fun z => absurd z hc) (fun _ => w)⟩)
theorem ex_if_le {x : Int32} {off : Int} {tgt : Nat} (hd : decode M.2.1 pc = .ok (.ifCond .le off, 3)) (ht : (pc : Int) + off = (tgt : Int)) (kt : x ≤ 0 → mm_Ex l G M Q tgt ls st h) (kf : ¬ x ≤ 0 → mm_Ex l G M Q (pc + 3) ls st h) : mm_Ex l G M Q pc ls (.int x :: st) h := by
  by_cases hc : x ≤ 0
  · exact mm_ex1 (kt hc) (fun p e R s m args below meth c A Z ws H locs cells slots L stC X hl hs => by
      obtain ⟨_, rfl, hs1⟩ := hs.int
      exact ⟨_, hs1, fun w => lv_if_le X.1 X.2.1 hd ht (fun _ => w) (fun z => absurd hc z)⟩)
  · exact mm_ex1 (kf hc) (fun p e R s m args below meth c A Z ws H locs cells slots L stC X hl hs => by
      obtain ⟨_, rfl, hs1⟩ := hs.int
      exact ⟨_, hs1, fun w => lv_if_le X.1 X.2.1 hd ht (fun z => absurd z hc) (fun _ => w)⟩)
theorem ex_icmp_le {x y : Int32} {off : Int} {tgt : Nat} (hd : decode M.2.1 pc = .ok (.if_icmp .le off, 3)) (ht : (pc : Int) + off = (tgt : Int)) (kt : x ≤ y → mm_Ex l G M Q tgt ls st h) (kf : ¬ x ≤ y → mm_Ex l G M Q (pc + 3) ls st h) : mm_Ex l G M Q pc ls (.int y :: .int x :: st) h := by
  by_cases hc : x ≤ y
  · exact mm_ex1 (kt hc) (fun p e R s m args below meth c A Z ws H locs cells slots L stC X hl hs => by
      obtain ⟨_, rfl, hs0⟩ := hs.int; obtain ⟨_, rfl, hs1⟩ := hs0.int
      exact ⟨_, hs1, fun w => lv_icmp_le X.1 X.2.1 hd ht (fun _ => w) (fun z => absurd hc z)⟩)
  · exact mm_ex1 (kf hc) (fun p e R s m args below meth c A Z ws H locs cells slots L stC X hl hs => by
      obtain ⟨_, rfl, hs0⟩ := hs.int; obtain ⟨_, rfl, hs1⟩ := hs0.int
      exact ⟨_, hs1, fun w => lv_icmp_le X.1 X.2.1 hd ht (fun z => absurd z hc) (fun _ => w)⟩)
theorem ex_tableIn {dflt lo hi : Int} {offs : Array Int} {len : Nat} {x : Int32} {off : Int} {tgt : Nat} (hd : decode M.2.1 pc = .ok (.tableswitch dflt lo hi offs, len)) (h1 : ¬ x.toInt < lo) (h2 : ¬ hi < x.toInt) (ho : offs[(x.toInt - lo).toNat]? = some off) (ht : (pc : Int) + off = (tgt : Int)) (k : mm_Ex l G M Q tgt ls st h) : mm_Ex l G M Q pc ls (.int x :: st) h :=
  mm_ex1 k (fun p e R s m args below meth c A Z ws H locs cells slots L stC X hl hs => by
    obtain ⟨_, rfl, hs1⟩ := hs.int
    exact ⟨_, hs1, fun w => lv_tableIn X.1 X.2.1 hd h1 h2 ho ht w⟩)
theorem ex_tableOut {dflt lo hi : Int} {offs : Array Int} {len : Nat} {x : Int32} {tgt : Nat} (hd : decode M.2.1 pc = .ok (.tableswitch dflt lo hi offs, len)) (h1 : x.toInt < lo ∨ hi < x.toInt) (ht : (pc : Int) + dflt = (tgt : Int)) (k : mm_Ex l G M Q tgt ls st h) : mm_Ex l G M Q pc ls (.int x :: st) h :=
  mm_ex1 k (fun p e R s m args below meth c A Z ws H locs cells slots L stC X hl hs => by
    obtain ⟨_, rfl, hs1⟩ := hs.int
    exact ⟨_, hs1, fun w => lv_tableOut X.1 X.2.1 hd h1 ht w⟩)
theorem ex_lookup {dflt : Int} {ps : Array (Int × Int)} {len : Nat} {x : Int32} {off : Int} {tgt : Nat} (hd : decode M.2.1 pc = .ok (.lookupswitch dflt ps, len)) (hp : (ps.toList.zip (ps.toList.drop 1)).all (fun (a, next) => a.1 < next.1) = true) (ho : Op.lookupswitch.offset ps.toList dflt x.toInt = off) (ht : (pc : Int) + off = (tgt : Int)) (k : mm_Ex l G M Q tgt ls st h) : mm_Ex l G M Q pc ls (.int x :: st) h :=
  mm_ex1 k (fun p e R s m args below meth c A Z ws H locs cells slots L stC X hl hs => by
    obtain ⟨_, rfl, hs1⟩ := hs.int
    exact ⟨_, hs1, fun w => lv_lookup X.1 X.2.1 hd hp ho ht w⟩)
/-- a step that changes the heap, not the locals -/
theorem mm_exH (k : mm_Ex l G M Q pc' ls st' h2) (hc : h.2.2.1 ≤ h2.2.2.1) (hn : h.2.2.2 ≤ h2.2.2.2) (F : ∀ (p : Program) (e : Env) (R : Room) (s : State) (m : MethodId) (args : Array Value) (below : List Frame) (meth : Method) (c : Code) (A : Nat → Prop) (ws0 : va_W) (h' : mm_H) (Z : State → Prop) (ws : va_W) (H : Heap) (locs : List Loc) (cells slots : Nat) (L : Array Slot) (stC : List Value),
    mm_X G M p R s m args meth c A → h2.2.2.1 ≤ h'.2.2.1 → h2.2.2.2 ≤ h'.2.2.2 → mm_S G R s A ws0 h h' ws H locs cells slots → mm_s ws st stC → L.size = c.maxLocals →
    (∀ (ws1 : va_W) (H1 : Heap) (locs1 : List Loc) (c1 n1 : Nat) (stC' : List Value), mm_k ws ws1 → mm_S G R s A ws0 h2 h' ws1 H1 locs1 c1 n1 → mm_s ws1 st' stC' → W p l e R s m args below meth c H1 locs1 c1 n1 Z (F0 m pc' L stC')) → W p l e R s m args below meth c H locs cells slots Z (F0 m pc L stC)) : mm_Ex l G M Q pc ls st h := by
  obtain ⟨r, h', ⟨k1, k2, k3⟩, q⟩ := k
  refine ⟨r, h', ⟨Nat.le_trans hc k1, Nat.le_trans hn k2, fun p e R s m args below meth c A ws0 Z X F0 ws H locs cells slots L stC hS hl hnn hs => ?_⟩, q⟩
  exact F p e R s m args below meth c A ws0 h' Z ws H locs cells slots L stC X k1 k2 hS hs (by rw [X.2.2.1, hl.2.1, hnn]) (fun ws1 H1 locs1 c1 n1 stC' hk hS1 hs1 => k3 p e R s m args below meth c A ws0 Z X F0 ws1 H1 locs1 c1 n1 L stC' hS1 (hl.mono hk) hnn hs1)
def mm_gf (own : String) (idx ci k : Nat) : Prop := ∃ (C : String) (T : u_T) (N : Nat), vwCl[ci]? = some (C, T, N) ∧ k < N ∧ (∀ w ∈ u_ws C T N, w ∈ mm_W) ∧ Cond.fieldLink own idx (T k).1 (T k).2.1 (T k).2.2.1 ∈ mm_W
theorem ex_getfield {idx ci f o : Nat} {fs : List Value} {v : Value} (hd : decode M.2.1 pc = .ok (.getfield idx, 3)) (hg : mm_gf M.1.cls idx ci f) (he : h.1 o = some (.inr (ci, fs))) (hv : fs[f]? = some v) (k : mm_Ex l G M Q (pc + 3) ls (v :: st) h) : mm_Ex l G M Q pc ls (.ref o :: st) h :=
  mm_exH k (Nat.le_refl _) (Nat.le_refl _) (fun p e R s m args below meth c A ws0 h' Z ws H locs cells slots L stC X b1 b2 hS hs hsz w => by
    obtain ⟨C, T, N, g1, g2, g3, g4⟩ := hg
    obtain ⟨a, E, _, hk, rfl, hs1⟩ := hs.ref
    obtain ⟨q, e1, fs', e2, e3, e4⟩ := hS.2.2.2.1.2 o _ he
    rw [hk] at e1
    cases e1
    obtain ⟨V, e5, e6⟩ := e4 f v hv
    exact va_get X.1 X.2.1 X.2.2.2.1 g3 X.2.2.2.2.1 X.2.2.2.2.2.1.1 hS.1 o (by rw [hk]; exact congrArg (fun z => some (a, z)) e2) g1 f g2 (X.2.2.2.1 _ g4) (fun _ z => z) e5 hd (w ws H locs cells slots _ (mm_k.refl ws) hS ⟨V, _, rfl, e6, hs1⟩))
def mm_pf (own : String) (idx ci k : Nat) (fin : Bool) (ty : FieldType) : Prop := ∃ (C : String) (T : u_T) (N : Nat) (ty0 : Nat → FieldType), vwCl[ci]? = some (C, T, N) ∧ k < N ∧ (∀ w ∈ u_ws C T N, w ∈ mm_W) ∧ Cond.fieldLink own idx (T k).1 (T k).2.1 (T k).2.2.1 ∈ mm_W ∧ (∀ k, k < N → parseFieldDescriptor (T k).2.2.1 = some (ty0 k)) ∧ (∀ a, a < N → ∀ b, b < N → a ≠ b → (T a).2.1 ≠ (T b).2.1) ∧ (T k).2.2.2 = fin ∧ (fin = true → (T k).1 = own) ∧ ty0 k = ty
theorem ex_put {idx ci f o : Nat} {fs : List Value} {v : Value} {fin : Bool} {ty : FieldType} (hd : decode M.2.1 pc = .ok (.putfield idx, 3)) (hg : mm_pf M.1.cls idx ci f fin ty) (he : h.1 o = some (.inr (ci, fs))) (hl : f < fs.length) (hfin : fin = true → M.1.name = "<init>") (hf : ∀ (ws : va_W) (V : Value), mm_v ws v V → narrow ty V = V ∧ fits ty V = true) (k : mm_Ex l G M Q (pc + 3) ls st (mm_set h o (.inr (ci, fs.set f v)))) : mm_Ex l G M Q pc ls (v :: .ref o :: st) h :=
  mm_exH k (Nat.le_refl _) (Nat.le_refl _) (fun p e R s m args below meth c A ws0 h' Z ws H locs cells slots L stC X b1 b2 hS hs hsz w => by
    obtain ⟨C, T, N, ty0, g1, g2, g3, g4, g5, g6, g7, g8, g9⟩ := hg
    obtain ⟨V, _, rfl, hV, hs0⟩ := hs
    obtain ⟨a, E, _, hk, rfl, hs1⟩ := hs0.ref
    obtain ⟨q, e1, fs', e2, e3, e4⟩ := hS.2.2.2.1.2 o _ he
    rw [hk] at e1
    cases e1
    have e2' : E = .inr (ci, fs') := e2
    subst e2'
    obtain ⟨n1, n2⟩ := hf ws V hV
    have hrel : mm_e G.2.1 ws (.inr (ci, fs.set f v)) (.inr (ci, fs'.set f V)) := by
      refine ⟨fs'.set f V, rfl, by show (fs'.set f V).length = (fs.set f v).length; rw [List.length_set, List.length_set, e3], fun j u hj => ?_⟩
      have hj : (fs.set f v)[j]? = some u := hj
      by_cases hjf : f = j
      · subst hjf
        rw [List.getElem?_set_self hl] at hj
        cases hj
        exact ⟨V, by rw [List.getElem?_set_self (by rw [e3]; exact hl)], hV⟩
      · rw [List.getElem?_set_ne hjf] at hj
        obtain ⟨U, u1, u2⟩ := e4 j u hj
        exact ⟨U, by rw [List.getElem?_set_ne hjf]; exact u1, u2⟩
    have fin' : ∀ (H1 : Heap) (locs1 : List Loc), va_P G.1 vwCl (ws.set o (a, .inr (ci, fs'.set f V))) H1 → va_D A (ws.set o (a, .inr (ci, fs'.set f V))) → va_S A s.heap H1 locs1 → W p l e R s m args below meth c H1 locs1 cells slots Z (F0 m (pc + 3) L _) := fun H1 locs1 q1 q2 q3 =>
      w _ H1 locs1 cells slots _ (mm_k.set hk) ⟨q1, q2, q3, hS.2.2.2.1.set hk hrel, hS.2.2.2.2.1.trans (mm_k.set hk), hS.2.2.2.2.2⟩ (hs1.mono (mm_k.set hk))
    cases fin with
    | false => exact va_put X.1 X.2.1 X.2.2.2.1 g3 ty0 g5 g6 X.2.2.2.2.1 X.2.2.2.2.2.1.1 hS.1 hS.2.1 hS.2.2.1 o hk g1 f g2 (X.2.2.2.1 _ g4) (fun _ z => z) g7 (g9 ▸ g5 f g2) n1 n2 (by rw [e3]; exact hl) hd fin'
    | true => exact va_putF X.1 X.2.1 X.2.2.2.1 g3 ty0 g5 g6 X.2.2.2.2.1 X.2.2.2.2.2.1.1 hS.1 hS.2.1 hS.2.2.1 o hk g1 f g2 (X.2.2.2.1 _ g4) (fun _ z => z) g7 ((X.2.2.2.2.2.2.2.2.2.2.1 (by rw [hfin rfl]; decide)).2.trans (hfin rfl)) (g8 rfl) (g9 ▸ g5 f g2) n1 n2 (by rw [e3]; exact hl) hd fin')
theorem mm_fi (x : Int32) : ∀ (ws : va_W) (V : Value), mm_v ws (.int x) V → narrow .int V = V ∧ fits .int V = true := fun ws V h => by rw [show V = .int x from h]; exact ⟨rfl, rfl⟩
theorem mm_fl (x : Int64) : ∀ (ws : va_W) (V : Value), mm_v ws (.long x) V → narrow .long V = V ∧ fits .long V = true := fun ws V h => by rw [show V = .long x from h]; exact ⟨rfl, rfl⟩
theorem mm_fz {x : Int32} (hx : x = 0 ∨ x = 1) : ∀ (ws : va_W) (V : Value), mm_v ws (.int x) V → narrow .boolean V = V ∧ fits .boolean V = true := fun ws V h => by
  rw [show V = .int x from h]
  rcases hx with rfl | rfl <;> exact ⟨rfl, rfl⟩
theorem mm_fo (n : String) (o : Nat) : ∀ (ws : va_W) (V : Value), mm_v ws (.ref o) V → narrow (.object n) V = V ∧ fits (.object n) V = true := fun ws V ⟨q, _, h⟩ => by rw [h]; exact ⟨rfl, rfl⟩
theorem mm_fa (t : FieldType) (o : Nat) : ∀ (ws : va_W) (V : Value), mm_v ws (.ref o) V → narrow (.array t) V = V ∧ fits (.array t) V = true := fun ws V ⟨q, _, h⟩ => by rw [h]; exact ⟨rfl, rfl⟩
end MMR2
