theorem mm_inW {Ts : List Cond} {C : String} {T : u_T} {N : Nat} (h : (u_ws C T N).all (fun w => decide (w ∈ Ts)) = true) : ∀ w ∈ u_ws C T N, w ∈ Ts := fun w hw => of_decide_eq_true (List.all_eq_true.mp h w hw)
theorem mm_f0 : ∀ w ∈ u_ws RX0 TX0 3, w ∈ lw_tbl := mm_inW (by decide +kernel)
theorem mm_f1 : ∀ w ∈ u_ws RX1 TX1 1, w ∈ lw_tbl := mm_inW (by decide +kernel)
theorem mm_f2 : ∀ w ∈ u_ws RX2 TX2 1, w ∈ lw_tbl := mm_inW (by decide +kernel)
theorem mm_f3 : ∀ w ∈ u_ws RX3 TX3 5, w ∈ lw_tbl := mm_inW (by decide +kernel)
theorem mm_f4 : ∀ w ∈ u_ws RX4 TX4 3, w ∈ lw_tbl := mm_inW (by decide +kernel)
theorem mm_f5 : ∀ w ∈ u_ws RX5 TX5 5, w ∈ lw_tbl := mm_inW (by decide +kernel)
theorem mm_f6 : ∀ w ∈ u_ws RX6 TX6 4, w ∈ lw_tbl := mm_inW (by decide +kernel)
theorem mm_f7 : ∀ w ∈ u_ws RX7 TX7 2, w ∈ lw_tbl := mm_inW (by decide +kernel)
theorem mm_f8 : ∀ w ∈ u_ws RX8 TX8 12, w ∈ lw_tbl := mm_inW (by decide +kernel)
theorem mm_arrC {s : State} {args : Array Value} {ty : FieldType} (h : (Cond.arrayClass ty).before args s = true) (hty : ty = .int ∨ ty = .boolean ∨ ty = .long) : ∃ cA : ClassId, ArrOfT s cA ty ∧ va_RA s cA ty := by
  obtain ⟨cA, k, comp, h1, h2, h3⟩ := Cond.arrayClass_spec h
  refine ⟨cA, fun n z => ⟨(fun k h => by cases h), k, h2, comp, h3⟩, ?_⟩
  rcases hty with rfl | rfl | rfl <;> exact h1
theorem mm_str {s : State} {args : Array Value} {own tx : String} {k : Nat} {C : String} (h1 : (Cond.stringRef own k tx).before args s = true) (h2 : (Cond.exactly (.string own k) C).before args s = true) : ∃ a : Nat, vk_R own k tx a s := by
  obtain ⟨a, c0, cell0, k0, h3, -⟩ := Cond.exactly_spec h2
  exact ⟨a, vk_R.of (A := args) h1 h3⟩
abbrev mm_law : mm_M := (yL_law, code, 17, ret, [], 11, 434)
set_option maxRecDepth 100000 in
set_option maxHeartbeats 4000000 in
theorem mm_start {p : Program} {e : Env} {s : State} {m : MethodId} {below : List Frame} {meth : Method} {c : Code} (l : Launch) {b L : Nat} {xs : Nat → Int32} (C0 : lw_At p s m meth c b L xs)
    (K : ∀ G : mm_G, G.2.2.2 = (b, L, xs) → mm_Ex l G mm_law (fun r h' => r = .inl (some (.int 1)) ∧ h'.2.2.1 ≤ 600130 ∧ h'.2.2.2 ≤ 7301080) 0 [.retAddr b, .null, .null, .null, .null, .null, .null, .null, .null, .null, .null, .null, .null, .null, .null, .null, .null] [] (fun _ => none, 0, 0, 0)) :
    W p l e room_1 s m #[Value.ref b] below meth c s.heap [] 0 0 (lw_Z below #[Value.ref b] s) (entryFrame m ([Value.ref b] : List Value).toArray 17) := by
  obtain ⟨hx, hb, hr, hml, hown, hts, hX, hbl, hlocks, hgv⟩ := id C0
  have hfl := flat_of_before _ hgv
  obtain ⟨c0, i0, hK0⟩ := u_known (C := RX0) (T := TX0) (N := 3) (n := 3) hts mm_f0 (hts (.instantiable RX0 3) (by decide +kernel))
  obtain ⟨c1, i1, hK1⟩ := u_known (C := RX1) (T := TX1) (N := 1) (n := 1) hts mm_f1 (hts (.instantiable RX1 1) (by decide +kernel))
  obtain ⟨c2, i2, hK2⟩ := u_known (C := RX2) (T := TX2) (N := 1) (n := 1) hts mm_f2 (hts (.instantiable RX2 1) (by decide +kernel))
  obtain ⟨c3, i3, hK3⟩ := u_known (C := RX3) (T := TX3) (N := 5) (n := 5) hts mm_f3 (hts (.instantiable RX3 5) (by decide +kernel))
  obtain ⟨c4, i4, hK4⟩ := u_known (C := RX4) (T := TX4) (N := 3) (n := 3) hts mm_f4 (hts (.instantiable RX4 3) (by decide +kernel))
  obtain ⟨c5, i5, hK5⟩ := u_known (C := RX5) (T := TX5) (N := 5) (n := 5) hts mm_f5 (hts (.instantiable RX5 5) (by decide +kernel))
  obtain ⟨c6, i6, hK6⟩ := u_known (C := RX6) (T := TX6) (N := 4) (n := 4) hts mm_f6 (hts (.instantiable RX6 4) (by decide +kernel))
  obtain ⟨c7, i7, hK7⟩ := u_known (C := RX7) (T := TX7) (N := 2) (n := 2) hts mm_f7 (hts (.instantiable RX7 2) (by decide +kernel))
  obtain ⟨c8, i8, hK8⟩ := u_known (C := RX8) (T := TX8) (N := 12) (n := 12) hts mm_f8 (hts (.instantiable RX8 12) (by decide +kernel))
  obtain ⟨dC, dI, hKc⟩ : ∃ (dC : Nat → ClassId) (dI : Nat → Nat → Nat), ∀ (k : Nat) (q : vw_C), vwCl[k]? = some q → u_Kn s q.1 q.2.1 q.2.2 (dC k) (dI k) := by
    refine ⟨fun k => match k with | 0 => c0 | 1 => c1 | 2 => c2 | 3 => c3 | 4 => c4 | 5 => c5 | 6 => c6 | 7 => c7 | _ => c8, fun k => match k with | 0 => i0 | 1 => i1 | 2 => i2 | 3 => i3 | 4 => i4 | 5 => i5 | 6 => i6 | 7 => i7 | _ => i8, ?_⟩
    intro k q hq
    match k, hq with
    | 0, hq => cases hq; exact hK0
    | 1, hq => cases hq; exact hK1
    | 2, hq => cases hq; exact hK2
    | 3, hq => cases hq; exact hK3
    | 4, hq => cases hq; exact hK4
    | 5, hq => cases hq; exact hK5
    | 6, hq => cases hq; exact hK6
    | 7, hq => cases hq; exact hK7
    | 8, hq => cases hq; exact hK8
    | k + 9, hq => simp [vwCl] at hq
  obtain ⟨aI, hI⟩ := mm_arrC (hts (.arrayClass .int) (by decide +kernel)) (Or.inl rfl)
  obtain ⟨aZ, hZ⟩ := mm_arrC (hts (.arrayClass .boolean) (by decide +kernel)) (Or.inr (Or.inl rfl))
  obtain ⟨s1, hs1⟩ := mm_str (hts (.stringRef RX8 371 "an argument is out of its range") (by decide +kernel)) (hfl (.exactly (.string "CableShip" 371) "java/lang/String") (by decide +kernel))
  obtain ⟨s2, hs2⟩ := mm_str (hts (.stringRef RX8 378 "this cannot be done now") (by decide +kernel)) (hfl (.exactly (.string "CableShip" 378) "java/lang/String") (by decide +kernel))
  obtain ⟨s3, hs3⟩ := mm_str (hts (.stringRef RX8 383 "there is none of this number") (by decide +kernel)) (hfl (.exactly (.string "CableShip" 383) "java/lang/String") (by decide +kernel))
  obtain ⟨cA, hcA⟩ : ∃ cA : mm_A, cA .int = aI ∧ cA .boolean = aZ := ⟨fun t => match t with | .int => aI | _ => aZ, rfl, rfl⟩
  obtain ⟨rfl, rfl⟩ := hcA
  let G : mm_G := ((dC, dI), cA, (s1, s2, s3), (b, L, xs))
  have hKK : va_K G.1 vwCl (mm_tys cA) s := by
    refine ⟨hKc, fun k q hq => ?_⟩
    match k, hq with
    | 0, hq => cases hq; exact hI
    | 1, hq => cases hq; exact hZ
    | k + 2, hq => simp [mm_tys] at hq
  have hV : mm_V G s := ⟨hKK, hs1, hs2, hs3, trivial, trivial, fun w hw => va_Nw.of (mm_N_tab hw) (hts w (List.mem_filter.mp hw).1)⟩
  have hZ1 : mm_Z1 (fun q : Nat => s.heap.size ≤ q) s := ⟨vx_Zqof (hts _ (by decide +kernel)) (hts _ (by decide +kernel)) (hfl _ (by decide +kernel)) (fun a ha => Nat.not_le.mpr ha), vx_Zqof (hts _ (by decide +kernel)) (hts _ (by decide +kernel)) (hfl _ (by decide +kernel)) (fun a ha => Nat.not_le.mpr ha)⟩
  obtain ⟨r, h', ⟨k1, k2, k3⟩, rfl, b1, b2⟩ := K G rfl
  have X : mm_X G mm_law p room_1 s m #[Value.ref b] meth c (fun q : Nat => s.heap.size ≤ q) :=
    ⟨hx, hb, hml, fun w hw => hts w (List.mem_filter.mp hw).1, hown, hV, fun q hq => hq, hZ1, rfl, rfl, fun h => absurd rfl h, ⟨hX, hbl, Nat.not_le.mpr hbl⟩⟩
  rw [lg_entry_eq]
  have hent : mm_l [] [.retAddr b, .null, .null, .null, .null, .null, .null, .null, .null, .null, .null, .null, .null, .null, .null, .null, .null] ((lg_sl [Value.ref b] ++ List.replicate (17 - (lg_sl [Value.ref b]).length) Slot.unset).toArray) := by
    have h := lv_entry [Value.ref b] (n := 17) (Nat.le_of_ble_eq_true rfl)
    refine ⟨h.2.1, h.1, fun k v hk g1 g2 => ?_⟩
    match k, hk with
    | 0, hk => cases hk; exact ⟨.ref b, h.2.2 (0, .ref b) (by simp [lv_args]), rfl, rfl⟩
    | 1, hk => cases hk; exact absurd rfl g2
    | 2, hk => cases hk; exact absurd rfl g2
    | 3, hk => cases hk; exact absurd rfl g2
    | 4, hk => cases hk; exact absurd rfl g2
    | 5, hk => cases hk; exact absurd rfl g2
    | 6, hk => cases hk; exact absurd rfl g2
    | 7, hk => cases hk; exact absurd rfl g2
    | 8, hk => cases hk; exact absurd rfl g2
    | 9, hk => cases hk; exact absurd rfl g2
    | 10, hk => cases hk; exact absurd rfl g2
    | 11, hk => cases hk; exact absurd rfl g2
    | 12, hk => cases hk; exact absurd rfl g2
    | 13, hk => cases hk; exact absurd rfl g2
    | 14, hk => cases hk; exact absurd rfl g2
    | 15, hk => cases hk; exact absurd rfl g2
    | 16, hk => cases hk; exact absurd rfl g2
    | k + 17, hk => simp at hk
  refine k3 p e room_1 s m _ below meth c _ [] _ X ⟨fun ws H locs cells slots L9 hS => ⟨fun x9 pc hr9 _ hd => ?_, (fun o a E pc hr9 => nomatch hr9), (fun pc hr9 => nomatch hr9), (fun E pc rest q9 ce hr9 => nomatch hr9)⟩, (fun E pc h9 ws H locs cells slots L9 hlt hr9 => nomatch hr9)⟩ [] s.heap [] 0 0 _ [] ⟨fun k q h => by simp at h, ⟨fun i j p q h => by simp at h, fun k q h => by simp at h⟩, va_S.rf, ⟨rfl, fun k e9 he => by cases he⟩, mm_k.refl [], ?_, ?_⟩ hent rfl rfl
  · cases hr9
    refine va_forget (fun q hq => hS.2.2.1.2.2 q hq) ?_
    have g1 := hS.2.2.2.2.2.1
    have g2 := hS.2.2.2.2.2.2
    refine W.widen (k := 600130) (n := 7301080) (by show cells ≤ room_1.cells; omega) (by show slots ≤ room_1.slots; omega) ?_
    exact lw_ret hx hb hr hlocks hd
  · show 0 + h'.2.2.1 ≤ 600130 + 0; omega
  · show 0 + h'.2.2.2 ≤ 7301080 + 0; omega
