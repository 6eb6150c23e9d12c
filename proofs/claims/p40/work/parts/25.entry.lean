theorem mm_s.cats {ws : va_W} : ∀ {as asC : List Value}, mm_s ws as asC → (∀ v ∈ as, v.category = 1) → ∀ V ∈ asC, V.category = 1
  | [], _, h, _ => by rw [show _ = [] from h]; exact fun _ hv => nomatch hv
  | v :: as, _, ⟨V, L', h1, h2, h3⟩, hc => fun U hU => by
    rw [h1] at hU
    rcases List.mem_cons.mp hU with rfl | hU
    · rw [h2.cat]; exact hc v List.mem_cons_self
    · exact mm_s.cats h3 (fun w hw => hc w (List.mem_cons_of_mem _ hw)) U hU
theorem mm_s.get {ws : va_W} : ∀ {as asC : List Value}, mm_s ws as asC → ∀ (k : Nat) (v : Value), as[k]? = some v → ∃ V, asC[k]? = some V ∧ mm_v ws v V
  | [], _, _, k, v, hk => by simp at hk
  | u :: as, _, ⟨V, L', h1, h2, h3⟩, k, v, hk => by
    subst h1
    cases k with
    | zero => cases hk; exact ⟨V, rfl, h2⟩
    | succ k => exact mm_s.get h3 k v hk
theorem mm_args : ∀ (asC : List Value) (i : Nat), (∀ V ∈ asC, V.category = 1) → ∀ (k : Nat) (V : Value), asC[k]? = some V → (i + k, V) ∈ lv_args i asC
  | [], i, _, k, V, hk => by simp at hk
  | U :: asC, i, hc, k, V, hk => by
    have hU : U.category = 1 := hc U List.mem_cons_self
    simp only [lv_args, show ¬ U.category = 2 by omega, if_false]
    cases k with
    | zero => cases hk; exact List.mem_cons_self
    | succ k =>
      have h := mm_args asC (i + 1) (fun w hw => hc w (List.mem_cons_of_mem _ hw)) k V hk
      rw [show i + (k + 1) = i + 1 + k by omega]
      exact List.mem_cons_of_mem _ h
theorem mm_lgsl : ∀ (asC : List Value), (∀ V ∈ asC, V.category = 1) → (lg_sl asC).length = asC.length
  | [], _ => rfl
  | U :: asC, hc => by
    have hU : U.category = 1 := hc U List.mem_cons_self
    have h := mm_lgsl asC (fun w hw => hc w (List.mem_cons_of_mem _ hw))
    simp only [lg_sl, List.flatMap_cons, show ¬ U.category = 2 by omega, if_false, List.length_append, List.length_cons, List.length_nil] at h ⊢
    omega
theorem mm_entry {ws : va_W} {as asC : List Value} {n : Nat} (hs : mm_s ws as asC) (hc : ∀ v ∈ as, v.category = 1) (hn : as.length ≤ n) : mm_l ws (as ++ List.replicate (n - as.length) .null) ((lg_sl asC ++ List.replicate (n - (lg_sl asC).length) Slot.unset).toArray) := by
  have hC := hs.cats hc
  have hlen : (lg_sl asC).length = as.length := by rw [mm_lgsl asC hC, hs.len]
  have h := lv_entry asC (n := n) (by omega)
  refine ⟨h.2.1, by rw [h.1]; simp; omega, fun k v hk h1 h2 => ?_⟩
  by_cases hka : k < as.length
  · rw [List.getElem?_append_left hka] at hk
    obtain ⟨V, e1, e2⟩ := hs.get k v hk
    have e3 := h.2.2 (k, V) (by have := mm_args asC 0 hC k V e1; rwa [Nat.zero_add] at this)
    exact ⟨V, e3, e2, hC V (List.mem_of_getElem? e1)⟩
  · rw [List.getElem?_append_right (by omega)] at hk
    exact absurd (List.eq_of_mem_replicate (List.mem_of_getElem? hk)) h2
theorem mm_ct {l : Launch} {G : mm_G} {M : mm_M} {Q : mm_R → mm_H → Prop} {as ls : List Value} {h : mm_H} (hy : plainName M.1.cls = true) (hnl : ¬ M.1.name = "law") (hH : M.2.2.2.2.1 = []) (hcat : ∀ v ∈ as, v.category = 1) (hlen : as.length ≤ M.2.2.1) (hls : ls = as ++ List.replicate (M.2.2.1 - as.length) .null)
    (k : mm_Ex l G M Q 0 ls [] h) : mm_Ct l G M as h Q := by
  subst hls
  obtain ⟨r, h', ⟨k1, k2, k3⟩, q⟩ := k
  refine ⟨r, h', ⟨k1, k2, fun ws0 sz asC hh hs => ?_⟩, q⟩
  have hwx : mm_wsx M = mm_ws M := by simp [mm_wsx, hH]
  rw [hwx]
  refine vx_ofW (cc := M.2.1) (maxL := M.2.2.1) (ret := M.2.2.2.1) hy rfl ?_
  intro p e s m args below meth c s₁ B hml hex hP
  obtain ⟨rfl, rfl, hP, hD, hV, ⟨hZ1, hZ2⟩, hXS⟩ := hP
  have hts : ∀ w ∈ mm_ws M, w.before asC.toArray s = true := atoms_spec (ws := mm_ws M) B.pre
  have hex2 : c.exceptionTable.toList = [] := List.eq_nil_iff_forall_not_mem.mpr (fun x hx => hex x hx)
  have hlocks := B.notSynchronized
  have X : mm_X G M p (headSpec (mm_ws M) (mm_rm M h h')).room s m asC.toArray meth c (va_A ws0 s.heap.size) :=
    ⟨B.exec, B.bytes, hml, fun w hw => hts w (List.mem_cons_of_mem _ hw), findClass_of_methodNamed B.named, hV, fun q hq => Or.inr hq, ⟨hZ1, hZ2⟩, rfl, rfl, fun _ => ⟨by rw [hex2, hH]; rfl, (name_of_methodNamed B.named B.method).1⟩, hXS⟩
  have hrc : (headSpec (mm_ws M) (mm_rm M h h')).room.cells = h'.2.2.1 - h.2.2.1 := rfl
  have hrs : (headSpec (mm_ws M) (mm_rm M h h')).room.slots = h'.2.2.2 - h.2.2.2 := rfl
  rw [lg_entry_eq]
  refine k3 p e _ s m _ below meth c (va_A ws0 s.heap.size) ws0 _ X ⟨fun ws H locs cells slots L hS => ?_, ?_⟩ ws0 s.heap [] 0 0 _ [] ⟨hP, hD.self, va_S.rf, hh, mm_k.refl ws0, by rw [hrc]; omega, by rw [hrs]; omega⟩ (mm_entry hs hcat hlen) (by simp; omega) rfl
  · have hc1 : cells ≤ h'.2.2.1 - h.2.2.1 := by have := hS.2.2.2.2.2.1; rw [hrc] at this; omega
    have hc2 : slots ≤ h'.2.2.2 - h.2.2.2 := by have := hS.2.2.2.2.2.2; rw [hrs] at this; omega
    have hq : ∀ (ov V : Option Value), r = .inl ov → mm_o ws ov V → ∀ t : State, t.heap = H → s.WarmedH t.vm → mm_Q G ws0 s.heap.size r h' asC.toArray s (.returned V) t := fun ov V hr ho t ht hW =>
      ⟨⟨ov, V, ws, hr, rfl, ho, hS.2.2.2.2.1, by rw [ht]; exact hS.1, hS.2.1, hS.2.2.2.1⟩, hS.2.2.1.F ht⟩
    refine ⟨fun x pc hr ⟨ty, hty, hnar⟩ hd => ?_, fun o a E pc hr hk ⟨t, ht⟩ hd => ?_, fun pc hr hn hd => ?_, fun E pc rest q9 ce hr hH' hce hcv hcl => ?_⟩
    · exact W.widen hc1 hc2 (vx_ret (W.zret B.exec B.bytes (B.returns.trans hty) hnar (hq _ _ hr ⟨_, rfl, rfl⟩) (fun z hz => hS.2.2.1.2.2 z hz) hd))
    · exact W.widen hc1 hc2 (vx_ret (W.aret B.exec B.bytes (B.returns.trans ht) (Or.inr ⟨t, rfl⟩) (Or.inr ⟨a, rfl⟩) (hq _ _ hr ⟨_, rfl, ⟨_, hk, rfl⟩⟩) (fun z hz => hS.2.2.1.2.2 z hz) hd))
    · exact W.widen hc1 hc2 (vx_ret (W.vret B.exec B.bytes (B.returns.trans hn) (hq _ _ hr rfl) (fun z hz => hS.2.2.1.2.2 z hz) hd))
    · exact vx_out (fun x hx => (hex x hx).elim) hlocks hce hcv hcl (fun t ht hA => ⟨⟨ws, hr, hS.2.2.2.2.1, by rw [ht]; exact hS.1, hS.2.1, hS.2.2.2.1⟩, hS.2.2.1.F ht⟩) (fun z hz => hS.2.2.1.2.2 z hz) hc1 hc2
  · intro E pc h9 ws H locs cells slots L hlt hr hh' hT hS hsz
    obtain ⟨ik, is, ic, text, sa, d0, d3, d4, d7, d10, t1, t2, t3, t4, t5, t6, t7, t8, t9, t10⟩ := hT
    have b1 : h'.2.2.1 = h9.2.2.1 + 1 := by rw [hh']
    have b2 : h'.2.2.2 = h9.2.2.2 + 6 := by rw [hh']
    have b3 := hS.2.2.2.2.2.1
    have b4 := hS.2.2.2.2.2.2
    rw [hrc] at b3
    rw [hrs] at b4
    refine vx_throwSW (names := mm_chain) B.exec B.bytes hlt (findClass_of_methodNamed B.named) t1 (fun n hn => ?_) (X.2.2.2.1 _ t2) (X.2.2.2.1 _ t3) (t7 s hV) (vx_hat (fun w hw => X.2.2.2.1 _ (t4 w hw)) t5 (fun w hw => va_Nw.use (mm_N_tab hw) (hV.2.2.2.2.2.2 w hw))) t6 hZ1 hZ2 hS.2.2.1 hsz d0 d3 d4 d7 d10 (fun x hx => (hex x hx).elim) ?_ ?_ (by rw [hrc]; omega) (by rw [hrs]; omega) hlocks (fun t hA hz hk => ?_) (fun z hz => hS.2.2.1.2.2 z hz) (by omega) (by omega)
    · simp only [mm_chain, List.mem_cons, List.not_mem_nil, or_false] at hn
      rcases hn with rfl | rfl <;> decide +kernel
    · show 2 + 3 < M.2.2.2.2.2.1; omega
    · show 0 + (13 * (2 + 1) + 43) ≤ M.2.2.2.2.2.2; omega
    · refine ⟨⟨ws, hr, hS.2.2.2.2.1, hS.1.kept (fun k q hq => hk q.1 (hS.1 k q hq).lt), hS.2.1, ?_⟩, Nat.le_trans hS.2.2.1.1 hz, fun q h1 h2 => (hk q (Nat.lt_of_lt_of_le h1 hS.2.2.1.1)).trans (hS.2.2.1.2.1 q h1 h2)⟩
      rw [hh']
      exact ⟨hS.2.2.2.1.1, hS.2.2.2.1.2⟩
theorem ex_throw {l : Launch} {G : mm_G} {M : mm_M} {Q : mm_R → mm_H → Prop} {pc : Nat} {ls : List Value} {h : mm_H} {E : String} (hl : l.stackTraces = false) (hT : mm_Th G M pc E) (q : Q (.inr E) (h.1, h.2.1, h.2.2.1 + 1, h.2.2.2 + 6)) : mm_Ex l G M Q pc ls [] h :=
  ⟨.inr E, _, ⟨Nat.le_succ _, Nat.le_add_right _ _, fun p e R s m args below meth c A ws0 Z X F ws H locs cells slots L stC hS hll hlen hs => by
    rw [show stC = [] from hs]
    exact F.2 E pc h ws H locs cells slots L hl rfl rfl hT hS (by rw [X.2.2.1, hll.2.1, hlen])⟩, q⟩

