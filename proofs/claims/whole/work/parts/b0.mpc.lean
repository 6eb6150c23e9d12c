/-! THE MODEL: new demands, restoring -/
theorem r_dem.snoc {m : mo_S} {L : List tt_R} (h : r_dem m L) (a b w : Int32) : r_dem (mo_sf (mo_sa (mo_sa (mo_sa (mo_sa m 49 L.length a) 50 L.length b) 51 L.length w) 52 L.length 0) 48 (nI (L.length + 1))) (L ++ [(a, b, w, 0)]) := by
  obtain ⟨h1, h2⟩ := h
  refine ⟨by rw [List.length_append]; rfl, fun i r hr => ⟨?_, ?_, ?_, ?_⟩⟩
  · exact ls_up0 (c := fun r => r.1) (x := (a, b, w, 0)) (fun i r hr => (h2 i r hr).1) i r hr
  · exact ls_up0 (c := fun r => r.2.1) (x := (a, b, w, 0)) (fun i r hr => (h2 i r hr).2.1) i r hr
  · exact ls_up0 (c := fun r => r.2.2.1) (x := (a, b, w, 0)) (fun i r hr => (h2 i r hr).2.2.1) i r hr
  · exact ls_up0 (c := fun r => r.2.2.2) (x := (a, b, w, 0)) (fun i r hr => (h2 i r hr).2.2.2) i r hr
theorem dm_kq {a b w : Int32} (h1 : (ii a 0 3 ∧ ii b 0 3 ∧ ¬ a = b) ∧ ii w 1 8) : dm_k (a, b, w, 0) := by
  obtain ⟨⟨⟨a1, a2⟩, ⟨b1, b2⟩, hab⟩, w1, w2⟩ := h1
  obtain ⟨x, hx, rfl⟩ := nI_of (x := a) (Int32.not_lt.mpr a1)
  obtain ⟨y, hy, rfl⟩ := nI_of (x := b) (Int32.not_lt.mpr b1)
  obtain ⟨z, hz, rfl⟩ := nI_of (x := w) (fun k => absurd (Int32.le_trans w1 (Int32.le_of_lt k)) (by decide))
  have e1 := (nI_leI hx (by decide : 3 < 2 ^ 31)).mp a2
  have e2 := (nI_leI hy (by decide : 3 < 2 ^ 31)).mp b2
  have e3 := (nI_leI hz (by decide : 8 < 2 ^ 31)).mp w2
  have e4 := (nI_leI (by decide : 1 < 2 ^ 31) hz).mp w1
  exact ⟨x, y, z, 0, rfl, by omega, by omega, fun e => hab (by rw [e]), e4, e3, by decide⟩
theorem dm_kw {s : cl_S} {n : Nat} (hi : iv n s) {e : tt_R} (he : dm_k e) (st : Nat → Int32) : ∃ z, z < 64 ∧ ne_w (s.1 5) (s.1 6) st (cl_dl s) e = nI z := by
  obtain ⟨a, b, w, z, rfl, h1, h2, h3, -⟩ := he
  rw [ne_w_f hi (a := a) (b := b) rfl rfl h1 h2 h3]
  exact mcr_64
section MPC
variable {l : Launch} {G : mm_G} {h0 h : mm_H} {m : mo_S} {s : cl_S} {n : Nat}
theorem c_X9_demand (p : mo_P h0 h m) (r : r_all s m) (hi : iv n s) (hn : n ≤ 513) (a b w : Int32) : mm_Ct l G mX9_demand [.ref 29, .int a, .int b, .int w] h (mo_Z h0 cx_a cx_s (cm_demand s a b w)) := by
  have hL : (s.1 6).length ≤ 10 := hi.D.1
  have r10 := r.2.2.2.2.2.2.2.2.2
  refine mm_ct (by decide +kernel) (by decide +kernel) rfl (by simp [Value.category]) (Nat.le_of_ble_eq_true rfl) rfl ?_
  refine mm_via (p := (ii a 0 3 ∧ ii b 0 3 ∧ ¬ a = b) ∧ ii w 1 8) (pc' := 38) (ls' := [.ref 29, .int a, .int b, .int w, .null]) (st := []) (fun z hb => ?_) (fun k => ?_)
  · refine mm_viaJ (if (ii a 0 3 ∧ ii b 0 3 ∧ ¬ a = b) ∧ ii w 1 8 then (if nI (s.1 6).length < 10 then 0 else 2) else 1) (pc' := 64) (ls' := [.ref 29, .int a, .int b, .int w, .int z]) (st := [.ref 29]) ?_ (fun k => ?_)
    · skip
      refine ex_put dX9_demand_64 p_X9_120 (mP_o p) (Nat.le_of_ble_eq_true rfl) (fun z => nomatch z) (mm_fi _) ?_
      refine mk_0 p (fun h64 p64 => ?_)
      skip
      unfold cm_demand
      by_cases h1 : (ii a 0 3 ∧ ii b 0 3 ∧ ¬ a = b) ∧ ii w 1 8
      rotate_left
      · rw [if_neg h1] at p64
        rw [if_neg h1]
        refine ex_aload_n dX9_demand_67 rfl ?_
        refine ex_getfield (v := .int (1)) dX9_demand_68 g_X9_120 (mP_o p64) (congrArg (fun z => some (Value.int z)) (rfl)) ?_
        refine ex_if_le (tgt := 76) dX9_demand_71 (by decide) (fun z => absurd z (by decide)) (fun _ => ?_)
        refine ex_iconst (v := 0) dX9_demand_74 (by decide) ?_
        refine ex_ireturn dX9_demand_75 ⟨_, rfl, rfl⟩ ?_
        exact ⟨_, rfl, _, p64, r, ⟨Or.inl ⟨rfl, rfl⟩, _, rfl⟩⟩
      rw [if_pos h1] at p64
      rw [if_pos h1]
      by_cases h2 : nI (s.1 6).length < 10
      rotate_left
      · rw [if_neg h2] at p64
        rw [if_neg h2]
        refine ex_aload_n dX9_demand_67 rfl ?_
        refine ex_getfield (v := .int (2)) dX9_demand_68 g_X9_120 (mP_o p64) (congrArg (fun z => some (Value.int z)) (rfl)) ?_
        refine ex_if_le (tgt := 76) dX9_demand_71 (by decide) (fun z => absurd z (by decide)) (fun _ => ?_)
        refine ex_iconst (v := 0) dX9_demand_74 (by decide) ?_
        refine ex_ireturn dX9_demand_75 ⟨_, rfl, rfl⟩ ?_
        exact ⟨_, rfl, _, p64, r, ⟨Or.inr ⟨rfl, rfl⟩, _, rfl⟩⟩
      rw [if_pos h2] at p64
      rw [if_pos h2]
      have hL6 : (s.1 6).length < 10 := (nI_ltI (b := 10) (by omega) (by decide)).mp h2
      have hiq : iv n (dm_t s (dm_q s a b w)) := iv_dt hi (by unfold dm_q; rw [List.length_append]; exact hL6) (fun q hq => by
        unfold dm_q at hq
        rcases List.mem_append.mp hq with z | z
        · exact hi.D.2 q z
        · rw [List.mem_singleton.mp z]; exact dm_kq h1)
      have heq : ((dm_t s (dm_q s a b w)).1 6)[(s.1 6).length]? = some (a, b, w, 0) := ls_snoc_get
      refine ex_aload_n dX9_demand_67 rfl ?_
      refine ex_getfield (v := .int (0)) dX9_demand_68 g_X9_120 (mP_o p64) (congrArg (fun z => some (Value.int z)) (rfl)) ?_
      refine ex_if_le (tgt := 76) dX9_demand_71 (by decide) (fun _ => ?_) (fun z => absurd (by decide) z)
      refine ex_aload_n dX9_demand_76 rfl ?_
      refine ex_getfield dX9_demand_77 g_X9_105 (mP_o p64) rfl ?_
      refine ex_aload_n dX9_demand_80 rfl ?_
      refine ex_getfield (v := .int (nI (s.1 6).length)) dX9_demand_81 g_X9_286 (mP_o p64) (congrArg (fun z => some (Value.int z)) (r10.1)) ?_
      refine ex_iload_n dX9_demand_84 rfl ?_
      refine ex_iastore dX9_demand_85 (mA_49 p64) (by first | assumption | exact vp_in_nI (by omega) (by decide)) ?_
      refine mq_49 p64 (fun h85 p85 => ?_)
      refine ex_aload_n dX9_demand_86 rfl ?_
      refine ex_getfield dX9_demand_87 g_X9_108 (mP_o p85) rfl ?_
      refine ex_aload_n dX9_demand_90 rfl ?_
      refine ex_getfield (v := .int (nI (s.1 6).length)) dX9_demand_91 g_X9_286 (mP_o p85) (congrArg (fun z => some (Value.int z)) (r10.1)) ?_
      refine ex_iload_n dX9_demand_94 rfl ?_
      refine ex_iastore dX9_demand_95 (mA_50 p85) (by first | assumption | exact vp_in_nI (by omega) (by decide)) ?_
      refine mq_50 p85 (fun h95 p95 => ?_)
      refine ex_aload_n dX9_demand_96 rfl ?_
      refine ex_getfield dX9_demand_97 g_X9_111 (mP_o p95) rfl ?_
      refine ex_aload_n dX9_demand_100 rfl ?_
      refine ex_getfield (v := .int (nI (s.1 6).length)) dX9_demand_101 g_X9_286 (mP_o p95) (congrArg (fun z => some (Value.int z)) (r10.1)) ?_
      refine ex_iload_n dX9_demand_104 rfl ?_
      refine ex_iastore dX9_demand_105 (mA_51 p95) (by first | assumption | exact vp_in_nI (by omega) (by decide)) ?_
      refine mq_51 p95 (fun h105 p105 => ?_)
      refine ex_aload_n dX9_demand_106 rfl ?_
      refine ex_getfield dX9_demand_107 g_X9_114 (mP_o p105) rfl ?_
      refine ex_aload_n dX9_demand_110 rfl ?_
      refine ex_getfield (v := .int (nI (s.1 6).length)) dX9_demand_111 g_X9_286 (mP_o p105) (congrArg (fun z => some (Value.int z)) (r10.1)) ?_
      refine ex_iconst (v := 0) dX9_demand_114 (by decide) ?_
      refine ex_iastore dX9_demand_115 (mA_52 p105) (by first | assumption | exact vp_in_nI (by omega) (by decide)) ?_
      refine mq_52 p105 (fun h115 p115 => ?_)
      refine ex_aload_n dX9_demand_116 rfl ?_
      refine ex_dup dX9_demand_117 rfl ?_
      refine ex_getfield (v := .int (nI (s.1 6).length)) dX9_demand_118 g_X9_286 (mP_o p115) (congrArg (fun z => some (Value.int z)) (r10.1)) ?_
      refine ex_iconst (v := 1) dX9_demand_121 (by decide) ?_
      refine ex_iadd dX9_demand_122 ?_
      rw [nI_1]
      refine ex_put dX9_demand_123 p_X9_286 (mP_o p115) (Nat.le_of_ble_eq_true rfl) (fun z => nomatch z) (mm_fi _) ?_
      refine mk_48 p115 (fun h123 p123 => ?_)
      skip
      rw [nI_clamp (show (s.1 6).length < 2 ^ 31 by omega)] at p123
      have rq : r_all (dm_t s (dm_q s a b w)) (mo_sf (mo_sa (mo_sa (mo_sa (mo_sa (mo_sf m 0 0) 49 (s.1 6).length a) 50 (s.1 6).length b) 51 (s.1 6).length w) 52 (s.1 6).length 0) 48 (nI ((s.1 6).length + 1))) := ⟨r.1, r.2.1, r.2.2.1, r.2.2.2.1, r.2.2.2.2.1, r.2.2.2.2.2.1, r.2.2.2.2.2.2.1, r.2.2.2.2.2.2.2.1, r.2.2.2.2.2.2.2.2.1, r_dem.snoc (m := mo_sf m 0 0) r10 a b w⟩
      refine ex_aload_n dX9_demand_126 rfl ?_
      refine ex_aload_n dX9_demand_127 rfl ?_
      refine ex_getfield (v := .int (nI ((s.1 6).length + 1))) dX9_demand_128 g_X9_286 (mP_o p123) (congrArg (fun z => some (Value.int z)) (rfl)) ?_
      refine ex_iconst (v := 1) dX9_demand_131 (by decide) ?_
      refine ex_isub dX9_demand_132 ?_
      refine cV_y dX9_demand_133 (mm_kv i_X9_carries l_X9_301) ⟨(Nat.le_of_ble_eq_true rfl), (Nat.le_of_ble_eq_true rfl)⟩ (c_X9_carries p123 rq hiq hn heq _ (nI_m1 _)) rfl rfl (mP_o p123) (Nat.le_of_ble_eq_true rfl) rfl ?_
      rintro h133 ⟨m2, p133, rr, z133⟩
      have hm2 : m2.1 48 = nI ((s.1 6).length + 1) := rr.2.2.2.2.2.2.2.2.2.1.trans (congrArg nI (by show ((dm_q s a b w).set _ _).length = _; rw [List.length_set]; unfold dm_q; rw [List.length_append]; rfl))
      refine ex_aload_n dX9_demand_136 rfl ?_
      refine ex_getfield (v := .int (nI ((s.1 6).length + 1))) dX9_demand_137 g_X9_286 (mP_o p133) (congrArg (fun z => some (Value.int z)) (hm2)) ?_
      refine ex_iconst (v := 1) dX9_demand_140 (by decide) ?_
      refine ex_isub dX9_demand_141 ?_
      refine ex_ireturn dX9_demand_142 ⟨_, rfl, rfl⟩ ?_
      refine ⟨_, rfl, _, p133, ?_, z133, congrArg Value.int (nI_m1 _)⟩
      have e1 : dm_t (dm_t s (dm_q s a b w)) (((dm_t s (dm_q s a b w)).1 6).set (s.1 6).length (dm_n (dm_t s (dm_q s a b w)) (a, b, w, 0))) = (va_up s.1 6 (s.1 6 ++ [(a, b, w, ne_w (s.1 5) (dm_q s a b w) s.2.2.2.2.2.1 (cl_dl s) (a, b, w, 0))]), s.2) := by
        show (va_up (va_up s.1 6 (dm_q s a b w)) 6 ((s.1 6 ++ [(a, b, w, 0)]).set (s.1 6).length (dm_n (dm_t s (dm_q s a b w)) (a, b, w, 0))), s.2) = _
        rw [va_uu, ls_snoc_set]
        rfl
      rw [e1] at rr
      exact rr
    · skip
      refine ex_istore dX9_demand_38 (Nat.le_of_ble_eq_true rfl) ?_
      refine ex_aload_n dX9_demand_40 rfl ?_
      refine ex_iload dX9_demand_41 rfl ?_
      refine ex_if_ne (tgt := 50) dX9_demand_43 (by decide) (fun c_43 => ?_) (fun c_43 => ?_)
      · refine ex_aload_n dX9_demand_50 rfl ?_
        refine ex_getfield (v := .int (nI (s.1 6).length)) dX9_demand_51 g_X9_286 (mP_o p) (congrArg (fun z => some (Value.int z)) (r10.1)) ?_
        refine ex_bipush (v := 10) dX9_demand_54 (by decide) ?_
        refine ex_icmp_ne (tgt := 63) dX9_demand_56 (by decide) (fun c_56 => ?_) (fun c_56 => ?_)
        · refine ex_iconst (v := 0) dX9_demand_63 (by decide) ?_
          exact k _ (by rw [if_pos (bb_n.mp (hb ▸ c_43)), if_pos (show nI (s.1 6).length < 10 from nI_lt (b := 10) (by rcases Nat.lt_or_ge (s.1 6).length 10 with z | z; exact z; exact absurd (by rw [show (s.1 6).length = 10 by omega]; rfl) c_56) (by decide))])
        · refine ex_iconst (v := 2) dX9_demand_59 (by decide) ?_
          refine ex_goto (tgt := 64) dX9_demand_60 (by decide) ?_
          exact k _ (by rw [if_pos (bb_n.mp (hb ▸ c_43)), if_neg (by rw [c_56]; decide)])
      · refine ex_iconst (v := 1) dX9_demand_46 (by decide) ?_
        refine ex_goto (tgt := 64) dX9_demand_47 (by decide) ?_
        exact k _ (by rw [if_neg (bb_0.mp (hb ▸ c_43))])
  · skip
    refine ex_iload_n dX9_demand_0 rfl ?_
    refine ex_iconst (v := 0) dX9_demand_1 (by decide) ?_
    refine ex_iconst (v := 3) dX9_demand_2 (by decide) ?_
    refine cS_f dX9_demand_3 (mm_ks i_X9_isIn l_X9_123) ⟨(Nat.le_of_ble_eq_true rfl), (Nat.le_of_ble_eq_true rfl)⟩ (c_X9_isIn _ _ _) rfl rfl (Nat.le_of_ble_eq_true rfl) rfl ?_
    refine ex_if_eq (tgt := 37) dX9_demand_6 (by decide) (fun c_6 => ?_) (fun c_6 => ?_)
    · refine ex_iconst (v := 0) dX9_demand_37 (by decide) ?_
      exact k _ (bb_f (fun z => bb_0.mp c_6 z.1.1)).symm
    · refine ex_iload_n dX9_demand_9 rfl ?_
      refine ex_iconst (v := 0) dX9_demand_10 (by decide) ?_
      refine ex_iconst (v := 3) dX9_demand_11 (by decide) ?_
      refine cS_f dX9_demand_12 (mm_ks i_X9_isIn l_X9_123) ⟨(Nat.le_of_ble_eq_true rfl), (Nat.le_of_ble_eq_true rfl)⟩ (c_X9_isIn _ _ _) rfl rfl (Nat.le_of_ble_eq_true rfl) rfl ?_
      refine ex_if_eq (tgt := 37) dX9_demand_15 (by decide) (fun c_15 => ?_) (fun c_15 => ?_)
      · refine ex_iconst (v := 0) dX9_demand_37 (by decide) ?_
        exact k _ (bb_f (fun z => bb_0.mp c_15 z.1.2.1)).symm
      · refine ex_iload_n dX9_demand_18 rfl ?_
        refine ex_iload_n dX9_demand_19 rfl ?_
        refine ex_icmp_eq (tgt := 37) dX9_demand_20 (by decide) (fun c_20 => ?_) (fun c_20 => ?_)
        · refine ex_iconst (v := 0) dX9_demand_37 (by decide) ?_
          exact k _ (bb_f (fun z => z.1.2.2 c_20)).symm
        · refine ex_iload_n dX9_demand_23 rfl ?_
          refine ex_iconst (v := 1) dX9_demand_24 (by decide) ?_
          refine ex_bipush (v := 8) dX9_demand_25 (by decide) ?_
          refine cS_f dX9_demand_27 (mm_ks i_X9_isIn l_X9_123) ⟨(Nat.le_of_ble_eq_true rfl), (Nat.le_of_ble_eq_true rfl)⟩ (c_X9_isIn _ _ _) rfl rfl (Nat.le_of_ble_eq_true rfl) rfl ?_
          refine ex_if_eq (tgt := 37) dX9_demand_30 (by decide) (fun c_30 => ?_) (fun c_30 => ?_)
          · refine ex_iconst (v := 0) dX9_demand_37 (by decide) ?_
            exact k _ (bb_f (fun z => bb_0.mp c_30 z.2)).symm
          · refine ex_iconst (v := 1) dX9_demand_33 (by decide) ?_
            refine ex_goto (tgt := 38) dX9_demand_34 (by decide) ?_
            exact k _ (bb_t ⟨⟨bb_n.mp c_6, bb_n.mp c_15, c_20⟩, bb_n.mp c_30⟩).symm
theorem off_0 {q : tt_R} {d : Int32} (h : ¬ (¬ q.2.2.2 = 0 ∧ q.2.2.2 &&& d = 0)) : ne_off d q = dm_e q 0 := by
  unfold ne_off
  split
  · rename_i z
    have : q.2.2.2 = 0 := Decidable.not_not.mp (fun y => h ⟨y, z⟩)
    unfold dm_e
    rw [← this]
  · rfl
theorem off_1 {q : tt_R} {d : Int32} (h : ¬ q.2.2.2 = 0 ∧ q.2.2.2 &&& d = 0) : ne_off d q = dm_e q q.2.2.2 := by
  unfold ne_off
  rw [if_pos h.2]
  rfl
theorem off_k {q : tt_R} {d : Int32} (h : dm_k q) : dm_k (ne_off d q) := by
  unfold ne_off
  split
  · exact h
  · exact h.e (z := 0) (by decide)
theorem dm_tt {s : cl_S} {D E : List tt_R} : dm_t (dm_t s D) E = dm_t s E := by
  unfold dm_t
  rw [show (va_up s.1 6 D, s.2).1 = va_up s.1 6 D from rfl, va_uu]
theorem x_X9_off (hi : iv n s) (hn : n ≤ 513) {Q : mm_R → mm_H → Prop} {x2 : Value} : ∀ (R D : List tt_R) (m : mo_S) (h : mm_H), D.length + R.length ≤ 10 → (∀ q ∈ D ++ R, dm_k q) → mo_P h0 h m → r_all (dm_t s (D ++ R)) m → m.1 0 = 0 → (∀ (m : mo_S) (h : mm_H) (x1 : Value), mo_P h0 h m → r_all (dm_t s (D ++ R.map (ne_off (cl_dl s)))) m → m.1 0 = 0 → mm_Ex l G mX9_restore Q 45 [.ref 29, x1, x2] [] h) → mm_Ex l G mX9_restore Q 7 [.ref 29, .int (nI D.length), x2] [] h
  | [], D, m, h, hl, hk, p, r, hm, kk => by
    have hd : m.1 48 = nI (D ++ []).length := r.2.2.2.2.2.2.2.2.2.1
    rw [List.append_nil] at hd
    refine ex_iload_n dX9_restore_7 rfl ?_
    refine ex_aload_n dX9_restore_8 rfl ?_
    refine ex_getfield (v := .int (nI D.length)) dX9_restore_9 g_X9_286 (mP_o p) (congrArg (fun z => some (Value.int z)) (hd)) ?_
    refine ex_icmp_ge (tgt := 45) dX9_restore_12 (by decide) (fun _ => ?_) (fun z => absurd (Int32.le_refl _) z)
    exact kk _ _ _ p r hm
  | q :: R, D, m, h, hl, hk, p, r, hm, kk => by
    rw [List.length_cons] at hl
    have hd : m.1 48 = nI (D ++ q :: R).length := r.2.2.2.2.2.2.2.2.2.1
    have hi2 : iv n (dm_t s (D ++ q :: R)) := iv_dt hi (by rw [List.length_append, List.length_cons]; omega) hk
    have he : ((dm_t s (D ++ q :: R)).1 6)[D.length]? = some q := ls_mg
    have rd := r.2.2.2.2.2.2.2.2.2.2
    have ih := fun (x : tt_R) (hx : dm_k x) (hxo : x = ne_off (cl_dl s) q) (m : mo_S) (h : mm_H) (p : mo_P h0 h m) (r : r_all (dm_t s (D ++ x :: R)) m) (hm : m.1 0 = 0) => x_X9_off hi hn (Q := Q) (x2 := x2) R (D ++ [x]) m h (by rw [List.length_append]; show D.length + 1 + _ ≤ _; omega) (by
      rw [List.append_assoc]
      intro y hy
      rcases List.mem_append.mp hy with z | z
      · exact hk y (List.mem_append_left _ z)
      · rcases List.mem_cons.mp z with z | z
        · rw [z]; exact hx
        · exact hk y (List.mem_append_right _ (List.mem_cons_of_mem _ z))) p (by rw [List.append_assoc]; exact r) hm (fun m h x1 p r hm => kk m h x1 p (by rw [List.append_assoc, hxo] at r; exact r) hm)
    have hq := hk q (List.mem_append_right _ List.mem_cons_self)
    have rset : ∀ v, r_all (dm_t s (D ++ dm_e q v :: R)) (mo_sa m 52 D.length v) := fun v => by
      have := r_dm (s := dm_t s (D ++ q :: R)) r he v
      rw [dm_tt, show ((dm_t s (D ++ q :: R)).1 6).set D.length (dm_e q v) = D ++ dm_e q v :: R from ls_ms] at this
      exact this
    have hlen : (nI D.length + 1) = nI (D ++ [q]).length := by rw [List.length_append, nI_1]; rfl
    have hlen2 : ∀ x : tt_R, (D ++ [x]).length = (D ++ [q]).length := fun x => by rw [List.length_append, List.length_append]; rfl
    have hcl : (nI D.length).toNatClampNeg = D.length := nI_clamp (by omega)
    refine ex_iload_n dX9_restore_7 rfl ?_
    refine ex_aload_n dX9_restore_8 rfl ?_
    refine ex_getfield (v := .int (nI (D ++ q :: R).length)) dX9_restore_9 g_X9_286 (mP_o p) (congrArg (fun z => some (Value.int z)) (hd)) ?_
    refine ex_icmp_ge (tgt := 45) dX9_restore_12 (by decide) (fun z => absurd z (nI_ge (by rw [List.length_append, List.length_cons]; omega) (by rw [List.length_append, List.length_cons]; omega))) (fun _ => ?_)
    refine ex_aload_n dX9_restore_15 rfl ?_
    refine ex_getfield dX9_restore_16 g_X9_114 (mP_o p) rfl ?_
    refine ex_iload_n dX9_restore_19 rfl ?_
    refine ex_aload_n dX9_restore_20 rfl ?_
    refine ex_iload_n dX9_restore_21 rfl ?_
    refine cV_f dX9_restore_22 (mm_kv i_X9_isCarried l_X9_304) ⟨(Nat.le_of_ble_eq_true rfl), (Nat.le_of_ble_eq_true rfl)⟩ (c_X9_isCarried p r hi2 hn he _ rfl) rfl rfl (mP_o p) (Nat.le_of_ble_eq_true rfl) rfl ?_
    refine ex_if_eq (tgt := 37) dX9_restore_25 (by decide) (fun c_25 => ?_) (fun c_25 => ?_)
    · refine ex_iconst (v := 0) dX9_restore_37 (by decide) ?_
      refine ex_iastore dX9_restore_38 (mA_52 p) (by first | assumption | exact vp_in_nI (by omega) (by decide)) ?_
      refine mq_52 p (fun h38 p38 => ?_)
      refine ex_iinc (d := 1) dX9_restore_39 rfl (by decide) ?_
      refine ex_goto (tgt := 7) dX9_restore_42 (by decide) ?_
      rw [hlen, ← hlen2 (dm_e q 0)]; rw [hcl] at p38; exact ih _ (hq.e (z := 0) (by decide)) (off_0 (bb_0.mp c_25)).symm _ _ p38 (rset 0) hm
    · refine ex_aload_n dX9_restore_28 rfl ?_
      refine ex_getfield dX9_restore_29 g_X9_114 (mP_o p) rfl ?_
      refine ex_iload_n dX9_restore_32 rfl ?_
      refine ex_ialoadv (v := q.2.2.2) dX9_restore_33 (mA_52 p) (by first | assumption | exact vp_in_nI (by omega) (by decide)) (mo_av (rd D.length q he).2.2.2 rfl (by omega)) ?_
      refine ex_goto (tgt := 38) dX9_restore_34 (by decide) ?_
      refine ex_iastore dX9_restore_38 (mA_52 p) (by first | assumption | exact vp_in_nI (by omega) (by decide)) ?_
      refine mq_52 p (fun h38 p38 => ?_)
      refine ex_iinc (d := 1) dX9_restore_39 rfl (by decide) ?_
      refine ex_goto (tgt := 7) dX9_restore_42 (by decide) ?_
      rw [hlen, ← hlen2 (dm_e q q.2.2.2)]; rw [hcl] at p38; exact ih _ hq (off_1 (bb_n.mp c_25)).symm _ _ p38 (rset q.2.2.2) hm
theorem x_X9_dark (hi : iv n s) (hn : n ≤ 513) {x1 : Value} : ∀ (R P : List tt_R) (st : Nat → Int32) (nd : Int32) (m : mo_S) (h : mm_H), P.length + R.length ≤ 10 → (∀ q ∈ P ++ R, dm_k q) → mo_P h0 h m → r_all (dm_t s (P ++ R)) m → m.1 0 = 0 → mm_Ex l G mX9_restore (mm_qi (fun v h' => ∃ m', mo_P h0 h' m' ∧ r_all (dm_t s (ne_cd (s.1 5) (cl_dl s) R P st nd).1) m' ∧ v = .int (ne_cd (s.1 5) (cl_dl s) R P st nd).2.2)) 49 [.ref 29, .int nd, .int (nI P.length)] [] h
  | [], P, st, nd, m, h, hl, hk, p, r, hm => by
    have hd : m.1 48 = nI (P ++ []).length := r.2.2.2.2.2.2.2.2.2.1
    rw [List.append_nil] at hd r
    refine ex_iload_n dX9_restore_49 rfl ?_
    refine ex_aload_n dX9_restore_50 rfl ?_
    refine ex_getfield (v := .int (nI P.length)) dX9_restore_51 g_X9_286 (mP_o p) (congrArg (fun z => some (Value.int z)) (hd)) ?_
    refine ex_icmp_ge (tgt := 85) dX9_restore_54 (by decide) (fun _ => ?_) (fun z => absurd (Int32.le_refl _) z)
    refine ex_iload_n dX9_restore_85 rfl ?_
    refine ex_ireturn dX9_restore_86 ⟨_, rfl, rfl⟩ ?_
    exact ⟨_, rfl, _, p, r, rfl⟩
  | q :: R, P, st, nd, m, h, hl, hk, p, r, hm => by
    rw [List.length_cons] at hl
    have hd : m.1 48 = nI (P ++ q :: R).length := r.2.2.2.2.2.2.2.2.2.1
    have hi2 : iv n (dm_t s (P ++ q :: R)) := iv_dt hi (by rw [List.length_append, List.length_cons]; omega) hk
    have he : ((dm_t s (P ++ q :: R)).1 6)[P.length]? = some q := ls_mg
    have hq := hk q (List.mem_append_right _ List.mem_cons_self)
    obtain ⟨z, hz64, hz⟩ := dm_kw hi2 hq st
    have hz' : ne_w (s.1 5) (P ++ q :: R) st (cl_dl s) q = nI z := hz
    have hcd : ∃ (st2 : Nat → Int32) (v : Int32), dm_n (dm_t s (P ++ q :: R)) q = dm_e q v ∧ dm_k (dm_e q v) ∧ ne_cd (s.1 5) (cl_dl s) (q :: R) P st nd = ne_cd (s.1 5) (cl_dl s) R (P ++ [dm_e q v]) st2 (if v = 0 then nd + 1 else nd) := by
      rw [ne_cd]
      unfold dm_n
      by_cases e : q.2.2.2 = 0
      · rw [if_pos e, if_pos e]
        refine ⟨ne_cs (s.1 5) st q.2.1 (ne_us (P ++ q :: R) q.2.2.1 (cl_dl s) (s.1 5) 0 0), ne_w (s.1 5) (P ++ q :: R) st (cl_dl s) q, ?_, by rw [hz']; exact hq.e hz64, rfl⟩
        obtain ⟨a, b, w, y, e2, h1, h2, h3, -⟩ := hq
        have e3 := ne_w_f hi2 (e := q) (a := a) (b := b) (by rw [e2]) (by rw [e2]) h1 h2 h3
        rw [e3]
        exact congrArg (dm_e q) (e3 st).symm
      · rw [if_neg e, if_neg e]
        exact ⟨st, q.2.2.2, rfl, hq, by rw [if_neg e]; rfl⟩
    obtain ⟨st2, v, e1, e2, e3⟩ := hcd
    rw [e3]
    have ih := fun (m : mo_S) (h : mm_H) (p : mo_P h0 h m) (r : r_all (dm_t s (P ++ dm_e q v :: R)) m) (hm : m.1 0 = 0) => x_X9_dark hi hn (x1 := x1) R (P ++ [dm_e q v]) st2 (if v = 0 then nd + 1 else nd) m h (by rw [List.length_append]; show P.length + 1 + _ ≤ _; omega) (by
      rw [List.append_assoc]
      intro y hy
      rcases List.mem_append.mp hy with z | z
      · exact hk y (List.mem_append_left _ z)
      · rcases List.mem_cons.mp z with z | z
        · rw [z]; exact e2
        · exact hk y (List.mem_append_right _ (List.mem_cons_of_mem _ z))) p (by rw [List.append_assoc]; exact r) hm
    have hlen : (nI P.length + 1) = nI (P ++ [dm_e q v]).length := by rw [List.length_append, nI_1]; rfl
    have hsx : dm_t (dm_t s (P ++ q :: R)) (((dm_t s (P ++ q :: R)).1 6).set P.length (dm_n (dm_t s (P ++ q :: R)) q)) = dm_t s (P ++ dm_e q v :: R) := by
      rw [e1, dm_tt]; show dm_t s ((P ++ q :: R).set P.length _) = _; rw [ls_ms]
    refine ex_iload_n dX9_restore_49 rfl ?_
    refine ex_aload_n dX9_restore_50 rfl ?_
    refine ex_getfield (v := .int (nI (P ++ q :: R).length)) dX9_restore_51 g_X9_286 (mP_o p) (congrArg (fun z => some (Value.int z)) (hd)) ?_
    refine ex_icmp_ge (tgt := 85) dX9_restore_54 (by decide) (fun z => absurd z (nI_ge (by rw [List.length_append, List.length_cons]; omega) (by rw [List.length_append, List.length_cons]; omega))) (fun _ => ?_)
    refine ex_aload_n dX9_restore_57 rfl ?_
    refine ex_iload_n dX9_restore_58 rfl ?_
    refine cV_y dX9_restore_59 (mm_kv i_X9_carries l_X9_301) ⟨(Nat.le_of_ble_eq_true rfl), (Nat.le_of_ble_eq_true rfl)⟩ (c_X9_carries p r hi2 hn he _ rfl) rfl rfl (mP_o p) (Nat.le_of_ble_eq_true rfl) rfl ?_
    rintro h59 ⟨m2, p59, rr, z59⟩
    rw [hsx] at rr
    refine ex_iload_n dX9_restore_62 rfl ?_
    refine ex_aload_n dX9_restore_63 rfl ?_
    refine ex_getfield dX9_restore_64 g_X9_114 (mP_o p59) rfl ?_
    refine ex_iload_n dX9_restore_67 rfl ?_
    refine ex_ialoadv (v := v) dX9_restore_68 (mA_52 p59) (by first | assumption | exact vp_in_nI (by omega) (by decide)) (mo_av (show m2.2.2 52 P.length = v from (rr.2.2.2.2.2.2.2.2.2.2 P.length (dm_e q v) ls_mg).2.2.2) rfl (by omega)) ?_
    refine ex_if_ne (tgt := 76) dX9_restore_69 (by decide) (fun c_69 => ?_) (fun c_69 => ?_)
    · refine ex_iconst (v := 0) dX9_restore_76 (by decide) ?_
      refine ex_iadd dX9_restore_77 ?_
      refine ex_istore_n dX9_restore_78 (Nat.le_of_ble_eq_true rfl) ?_
      refine ex_iinc (d := 1) dX9_restore_79 rfl (by decide) ?_
      refine ex_goto (tgt := 49) dX9_restore_82 (by decide) ?_
      rw [hlen]; rw [if_neg c_69] at ih ⊢; rw [show nd + 0 = nd by grind]; exact ih _ _ p59 rr (z59.trans hm)
    · refine ex_iconst (v := 1) dX9_restore_72 (by decide) ?_
      refine ex_goto (tgt := 77) dX9_restore_73 (by decide) ?_
      refine ex_iadd dX9_restore_77 ?_
      refine ex_istore_n dX9_restore_78 (Nat.le_of_ble_eq_true rfl) ?_
      refine ex_iinc (d := 1) dX9_restore_79 rfl (by decide) ?_
      refine ex_goto (tgt := 49) dX9_restore_82 (by decide) ?_
      rw [hlen]; rw [if_pos c_69] at ih ⊢; exact ih _ _ p59 rr (z59.trans hm)
theorem c_X9_restore (p : mo_P h0 h m) (r : r_all s m) (hi : iv n s) (hn : n ≤ 513) : mm_Ct l G mX9_restore [.ref 29] h (mm_qi (fun v h' => ∃ m', mo_P h0 h' m' ∧ r_all (cm_restore s).2 m' ∧ (cm_restore s).1 = .inl (some (ne_cd (s.1 5) (cl_dl s) ((s.1 6).map (ne_off (cl_dl s))) [] s.2.2.2.2.2.1 0).2.2) ∧ v = .int (ne_cd (s.1 5) (cl_dl s) ((s.1 6).map (ne_off (cl_dl s))) [] s.2.2.2.2.2.1 0).2.2)) := by
  refine mm_ct (by decide +kernel) (by decide +kernel) rfl (by simp [Value.category]) (Nat.le_of_ble_eq_true rfl) rfl ?_
  refine ex_aload_n dX9_restore_0 rfl ?_
  refine ex_iconst (v := 0) dX9_restore_1 (by decide) ?_
  refine ex_put dX9_restore_2 p_X9_120 (mP_o p) (Nat.le_of_ble_eq_true rfl) (fun z => nomatch z) (mm_fi _) ?_
  refine mk_0 p (fun h2 p2 => ?_)
  refine ex_iconst (v := 0) dX9_restore_5 (by decide) ?_
  refine ex_istore_n dX9_restore_6 (Nat.le_of_ble_eq_true rfl) ?_
  skip
  have hs : dm_t s ([] ++ s.1 6) = s := by unfold dm_t; rw [List.nil_append, va_id]
  refine x_X9_off hi hn (s.1 6) [] _ _ (by have := hi.D.1; show 0 + _ ≤ _; omega) (fun q hq => hi.D.2 q hq) p2 (by rw [hs]; exact r) rfl (fun m1 h1 x1 p1 r1 hm1 => ?_)
  refine ex_iconst (v := 0) dX9_restore_45 (by decide) ?_
  refine ex_istore_n dX9_restore_46 (Nat.le_of_ble_eq_true rfl) ?_
  refine ex_iconst (v := 0) dX9_restore_47 (by decide) ?_
  refine ex_istore_n dX9_restore_48 (Nat.le_of_ble_eq_true rfl) ?_
  skip
  refine mm_ex_mono (x_X9_dark hi hn (x1 := x1) ((s.1 6).map (ne_off (cl_dl s))) [] s.2.2.2.2.2.1 0 m1 h1 (by rw [List.length_map]; have := hi.D.1; show 0 + _ ≤ _; omega) (fun q hq => ?_) p1 r1 hm1) ?_
  · obtain ⟨y, hy, rfl⟩ := List.mem_map.mp hq
    exact off_k (hi.D.2 y hy)
  · rintro r2 h2 ⟨v, q1, m2, q2, q3, q4⟩
    exact ⟨v, q1, m2, q2, q3, rfl, q4⟩
end MPC
