/-! THE NETWORK: steps, ways -/
def ne_sh (st : Nat → Int32) (f t : Int32) : Nat → Int32 := if f < 0 then st else if 4 ≤ f then st else if st f.toNatClampNeg ≤ ne_sf st t + 1 then st else upd st f.toNatClampNeg (ne_sf st t + 1)
def ne_rd (u : Int32) : List tt_R → Nat → (Nat → Int32) → (Nat → Int32)
  | [], _, st => st
  | r :: L, i, st => if ne_b u i = 1 then ne_rd u L (i + 1) (ne_sh (ne_sh st r.1 r.2.1) r.2.1 r.1) else ne_rd u L (i + 1) st
def ne_f4 (st : Nat → Int32) : Nat → Int32 := upd (upd (upd (upd st 0 4) 1 4) 2 4) 3 4
def ne_c1 (st : Nat → Int32) (e : Int32) : Nat → Int32 := if e < 0 then ne_f4 st else if 4 ≤ e then ne_f4 st else upd (ne_f4 st) e.toNatClampNeg 0
def ne_cs (L : List tt_R) (st : Nat → Int32) (e u : Int32) : Nat → Int32 := ne_rd u L 0 (ne_rd u L 0 (ne_rd u L 0 (ne_c1 st e)))
def ne_bi (u s : Int32) (st : Nat → Int32) (left : Int32) : List tt_R → Nat → Int32 → Int32 × Int32
  | [], _, f => (-1, f)
  | r :: L, i, f => if ne_b u i = 1 then (if ne_oe r s = -1 then ne_bi u s st left L (i + 1) f else if ne_sf st (ne_oe r s) = left - 1 then (ne_oe r s, f ||| ne_1 i) else ne_bi u s st left L (i + 1) f) else ne_bi u s st left L (i + 1) f
def ne_bw (L : List tt_R) (u : Int32) (st : Nat → Int32) : Nat → Int32 → Int32 → Int32
  | 0, _, f => f
  | k + 1, s, f => ne_bw L u st k (ne_bi u s st (nI (k + 1)) L 0 f).1 (ne_bi u s st (nI (k + 1)) L 0 f).2
def ne_bs (L : List tt_R) (u : Int32) (st : Nat → Int32) (b : Int32) : Int32 := if ne_sf st b ≤ 0 then 0 else if 4 ≤ ne_sf st b then 0 else ne_bw L u st (ne_sf st b).toNatClampNeg b 0
def ne_w (L D : List tt_R) (st : Nat → Int32) (d : Int32) (q : tt_R) : Int32 := ne_bs L (ne_us D q.2.2.1 d L 0 0) (ne_cs L st q.2.1 (ne_us D q.2.2.1 d L 0 0)) q.1
section NET2
variable {l : Launch} {G : mm_G} {h : mm_H} {tb : Nat → List tt_R} {c0 n0 : Nat} {st : Nat → Int32}
theorem c_X4_shorten (nO : h.1 23 = some (.inr (4, [.ref 24, .ref 26, .ref 28]))) (sO : h.1 28 = some (.inl (.int, 4, .inl st))) (f t : Int32) : mm_Ct l G mX4_shorten [.ref 23, .int f, .int t] h (mm_rv (mm_set h 28 (.inl (.int, 4, .inl (ne_sh st f t))))) := by
  refine mm_ct (by decide +kernel) (by decide +kernel) rfl (by simp [Value.category]) (Nat.le_of_ble_eq_true rfl) rfl ?_
  refine ex_iload_n dX4_shorten_0 rfl ?_
  refine ex_if_lt (tgt := 42) dX4_shorten_1 (by decide) (fun c_1 => ?_) (fun c_1 => ?_)
  · refine ex_return dX4_shorten_42 rfl ?_
    unfold ne_sh; first | (rw [if_pos c_1, mm_set_id sO]; exact ⟨rfl, rfl⟩) | (rw [if_neg c_1, if_pos (show 4 ≤ f from c_10), mm_set_id sO]; exact ⟨rfl, rfl⟩) | (rw [if_neg c_1, if_neg (show ¬ 4 ≤ f from c_10), if_pos c_26, mm_set_id sO]; exact ⟨rfl, rfl⟩) | (rw [if_neg c_1, if_neg (show ¬ 4 ≤ f from c_10), if_neg c_26]; exact ⟨rfl, rfl⟩)
  · refine ex_iload_n dX4_shorten_4 rfl ?_
    refine ex_aload_n dX4_shorten_5 rfl ?_
    refine ex_getfield dX4_shorten_6 g_X4_21 nO rfl ?_
    refine ex_alen dX4_shorten_9 sO (Or.inl rfl) ?_
    refine ex_icmp_ge (tgt := 42) dX4_shorten_10 (by decide) (fun c_10 => ?_) (fun c_10 => ?_)
    · refine ex_return dX4_shorten_42 rfl ?_
      unfold ne_sh; first | (rw [if_pos c_1, mm_set_id sO]; exact ⟨rfl, rfl⟩) | (rw [if_neg c_1, if_pos (show 4 ≤ f from c_10), mm_set_id sO]; exact ⟨rfl, rfl⟩) | (rw [if_neg c_1, if_neg (show ¬ 4 ≤ f from c_10), if_pos c_26, mm_set_id sO]; exact ⟨rfl, rfl⟩) | (rw [if_neg c_1, if_neg (show ¬ 4 ≤ f from c_10), if_neg c_26]; exact ⟨rfl, rfl⟩)
    · refine ex_aload_n dX4_shorten_13 rfl ?_
      refine ex_iload_n dX4_shorten_14 rfl ?_
      refine cV_f dX4_shorten_15 (mm_kv i_X4_stepsFrom l_X4_70) ⟨(Nat.le_of_ble_eq_true rfl), (Nat.le_of_ble_eq_true rfl)⟩ (c_X4_stepsFrom nO sO _) rfl rfl nO (Nat.le_of_ble_eq_true rfl) rfl ?_
      refine ex_iconst (v := 1) dX4_shorten_18 (by decide) ?_
      refine ex_iadd dX4_shorten_19 ?_
      refine ex_aload_n dX4_shorten_20 rfl ?_
      refine ex_getfield dX4_shorten_21 g_X4_21 nO rfl ?_
      refine ex_iload_n dX4_shorten_24 rfl ?_
      refine ex_iaload dX4_shorten_25 sO (by obtain ⟨j, hj, rfl⟩ := nI_of c_1; exact vp_in_nI ((nI_ltI hj (by decide)).mp (Int32.not_le.mp c_10)) (by decide)) ?_
      refine ex_icmp_ge (tgt := 42) dX4_shorten_26 (by decide) (fun c_26 => ?_) (fun c_26 => ?_)
      · refine ex_return dX4_shorten_42 rfl ?_
        unfold ne_sh; first | (rw [if_pos c_1, mm_set_id sO]; exact ⟨rfl, rfl⟩) | (rw [if_neg c_1, if_pos (show 4 ≤ f from c_10), mm_set_id sO]; exact ⟨rfl, rfl⟩) | (rw [if_neg c_1, if_neg (show ¬ 4 ≤ f from c_10), if_pos c_26, mm_set_id sO]; exact ⟨rfl, rfl⟩) | (rw [if_neg c_1, if_neg (show ¬ 4 ≤ f from c_10), if_neg c_26]; exact ⟨rfl, rfl⟩)
      · refine ex_aload_n dX4_shorten_29 rfl ?_
        refine ex_getfield dX4_shorten_30 g_X4_21 nO rfl ?_
        refine ex_iload_n dX4_shorten_33 rfl ?_
        refine ex_aload_n dX4_shorten_34 rfl ?_
        refine ex_iload_n dX4_shorten_35 rfl ?_
        refine cV_f dX4_shorten_36 (mm_kv i_X4_stepsFrom l_X4_70) ⟨(Nat.le_of_ble_eq_true rfl), (Nat.le_of_ble_eq_true rfl)⟩ (c_X4_stepsFrom nO sO _) rfl rfl nO (Nat.le_of_ble_eq_true rfl) rfl ?_
        refine ex_iconst (v := 1) dX4_shorten_39 (by decide) ?_
        refine ex_iadd dX4_shorten_40 ?_
        refine ex_iastore dX4_shorten_41 sO (by obtain ⟨j, hj, rfl⟩ := nI_of c_1; exact vp_in_nI ((nI_ltI hj (by decide)).mp (Int32.not_le.mp c_10)) (by decide)) ?_
        refine ex_return dX4_shorten_42 rfl ?_
        unfold ne_sh; first | (rw [if_pos c_1, mm_set_id sO]; exact ⟨rfl, rfl⟩) | (rw [if_neg c_1, if_pos (show 4 ≤ f from c_10), mm_set_id sO]; exact ⟨rfl, rfl⟩) | (rw [if_neg c_1, if_neg (show ¬ 4 ≤ f from c_10), if_pos c_26, mm_set_id sO]; exact ⟨rfl, rfl⟩) | (rw [if_neg c_1, if_neg (show ¬ 4 ≤ f from c_10), if_neg c_26]; exact ⟨rfl, rfl⟩)
theorem c_J7_fill {p : Nat} {v : Int32} {f : Nat → Int32} (hp : h.1 p = some (.inl (.int, 4, .inl f))) : mm_Ct l G mJ7_fill_53178 [.ref p, .int v] h (mm_rv (mm_set h p (.inl (.int, 4, .inl (upd (upd (upd (upd f 0 v) 1 v) 2 v) 3 v))))) := by
  refine mm_ct (by decide +kernel) (by decide +kernel) rfl (by simp [Value.category]) (Nat.le_of_ble_eq_true rfl) rfl ?_
  refine ex_iconst (v := 0) dJ7_fill_53178_0 (by decide) ?_
  refine ex_istore_n dJ7_fill_53178_1 (Nat.le_of_ble_eq_true rfl) ?_
  refine ex_aload_n dJ7_fill_53178_2 rfl ?_
  refine ex_alen dJ7_fill_53178_3 hp (Or.inl rfl) ?_
  refine ex_istore_n dJ7_fill_53178_4 (Nat.le_of_ble_eq_true rfl) ?_
  skip
  refine ex_iload_n dJ7_fill_53178_5 rfl ?_
  refine ex_iload_n dJ7_fill_53178_6 rfl ?_
  refine ex_icmp_ge (tgt := 20) dJ7_fill_53178_7 (by decide) (fun z => absurd z (show ¬ (4 : Int32) ≤ 0 by decide)) (fun _ => ?_)
  refine ex_aload_n dJ7_fill_53178_10 rfl ?_
  refine ex_iload_n dJ7_fill_53178_11 rfl ?_
  refine ex_iload_n dJ7_fill_53178_12 rfl ?_
  refine ex_iastore dJ7_fill_53178_13 hp (show vp_in (0 : Int32) 4 by unfold vp_in; decide) ?_
  refine ex_iinc (d := 1) dJ7_fill_53178_14 rfl (by decide) ?_
  refine ex_goto (tgt := 5) dJ7_fill_53178_17 (by decide) ?_
  skip
  refine ex_iload_n dJ7_fill_53178_5 rfl ?_
  refine ex_iload_n dJ7_fill_53178_6 rfl ?_
  refine ex_icmp_ge (tgt := 20) dJ7_fill_53178_7 (by decide) (fun z => absurd z (show ¬ (4 : Int32) ≤ 0 + 1 by decide)) (fun _ => ?_)
  refine ex_aload_n dJ7_fill_53178_10 rfl ?_
  refine ex_iload_n dJ7_fill_53178_11 rfl ?_
  refine ex_iload_n dJ7_fill_53178_12 rfl ?_
  refine ex_iastore dJ7_fill_53178_13 mm_set_at (show vp_in (0 + 1 : Int32) 4 by unfold vp_in; decide) ?_
  refine ex_iinc (d := 1) dJ7_fill_53178_14 rfl (by decide) ?_
  refine ex_goto (tgt := 5) dJ7_fill_53178_17 (by decide) ?_
  skip
  refine ex_iload_n dJ7_fill_53178_5 rfl ?_
  refine ex_iload_n dJ7_fill_53178_6 rfl ?_
  refine ex_icmp_ge (tgt := 20) dJ7_fill_53178_7 (by decide) (fun z => absurd z (show ¬ (4 : Int32) ≤ 0 + 1 + 1 by decide)) (fun _ => ?_)
  refine ex_aload_n dJ7_fill_53178_10 rfl ?_
  refine ex_iload_n dJ7_fill_53178_11 rfl ?_
  refine ex_iload_n dJ7_fill_53178_12 rfl ?_
  refine ex_iastore dJ7_fill_53178_13 mm_set_at (show vp_in (0 + 1 + 1 : Int32) 4 by unfold vp_in; decide) ?_
  refine ex_iinc (d := 1) dJ7_fill_53178_14 rfl (by decide) ?_
  refine ex_goto (tgt := 5) dJ7_fill_53178_17 (by decide) ?_
  skip
  refine ex_iload_n dJ7_fill_53178_5 rfl ?_
  refine ex_iload_n dJ7_fill_53178_6 rfl ?_
  refine ex_icmp_ge (tgt := 20) dJ7_fill_53178_7 (by decide) (fun z => absurd z (show ¬ (4 : Int32) ≤ 0 + 1 + 1 + 1 by decide)) (fun _ => ?_)
  refine ex_aload_n dJ7_fill_53178_10 rfl ?_
  refine ex_iload_n dJ7_fill_53178_11 rfl ?_
  refine ex_iload_n dJ7_fill_53178_12 rfl ?_
  refine ex_iastore dJ7_fill_53178_13 mm_set_at (show vp_in (0 + 1 + 1 + 1 : Int32) 4 by unfold vp_in; decide) ?_
  refine ex_iinc (d := 1) dJ7_fill_53178_14 rfl (by decide) ?_
  refine ex_goto (tgt := 5) dJ7_fill_53178_17 (by decide) ?_
  skip
  refine ex_iload_n dJ7_fill_53178_5 rfl ?_
  refine ex_iload_n dJ7_fill_53178_6 rfl ?_
  refine ex_icmp_ge (tgt := 20) dJ7_fill_53178_7 (by decide) (fun _ => ?_) (fun z => absurd (show (4 : Int32) ≤ 0 + 1 + 1 + 1 + 1 by decide) z)
  refine ex_return dJ7_fill_53178_20 rfl ?_
  rw [mm_set_set, mm_set_set, mm_set_set, show (0 : Int32).toNatClampNeg = 0 by decide, show (0 + 1 : Int32).toNatClampNeg = 1 by decide, show (0 + 1 + 1 : Int32).toNatClampNeg = 2 by decide, show (0 + 1 + 1 + 1 : Int32).toNatClampNeg = 3 by decide]; exact ⟨rfl, rfl⟩
theorem c_X4_countSteps (hT : tt_S h tb c0 n0) (nO : h.1 23 = some (.inr (4, [.ref 24, .ref 26, .ref 28]))) (sO : h.1 28 = some (.inl (.int, 4, .inl st))) (e u : Int32) : mm_Ct l G mX4_countSteps [.ref 23, .int e, .int u] h (mm_rv (mm_set h 28 (.inl (.int, 4, .inl (ne_cs (tb 5) st e u))))) := by
  have hlen := tS_len hT 5 (by decide)
  have key : ∀ (Q : mm_R → mm_H → Prop) (rv : Int32) (s0 : Nat → Int32) (x4 : Value), (∀ x, mm_Ex l G mX4_countSteps Q 114 [.ref 23, .int e, .int u, .int rv, x] [] (mm_set h 28 (.inl (.int, 4, .inl (ne_rd u (tb 5) 0 s0))))) → mm_Ex l G mX4_countSteps Q 38 [.ref 23, .int e, .int u, .int rv, .int (nI 0)] [] (mm_set h 28 (.inl (.int, 4, .inl s0))) := by
    intro Q rv s0 x4
    refine lp_fwd (tb 5) (fun i R => ∀ s0 : Nat → Int32, (∀ x, mm_Ex l G mX4_countSteps Q 114 [.ref 23, .int e, .int u, .int rv, x] [] (mm_set h 28 (.inl (.int, 4, .inl (ne_rd u R i s0))))) → mm_Ex l G mX4_countSteps Q 38 [.ref 23, .int e, .int u, .int rv, .int (nI i)] [] (mm_set h 28 (.inl (.int, 4, .inl s0)))) ?_ ?_ s0
    · intro s0 hk
      obtain ⟨v, hv⟩ := tS_row (tS_fix (e := .inl (.int, 4, .inl s0)) hT (show fy 28 = true from rfl)) 5 (by decide)
      refine ex_iload dX4_countSteps_38 rfl ?_
      refine ex_aload_n dX4_countSteps_40 rfl ?_
      refine ex_getfield dX4_countSteps_41 g_X4_12 (mm_set_ne (by decide) nO) rfl ?_
      refine ex_getfield dX4_countSteps_44 g_X4_33 hv rfl ?_
      refine ex_icmp_ge (tgt := 114) dX4_countSteps_47 (by decide) (fun _ => ?_) (fun z => absurd (Int32.le_refl _) z)
      exact hk _
    · intro i r R hr hR hi ih s0 hk
      have hS1 := tS_fix (e := .inl (.int, 4, .inl s0)) hT (show fy 28 = true from rfl)
      have hS2 := tS_fix (e := .inl (.int, 4, .inl (ne_sh s0 r.1 r.2.1))) hT (show fy 28 = true from rfl)
      obtain ⟨v, hv⟩ := tS_row hS1 5 (by decide)
      obtain ⟨w, hw⟩ := tS_row hS2 5 (by decide)
      have hgo : ne_b u i = 1 → mm_Ex l G mX4_countSteps Q 84 [.ref 23, .int e, .int u, .int rv, .int (nI i)] [] (mm_set h 28 (.inl (.int, 4, .inl (ne_sh s0 r.1 r.2.1)))) := by
        intro c_57
        refine ex_aload_n dX4_countSteps_84 rfl ?_
        refine ex_aload_n dX4_countSteps_85 rfl ?_
        refine ex_getfield dX4_countSteps_86 g_X4_12 (mm_set_ne (by decide) nO) rfl ?_
        refine ex_iload dX4_countSteps_89 rfl ?_
        refine ex_iconst (v := 1) dX4_countSteps_91 (by decide) ?_
        refine cV_f dX4_countSteps_92 (mm_kv i_X7_get l_X4_29) ⟨(Nat.le_of_ble_eq_true rfl), (Nat.le_of_ble_eq_true rfl)⟩ (tS_getr hS2 5 (by decide) rfl hr 1 _ rfl (by decide) _ rfl) rfl rfl hw (Nat.le_of_ble_eq_true rfl) rfl ?_
        refine ex_aload_n dX4_countSteps_95 rfl ?_
        refine ex_getfield dX4_countSteps_96 g_X4_12 (mm_set_ne (by decide) nO) rfl ?_
        refine ex_iload dX4_countSteps_99 rfl ?_
        refine ex_iconst (v := 0) dX4_countSteps_101 (by decide) ?_
        refine cV_f dX4_countSteps_102 (mm_kv i_X7_get l_X4_29) ⟨(Nat.le_of_ble_eq_true rfl), (Nat.le_of_ble_eq_true rfl)⟩ (tS_getr hS2 5 (by decide) rfl hr 0 _ rfl (by decide) _ rfl) rfl rfl hw (Nat.le_of_ble_eq_true rfl) rfl ?_
        refine cV_v dX4_countSteps_105 (mm_kv i_X4_shorten l_X4_67) ⟨(Nat.le_of_ble_eq_true rfl), (Nat.le_of_ble_eq_true rfl)⟩ (c_X4_shorten (mm_set_ne (by decide) nO) mm_set_at _ _) rfl rfl (mm_set_ne (by decide) nO) (Nat.le_of_ble_eq_true rfl) rfl ?_
        rw [mm_set_set]
        refine ex_iinc (d := 1) dX4_countSteps_108 rfl (by decide) ?_
        refine ex_goto (tgt := 38) dX4_countSteps_111 (by decide) ?_
        rw [nI_1]; exact ih _ (fun x => by have := hk x; rw [ne_rd, if_pos (show ne_b u i = 1 from c_57)] at this; exact this)
      refine ex_iload dX4_countSteps_38 rfl ?_
      refine ex_aload_n dX4_countSteps_40 rfl ?_
      refine ex_getfield dX4_countSteps_41 g_X4_12 (mm_set_ne (by decide) nO) rfl ?_
      refine ex_getfield dX4_countSteps_44 g_X4_33 hv rfl ?_
      refine ex_icmp_ge (tgt := 114) dX4_countSteps_47 (by decide) (fun z => absurd z (nI_ge hi (by omega))) (fun _ => ?_)
      refine ex_iload_n dX4_countSteps_50 rfl ?_
      refine ex_iload dX4_countSteps_51 rfl ?_
      refine ex_ishr dX4_countSteps_53 ?_
      refine ex_iconst (v := 1) dX4_countSteps_54 (by decide) ?_
      refine ex_iand dX4_countSteps_55 ?_
      refine ex_iconst (v := 1) dX4_countSteps_56 (by decide) ?_
      refine ex_icmp_ne (tgt := 108) dX4_countSteps_57 (by decide) (fun c_57 => ?_) (fun c_57 => ?_)
      · refine ex_iinc (d := 1) dX4_countSteps_108 rfl (by decide) ?_
        refine ex_goto (tgt := 38) dX4_countSteps_111 (by decide) ?_
        rw [nI_1]; exact ih _ (fun x => by have := hk x; rw [ne_rd, if_neg (show ¬ ne_b u i = 1 from c_57)] at this; exact this)
      · refine ex_aload_n dX4_countSteps_60 rfl ?_
        refine ex_aload_n dX4_countSteps_61 rfl ?_
        refine ex_getfield dX4_countSteps_62 g_X4_12 (mm_set_ne (by decide) nO) rfl ?_
        refine ex_iload dX4_countSteps_65 rfl ?_
        refine ex_iconst (v := 0) dX4_countSteps_67 (by decide) ?_
        refine cV_f dX4_countSteps_68 (mm_kv i_X7_get l_X4_29) ⟨(Nat.le_of_ble_eq_true rfl), (Nat.le_of_ble_eq_true rfl)⟩ (tS_getr hS1 5 (by decide) rfl hr 0 _ rfl (by decide) _ rfl) rfl rfl hv (Nat.le_of_ble_eq_true rfl) rfl ?_
        refine ex_aload_n dX4_countSteps_71 rfl ?_
        refine ex_getfield dX4_countSteps_72 g_X4_12 (mm_set_ne (by decide) nO) rfl ?_
        refine ex_iload dX4_countSteps_75 rfl ?_
        refine ex_iconst (v := 1) dX4_countSteps_77 (by decide) ?_
        refine cV_f dX4_countSteps_78 (mm_kv i_X7_get l_X4_29) ⟨(Nat.le_of_ble_eq_true rfl), (Nat.le_of_ble_eq_true rfl)⟩ (tS_getr hS1 5 (by decide) rfl hr 1 _ rfl (by decide) _ rfl) rfl rfl hv (Nat.le_of_ble_eq_true rfl) rfl ?_
        refine cV_v dX4_countSteps_81 (mm_kv i_X4_shorten l_X4_67) ⟨(Nat.le_of_ble_eq_true rfl), (Nat.le_of_ble_eq_true rfl)⟩ (c_X4_shorten (mm_set_ne (by decide) nO) mm_set_at _ _) rfl rfl (mm_set_ne (by decide) nO) (Nat.le_of_ble_eq_true rfl) rfl ?_
        rw [mm_set_set]
        exact hgo c_57
  have key3 : ∀ s0 x4, mm_Ex l G mX4_countSteps (mm_rv (mm_set h 28 (.inl (.int, 4, .inl (ne_rd u (tb 5) 0 (ne_rd u (tb 5) 0 (ne_rd u (tb 5) 0 s0))))))) 30 [.ref 23, .int e, .int u, .int 1, x4] [] (mm_set h 28 (.inl (.int, 4, .inl s0))) := by
    intro s0 x4
    refine ex_iload_n dX4_countSteps_30 rfl ?_
    refine ex_iconst (v := 4) dX4_countSteps_31 (by decide) ?_
    refine ex_icmp_ge (tgt := 120) dX4_countSteps_32 (by decide) (fun z => absurd z (by decide)) (fun _ => ?_)
    refine ex_iconst (v := 0) dX4_countSteps_35 (by decide) ?_
    refine ex_istore dX4_countSteps_36 (Nat.le_of_ble_eq_true rfl) ?_
    refine key _ _ _ .null (fun x => ?_)
    refine ex_iinc (d := 1) dX4_countSteps_114 rfl (by decide) ?_
    refine ex_goto (tgt := 30) dX4_countSteps_117 (by decide) ?_
    skip
    refine ex_iload_n dX4_countSteps_30 rfl ?_
    refine ex_iconst (v := 4) dX4_countSteps_31 (by decide) ?_
    refine ex_icmp_ge (tgt := 120) dX4_countSteps_32 (by decide) (fun z => absurd z (by decide)) (fun _ => ?_)
    refine ex_iconst (v := 0) dX4_countSteps_35 (by decide) ?_
    refine ex_istore dX4_countSteps_36 (Nat.le_of_ble_eq_true rfl) ?_
    refine key _ _ _ .null (fun x => ?_)
    refine ex_iinc (d := 1) dX4_countSteps_114 rfl (by decide) ?_
    refine ex_goto (tgt := 30) dX4_countSteps_117 (by decide) ?_
    skip
    refine ex_iload_n dX4_countSteps_30 rfl ?_
    refine ex_iconst (v := 4) dX4_countSteps_31 (by decide) ?_
    refine ex_icmp_ge (tgt := 120) dX4_countSteps_32 (by decide) (fun z => absurd z (by decide)) (fun _ => ?_)
    refine ex_iconst (v := 0) dX4_countSteps_35 (by decide) ?_
    refine ex_istore dX4_countSteps_36 (Nat.le_of_ble_eq_true rfl) ?_
    refine key _ _ _ .null (fun x => ?_)
    refine ex_iinc (d := 1) dX4_countSteps_114 rfl (by decide) ?_
    refine ex_goto (tgt := 30) dX4_countSteps_117 (by decide) ?_
    skip
    refine ex_iload_n dX4_countSteps_30 rfl ?_
    refine ex_iconst (v := 4) dX4_countSteps_31 (by decide) ?_
    refine ex_icmp_ge (tgt := 120) dX4_countSteps_32 (by decide) (fun _ => ?_) (fun z => absurd (by decide) z)
    refine ex_return dX4_countSteps_120 rfl ?_
    exact ⟨rfl, rfl⟩
  refine mm_ct (by decide +kernel) (by decide +kernel) rfl (by simp [Value.category]) (Nat.le_of_ble_eq_true rfl) rfl ?_
  refine ex_aload_n dX4_countSteps_0 rfl ?_
  refine ex_getfield dX4_countSteps_1 g_X4_21 nO rfl ?_
  refine ex_iconst (v := 4) dX4_countSteps_4 (by decide) ?_
  refine cS_v dX4_countSteps_5 (mm_ks i_J7_fill_53178 l_X4_61) ⟨(Nat.le_of_ble_eq_true rfl), (Nat.le_of_ble_eq_true rfl)⟩ (c_J7_fill sO) rfl rfl (Nat.le_of_ble_eq_true rfl) rfl ?_
  refine ex_iload_n dX4_countSteps_8 rfl ?_
  refine ex_if_lt (tgt := 28) dX4_countSteps_9 (by decide) (fun c_9 => ?_) (fun c_9 => ?_)
  · refine ex_iconst (v := 1) dX4_countSteps_28 (by decide) ?_
    refine ex_istore_n dX4_countSteps_29 (Nat.le_of_ble_eq_true rfl) ?_
    unfold ne_cs ne_c1; first | (rw [if_pos c_9]; exact key3 _ _) | (rw [if_neg c_9, if_pos (show 4 ≤ e from c_18)]; exact key3 _ _) | (rw [if_neg c_9, if_neg (show ¬ 4 ≤ e from c_18), mm_set_set]; exact key3 _ _)
  · refine ex_iload_n dX4_countSteps_12 rfl ?_
    refine ex_aload_n dX4_countSteps_13 rfl ?_
    refine ex_getfield dX4_countSteps_14 g_X4_21 (mm_set_ne (by decide) nO) rfl ?_
    refine ex_alen dX4_countSteps_17 mm_set_at (Or.inl rfl) ?_
    refine ex_icmp_ge (tgt := 28) dX4_countSteps_18 (by decide) (fun c_18 => ?_) (fun c_18 => ?_)
    · refine ex_iconst (v := 1) dX4_countSteps_28 (by decide) ?_
      refine ex_istore_n dX4_countSteps_29 (Nat.le_of_ble_eq_true rfl) ?_
      unfold ne_cs ne_c1; first | (rw [if_pos c_9]; exact key3 _ _) | (rw [if_neg c_9, if_pos (show 4 ≤ e from c_18)]; exact key3 _ _) | (rw [if_neg c_9, if_neg (show ¬ 4 ≤ e from c_18), mm_set_set]; exact key3 _ _)
    · refine ex_aload_n dX4_countSteps_21 rfl ?_
      refine ex_getfield dX4_countSteps_22 g_X4_21 (mm_set_ne (by decide) nO) rfl ?_
      refine ex_iload_n dX4_countSteps_25 rfl ?_
      refine ex_iconst (v := 0) dX4_countSteps_26 (by decide) ?_
      refine ex_iastore dX4_countSteps_27 mm_set_at (by obtain ⟨j, hj, rfl⟩ := nI_of c_9; exact vp_in_nI ((nI_ltI hj (by decide)).mp (Int32.not_le.mp c_18)) (by decide)) ?_
      refine ex_iconst (v := 1) dX4_countSteps_28 (by decide) ?_
      refine ex_istore_n dX4_countSteps_29 (Nat.le_of_ble_eq_true rfl) ?_
      unfold ne_cs ne_c1; first | (rw [if_pos c_9]; exact key3 _ _) | (rw [if_neg c_9, if_pos (show 4 ≤ e from c_18)]; exact key3 _ _) | (rw [if_neg c_9, if_neg (show ¬ 4 ≤ e from c_18), mm_set_set]; exact key3 _ _)
end NET2
