def cm_dead (s : cl_S) (i x : Int32) : cl_R × cl_S := if 0 ≤ i ∧ i < nI (s.1 5).length then (if ¬ i = 0 then (.inl (some (bb (tt_g (s.1 5) i 3 = 1))), va_up s.1 5 ((s.1 5).set i.toNatClampNeg (tt_s (((s.1 5)[i.toNatClampNeg]?).getD (0, 0, 0, 0)) 3 (if x = 0 then 0 else 1))), s.2) else (.inr cx_a, s)) else (.inr cx_i, s)
def cl_nm (s : cl_S) (i : Int32) : Int32 := ro_bs s.2.2.2.2.1.1 i.toNatClampNeg + ro_mi s.2.2.2.2.1.1 i / 2
def cm_net (s : cl_S) (i : Int32) : cl_R × cl_S := if ii i 0 99 then (if nI (s.1 4).length < 4 then (if cl_ce s ≤ i then (.inl (some 0), s) else if 300 ≤ se_d s.2.1 i then (.inl (some 0), s) else if cl_tyAt s (cl_nm s i) < 2 then (.inl (some 0), s) else (.inl (some 1), va_up s.1 4 (s.1 4 ++ [(1, cl_nm s i, 0, cl_me s)]), s.2)) else (.inr cx_s, s)) else (.inr cx_a, s)
def ms_f (s : cl_S) (fb vo : Int32) : Int32 := fa_n (s.1 4) fb vo (s.1 4) 0 (-1)
def ms_p (s : cl_S) (fb vo : Int32) : Int32 := tt_g (s.1 4) (ms_f s fb vo) 1
def ms_a (s : cl_S) (fb vo : Int32) : Int32 := if fb = 0 then ms_p s fb vo else cl_me s - ms_p s fb vo
def ms_2 (vo : Int32) : Int32 := if vo = 0 then 1 else 2
def ms_e (s : cl_S) (fb vo : Int32) : Int32 := (ms_a s fb vo / 200 + 10) * ms_2 vo
def ms_c (s : cl_S) (fb vo : Int32) : Int32 := mx 1 (2 * ms_e s fb vo + 1)
def ms_t (s : cl_S) (fb vo dr : Int32) : Int32 := mx 0 (ms_a s fb vo - ms_e s fb vo + (dr - dr / ms_c s fb vo * ms_c s fb vo))
def ms_w (s : cl_S) (fb vo dr : Int32) : Int32 := (ms_t s fb vo dr / 190 + 12) * ms_2 vo
def ms_n (r : tt_R) (p w : Int32) : tt_R := (r.1, r.2.1, mx r.2.2.1 (p - w), mn r.2.2.2 (p + w))
def cm_measure (s : cl_S) (fb vo dr : Int32) : cl_R × cl_S := if ii dr 0 65536 then (if cl_ce s = 100 then (if ms_f s fb vo = -1 then (.inl (some (-1)), s) else if vo = 0 ∧ ro_hr (ms_p s fb vo) fb (s.1 2) 0 = true then (.inl (some (-1)), s) else (.inl (some (ms_t s fb vo dr)), va_up s.1 4 ((s.1 4).set (ms_f s fb vo).toNatClampNeg (ms_n (((s.1 4)[(ms_f s fb vo).toNatClampNeg]?).getD (0, 0, 0, 0)) (if fb = 0 then ms_t s fb vo dr else cl_me s - ms_t s fb vo dr) (ms_w s fb vo dr))), s.2)) else (.inr cx_s, s)) else (.inr cx_a, s)
theorem fa_n_or {L0 : List tt_R} {fb oe : Int32} : ∀ (L : List tt_R) (i : Nat) (f : Int32), fa_n L0 fb oe L i f = f ∨ ∃ j, fa_n L0 fb oe L i f = nI j ∧ i ≤ j ∧ j < i + L.length
  | [], i, f => Or.inl rfl
  | r :: L, i, f => by
    have g1 : fa_n L0 fb oe L (i + 1) f = f ∨ ∃ j, fa_n L0 fb oe L (i + 1) f = nI j ∧ i ≤ j ∧ j < i + (r :: L).length := by
      rcases fa_n_or L (i + 1) f with g | ⟨j, g, g1, g2⟩
      · exact Or.inl g
      · exact Or.inr ⟨j, g, by omega, by rw [List.length_cons]; omega⟩
    have g2 : ∃ j, fa_n L0 fb oe L (i + 1) (nI i) = nI j ∧ i ≤ j ∧ j < i + (r :: L).length := by
      rcases fa_n_or L (i + 1) (nI i) with g | ⟨j, g, g1, g2⟩
      · exact ⟨i, g, by omega, by rw [List.length_cons]; omega⟩
      · exact ⟨j, g, by omega, by rw [List.length_cons]; omega⟩
    rw [fa_n]
    repeat (first | exact g1 | exact Or.inr g2 | split)
theorem mx_1 {y : Int32} : ¬ mx 1 y = 0 := by
  unfold mx
  split
  · rename_i h; intro z; rw [z] at h; exact absurd h (by decide)
  · decide
theorem mm_viaJ {l : Launch} {G : mm_G} {M : mm_M} {Q : mm_R → mm_H → Prop} {pc pc' : Nat} {ls ls' st st' : List Value} {h : mm_H} (x : Int32) (k : mm_Ex l G M Q pc' ls' (.int x :: st) h) (f : (∀ b, b = x → mm_Ex l G M Q pc' ls' (.int b :: st) h) → mm_Ex l G M Q pc ls st' h) : mm_Ex l G M Q pc ls st' h := f (fun b e => by rw [e]; exact k)
section PUBA
variable {l : Launch} {G : mm_G} {h : mm_H} {c0 n0 : Nat} {s : cl_S}
theorem c_X8_dead (hl : l.stackTraces = false) (hP : cl_P h s.1 s.2 c0 n0) (i x : Int32) : mm_Ct l G mX8_dead [.ref 0, .int i, .int x] h (cl_A (cm_dead s i x) c0 n0 h) := by
  obtain ⟨v, hv⟩ := tS_row hP.1 5 (by decide)
  have hlen := tS_len hP.1 5 (by decide)
  refine mm_ct (by decide +kernel) (by decide +kernel) rfl (by simp [Value.category]) (Nat.le_of_ble_eq_true rfl) rfl ?_
  refine ex_iload_n dX8_dead_0 rfl ?_
  refine ex_aload_n dX8_dead_1 rfl ?_
  refine ex_getfield dX8_dead_2 g_X8_47 (cP_ow hP) rfl ?_
  refine ex_getfield dX8_dead_5 g_X8_274 (cP_nw hP) rfl ?_
  refine ex_getfield dX8_dead_8 g_X8_203 hv rfl ?_
  refine cS_n dX8_dead_11 (mm_ks i_X8_needIndex l_X8_281) ⟨(Nat.le_of_ble_eq_true rfl), (Nat.le_of_ble_eq_true rfl)⟩ (c_X8_needIndex hl _ _) rfl rfl (Nat.le_of_ble_eq_true rfl) rfl (fun b_11 => ?_) (fun b_11 => ?_)
  · rw [cm_dead, if_neg (bb_0.mp b_11)]; exact cA_x hP
  replace b_11 := bb_n.mp b_11
  rw [cm_dead, if_pos b_11]
  skip
  refine mm_via (p := ¬ i = 0) (pc' := 23) (ls' := [.ref 0, .int i, .int x, .null]) (st := []) (fun b hb => ?_) (fun k => ?_)
  · skip
    refine cS_n dX8_dead_23 (mm_ks i_X8_needArgument l_X8_59) ⟨(Nat.le_of_ble_eq_true rfl), (Nat.le_of_ble_eq_true rfl)⟩ (c_X8_needArgument hl _) rfl rfl (Nat.le_of_ble_eq_true rfl) rfl (fun b_23 => ?_) (fun b_23 => ?_)
    · rw [if_neg (bb_0.mp (hb ▸ b_23))]; exact cA_x hP
    rw [if_pos (bb_n.mp (hb ▸ b_23))]
    refine ex_aload_n dX8_dead_26 rfl ?_
    refine ex_getfield dX8_dead_27 g_X8_47 (cP_ow hP) rfl ?_
    refine ex_getfield dX8_dead_30 g_X8_274 (cP_nw hP) rfl ?_
    refine ex_iload_n dX8_dead_33 rfl ?_
    refine ex_iconst (v := 3) dX8_dead_34 (by decide) ?_
    refine cV_f dX8_dead_35 (mm_kv i_X7_get l_X8_208) ⟨(Nat.le_of_ble_eq_true rfl), (Nat.le_of_ble_eq_true rfl)⟩ (tS_get hP.1 5 (by decide) _ 3 _ rfl (by decide)) rfl rfl hv (Nat.le_of_ble_eq_true rfl) rfl ?_
    skip
    obtain ⟨j, hj, rfl⟩ := nI_of (x := i) (Int32.not_lt.mpr b_11.1)
    have hjl : j < (s.1 5).length := (nI_ltI hj (by omega)).mp b_11.2
    rw [nI_clamp hj]
    have hr := List.getElem?_eq_getElem hjl
    generalize (s.1 5)[j] = r at hr
    rw [hr, Option.getD_some]
    refine mm_via (p := tt_g (s.1 5) (nI j) 3 = 1) (pc' := 47) (ls' := [.ref 0, .int (nI j), .int x, .null]) (st := []) (fun b2 hb2 => ?_) (fun k => ?_)
    · skip
      refine ex_istore_n dX8_dead_47 (Nat.le_of_ble_eq_true rfl) ?_
      refine ex_aload_n dX8_dead_48 rfl ?_
      refine ex_getfield dX8_dead_49 g_X8_47 (cP_ow hP) rfl ?_
      refine ex_getfield dX8_dead_52 g_X8_274 (cP_nw hP) rfl ?_
      refine ex_iload_n dX8_dead_55 rfl ?_
      refine ex_iconst (v := 3) dX8_dead_56 (by decide) ?_
      skip
      refine mm_viaJ (if x = 0 then 0 else 1) (pc' := 66) (ls' := [.ref 0, .int (nI j), .int x, .int b2]) (st := [.int 3, .int (nI j), .ref 24]) ?_ (fun k => ?_)
      · skip
        refine cV_y dX8_dead_66 (mm_kv i_X7_set l_X8_284) ⟨(Nat.le_of_ble_eq_true rfl), (Nat.le_of_ble_eq_true rfl)⟩ (tS_set hP.1 5 (by decide) j r hr _ rfl 3 _ rfl (by decide) _) rfl rfl hv (Nat.le_of_ble_eq_true rfl) rfl ?_
        rintro h2 ⟨q2, f2⟩
        refine ex_iload_n dX8_dead_69 rfl ?_
        refine ex_ireturn dX8_dead_70 ⟨_, rfl, by rw [hb2]; exact bb_r⟩ ?_
        rw [hb2]; exact cA_i (cP_tab hP q2 f2) (cl_Ft f2)
      · skip
        refine ex_iload_n dX8_dead_57 rfl ?_
        refine ex_if_eq (tgt := 65) dX8_dead_58 (by decide) (fun c_58 => ?_) (fun c_58 => ?_)
        · refine ex_iconst (v := 0) dX8_dead_65 (by decide) ?_
          first | exact k _ (if_pos c_58).symm | exact k _ (if_neg c_58).symm
        · refine ex_iconst (v := 1) dX8_dead_61 (by decide) ?_
          refine ex_goto (tgt := 66) dX8_dead_62 (by decide) ?_
          first | exact k _ (if_pos c_58).symm | exact k _ (if_neg c_58).symm
    · skip
      refine ex_iconst (v := 1) dX8_dead_38 (by decide) ?_
      refine ex_icmp_ne (tgt := 46) dX8_dead_39 (by decide) (fun c_39 => ?_) (fun c_39 => ?_)
      · refine ex_iconst (v := 0) dX8_dead_46 (by decide) ?_
        first | exact k _ (bb_f c_39).symm | exact k _ (bb_t c_39).symm
      · refine ex_iconst (v := 1) dX8_dead_42 (by decide) ?_
        refine ex_goto (tgt := 47) dX8_dead_43 (by decide) ?_
        first | exact k _ (bb_f c_39).symm | exact k _ (bb_t c_39).symm
  · skip
    refine ex_iload_n dX8_dead_14 rfl ?_
    refine ex_if_eq (tgt := 22) dX8_dead_15 (by decide) (fun c_15 => ?_) (fun c_15 => ?_)
    · refine ex_iconst (v := 0) dX8_dead_22 (by decide) ?_
      first | exact k _ (bb_f (fun z => z c_15)).symm | exact k _ (bb_t c_15).symm
    · refine ex_iconst (v := 1) dX8_dead_18 (by decide) ?_
      refine ex_goto (tgt := 23) dX8_dead_19 (by decide) ?_
      first | exact k _ (bb_f (fun z => z c_15)).symm | exact k _ (bb_t c_15).symm
theorem c_X8_net (hl : l.stackTraces = false) (hP : cl_P h s.1 s.2 c0 n0) {kc : Nat} (hc : cl_ce s = nI kc) (hkc : kc ≤ 100) (h4 : (s.1 4).length ≤ 20000) (i : Int32) : mm_Ct l G mX8_net [.ref 0, .int i] h (cl_A (cm_net s i) c0 n0 h) := by
  refine mm_ct (by decide +kernel) (by decide +kernel) rfl (by simp [Value.category]) (Nat.le_of_ble_eq_true rfl) rfl ?_
  refine ex_iload_n dX8_net_0 rfl ?_
  refine cS_f dX8_net_1 (mm_ks i_X8_isCell l_X8_51) ⟨(Nat.le_of_ble_eq_true rfl), (Nat.le_of_ble_eq_true rfl)⟩ (c_X8_isCell _) rfl rfl (Nat.le_of_ble_eq_true rfl) rfl ?_
  refine cS_n dX8_net_4 (mm_ks i_X8_needArgument l_X8_59) ⟨(Nat.le_of_ble_eq_true rfl), (Nat.le_of_ble_eq_true rfl)⟩ (c_X8_needArgument hl _) rfl rfl (Nat.le_of_ble_eq_true rfl) rfl (fun b_4 => ?_) (fun b_4 => ?_)
  · rw [cm_net, if_neg (bb_0.mp b_4)]; exact cA_x hP
  replace b_4 := bb_n.mp b_4
  rw [cm_net, if_pos b_4]
  refine ex_aload_n dX8_net_7 rfl ?_
  refine ex_getfield dX8_net_8 g_X8_40 (cP_ow hP) rfl ?_
  skip
  refine mm_via (p := nI (s.1 4).length < 4) (pc' := 23) (ls' := [.ref 0, .int i, .null]) (st := []) (fun b hb => ?_) (fun k => ?_)
  · have hO := cP_ro hP
    rw [show s.2.2.2.2.1.2.1 = nI kc from hc] at hO
    have hbeg : ¬ cl_ce s ≤ i → mm_Ct l G mX5_beginOf [.ref 13, .int i] h (mm_ri (.int (ro_bs s.2.2.2.2.1.1 i.toNatClampNeg)) h) := by
      intro hlt
      obtain ⟨j, hj, rfl⟩ := nI_of (x := i) (fun z => Int32.not_lt.mpr b_4.1 z)
      rw [hc] at hlt
      have hlt2 : j < kc := (nI_ltI hj (by omega)).mp (Int32.not_le.mp hlt)
      have := c_X5_beginOf (l := l) (G := G) (c := j) (cP_cm hP) hO hkc hj
      rw [Nat.min_eq_left (by omega)] at this
      rw [nI_clamp hj]
      exact this
    have hgo : ¬ cl_ce s ≤ i → mm_Ex l G mX8_net (cl_A (if cl_tyAt s (cl_nm s i) < 2 then (.inl (some 0), s) else (.inl (some 1), va_up s.1 4 (s.1 4 ++ [(1, cl_nm s i, 0, cl_me s)]), s.2)) c0 n0 h) 53 [.ref 0, .int i, .null] [] h := by
      intro hlt
      refine ex_aload_n dX8_net_53 rfl ?_
      refine ex_getfield dX8_net_54 g_X8_33 (cP_ow hP) rfl ?_
      refine ex_iload_n dX8_net_57 rfl ?_
      refine cV_f dX8_net_58 (mm_kv i_X5_beginOf l_X8_238) ⟨(Nat.le_of_ble_eq_true rfl), (Nat.le_of_ble_eq_true rfl)⟩ (hbeg hlt) rfl rfl (cP_ro hP) (Nat.le_of_ble_eq_true rfl) rfl ?_
      refine ex_aload_n dX8_net_61 rfl ?_
      refine ex_getfield dX8_net_62 g_X8_33 (cP_ow hP) rfl ?_
      refine ex_iload_n dX8_net_65 rfl ?_
      refine cV_f dX8_net_66 (mm_kv i_X5_metresIn l_X8_241) ⟨(Nat.le_of_ble_eq_true rfl), (Nat.le_of_ble_eq_true rfl)⟩ (c_X5_metresIn (cP_ro hP) (cP_cm hP) _) rfl rfl (cP_ro hP) (Nat.le_of_ble_eq_true rfl) rfl ?_
      refine ex_iconst (v := 2) dX8_net_69 (by decide) ?_
      refine ex_idiv dX8_net_70 (by decide) ?_
      refine ex_iadd dX8_net_71 ?_
      refine ex_istore_n dX8_net_72 (Nat.le_of_ble_eq_true rfl) ?_
      refine ex_aload_n dX8_net_73 rfl ?_
      refine ex_iload_n dX8_net_74 rfl ?_
      refine cV_f dX8_net_75 (mm_kv i_X8_typeAt l_X8_181) ⟨(Nat.le_of_ble_eq_true rfl), (Nat.le_of_ble_eq_true rfl)⟩ (c_X8_typeAt hP _) rfl rfl (cP_ow hP) (Nat.le_of_ble_eq_true rfl) rfl ?_
      refine ex_iconst (v := 2) dX8_net_78 (by decide) ?_
      refine ex_icmp_ge (tgt := 84) dX8_net_79 (by decide) (fun c_79 => ?_) (fun c_79 => ?_)
      · refine ex_aload_n dX8_net_84 rfl ?_
        refine ex_getfield dX8_net_85 g_X8_40 (cP_ow hP) rfl ?_
        refine ex_iconst (v := 1) dX8_net_88 (by decide) ?_
        refine ex_iload_n dX8_net_89 rfl ?_
        refine ex_aload_n dX8_net_90 rfl ?_
        refine ex_getfield dX8_net_91 g_X8_33 (cP_ow hP) rfl ?_
        refine ex_getfield dX8_net_94 g_X8_123 (cP_ro hP) rfl ?_
        refine cV_y dX8_net_97 (mm_kv i_X2_enter l_X8_235) ⟨(Nat.le_of_ble_eq_true rfl), (Nat.le_of_ble_eq_true rfl)⟩ (c_X2_enter hP.1 (cP_bk hP) h4 _ _ _) rfl rfl (cP_bk hP) (Nat.le_of_ble_eq_true rfl) rfl ?_
        rintro h1 ⟨q1, t1⟩
        refine ex_iconst (v := 1) dX8_net_100 (by decide) ?_
        refine ex_ireturn dX8_net_101 ⟨_, rfl, rfl⟩ ?_
        rw [if_neg (show ¬ cl_tyAt s (cl_nm s i) < 2 from Int32.not_lt.mpr c_79)]; exact cA_i (cP_tab hP q1 t1) (cl_Ft t1)
      · refine ex_iconst (v := 0) dX8_net_82 (by decide) ?_
        refine ex_ireturn dX8_net_83 ⟨_, rfl, rfl⟩ ?_
        rw [if_pos (show cl_tyAt s (cl_nm s i) < 2 from Int32.not_le.mp c_79)]; exact cA_i hP (cl_F.refl _)
    refine cS_n dX8_net_23 (mm_ks i_X8_needState l_X8_67) ⟨(Nat.le_of_ble_eq_true rfl), (Nat.le_of_ble_eq_true rfl)⟩ (c_X8_needState hl _) rfl rfl (Nat.le_of_ble_eq_true rfl) rfl (fun b_23 => ?_) (fun b_23 => ?_)
    · rw [if_neg (bb_0.mp (hb ▸ b_23))]; exact cA_x hP
    rw [if_pos (bb_n.mp (hb ▸ b_23))]
    refine ex_iload_n dX8_net_26 rfl ?_
    refine ex_aload_n dX8_net_27 rfl ?_
    refine ex_getfield dX8_net_28 g_X8_33 (cP_ow hP) rfl ?_
    refine ex_getfield dX8_net_31 g_X8_63 (cP_ro hP) rfl ?_
    refine ex_icmp_ge (tgt := 51) dX8_net_34 (by decide) (fun c_34 => ?_) (fun c_34 => ?_)
    · refine ex_iconst (v := 0) dX8_net_51 (by decide) ?_
      refine ex_ireturn dX8_net_52 ⟨_, rfl, rfl⟩ ?_
      rw [if_pos (show cl_ce s ≤ i from c_34)]; exact cA_i hP (cl_F.refl _)
    · refine ex_aload_n dX8_net_37 rfl ?_
      refine ex_getfield dX8_net_38 g_X8_10 (cP_ow hP) rfl ?_
      refine ex_iload_n dX8_net_41 rfl ?_
      refine cV_f dX8_net_42 (mm_kv i_X6_depthOf l_X8_74) ⟨(Nat.le_of_ble_eq_true rfl), (Nat.le_of_ble_eq_true rfl)⟩ (c_X6_depthOf (cP_se hP) _) rfl rfl (cP_se hP).1 (Nat.le_of_ble_eq_true rfl) rfl ?_
      refine ex_sipush (v := 300) dX8_net_45 (by decide) ?_
      refine ex_icmp_lt (tgt := 53) dX8_net_48 (by decide) (fun c_48 => ?_) (fun c_48 => ?_)
      · rw [if_neg (show ¬ cl_ce s ≤ i from c_34), if_neg (Int32.not_le.mpr c_48)]; exact hgo (show ¬ cl_ce s ≤ i from c_34)
      · refine ex_iconst (v := 0) dX8_net_51 (by decide) ?_
        refine ex_ireturn dX8_net_52 ⟨_, rfl, rfl⟩ ?_
        rw [if_neg (show ¬ cl_ce s ≤ i from c_34), if_pos (Int32.not_lt.mp c_48)]; exact cA_i hP (cl_F.refl _)
  · skip
    refine cV_f dX8_net_11 (mm_kv i_X2_size l_X8_232) ⟨(Nat.le_of_ble_eq_true rfl), (Nat.le_of_ble_eq_true rfl)⟩ (c_X2_size hP.1 (cP_bk hP)) rfl rfl (cP_bk hP) (Nat.le_of_ble_eq_true rfl) rfl ?_
    refine ex_iconst (v := 4) dX8_net_14 (by decide) ?_
    refine ex_icmp_ge (tgt := 22) dX8_net_15 (by decide) (fun c_15 => ?_) (fun c_15 => ?_)
    · refine ex_iconst (v := 0) dX8_net_22 (by decide) ?_
      first | exact k _ (bb_f (fun z => Int32.not_le.mpr z c_15)).symm | exact k _ (bb_t (Int32.not_le.mp c_15)).symm
    · refine ex_iconst (v := 1) dX8_net_18 (by decide) ?_
      refine ex_goto (tgt := 23) dX8_net_19 (by decide) ?_
      first | exact k _ (bb_f (fun z => Int32.not_le.mpr z c_15)).symm | exact k _ (bb_t (Int32.not_le.mp c_15)).symm
theorem c_X8_measure (hl : l.stackTraces = false) (hP : cl_P h s.1 s.2 c0 n0) (h4 : (s.1 4).length ≤ 20000) (fb vo dr : Int32) : mm_Ct l G mX8_measure [.ref 0, .int fb, .int vo, .int dr] h (cl_A (cm_measure s fb vo dr) c0 n0 h) := by
  refine mm_ct (by decide +kernel) (by decide +kernel) rfl (by simp [Value.category]) (Nat.le_of_ble_eq_true rfl) rfl ?_
  refine ex_iload_n dX8_measure_0 rfl ?_
  refine ex_iconst (v := 0) dX8_measure_1 (by decide) ?_
  refine ex_ldc dX8_measure_2 k_X8_92 ?_
  refine cS_f dX8_measure_4 (mm_ks i_X8_isIn l_X8_55) ⟨(Nat.le_of_ble_eq_true rfl), (Nat.le_of_ble_eq_true rfl)⟩ (c_X8_isIn _ _ _) rfl rfl (Nat.le_of_ble_eq_true rfl) rfl ?_
  refine cS_n dX8_measure_7 (mm_ks i_X8_needArgument l_X8_59) ⟨(Nat.le_of_ble_eq_true rfl), (Nat.le_of_ble_eq_true rfl)⟩ (c_X8_needArgument hl _) rfl rfl (Nat.le_of_ble_eq_true rfl) rfl (fun b_7 => ?_) (fun b_7 => ?_)
  · rw [cm_measure, if_neg (bb_0.mp b_7)]; exact cA_x hP
  rw [cm_measure, if_pos (bb_n.mp b_7)]
  refine ex_aload_n dX8_measure_10 rfl ?_
  refine cV_f dX8_measure_11 (mm_kv i_X8_liesAtB l_X8_116) ⟨(Nat.le_of_ble_eq_true rfl), (Nat.le_of_ble_eq_true rfl)⟩ (c_X8_liesAtB hP) rfl rfl (cP_ow hP) (Nat.le_of_ble_eq_true rfl) rfl ?_
  refine cS_n dX8_measure_14 (mm_ks i_X8_needState l_X8_67) ⟨(Nat.le_of_ble_eq_true rfl), (Nat.le_of_ble_eq_true rfl)⟩ (c_X8_needState hl _) rfl rfl (Nat.le_of_ble_eq_true rfl) rfl (fun b_14 => ?_) (fun b_14 => ?_)
  · rw [if_neg (bb_0.mp b_14)]; exact cA_x hP
  rw [if_pos (bb_n.mp b_14)]
  refine ex_aload_n dX8_measure_17 rfl ?_
  refine ex_getfield dX8_measure_18 g_X8_40 (cP_ow hP) rfl ?_
  refine ex_iload_n dX8_measure_21 rfl ?_
  refine ex_iload_n dX8_measure_22 rfl ?_
  refine cV_f dX8_measure_23 (mm_kv i_X2_nearest l_X8_244) ⟨(Nat.le_of_ble_eq_true rfl), (Nat.le_of_ble_eq_true rfl)⟩ (c_X2_nearest hP.1 (cP_bk hP) _ _) rfl rfl (cP_bk hP) (Nat.le_of_ble_eq_true rfl) rfl ?_
  refine ex_istore dX8_measure_26 (Nat.le_of_ble_eq_true rfl) ?_
  skip
  show mm_Ex l G mX8_measure _ 28 [.ref 0, .int fb, .int vo, .int dr, .int (ms_f s fb vo), .null, .null, .null, .null, .null, .null] [] h
  by_cases hf : ms_f s fb vo = -1
  · skip
    refine ex_iload dX8_measure_28 rfl ?_
    refine ex_iconst (v := (-1)) dX8_measure_30 (by decide) ?_
    refine ex_icmp_ne (tgt := 36) dX8_measure_31 (by decide) (fun z => absurd hf z) (fun _ => ?_)
    refine ex_iconst (v := (-1)) dX8_measure_34 (by decide) ?_
    refine ex_ireturn dX8_measure_35 ⟨_, rfl, rfl⟩ ?_
    rw [if_pos hf]; exact cA_i hP (cl_F.refl _)
  rw [if_neg hf]
  obtain ⟨j, hj, hjl⟩ : ∃ j, ms_f s fb vo = nI j ∧ j < (s.1 4).length := by
    rcases fa_n_or (L0 := s.1 4) (fb := fb) (oe := vo) (s.1 4) 0 (-1) with z | ⟨j, z, z1, z2⟩
    · exact absurd z hf
    · exact ⟨j, z, by omega⟩
  have hr := List.getElem?_eq_getElem hjl
  have ej : (ms_f s fb vo).toNatClampNeg = j := by rw [hj]; exact nI_clamp (by omega)
  rw [ej]
  generalize (s.1 4)[j] = r at hr
  rw [hr, Option.getD_some]
  refine ex_iload dX8_measure_28 rfl ?_
  refine ex_iconst (v := (-1)) dX8_measure_30 (by decide) ?_
  refine ex_icmp_ne (tgt := 36) dX8_measure_31 (by decide) (fun _ => ?_) (fun z => absurd z hf)
  refine ex_aload_n dX8_measure_36 rfl ?_
  refine ex_getfield dX8_measure_37 g_X8_40 (cP_ow hP) rfl ?_
  refine ex_iload dX8_measure_40 rfl ?_
  refine cV_f dX8_measure_42 (mm_kv i_X2_placeOf l_X8_248) ⟨(Nat.le_of_ble_eq_true rfl), (Nat.le_of_ble_eq_true rfl)⟩ (c_X2_placeOf hP.1 (cP_bk hP) _) rfl rfl (cP_bk hP) (Nat.le_of_ble_eq_true rfl) rfl ?_
  refine ex_istore dX8_measure_45 (Nat.le_of_ble_eq_true rfl) ?_
  skip
  show mm_Ex l G mX8_measure _ 47 [.ref 0, .int fb, .int vo, .int dr, .int (ms_f s fb vo), .int (ms_p s fb vo), .null, .null, .null, .null, .null] [] h
  have hgo : mm_Ex l G mX8_measure (cl_A (.inl (some (ms_t s fb vo dr)), va_up s.1 4 ((s.1 4).set j (ms_n r (if fb = 0 then ms_t s fb vo dr else cl_me s - ms_t s fb vo dr) (ms_w s fb vo dr))), s.2) c0 n0 h) 66 [.ref 0, .int fb, .int vo, .int dr, .int (ms_f s fb vo), .int (ms_p s fb vo), .null, .null, .null, .null, .null] [] h := by
    refine mm_viaJ (ms_a s fb vo) (pc' := 85) (ls' := [.ref 0, .int fb, .int vo, .int dr, .int (ms_f s fb vo), .int (ms_p s fb vo), .null, .null, .null, .null, .null]) (st := []) ?_ (fun k => ?_)
    · skip
      refine ex_istore dX8_measure_85 (Nat.le_of_ble_eq_true rfl) ?_
      refine ex_iload dX8_measure_87 rfl ?_
      refine ex_sipush (v := 200) dX8_measure_89 (by decide) ?_
      refine ex_idiv dX8_measure_92 (by decide) ?_
      refine ex_bipush (v := 10) dX8_measure_93 (by decide) ?_
      refine ex_iadd dX8_measure_95 ?_
      skip
      refine mm_viaJ (ms_2 vo) (pc' := 105) (ls' := [.ref 0, .int fb, .int vo, .int dr, .int (ms_f s fb vo), .int (ms_p s fb vo), .int (ms_a s fb vo), .null, .null, .null, .null]) (st := [.int (ms_a s fb vo / 200 + 10)]) ?_ (fun k => ?_)
      · skip
        refine ex_imul dX8_measure_105 ?_
        refine ex_istore dX8_measure_106 (Nat.le_of_ble_eq_true rfl) ?_
        refine ex_iconst (v := 1) dX8_measure_108 (by decide) ?_
        refine ex_iconst (v := 2) dX8_measure_109 (by decide) ?_
        refine ex_iload dX8_measure_110 rfl ?_
        refine ex_imul dX8_measure_112 ?_
        refine ex_iconst (v := 1) dX8_measure_113 (by decide) ?_
        refine ex_iadd dX8_measure_114 ?_
        refine ex_max dX8_measure_115 i_J9_max_7cf53 l_X8_255 (Nat.le_of_ble_eq_true rfl) (Nat.le_of_ble_eq_true rfl) ?_
        refine ex_istore dX8_measure_118 (Nat.le_of_ble_eq_true rfl) ?_
        refine ex_iconst (v := 0) dX8_measure_120 (by decide) ?_
        refine ex_iload dX8_measure_121 rfl ?_
        refine ex_iload dX8_measure_123 rfl ?_
        refine ex_isub dX8_measure_125 ?_
        refine ex_iload_n dX8_measure_126 rfl ?_
        refine ex_iload dX8_measure_127 rfl ?_
        refine ex_irem dX8_measure_129 mx_1 ?_
        refine ex_iadd dX8_measure_130 ?_
        refine ex_max dX8_measure_131 i_J9_max_7cf53 l_X8_255 (Nat.le_of_ble_eq_true rfl) (Nat.le_of_ble_eq_true rfl) ?_
        refine ex_istore dX8_measure_134 (Nat.le_of_ble_eq_true rfl) ?_
        refine ex_iload dX8_measure_136 rfl ?_
        refine ex_sipush (v := 190) dX8_measure_138 (by decide) ?_
        refine ex_idiv dX8_measure_141 (by decide) ?_
        refine ex_bipush (v := 12) dX8_measure_142 (by decide) ?_
        refine ex_iadd dX8_measure_144 ?_
        skip
        show mm_Ex l G mX8_measure _ 145 [.ref 0, .int fb, .int vo, .int dr, .int (ms_f s fb vo), .int (ms_p s fb vo), .int (ms_a s fb vo), .int (ms_e s fb vo), .int (ms_c s fb vo), .int (ms_t s fb vo dr), .null] [.int (ms_t s fb vo dr / 190 + 12)] h
        refine mm_viaJ (ms_2 vo) (pc' := 154) (ls' := [.ref 0, .int fb, .int vo, .int dr, .int (ms_f s fb vo), .int (ms_p s fb vo), .int (ms_a s fb vo), .int (ms_e s fb vo), .int (ms_c s fb vo), .int (ms_t s fb vo dr), .null]) (st := [.int (ms_t s fb vo dr / 190 + 12)]) ?_ (fun k => ?_)
        · skip
          refine ex_imul dX8_measure_154 ?_
          refine ex_istore dX8_measure_155 (Nat.le_of_ble_eq_true rfl) ?_
          refine ex_aload_n dX8_measure_157 rfl ?_
          refine ex_getfield dX8_measure_158 g_X8_40 (cP_ow hP) rfl ?_
          refine ex_iload dX8_measure_161 rfl ?_
          skip
          refine mm_viaJ (if fb = 0 then ms_t s fb vo dr else cl_me s - ms_t s fb vo dr) (pc' := 182) (ls' := [.ref 0, .int fb, .int vo, .int dr, .int (ms_f s fb vo), .int (ms_p s fb vo), .int (ms_a s fb vo), .int (ms_e s fb vo), .int (ms_c s fb vo), .int (ms_t s fb vo dr), .int (ms_w s fb vo dr)]) (st := [.int (ms_f s fb vo), .ref 20]) ?_ (fun k => ?_)
          · skip
            refine ex_iload dX8_measure_182 rfl ?_
            refine cV_y dX8_measure_184 (mm_kv i_X2_narrow l_X8_258) ⟨(Nat.le_of_ble_eq_true rfl), (Nat.le_of_ble_eq_true rfl)⟩ (c_X2_narrow hP.1 (cP_bk hP) hr _ hj _ _) rfl rfl (cP_bk hP) (Nat.le_of_ble_eq_true rfl) rfl ?_
            rintro h2 ⟨q2, f2⟩
            refine ex_iload dX8_measure_187 rfl ?_
            refine ex_ireturn dX8_measure_189 ⟨_, rfl, rfl⟩ ?_
            exact cA_i (cP_tab hP q2 f2) (cl_Ft f2)
          · skip
            refine ex_iload_n dX8_measure_163 rfl ?_
            refine ex_if_eq (tgt := 180) dX8_measure_164 (by decide) (fun c_164 => ?_) (fun c_164 => ?_)
            · refine ex_iload dX8_measure_180 rfl ?_
              first | exact k _ (if_pos c_164).symm | exact k _ (if_neg c_164).symm
            · refine ex_aload_n dX8_measure_167 rfl ?_
              refine ex_getfield dX8_measure_168 g_X8_33 (cP_ow hP) rfl ?_
              refine ex_getfield dX8_measure_171 g_X8_123 (cP_ro hP) rfl ?_
              refine ex_iload dX8_measure_174 rfl ?_
              refine ex_isub dX8_measure_176 ?_
              refine ex_goto (tgt := 182) dX8_measure_177 (by decide) ?_
              first | exact k _ (if_pos c_164).symm | exact k _ (if_neg c_164).symm
        · skip
          refine ex_iload_n dX8_measure_145 rfl ?_
          refine ex_if_eq (tgt := 153) dX8_measure_146 (by decide) (fun c_146 => ?_) (fun c_146 => ?_)
          · refine ex_iconst (v := 1) dX8_measure_153 (by decide) ?_
            first | exact k _ (if_pos c_146).symm | exact k _ (if_neg c_146).symm
          · refine ex_iconst (v := 2) dX8_measure_149 (by decide) ?_
            refine ex_goto (tgt := 154) dX8_measure_150 (by decide) ?_
            first | exact k _ (if_pos c_146).symm | exact k _ (if_neg c_146).symm
      · skip
        refine ex_iload_n dX8_measure_96 rfl ?_
        refine ex_if_eq (tgt := 104) dX8_measure_97 (by decide) (fun c_97 => ?_) (fun c_97 => ?_)
        · refine ex_iconst (v := 1) dX8_measure_104 (by decide) ?_
          first | exact k _ (if_pos c_97).symm | exact k _ (if_neg c_97).symm
        · refine ex_iconst (v := 2) dX8_measure_100 (by decide) ?_
          refine ex_goto (tgt := 105) dX8_measure_101 (by decide) ?_
          first | exact k _ (if_pos c_97).symm | exact k _ (if_neg c_97).symm
    · skip
      refine ex_iload_n dX8_measure_66 rfl ?_
      refine ex_if_eq (tgt := 83) dX8_measure_67 (by decide) (fun c_67 => ?_) (fun c_67 => ?_)
      · refine ex_iload dX8_measure_83 rfl ?_
        first | exact k _ (if_pos c_67).symm | exact k _ (if_neg c_67).symm
      · refine ex_aload_n dX8_measure_70 rfl ?_
        refine ex_getfield dX8_measure_71 g_X8_33 (cP_ow hP) rfl ?_
        refine ex_getfield dX8_measure_74 g_X8_123 (cP_ro hP) rfl ?_
        refine ex_iload dX8_measure_77 rfl ?_
        refine ex_isub dX8_measure_79 ?_
        refine ex_goto (tgt := 85) dX8_measure_80 (by decide) ?_
        first | exact k _ (if_pos c_67).symm | exact k _ (if_neg c_67).symm
  refine ex_iload_n dX8_measure_47 rfl ?_
  refine ex_if_ne (tgt := 66) dX8_measure_48 (by decide) (fun c_48 => ?_) (fun c_48 => ?_)
  · rw [if_neg (fun z => c_48 z.1)]; exact hgo
  · refine ex_aload_n dX8_measure_51 rfl ?_
    refine ex_getfield dX8_measure_52 g_X8_33 (cP_ow hP) rfl ?_
    refine ex_iload dX8_measure_55 rfl ?_
    refine ex_iload_n dX8_measure_57 rfl ?_
    refine cV_f dX8_measure_58 (mm_kv i_X5_hasRepeater l_X8_251) ⟨(Nat.le_of_ble_eq_true rfl), (Nat.le_of_ble_eq_true rfl)⟩ (c_X5_hasRepeater hP.1 (cP_ro hP) _ _) rfl rfl (cP_ro hP) (Nat.le_of_ble_eq_true rfl) rfl ?_
    refine ex_if_eq (tgt := 66) dX8_measure_61 (by decide) (fun c_61 => ?_) (fun c_61 => ?_)
    · rw [if_neg (fun z => bb_0.mp c_61 z.2)]; exact hgo
    · refine ex_iconst (v := (-1)) dX8_measure_64 (by decide) ?_
      refine ex_ireturn dX8_measure_65 ⟨_, rfl, rfl⟩ ?_
      rw [if_pos ⟨c_48, bb_n.mp c_61⟩]; exact cA_i hP (cl_F.refl _)
end PUBA
