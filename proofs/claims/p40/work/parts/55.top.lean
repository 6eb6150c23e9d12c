/-! THE CLASS: its own methods; an answer and a state -/
abbrev cl_S : Type := (Nat → List tt_R) × cl_U
abbrev cl_R : Type := Option Int32 ⊕ String
def cl_o : cl_R → mm_R
  | .inl none => .inl none
  | .inl (some x) => .inl (some (.int x))
  | .inr e => .inr e
def cl_e : cl_R → Nat
  | .inl _ => 0
  | .inr _ => 1
def cl_A (x : cl_R × cl_S) (c0 n0 : Nat) (h : mm_H) : mm_R → mm_H → Prop := fun r h' => r = cl_o x.1 ∧ cl_P h' x.2.1 x.2.2 (c0 + cl_e x.1) (n0 + 6 * cl_e x.1) ∧ cl_F h h'
theorem cA_x {h : mm_H} {tb : Nat → List tt_R} {u : cl_U} {c0 n0 : Nat} {E : String} (hP : cl_P h tb u c0 n0) : cl_A (.inr E, tb, u) c0 n0 h (.inr E) (mm_exc h) := ⟨rfl, cP_exc hP, fun _ _ _ => rfl⟩
theorem cA_i {h h' : mm_H} {tb : Nat → List tt_R} {u : cl_U} {c0 n0 : Nat} {x : Int32} (hP : cl_P h' tb u c0 n0) (hF : cl_F h h') : cl_A (.inl (some x), tb, u) c0 n0 h (.inl (some (.int x))) h' := ⟨rfl, hP, hF⟩
theorem mm_via {l : Launch} {G : mm_G} {M : mm_M} {Q : mm_R → mm_H → Prop} {pc pc' : Nat} {ls ls' st st' : List Value} {h : mm_H} {p : Prop} [Decidable p] (k : ∀ b, b = bb p → mm_Ex l G M Q pc' ls' (.int b :: st) h) (f : (∀ b, b = bb p → mm_Ex l G M Q pc' ls' (.int b :: st) h) → mm_Ex l G M Q pc ls st' h) : mm_Ex l G M Q pc ls st' h := f k
def cx_a : String := "java/lang/IllegalArgumentException"
def cx_s : String := "java/lang/IllegalStateException"
def cx_i : String := "java/lang/IndexOutOfBoundsException"
def cs_snd (S : se_T) (i d e : Int32) : se_T := if e ≤ S.2.1 i.toNatClampNeg then (upd S.1 i.toNatClampNeg d, upd S.2.1 i.toNatClampNeg e, S.2.2) else S
def cm_sound (s : cl_S) (i d e : Int32) : cl_R × cl_S := if ii i 0 99 ∧ ii d 0 6000 ∧ ii e 0 500 then (if s.2.2.2.2.1.2.1 ≤ i then (.inl (some (se_d (cs_snd s.2.1 i d e) i)), s.1, cs_snd s.2.1 i d e, s.2.2) else (.inr cx_s, s)) else (.inr cx_a, s)
section TOP
variable {l : Launch} {G : mm_G} {h : mm_H} {tb : Nat → List tt_R} {c0 n0 : Nat} {S : se_T} {c : ca_T} {ty cm st : Nat → Int32} {pc mk ce me : Int32} {ho ro : (Nat → Int32) × Int32 × Int32} {ow : Int32 × Int32 × Int32 × Int32 × Int32 × Int32}
theorem c_X8_sound (hl : l.stackTraces = false) (hP : cl_P h tb (S, c, ho, ro, st, ow) c0 n0) (i d e : Int32) : mm_Ct l G mX8_sound [.ref 0, .int i, .int d, .int e] h (cl_A (cm_sound (tb, S, c, ho, ro, st, ow) i d e) c0 n0 h) := by
  refine mm_ct (by decide +kernel) (by decide +kernel) rfl (by simp [Value.category]) (Nat.le_of_ble_eq_true rfl) rfl ?_
  refine mm_via (p := ii i 0 99 ∧ ii d 0 6000 ∧ ii e 0 500) (pc' := 34) (ls' := [.ref 0, .int i, .int d, .int e]) (st := []) (fun b hb => ?_) (fun k => ?_)
  · skip
    refine cS_n dX8_sound_34 (mm_ks i_X8_needArgument l_X8_59) ⟨(Nat.le_of_ble_eq_true rfl), (Nat.le_of_ble_eq_true rfl)⟩ (c_X8_needArgument hl _) rfl rfl (Nat.le_of_ble_eq_true rfl) rfl (fun b_34 => ?_) (fun b_34 => ?_)
    · rw [cm_sound, if_neg (bb_0.mp (hb ▸ b_34))]; exact cA_x hP
    replace hb : ii i 0 99 ∧ ii d 0 6000 ∧ ii e 0 500 := bb_n.mp (hb ▸ b_34)
    rw [cm_sound, if_pos hb]
    skip
    refine mm_via (p := ro.2.1 ≤ i) (pc' := 53) (ls' := [.ref 0, .int i, .int d, .int e]) (st := []) (fun b hb2 => ?_) (fun k => ?_)
    · skip
      refine cS_n dX8_sound_53 (mm_ks i_X8_needState l_X8_67) ⟨(Nat.le_of_ble_eq_true rfl), (Nat.le_of_ble_eq_true rfl)⟩ (c_X8_needState hl _) rfl rfl (Nat.le_of_ble_eq_true rfl) rfl (fun b_53 => ?_) (fun b_53 => ?_)
      · rw [if_neg (bb_0.mp (hb2 ▸ b_53))]; exact cA_x hP
      rw [if_pos (bb_n.mp (hb2 ▸ b_53))]
      refine ex_aload_n dX8_sound_56 rfl ?_
      refine ex_getfield dX8_sound_57 g_X8_10 (cP_ow hP) rfl ?_
      refine ex_iload_n dX8_sound_60 rfl ?_
      refine ex_iload_n dX8_sound_61 rfl ?_
      refine ex_iload_n dX8_sound_62 rfl ?_
      refine cV_v dX8_sound_63 (mm_kv i_X6_takeSounding l_X8_70) ⟨(Nat.le_of_ble_eq_true rfl), (Nat.le_of_ble_eq_true rfl)⟩ (c_X6_takeSounding (cP_se hP) _ _ _ hb.1) rfl rfl (cP_se hP).1 (Nat.le_of_ble_eq_true rfl) rfl ?_
      skip
      have hw : ∃ h', (if e ≤ S.2.1 i.toNatClampNeg then mm_set (mm_set h 2 (.inl (.int, 100, .inl (upd S.1 i.toNatClampNeg d)))) 3 (.inl (.int, 100, .inl (upd S.2.1 i.toNatClampNeg e))) else h) = h' ∧ cl_P h' tb (cs_snd S i d e, c, ho, ro, st, ow) c0 n0 ∧ cl_F h h' := by
        unfold cs_snd
        by_cases he : e ≤ S.2.1 i.toNatClampNeg
        · rw [if_pos he, if_pos he]
          have w2 := cs_2 hP (upd S.1 i.toNatClampNeg d)
          have w3 := cs_3 w2.1 (upd S.2.1 i.toNatClampNeg e)
          exact ⟨_, rfl, w3.1, w2.2.trans w3.2⟩
        · rw [if_neg he, if_neg he]
          exact ⟨_, rfl, hP, cl_F.refl h⟩
      obtain ⟨h2, e2, p2, f2⟩ := hw
      rw [e2]
      refine ex_aload_n dX8_sound_66 rfl ?_
      refine ex_getfield dX8_sound_67 g_X8_10 (cP_ow p2) rfl ?_
      refine ex_iload_n dX8_sound_70 rfl ?_
      refine cV_f dX8_sound_71 (mm_kv i_X6_depthOf l_X8_74) ⟨(Nat.le_of_ble_eq_true rfl), (Nat.le_of_ble_eq_true rfl)⟩ (c_X6_depthOf (cP_se p2) _) rfl rfl (cP_se p2).1 (Nat.le_of_ble_eq_true rfl) rfl ?_
      refine ex_ireturn dX8_sound_74 ⟨_, rfl, rfl⟩ ?_
      exact cA_i p2 f2
    · skip
      refine ex_iload_n dX8_sound_37 rfl ?_
      refine ex_aload_n dX8_sound_38 rfl ?_
      refine ex_getfield dX8_sound_39 g_X8_33 (cP_ow hP) rfl ?_
      refine ex_getfield dX8_sound_42 g_X8_63 (cP_ro hP) rfl ?_
      refine ex_icmp_lt (tgt := 52) dX8_sound_45 (by decide) (fun c_45 => ?_) (fun c_45 => ?_)
      · refine ex_iconst (v := 0) dX8_sound_52 (by decide) ?_
        first | exact k _ (bb_f (fun z => Int32.not_lt.mpr z c_45)).symm | exact k _ (bb_t (Int32.not_lt.mp c_45)).symm
      · refine ex_iconst (v := 1) dX8_sound_48 (by decide) ?_
        refine ex_goto (tgt := 53) dX8_sound_49 (by decide) ?_
        first | exact k _ (bb_f (fun z => Int32.not_lt.mpr z c_45)).symm | exact k _ (bb_t (Int32.not_lt.mp c_45)).symm
  · skip
    refine ex_iload_n dX8_sound_0 rfl ?_
    refine cS_f dX8_sound_1 (mm_ks i_X8_isCell l_X8_51) ⟨(Nat.le_of_ble_eq_true rfl), (Nat.le_of_ble_eq_true rfl)⟩ (c_X8_isCell _) rfl rfl (Nat.le_of_ble_eq_true rfl) rfl ?_
    refine ex_if_eq (tgt := 33) dX8_sound_4 (by decide) (fun c_4 => ?_) (fun c_4 => ?_)
    · refine ex_iconst (v := 0) dX8_sound_33 (by decide) ?_
      first | exact k _ (bb_f (fun z => bb_0.mp c_4 z.1)).symm | exact k _ (bb_f (fun z => bb_0.mp c_15 z.2.1)).symm | exact k _ (bb_f (fun z => bb_0.mp c_26 z.2.2)).symm | exact k _ (bb_t ⟨bb_n.mp c_4, bb_n.mp c_15, bb_n.mp c_26⟩).symm
    · refine ex_iload_n dX8_sound_7 rfl ?_
      refine ex_iconst (v := 0) dX8_sound_8 (by decide) ?_
      refine ex_sipush (v := 6000) dX8_sound_9 (by decide) ?_
      refine cS_f dX8_sound_12 (mm_ks i_X8_isIn l_X8_55) ⟨(Nat.le_of_ble_eq_true rfl), (Nat.le_of_ble_eq_true rfl)⟩ (c_X8_isIn _ _ _) rfl rfl (Nat.le_of_ble_eq_true rfl) rfl ?_
      refine ex_if_eq (tgt := 33) dX8_sound_15 (by decide) (fun c_15 => ?_) (fun c_15 => ?_)
      · refine ex_iconst (v := 0) dX8_sound_33 (by decide) ?_
        first | exact k _ (bb_f (fun z => bb_0.mp c_4 z.1)).symm | exact k _ (bb_f (fun z => bb_0.mp c_15 z.2.1)).symm | exact k _ (bb_f (fun z => bb_0.mp c_26 z.2.2)).symm | exact k _ (bb_t ⟨bb_n.mp c_4, bb_n.mp c_15, bb_n.mp c_26⟩).symm
      · refine ex_iload_n dX8_sound_18 rfl ?_
        refine ex_iconst (v := 0) dX8_sound_19 (by decide) ?_
        refine ex_sipush (v := 500) dX8_sound_20 (by decide) ?_
        refine cS_f dX8_sound_23 (mm_ks i_X8_isIn l_X8_55) ⟨(Nat.le_of_ble_eq_true rfl), (Nat.le_of_ble_eq_true rfl)⟩ (c_X8_isIn _ _ _) rfl rfl (Nat.le_of_ble_eq_true rfl) rfl ?_
        refine ex_if_eq (tgt := 33) dX8_sound_26 (by decide) (fun c_26 => ?_) (fun c_26 => ?_)
        · refine ex_iconst (v := 0) dX8_sound_33 (by decide) ?_
          first | exact k _ (bb_f (fun z => bb_0.mp c_4 z.1)).symm | exact k _ (bb_f (fun z => bb_0.mp c_15 z.2.1)).symm | exact k _ (bb_f (fun z => bb_0.mp c_26 z.2.2)).symm | exact k _ (bb_t ⟨bb_n.mp c_4, bb_n.mp c_15, bb_n.mp c_26⟩).symm
        · refine ex_iconst (v := 1) dX8_sound_29 (by decide) ?_
          refine ex_goto (tgt := 34) dX8_sound_30 (by decide) ?_
          first | exact k _ (bb_f (fun z => bb_0.mp c_4 z.1)).symm | exact k _ (bb_f (fun z => bb_0.mp c_15 z.2.1)).symm | exact k _ (bb_f (fun z => bb_0.mp c_26 z.2.2)).symm | exact k _ (bb_t ⟨bb_n.mp c_4, bb_n.mp c_15, bb_n.mp c_26⟩).symm
end TOP
