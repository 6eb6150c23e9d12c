/-! P40: THE LAW: sixty turns -/
section E6
variable {l : Launch} {G : mm_G} {y u : Nat}
theorem lw_loop (hu : u = G.2.2.2.1) (hL : G.2.2.2.2.1 ≤ 260) (hl : l.stackTraces = false) : ∀ (T turn pcs : Nat) (h : mm_H) (x9 x10 x11 x12 x13 x14 x15 x16 : Value), T + turn = 60 → lj y turn pcs h → mm_Ex l G mm_law lw_QE 163 (lv_L 0 (nI y) (nI pcs) (nI (42 + 2 * turn)) (nI turn) u x9 x10 x11 x12 x13 x14 x15 x16) [] h := by
  intro T
  induction T with
  | zero =>
    intro turn pcs h x9 x10 x11 x12 x13 x14 x15 x16 hT hJ
    obtain ⟨n, s, d, e, k, td, he, hn, B, hI, hk, htd, htd2⟩ := hJ
    obtain rfl : turn = 60 := by omega
    refine ex_iload dL_law_163 rfl ?_
    refine ex_bipush (v := 60) dL_law_165 (by decide) ?_
    refine ex_icmp_ge (tgt := 1177) dL_law_167 (by decide) (fun _ => ?_) (fun z => absurd (by decide) z)
    refine ex_iconst (v := 1) dL_law_1177 (by decide) ?_
    refine ex_ireturn dL_law_1178 ⟨_, rfl, rfl⟩ ?_
    exact ⟨rfl, lb_room B he⟩
  | succ T ih =>
    intro turn pcs h x9 x10 x11 x12 x13 x14 x15 x16 hT hJ
    refine ex_iload dL_law_163 rfl ?_
    refine ex_bipush (v := 60) dL_law_165 (by decide) ?_
    refine ex_icmp_ge (tgt := 1177) dL_law_167 (by decide) (fun z => absurd z (nI_ge (b := 60) (by omega) (by decide))) (fun _ => ?_)
    refine ex_aload_x dL_law_170 rfl ?_
    refine ex_iload dL_law_171 rfl ?_
    refine cS_x dL_law_173 (mm_ks i_L_cell l_L_76) ⟨(Nat.le_of_ble_eq_true rfl), (Nat.le_of_ble_eq_true rfl)⟩ (c_L_cell hu hL (42 + 2 * turn) (by omega) _ rfl) rfl rfl (Nat.le_of_ble_eq_true rfl) rfl ?_
    rintro _ h ⟨⟨x9, rfl⟩, rfl⟩
    refine ex_istore dL_law_176 (Nat.le_of_ble_eq_true rfl) ?_
    refine ex_aload_x dL_law_178 rfl ?_
    refine ex_iload dL_law_179 rfl ?_
    refine ex_iconst (v := 1) dL_law_181 (by decide) ?_
    refine ex_iadd dL_law_182 ?_
    refine cS_x dL_law_183 (mm_ks i_L_cell l_L_76) ⟨(Nat.le_of_ble_eq_true rfl), (Nat.le_of_ble_eq_true rfl)⟩ (c_L_cell hu hL (42 + 2 * turn + 1) (by omega) _ (nI_1 _)) rfl rfl (Nat.le_of_ble_eq_true rfl) rfl ?_
    rintro _ h ⟨⟨y10, rfl⟩, rfl⟩
    refine ex_istore dL_law_186 (Nat.le_of_ble_eq_true rfl) ?_
    refine ex_iinc (d := 2) dL_law_188 rfl (by decide) ?_
    refine ex_iload dL_law_191 rfl ?_
    refine ex_bipush (v := 10) dL_law_193 (by decide) ?_
    refine cS_x dL_law_195 (mm_ks i_L_low l_L_78) ⟨(Nat.le_of_ble_eq_true rfl), (Nat.le_of_ble_eq_true rfl)⟩ (c_L_low _ 10 (by decide) (by decide) _ rfl) rfl rfl (Nat.le_of_ble_eq_true rfl) rfl ?_
    rintro _ h ⟨⟨kd, hkd, rfl⟩, rfl⟩
    refine ex_istore dL_law_198 (Nat.le_of_ble_eq_true rfl) ?_
    refine ex_iload dL_law_200 rfl ?_
    refine ex_iconst (v := 4) dL_law_202 (by decide) ?_
    refine ex_ishr dL_law_203 ?_
    refine ex_iconst (v := 3) dL_law_204 (by decide) ?_
    refine cS_x dL_law_205 (mm_ks i_L_low l_L_78) ⟨(Nat.le_of_ble_eq_true rfl), (Nat.le_of_ble_eq_true rfl)⟩ (c_L_low _ 3 (by decide) (by decide) _ rfl) rfl rfl (Nat.le_of_ble_eq_true rfl) rfl ?_
    rintro _ h ⟨⟨j, hj, rfl⟩, rfl⟩
    refine ex_istore dL_law_208 (Nat.le_of_ble_eq_true rfl) ?_
    skip
    have hat : nI (42 + 2 * turn) + 2 = nI (42 + 2 * (turn + 1)) := nI_add _ 2
    rw [hat]
    have K : ∀ (pcs : Nat) (h : mm_H) (x13 x14 x15 x16 : Value), lj y (turn + 1) pcs h → mm_Ex l G mm_law lw_QE 1158 (lv_L 0 (nI y) (nI pcs) (nI (42 + 2 * (turn + 1))) (nI turn) u (.int x9) (.int y10) (.int (nI kd)) (.int (nI j)) x13 x14 x15 x16) [] h := by
      intro pcs h x13 x14 x15 x16 hJ
      obtain ⟨n, s, d, e, k, td, he, hn, B, hI, hk, htd, htd2⟩ := hJ
      refine ex_aload_n dL_law_1158 rfl ?_
      refine ex_aload_n dL_law_1159 rfl ?_
      refine ex_aload_n dL_law_1160 rfl ?_
      refine ex_aload dL_law_1161 rfl ?_
      refine cS_x dL_law_1163 (mm_ks i_L_right l_L_111) ⟨(Nat.le_of_ble_eq_true rfl), (Nat.le_of_ble_eq_true rfl)⟩ (c_L_right hl hI (by omega) hk B) rfl rfl (Nat.le_of_ble_eq_true rfl) rfl ?_
      rintro _ h ⟨rfl, B⟩
      refine ex_if_ne (tgt := 1171) dL_law_1166 (by decide) (fun _ => ?_) (fun z => absurd z (by decide))
      refine ex_iinc (d := 1) dL_law_1171 rfl (by decide) ?_
      refine ex_goto (tgt := 163) dL_law_1174 (by decide) ?_
      rw [nI_1]; exact ih (turn + 1) pcs h _ _ _ _ _ _ _ _ (by omega) ⟨n, s, d, e, k, td, he, hn, B, hI, hk, htd, htd2⟩
    have hp30 : pcs ≤ 30 := by
      obtain ⟨n, s, d, e, k, td, he, hn, B, hI, hk, htd, htd2⟩ := hJ
      exact (p_I_c hI).2.1
    have K228 : pcs < 30 → mm_Ex l G mm_law lw_QE 228 (lv_L 0 (nI y) (nI pcs) (nI (42 + 2 * (turn + 1))) (nI turn) u (.int x9) (.int y10) (.int (nI kd)) (.int (nI j)) x13 x14 x15 x16) [] h := fun hp => lw_make hl hj (by omega) hp hJ (K (pcs + 1))
    have K272 : mm_Ex l G mm_law lw_QE 272 (lv_L 0 (nI y) (nI pcs) (nI (42 + 2 * (turn + 1))) (nI turn) u (.int x9) (.int y10) (.int (nI kd)) (.int (nI j)) x13 x14 x15 x16) [] h := by
      have hJ0 := hJ
      obtain ⟨n, s, d, e, k, td, he, hn, B0, hI, hk, htd, htd2⟩ := hJ
      obtain ⟨hc, hkp, hy, hbb⟩ := p_I_c hI
      have B := lb_k hc B0
      have K542 : mm_Ex l G mm_law lw_QE 542 (lv_L 0 (nI y) (nI pcs) (nI (42 + 2 * (turn + 1))) (nI turn) u (.int x9) (.int y10) (.int (nI kd)) (.int (nI j)) x13 x14 x15 x16) [] h := by
        refine ex_iload dL_law_542 rfl ?_
        refine ex_bipush (v := 8) dL_law_544 (by decide) ?_
        refine ex_icmp_ge (tgt := 746) dL_law_546 (by decide) (fun c_546 => ?_) (fun c_546 => ?_)
        · refine ex_iload dL_law_746 rfl ?_
          refine ex_bipush (v := 8) dL_law_748 (by decide) ?_
          refine ex_icmp_ne (tgt := 969) dL_law_750 (by decide) (fun c_750 => ?_) (fun c_750 => ?_)
          · exact lw_mend hl hj (by omega) he hn B0 hI hk htd htd2 (K pcs)
          · refine ex_aload dL_law_753 rfl ?_
            refine ex_bipush (v := 7) dL_law_755 (by decide) ?_
            refine ex_ialv (v := cl_bu s) dL_law_757 B.2.2.2 (by unfold vp_in; decide) (tg_c (j := 7) (by decide) (by decide) rfl) ?_
            refine ex_iconst (v := 1) dL_law_758 (by decide) ?_
            refine ex_icmp_ne (tgt := 886) dL_law_759 (by decide) (fun c_759 => ?_) (fun c_759 => ?_)
            · exact lw_rep hl (by omega) he hn B0 hI hk htd htd2 (K pcs)
            · refine ex_iload dL_law_762 rfl ?_
              refine ex_iconst (v := 2) dL_law_764 (by decide) ?_
              refine cS_x dL_law_765 (mm_ks i_L_low l_L_78) ⟨(Nat.le_of_ble_eq_true rfl), (Nat.le_of_ble_eq_true rfl)⟩ (c_L_low _ 2 (by decide) (by decide) _ rfl) rfl rfl (Nat.le_of_ble_eq_true rfl) rfl ?_
              rintro _ h ⟨⟨q, hq, rfl⟩, rfl⟩
              refine ex_if_ne (tgt := 886) dL_law_768 (by decide) (fun c_768 => ?_) (fun c_768 => ?_)
              · exact lw_rep hl (by omega) he hn B0 hI hk htd htd2 (K pcs)
              · exact lw_take hl hj (by omega) he hn B0 hI hk htd htd2 c_759 (K pcs)
        · exact lw_pass hl (by omega) hJ0 (K pcs)
      refine ex_iload dL_law_272 rfl ?_
      refine ex_bipush (v := 6) dL_law_274 (by decide) ?_
      refine ex_icmp_ge (tgt := 542) dL_law_276 (by decide) (fun c_276 => ?_) (fun c_276 => ?_)
      · exact K542
      · refine ex_aload dL_law_279 rfl ?_
        refine ex_bipush (v := 6) dL_law_281 (by decide) ?_
        refine ex_ialv (v := nI k) dL_law_283 B.2.2.2 (by unfold vp_in; decide) (tg_c (j := 6) (by decide) (by decide) rfl) ?_
        refine ex_bipush (v := 38) dL_law_284 (by decide) ?_
        refine ex_icmp_ge (tgt := 542) dL_law_286 (by decide) (fun c_286 => ?_) (fun c_286 => ?_)
        · exact K542
        · exact lw_lay hl hj (by omega) he hn B0 hI ((nI_ltI (b := 38) (by omega) (by decide)).mp (Int32.not_le.mp c_286)) htd htd2 (K pcs)
    refine ex_iload dL_law_210 rfl ?_
    refine ex_iconst (v := 2) dL_law_212 (by decide) ?_
    refine ex_icmp_ge (tgt := 223) dL_law_213 (by decide) (fun c_213 => ?_) (fun c_213 => ?_)
    · refine ex_iload dL_law_223 rfl ?_
      refine ex_if_ne (tgt := 272) dL_law_225 (by decide) (fun c_225 => ?_) (fun c_225 => ?_)
      · exact K272
      · exact K228 (by have := (nI_eq (b := 0) (by omega) (by decide)).mp c_225; omega)
    · refine ex_iload dL_law_216 rfl ?_
      refine ex_bipush (v := 30) dL_law_218 (by decide) ?_
      refine ex_icmp_lt (tgt := 228) dL_law_220 (by decide) (fun c_220 => ?_) (fun c_220 => ?_)
      · exact K228 ((nI_ltI (b := 30) (by omega) (by decide)).mp c_220)
      · refine ex_iload dL_law_223 rfl ?_
        refine ex_if_ne (tgt := 272) dL_law_225 (by decide) (fun c_225 => ?_) (fun c_225 => ?_)
        · exact K272
        · exact K228 (by have := (nI_eq (b := 0) (by omega) (by decide)).mp c_225; omega)
end E6
