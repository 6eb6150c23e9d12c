/-! P40: RIGHT: what the law compares behind each act -/
abbrev rt_L (A v5 v6 v7 v8 v9 v10 : Value) : List Value := [.ref 0, .ref 29, .ref 30, .ref 31, A, v5, v6, v7, v8, v9, v10]
section E1
variable {l : Launch} {G : mm_G} {h : mm_H} {s : cl_S} {d : Nat → Int32} {c0 n0 n y kp k lo wa mk : Nat} {c : Nat → Nat}
abbrev tz_s (s : cl_S) : Nat → Int32 := tg (t_a s) [s.2.2.1.1, s.2.2.1.2.1, cl_la s, cl_ce s, cl_bu s, cl_lo s, cl_wa s, s.2.2.1.2.2, t_r s, t_l s]
theorem rt_things (hl : l.stackTraces = false) (hi : ivx n s k kp lo wa mk c) (hn : n ≤ 512) (hN : nj (s.1 2)) (A v5 : Value) (hA : A = .int (ro_bs (c_s s) k)) : ∀ i, i ≤ (s.1 2).length → ∀ (h : mm_H) (v10 : Value), lb h s d (c_s s) (tz_s s) c0 n0 → mm_Ex l G mL_right (lq 1 s d (c_s s) (tz_s s) c0 n0) 308 (rt_L A v5 (.int (nI (s.1 2).length)) (.int (nI (ln_N ((s.1 2).take i)))) (.int (ro_n 1 ((s.1 2).take i) 0)) (.int (nI i)) v10) [] h := by
  subst hA
  have hlen := hi.len (show n ≤ 513 by omega)
  have hNN := hi.N
  have key : ∀ j i, i + j = (s.1 2).length → ∀ (h : mm_H) (v10 : Value), lb h s d (c_s s) (tz_s s) c0 n0 → mm_Ex l G mL_right (lq 1 s d (c_s s) (tz_s s) c0 n0) 308 (rt_L (.int (ro_bs (c_s s) k)) v5 (.int (nI (s.1 2).length)) (.int (nI (ln_N ((s.1 2).take i)))) (.int (ro_n 1 ((s.1 2).take i) 0)) (.int (nI i)) v10) [] h := by
    intro j
    induction j with
    | zero =>
      intro i e h v10 B
      rw [Nat.add_zero] at e
      subst e
      rw [List.take_length]
      refine ex_iload dL_right_308 rfl ?_
      refine ex_iload dL_right_310 rfl ?_
      refine ex_icmp_ge (tgt := 465) dL_right_312 (by decide) (fun _ => ?_) (fun z => absurd (Int32.le_refl _) z)
      refine ex_iload dL_right_465 rfl ?_
      refine ex_iload dL_right_467 rfl ?_
      refine ex_icmp_ne (tgt := 486) dL_right_469 (by decide) (fun z => absurd (bs_N hi).symm z) (fun _ => ?_)
      refine ex_iload dL_right_472 rfl ?_
      refine ex_aload_n dL_right_474 rfl ?_
      refine ex_iconst (v := 3) dL_right_475 (by decide) ?_
      refine cV_x dL_right_476 (mm_kv i_X8_line l_L_20) ⟨(Nat.le_of_ble_eq_true rfl), (Nat.le_of_ble_eq_true rfl)⟩ (lb_q B ln_v3 (c_X8_line hl B.1 _)) rfl rfl (cP_ow B.1) (Nat.le_of_ble_eq_true rfl) rfl ?_
      rintro _ h ⟨rfl, B⟩
      refine ex_icmp_ne (tgt := 486) dL_right_479 (by decide) (fun z => absurd rfl z) (fun _ => ?_)
      refine ex_iconst (v := 1) dL_right_482 (by decide) ?_
      refine ex_goto (tgt := 487) dL_right_483 (by decide) ?_
      refine ex_ireturn dL_right_487 ⟨_, rfl, rfl⟩ ?_
      exact ⟨_, rfl, rfl, B⟩
    | succ j ih =>
      intro i e h v10 B
      have hil : i < (s.1 2).length := by omega
      have hr : (s.1 2)[i]? = some (s.1 2)[i] := List.getElem?_eq_getElem hil
      obtain ⟨r, hre⟩ : ∃ r, (s.1 2)[i] = r := ⟨_, rfl⟩
      rw [hre] at hr
      obtain ⟨k1, k2, k3, k4, k5⟩ := tk_i hr
      have hrk := hi.2.2.2.1.1 r (List.mem_of_getElem? hr)
      have IH := ih (i + 1) (by omega)
      rw [k2, k5] at IH
      rcases hrk with ⟨r0, p, f, q, r1, hp, hq, hf⟩ | ⟨r0, r1⟩
      · have erl : rl r = q := by unfold rl; rw [r1]; exact nI_clamp (by omega)
        rw [erl] at IH k3 k4
        rw [if_neg (show ¬ r.1 = 1 by rw [r0]; decide)] at IH
        have w0 : (if (0 : Int32) = 0 then r.1 else if ¬ r.1 = 0 then -1 else if (0 : Int32) = 1 then r.2.1 else if (0 : Int32) = 2 then r.2.2.1 else r.2.2.1 + r.2.2.2 - 1) = 0 := by rw [if_pos rfl]; exact r0
        have w1 : (if (1 : Int32) = 0 then r.1 else if ¬ r.1 = 0 then -1 else if (1 : Int32) = 1 then r.2.1 else if (1 : Int32) = 2 then r.2.2.1 else r.2.2.1 + r.2.2.2 - 1) = nI p := by rw [if_neg (by decide), if_neg (fun z => z r0), if_pos rfl, r1]
        have w2 : (if (2 : Int32) = 0 then r.1 else if ¬ r.1 = 0 then -1 else if (2 : Int32) = 1 then r.2.1 else if (2 : Int32) = 2 then r.2.2.1 else r.2.2.1 + r.2.2.2 - 1) = nI f := by rw [if_neg (by decide), if_neg (fun z => z r0), if_neg (by decide), if_pos rfl, r1]
        have w3 : (if (3 : Int32) = 0 then r.1 else if ¬ r.1 = 0 then -1 else if (3 : Int32) = 1 then r.2.1 else if (3 : Int32) = 2 then r.2.2.1 else r.2.2.1 + r.2.2.2 - 1) = nI (f + q - 1) := by
          rw [if_neg (by decide), if_neg (fun z => z r0), if_neg (by decide), if_neg (by decide), r1]
          show nI f + nI q - nI 1 = _
          rw [nI_add, nI_sub (by omega)]
        have wm : cm_metre s (nI (ln_N ((s.1 2).take i))) = (.inl (some (100000 * nI p + nI f)), s) := by
          rw [mt_v hi (show ln_N ((s.1 2).take i) < ln_N (s.1 2) by omega)]
          have := k3 0 (by omega)
          rw [Nat.add_zero] at this
          rw [this, r1]
          show ((.inl (some (100000 * nI p + nI f + nI 0)), s) : cl_R × cl_S) = _
          rw [nI_0, show 100000 * nI p + nI f + 0 = 100000 * nI p + nI f by grind]
        have wa9 : cm_metreAnew s (nI (ln_N ((s.1 2).take i) + (q - 1))) = (.inl (some (100000 * nI p + nI (f + q - 1))), s) := by
          rw [ma_v hi (show ln_N ((s.1 2).take i) + (q - 1) < ln_N (s.1 2) by omega), k3 (q - 1) (by omega), r1]
          show ((.inl (some (100000 * nI p + nI f + nI (q - 1))), s) : cl_R × cl_S) = _
          rw [show f + q - 1 = f + (q - 1) by omega, ← nI_add f (q - 1), show 100000 * nI p + nI f + nI (q - 1) = 100000 * nI p + (nI f + nI (q - 1)) by grind]
        have es : nI (ln_N ((s.1 2).take i)) + (nI (f + q - 1) - nI f + 1) = nI (ln_N ((s.1 2).take i) + q) := by
          rw [nI_sub (by omega), nI_1, nI_add]; congr 1; omega
        have e8 : nI (ln_N ((s.1 2).take i) + q) - 1 = nI (ln_N ((s.1 2).take i) + (q - 1)) := by
          rw [show ln_N ((s.1 2).take i) + q = ln_N ((s.1 2).take i) + (q - 1) + 1 by omega, nI_m1]
        have K375 : ∀ (h : mm_H), lb h s d (c_s s) (tz_s s) c0 n0 → mm_Ex l G mL_right (lq 1 s d (c_s s) (tz_s s) c0 n0) 375 (rt_L (.int (ro_bs (c_s s) k)) v5 (.int (nI (s.1 2).length)) (.int (nI (ln_N ((s.1 2).take i)))) (.int (ro_n 1 ((s.1 2).take i) 0)) (.int (nI i)) (.int 0)) [] h := by
          intro h B
          refine ex_iload dL_right_375 rfl ?_
          refine ex_aload_n dL_right_377 rfl ?_
          refine ex_iload dL_right_378 rfl ?_
          refine ex_iconst (v := 3) dL_right_380 (by decide) ?_
          refine cV_x dL_right_381 (mm_kv i_X8_thing l_L_54) ⟨(Nat.le_of_ble_eq_true rfl), (Nat.le_of_ble_eq_true rfl)⟩ (lb_q B (th_v hlen hr (w := 3) (by decide) w3) (c_X8_thing hl B.1 _ _)) rfl rfl (cP_ow B.1) (Nat.le_of_ble_eq_true rfl) rfl ?_
          rintro _ h ⟨rfl, B⟩
          refine ex_aload_n dL_right_384 rfl ?_
          refine ex_iload dL_right_385 rfl ?_
          refine ex_iconst (v := 2) dL_right_387 (by decide) ?_
          refine cV_x dL_right_388 (mm_kv i_X8_thing l_L_54) ⟨(Nat.le_of_ble_eq_true rfl), (Nat.le_of_ble_eq_true rfl)⟩ (lb_q B (th_v hlen hr (w := 2) (by decide) w2) (c_X8_thing hl B.1 _ _)) rfl rfl (cP_ow B.1) (Nat.le_of_ble_eq_true rfl) rfl ?_
          rintro _ h ⟨rfl, B⟩
          refine ex_isub dL_right_391 ?_
          refine ex_iconst (v := 1) dL_right_392 (by decide) ?_
          refine ex_iadd dL_right_393 ?_
          refine ex_iadd dL_right_394 ?_
          refine ex_istore dL_right_395 (Nat.le_of_ble_eq_true rfl) ?_
          skip
          rw [es]
          refine ex_aload_n dL_right_397 rfl ?_
          refine ex_iload dL_right_398 rfl ?_
          refine ex_iconst (v := 1) dL_right_400 (by decide) ?_
          refine ex_isub dL_right_401 ?_
          rw [e8]
          refine cV_x dL_right_402 (mm_kv i_X8_metreAnew l_L_61) ⟨(Nat.le_of_ble_eq_true rfl), (Nat.le_of_ble_eq_true rfl)⟩ (lb_q B wa9 (c_X8_metreAnew hl B.1 _)) rfl rfl (cP_ow B.1) (Nat.le_of_ble_eq_true rfl) rfl ?_
          rintro _ h ⟨rfl, B⟩
          refine ex_ldc dL_right_405 k_L_60 ?_
          refine ex_aload_n dL_right_407 rfl ?_
          refine ex_iload dL_right_408 rfl ?_
          refine ex_iconst (v := 1) dL_right_410 (by decide) ?_
          refine cV_x dL_right_411 (mm_kv i_X8_thing l_L_54) ⟨(Nat.le_of_ble_eq_true rfl), (Nat.le_of_ble_eq_true rfl)⟩ (lb_q B (th_v hlen hr (w := 1) (by decide) w1) (c_X8_thing hl B.1 _ _)) rfl rfl (cP_ow B.1) (Nat.le_of_ble_eq_true rfl) rfl ?_
          rintro _ h ⟨rfl, B⟩
          refine ex_imul dL_right_414 ?_
          refine ex_aload_n dL_right_415 rfl ?_
          refine ex_iload dL_right_416 rfl ?_
          refine ex_iconst (v := 3) dL_right_418 (by decide) ?_
          refine cV_x dL_right_419 (mm_kv i_X8_thing l_L_54) ⟨(Nat.le_of_ble_eq_true rfl), (Nat.le_of_ble_eq_true rfl)⟩ (lb_q B (th_v hlen hr (w := 3) (by decide) w3) (c_X8_thing hl B.1 _ _)) rfl rfl (cP_ow B.1) (Nat.le_of_ble_eq_true rfl) rfl ?_
          rintro _ h ⟨rfl, B⟩
          refine ex_iadd dL_right_422 ?_
          refine ex_icmp_eq (tgt := 459) dL_right_423 (by decide) (fun _ => ?_) (fun z => absurd rfl z)
          refine ex_iinc (d := 1) dL_right_459 rfl (by decide) ?_
          refine ex_goto (tgt := 308) dL_right_462 (by decide) ?_
          rw [nI_1]; exact IH h _ B
        rcases Nat.eq_zero_or_pos i with z0 | z0
        · skip
          refine ex_iload dL_right_308 rfl ?_
          refine ex_iload dL_right_310 rfl ?_
          refine ex_icmp_ge (tgt := 465) dL_right_312 (by decide) (fun z => absurd z (nI_ge hil (by omega))) (fun _ => ?_)
          refine ex_aload_n dL_right_315 rfl ?_
          refine ex_iload dL_right_316 rfl ?_
          refine ex_iconst (v := 0) dL_right_318 (by decide) ?_
          refine cV_x dL_right_319 (mm_kv i_X8_thing l_L_54) ⟨(Nat.le_of_ble_eq_true rfl), (Nat.le_of_ble_eq_true rfl)⟩ (lb_q B (th_v hlen hr (w := 0) (by decide) w0) (c_X8_thing hl B.1 _ _)) rfl rfl (cP_ow B.1) (Nat.le_of_ble_eq_true rfl) rfl ?_
          rintro _ h ⟨rfl, B⟩
          refine ex_istore dL_right_322 (Nat.le_of_ble_eq_true rfl) ?_
          refine ex_iload dL_right_324 rfl ?_
          refine ex_if_ne (tgt := 428) dL_right_326 (by decide) (fun z => absurd rfl z) (fun _ => ?_)
          refine ex_aload_n dL_right_329 rfl ?_
          refine ex_iload dL_right_330 rfl ?_
          refine cV_x dL_right_332 (mm_kv i_X8_metre l_L_57) ⟨(Nat.le_of_ble_eq_true rfl), (Nat.le_of_ble_eq_true rfl)⟩ (lb_q B wm (c_X8_metre hl B.1 _)) rfl rfl (cP_ow B.1) (Nat.le_of_ble_eq_true rfl) rfl ?_
          rintro _ h ⟨rfl, B⟩
          refine ex_ldc dL_right_335 k_L_60 ?_
          refine ex_aload_n dL_right_337 rfl ?_
          refine ex_iload dL_right_338 rfl ?_
          refine ex_iconst (v := 1) dL_right_340 (by decide) ?_
          refine cV_x dL_right_341 (mm_kv i_X8_thing l_L_54) ⟨(Nat.le_of_ble_eq_true rfl), (Nat.le_of_ble_eq_true rfl)⟩ (lb_q B (th_v hlen hr (w := 1) (by decide) w1) (c_X8_thing hl B.1 _ _)) rfl rfl (cP_ow B.1) (Nat.le_of_ble_eq_true rfl) rfl ?_
          rintro _ h ⟨rfl, B⟩
          refine ex_imul dL_right_344 ?_
          refine ex_aload_n dL_right_345 rfl ?_
          refine ex_iload dL_right_346 rfl ?_
          refine ex_iconst (v := 2) dL_right_348 (by decide) ?_
          refine cV_x dL_right_349 (mm_kv i_X8_thing l_L_54) ⟨(Nat.le_of_ble_eq_true rfl), (Nat.le_of_ble_eq_true rfl)⟩ (lb_q B (th_v hlen hr (w := 2) (by decide) w2) (c_X8_thing hl B.1 _ _)) rfl rfl (cP_ow B.1) (Nat.le_of_ble_eq_true rfl) rfl ?_
          rintro _ h ⟨rfl, B⟩
          refine ex_iadd dL_right_352 ?_
          refine ex_icmp_ne (tgt := 373) dL_right_353 (by decide) (fun z => absurd rfl z) (fun _ => ?_)
          refine ex_iload dL_right_356 rfl ?_
          refine ex_if_le (tgt := 375) dL_right_358 (by decide) (fun _ => ?_) (fun z => absurd (by rw [z0]; decide) z)
          exact K375 h B
        · obtain ⟨g, hg⟩ : ∃ g, (s.1 2)[i - 1]? = some g := ⟨_, List.getElem?_eq_getElem (show i - 1 < (s.1 2).length by omega)⟩
          have hg0 : ¬ g.1 = 0 := fun z => nj_i (s.1 2) (i - 1) g r hN hg (by rw [show i - 1 + 1 = i by omega]; exact hr) ⟨z, r0⟩
          have wg : (if (0 : Int32) = 0 then g.1 else if ¬ g.1 = 0 then -1 else if (0 : Int32) = 1 then g.2.1 else if (0 : Int32) = 2 then g.2.2.1 else g.2.2.1 + g.2.2.2 - 1) = g.1 := if_pos rfl
          have eg : nI i - 1 = nI (i - 1) := pk_sub (a := i) (b := 1) z0
          refine ex_iload dL_right_308 rfl ?_
          refine ex_iload dL_right_310 rfl ?_
          refine ex_icmp_ge (tgt := 465) dL_right_312 (by decide) (fun z => absurd z (nI_ge hil (by omega))) (fun _ => ?_)
          refine ex_aload_n dL_right_315 rfl ?_
          refine ex_iload dL_right_316 rfl ?_
          refine ex_iconst (v := 0) dL_right_318 (by decide) ?_
          refine cV_x dL_right_319 (mm_kv i_X8_thing l_L_54) ⟨(Nat.le_of_ble_eq_true rfl), (Nat.le_of_ble_eq_true rfl)⟩ (lb_q B (th_v hlen hr (w := 0) (by decide) w0) (c_X8_thing hl B.1 _ _)) rfl rfl (cP_ow B.1) (Nat.le_of_ble_eq_true rfl) rfl ?_
          rintro _ h ⟨rfl, B⟩
          refine ex_istore dL_right_322 (Nat.le_of_ble_eq_true rfl) ?_
          refine ex_iload dL_right_324 rfl ?_
          refine ex_if_ne (tgt := 428) dL_right_326 (by decide) (fun z => absurd rfl z) (fun _ => ?_)
          refine ex_aload_n dL_right_329 rfl ?_
          refine ex_iload dL_right_330 rfl ?_
          refine cV_x dL_right_332 (mm_kv i_X8_metre l_L_57) ⟨(Nat.le_of_ble_eq_true rfl), (Nat.le_of_ble_eq_true rfl)⟩ (lb_q B wm (c_X8_metre hl B.1 _)) rfl rfl (cP_ow B.1) (Nat.le_of_ble_eq_true rfl) rfl ?_
          rintro _ h ⟨rfl, B⟩
          refine ex_ldc dL_right_335 k_L_60 ?_
          refine ex_aload_n dL_right_337 rfl ?_
          refine ex_iload dL_right_338 rfl ?_
          refine ex_iconst (v := 1) dL_right_340 (by decide) ?_
          refine cV_x dL_right_341 (mm_kv i_X8_thing l_L_54) ⟨(Nat.le_of_ble_eq_true rfl), (Nat.le_of_ble_eq_true rfl)⟩ (lb_q B (th_v hlen hr (w := 1) (by decide) w1) (c_X8_thing hl B.1 _ _)) rfl rfl (cP_ow B.1) (Nat.le_of_ble_eq_true rfl) rfl ?_
          rintro _ h ⟨rfl, B⟩
          refine ex_imul dL_right_344 ?_
          refine ex_aload_n dL_right_345 rfl ?_
          refine ex_iload dL_right_346 rfl ?_
          refine ex_iconst (v := 2) dL_right_348 (by decide) ?_
          refine cV_x dL_right_349 (mm_kv i_X8_thing l_L_54) ⟨(Nat.le_of_ble_eq_true rfl), (Nat.le_of_ble_eq_true rfl)⟩ (lb_q B (th_v hlen hr (w := 2) (by decide) w2) (c_X8_thing hl B.1 _ _)) rfl rfl (cP_ow B.1) (Nat.le_of_ble_eq_true rfl) rfl ?_
          rintro _ h ⟨rfl, B⟩
          refine ex_iadd dL_right_352 ?_
          refine ex_icmp_ne (tgt := 373) dL_right_353 (by decide) (fun z => absurd rfl z) (fun _ => ?_)
          refine ex_iload dL_right_356 rfl ?_
          refine ex_if_le (tgt := 375) dL_right_358 (by decide) (fun z => absurd z (nI_nle z0 (by omega))) (fun _ => ?_)
          refine ex_aload_n dL_right_361 rfl ?_
          refine ex_iload dL_right_362 rfl ?_
          refine ex_iconst (v := 1) dL_right_364 (by decide) ?_
          refine ex_isub dL_right_365 ?_
          refine ex_iconst (v := 0) dL_right_366 (by decide) ?_
          rw [eg]
          refine cV_x dL_right_367 (mm_kv i_X8_thing l_L_54) ⟨(Nat.le_of_ble_eq_true rfl), (Nat.le_of_ble_eq_true rfl)⟩ (lb_q B (th_v hlen hg (w := 0) (by decide) wg) (c_X8_thing hl B.1 _ _)) rfl rfl (cP_ow B.1) (Nat.le_of_ble_eq_true rfl) rfl ?_
          rintro _ h ⟨rfl, B⟩
          refine ex_if_ne (tgt := 375) dL_right_370 (by decide) (fun _ => ?_) (fun z => absurd z hg0)
          exact K375 h B
      · have erl : rl r = 0 := by unfold rl; rw [r1]; decide
        rw [erl, Nat.add_zero] at IH
        have hr0 : ¬ r.1 = 0 := by rcases r0 with z | z <;> rw [z] <;> decide
        have w1 : (if (1 : Int32) = 0 then r.1 else if ¬ r.1 = 0 then -1 else if (1 : Int32) = 1 then r.2.1 else if (1 : Int32) = 2 then r.2.2.1 else r.2.2.1 + r.2.2.2 - 1) = -1 := by rw [if_neg (by decide), if_pos hr0]
        rcases r0 with r0 | r0
        · have w0 : (if (0 : Int32) = 0 then r.1 else if ¬ r.1 = 0 then -1 else if (0 : Int32) = 1 then r.2.1 else if (0 : Int32) = 2 then r.2.2.1 else r.2.2.1 + r.2.2.2 - 1) = 1 := by rw [if_pos rfl]; exact r0
          rw [if_pos r0] at IH
          refine ex_iload dL_right_308 rfl ?_
          refine ex_iload dL_right_310 rfl ?_
          refine ex_icmp_ge (tgt := 465) dL_right_312 (by decide) (fun z => absurd z (nI_ge hil (by omega))) (fun _ => ?_)
          refine ex_aload_n dL_right_315 rfl ?_
          refine ex_iload dL_right_316 rfl ?_
          refine ex_iconst (v := 0) dL_right_318 (by decide) ?_
          refine cV_x dL_right_319 (mm_kv i_X8_thing l_L_54) ⟨(Nat.le_of_ble_eq_true rfl), (Nat.le_of_ble_eq_true rfl)⟩ (lb_q B (th_v hlen hr (w := 0) (by decide) w0) (c_X8_thing hl B.1 _ _)) rfl rfl (cP_ow B.1) (Nat.le_of_ble_eq_true rfl) rfl ?_
          rintro _ h ⟨rfl, B⟩
          refine ex_istore dL_right_322 (Nat.le_of_ble_eq_true rfl) ?_
          refine ex_iload dL_right_324 rfl ?_
          refine ex_if_ne (tgt := 428) dL_right_326 (by decide) (fun _ => ?_) (fun z => absurd z (by decide))
          refine ex_iload dL_right_428 rfl ?_
          refine ex_iconst (v := 1) dL_right_430 (by decide) ?_
          refine ex_icmp_ne (tgt := 440) dL_right_431 (by decide) (fun z => absurd rfl z) (fun _ => ?_)
          refine ex_iinc (d := 1) dL_right_434 rfl (by decide) ?_
          refine ex_goto (tgt := 459) dL_right_437 (by decide) ?_
          refine ex_iinc (d := 1) dL_right_459 rfl (by decide) ?_
          refine ex_goto (tgt := 308) dL_right_462 (by decide) ?_
          rw [nI_1]; exact IH h _ B
        · have w0 : (if (0 : Int32) = 0 then r.1 else if ¬ r.1 = 0 then -1 else if (0 : Int32) = 1 then r.2.1 else if (0 : Int32) = 2 then r.2.2.1 else r.2.2.1 + r.2.2.2 - 1) = 2 := by rw [if_pos rfl]; exact r0
          rw [if_neg (show ¬ r.1 = 1 by rw [r0]; decide)] at IH
          refine ex_iload dL_right_308 rfl ?_
          refine ex_iload dL_right_310 rfl ?_
          refine ex_icmp_ge (tgt := 465) dL_right_312 (by decide) (fun z => absurd z (nI_ge hil (by omega))) (fun _ => ?_)
          refine ex_aload_n dL_right_315 rfl ?_
          refine ex_iload dL_right_316 rfl ?_
          refine ex_iconst (v := 0) dL_right_318 (by decide) ?_
          refine cV_x dL_right_319 (mm_kv i_X8_thing l_L_54) ⟨(Nat.le_of_ble_eq_true rfl), (Nat.le_of_ble_eq_true rfl)⟩ (lb_q B (th_v hlen hr (w := 0) (by decide) w0) (c_X8_thing hl B.1 _ _)) rfl rfl (cP_ow B.1) (Nat.le_of_ble_eq_true rfl) rfl ?_
          rintro _ h ⟨rfl, B⟩
          refine ex_istore dL_right_322 (Nat.le_of_ble_eq_true rfl) ?_
          refine ex_iload dL_right_324 rfl ?_
          refine ex_if_ne (tgt := 428) dL_right_326 (by decide) (fun _ => ?_) (fun z => absurd z (by decide))
          refine ex_iload dL_right_428 rfl ?_
          refine ex_iconst (v := 1) dL_right_430 (by decide) ?_
          refine ex_icmp_ne (tgt := 440) dL_right_431 (by decide) (fun _ => ?_) (fun z => absurd z (by decide))
          refine ex_iload dL_right_440 rfl ?_
          refine ex_iconst (v := 2) dL_right_442 (by decide) ?_
          refine ex_icmp_ne (tgt := 457) dL_right_443 (by decide) (fun z => absurd rfl z) (fun _ => ?_)
          refine ex_aload_n dL_right_446 rfl ?_
          refine ex_iload dL_right_447 rfl ?_
          refine ex_iconst (v := 1) dL_right_449 (by decide) ?_
          refine cV_x dL_right_450 (mm_kv i_X8_thing l_L_54) ⟨(Nat.le_of_ble_eq_true rfl), (Nat.le_of_ble_eq_true rfl)⟩ (lb_q B (th_v hlen hr (w := 1) (by decide) w1) (c_X8_thing hl B.1 _ _)) rfl rfl (cP_ow B.1) (Nat.le_of_ble_eq_true rfl) rfl ?_
          rintro _ h ⟨rfl, B⟩
          refine ex_iconst (v := (-1)) dL_right_453 (by decide) ?_
          refine ex_icmp_eq (tgt := 459) dL_right_454 (by decide) (fun _ => ?_) (fun z => absurd rfl z)
          refine ex_iinc (d := 1) dL_right_459 rfl (by decide) ?_
          refine ex_goto (tgt := 308) dL_right_462 (by decide) ?_
          rw [nI_1]; exact IH h _ B
  intro i hle h v10 B
  exact key ((s.1 2).length - i) i (by omega) h v10 B
theorem rt_cells (hl : l.stackTraces = false) (hi : ivx n s k kp lo wa mk c) (hn : n ≤ 512) (hk : k ≤ 39) (hD : p_D s d) (hN : nj (s.1 2)) (A : Value) (hA : A = .int (ro_bs (c_s s) k)) : ∀ (h : mm_H), lb h s d (c_s s) (tz_s s) c0 n0 → mm_Ex l G mL_right (lq 1 s d (c_s s) (tz_s s) c0 n0) 159 (rt_L A (.int (ro_bs (c_s s) (min 0 k))) (.int (nI 0)) .null .null .null .null) [] h := by
  have hc := hi.1.1
  refine lp_nat (k + 1) (fun i => ∀ (h : mm_H), lb h s d (c_s s) (tz_s s) c0 n0 → mm_Ex l G mL_right (lq 1 s d (c_s s) (tz_s s) c0 n0) 159 (rt_L A (.int (ro_bs (c_s s) (min i k))) (.int (nI i)) .null .null .null .null) [] h) ?_ ?_
  · intro h B
    refine ex_iload dL_right_159 rfl ?_
    refine ex_aload_n dL_right_161 rfl ?_
    refine ex_bipush (v := 6) dL_right_162 (by decide) ?_
    refine ex_ialv (v := cl_ce s) dL_right_164 B.2.2.2 (by unfold vp_in; decide) (tg_c (j := 6) (by decide) (by decide) rfl) ?_
    refine ex_iconst (v := 1) dL_right_165 (by decide) ?_
    refine ex_iadd dL_right_166 ?_
    refine ex_icmp_ge (tgt := 292) dL_right_167 (by decide) (fun _ => ?_) (fun z => absurd (by rw [hc, nI_1]; exact Int32.le_refl _) z)
    refine ex_aload_n dL_right_292 rfl ?_
    refine ex_iconst (v := 2) dL_right_293 (by decide) ?_
    refine cV_x dL_right_294 (mm_kv i_X8_line l_L_20) ⟨(Nat.le_of_ble_eq_true rfl), (Nat.le_of_ble_eq_true rfl)⟩ (lb_q B ln_v2 (c_X8_line hl B.1 _)) rfl rfl (cP_ow B.1) (Nat.le_of_ble_eq_true rfl) rfl ?_
    rintro _ h ⟨rfl, B⟩
    refine ex_istore dL_right_297 (Nat.le_of_ble_eq_true rfl) ?_
    refine ex_iconst (v := 0) dL_right_299 (by decide) ?_
    refine ex_istore dL_right_300 (Nat.le_of_ble_eq_true rfl) ?_
    refine ex_iconst (v := 0) dL_right_302 (by decide) ?_
    refine ex_istore dL_right_303 (Nat.le_of_ble_eq_true rfl) ?_
    refine ex_iconst (v := 0) dL_right_305 (by decide) ?_
    refine ex_istore dL_right_306 (Nat.le_of_ble_eq_true rfl) ?_
    exact rt_things hl hi hn hN A _ hA 0 (Nat.zero_le _) h _ B
  · intro i hik ih h B
    by_cases zk : i < k
    · skip
      refine ex_iload dL_right_159 rfl ?_
      refine ex_aload_n dL_right_161 rfl ?_
      refine ex_bipush (v := 6) dL_right_162 (by decide) ?_
      refine ex_ialv (v := cl_ce s) dL_right_164 B.2.2.2 (by unfold vp_in; decide) (tg_c (j := 6) (by decide) (by decide) rfl) ?_
      refine ex_iconst (v := 1) dL_right_165 (by decide) ?_
      refine ex_iadd dL_right_166 ?_
      refine ex_icmp_ge (tgt := 292) dL_right_167 (by decide) (fun z => absurd z (by rw [hc, nI_1]; exact nI_ge hik (by omega))) (fun _ => ?_)
      refine ex_iload dL_right_170 rfl ?_
      refine ex_bipush (v := 40) dL_right_172 (by decide) ?_
      refine ex_icmp_ge (tgt := 292) dL_right_174 (by decide) (fun z => absurd z (nI_ge (show i < 40 by omega) (by decide))) (fun _ => ?_)
      refine ex_aload_n dL_right_177 rfl ?_
      refine ex_iload dL_right_178 rfl ?_
      refine ex_iconst (v := 0) dL_right_180 (by decide) ?_
      refine cV_x dL_right_181 (mm_kv i_X8_cell l_L_47) ⟨(Nat.le_of_ble_eq_true rfl), (Nat.le_of_ble_eq_true rfl)⟩ (lb_q B ((ce_v0 (show i < 40 by omega)).trans (by rw [hD.d (by omega)])) (c_X8_cell hl B.1 hc (by omega) _ _)) rfl rfl (cP_ow B.1) (Nat.le_of_ble_eq_true rfl) rfl ?_
      rintro _ h ⟨rfl, B⟩
      refine ex_aload_n dL_right_184 rfl ?_
      refine ex_iload dL_right_185 rfl ?_
      refine cS_f dL_right_187 (mm_ks i_L_depth l_L_10) ⟨(Nat.le_of_ble_eq_true rfl), (Nat.le_of_ble_eq_true rfl)⟩ (c_L_depth B.2.1 i (by omega) _ rfl) rfl rfl (Nat.le_of_ble_eq_true rfl) rfl ?_
      refine ex_icmp_ne (tgt := 262) dL_right_190 (by decide) (fun z => absurd rfl z) (fun _ => ?_)
      refine ex_aload_n dL_right_193 rfl ?_
      refine ex_iload dL_right_194 rfl ?_
      refine ex_iconst (v := 1) dL_right_196 (by decide) ?_
      refine cV_x dL_right_197 (mm_kv i_X8_cell l_L_47) ⟨(Nat.le_of_ble_eq_true rfl), (Nat.le_of_ble_eq_true rfl)⟩ (lb_q B ((ce_v1 (show i < 40 by omega)).trans (by rw [hD.g (by omega), ← du_0])) (c_X8_cell hl B.1 hc (by omega) _ _)) rfl rfl (cP_ow B.1) (Nat.le_of_ble_eq_true rfl) rfl ?_
      rintro _ h ⟨rfl, B⟩
      refine ex_aload_n dL_right_200 rfl ?_
      refine ex_iload dL_right_201 rfl ?_
      refine ex_iconst (v := 0) dL_right_203 (by decide) ?_
      refine cS_f dL_right_204 (mm_ks i_L_due l_L_50) ⟨(Nat.le_of_ble_eq_true rfl), (Nat.le_of_ble_eq_true rfl)⟩ (c_L_due B.2.1 i (by omega) _ rfl _) rfl rfl (Nat.le_of_ble_eq_true rfl) rfl ?_
      refine ex_icmp_ne (tgt := 262) dL_right_207 (by decide) (fun z => absurd rfl z) (fun _ => ?_)
      refine ex_aload_n dL_right_210 rfl ?_
      refine ex_iload dL_right_211 rfl ?_
      refine ex_iconst (v := 2) dL_right_213 (by decide) ?_
      refine cV_x dL_right_214 (mm_kv i_X8_cell l_L_47) ⟨(Nat.le_of_ble_eq_true rfl), (Nat.le_of_ble_eq_true rfl)⟩ (lb_q B (ce_v2 (show i < 40 by omega) (by omega) hc) (c_X8_cell hl B.1 hc (by omega) _ _)) rfl rfl (cP_ow B.1) (Nat.le_of_ble_eq_true rfl) rfl ?_
      rintro _ h ⟨rfl, B⟩
      refine ex_iload dL_right_217 rfl ?_
      refine ex_aload_n dL_right_219 rfl ?_
      refine ex_bipush (v := 6) dL_right_220 (by decide) ?_
      refine ex_ialv (v := cl_ce s) dL_right_222 B.2.2.2 (by unfold vp_in; decide) (tg_c (j := 6) (by decide) (by decide) rfl) ?_
      refine ex_icmp_ge (tgt := 231) dL_right_223 (by decide) (fun z => absurd z (by rw [hc]; exact nI_ge zk (by omega))) (fun _ => ?_)
      refine ex_iload dL_right_226 rfl ?_
      refine ex_goto (tgt := 232) dL_right_228 (by decide) ?_
      refine ex_icmp_ne (tgt := 262) dL_right_232 (by decide) (fun z => absurd (by rw [if_pos zk, Nat.min_eq_left (by omega)]) z) (fun _ => ?_)
      refine ex_aload_n dL_right_235 rfl ?_
      refine ex_iload dL_right_236 rfl ?_
      refine ex_iconst (v := 3) dL_right_238 (by decide) ?_
      refine cV_x dL_right_239 (mm_kv i_X8_cell l_L_47) ⟨(Nat.le_of_ble_eq_true rfl), (Nat.le_of_ble_eq_true rfl)⟩ (lb_q B (ce_v3 (show i < 40 by omega) (by omega) hc) (c_X8_cell hl B.1 hc (by omega) _ _)) rfl rfl (cP_ow B.1) (Nat.le_of_ble_eq_true rfl) rfl ?_
      rintro _ h ⟨rfl, B⟩
      refine ex_iload dL_right_242 rfl ?_
      refine ex_aload_n dL_right_244 rfl ?_
      refine ex_bipush (v := 6) dL_right_245 (by decide) ?_
      refine ex_ialv (v := cl_ce s) dL_right_247 B.2.2.2 (by unfold vp_in; decide) (tg_c (j := 6) (by decide) (by decide) rfl) ?_
      refine ex_icmp_ge (tgt := 258) dL_right_248 (by decide) (fun z => absurd z (by rw [hc]; exact nI_ge zk (by omega))) (fun _ => ?_)
      refine ex_aload_n dL_right_251 rfl ?_
      refine ex_iload dL_right_252 rfl ?_
      refine ex_ialv (v := c_s s i) dL_right_254 B.2.2.1 (vp_in_nI (by omega) (by decide)) (ff_i (nI_clamp (by omega))) ?_
      refine ex_goto (tgt := 259) dL_right_255 (by decide) ?_
      refine ex_icmp_eq (tgt := 264) dL_right_259 (by decide) (fun _ => ?_) (fun z => absurd (by rw [if_pos zk]) z)
      refine ex_iload dL_right_264 rfl ?_
      refine ex_iload dL_right_266 rfl ?_
      refine ex_aload_n dL_right_268 rfl ?_
      refine ex_bipush (v := 6) dL_right_269 (by decide) ?_
      refine ex_ialv (v := cl_ce s) dL_right_271 B.2.2.2 (by unfold vp_in; decide) (tg_c (j := 6) (by decide) (by decide) rfl) ?_
      refine ex_icmp_ge (tgt := 282) dL_right_272 (by decide) (fun z => absurd z (by rw [hc]; exact nI_ge zk (by omega))) (fun _ => ?_)
      refine ex_aload_n dL_right_275 rfl ?_
      refine ex_iload dL_right_276 rfl ?_
      refine ex_ialv (v := c_s s i) dL_right_278 B.2.2.1 (vp_in_nI (by omega) (by decide)) (ff_i (nI_clamp (by omega))) ?_
      refine ex_goto (tgt := 283) dL_right_279 (by decide) ?_
      refine ex_iadd dL_right_283 ?_
      refine ex_istore dL_right_284 (Nat.le_of_ble_eq_true rfl) ?_
      refine ex_iinc (d := 1) dL_right_286 rfl (by decide) ?_
      refine ex_goto (tgt := 159) dL_right_289 (by decide) ?_
      rw [nI_1, show ro_bs (c_s s) (min i k) + c_s s i = ro_bs (c_s s) (min (i + 1) k) by rw [Nat.min_eq_left (by omega), Nat.min_eq_left (by omega)]; rfl]; exact ih h B
    · skip
      refine ex_iload dL_right_159 rfl ?_
      refine ex_aload_n dL_right_161 rfl ?_
      refine ex_bipush (v := 6) dL_right_162 (by decide) ?_
      refine ex_ialv (v := cl_ce s) dL_right_164 B.2.2.2 (by unfold vp_in; decide) (tg_c (j := 6) (by decide) (by decide) rfl) ?_
      refine ex_iconst (v := 1) dL_right_165 (by decide) ?_
      refine ex_iadd dL_right_166 ?_
      refine ex_icmp_ge (tgt := 292) dL_right_167 (by decide) (fun z => absurd z (by rw [hc, nI_1]; exact nI_ge hik (by omega))) (fun _ => ?_)
      refine ex_iload dL_right_170 rfl ?_
      refine ex_bipush (v := 40) dL_right_172 (by decide) ?_
      refine ex_icmp_ge (tgt := 292) dL_right_174 (by decide) (fun z => absurd z (nI_ge (show i < 40 by omega) (by decide))) (fun _ => ?_)
      refine ex_aload_n dL_right_177 rfl ?_
      refine ex_iload dL_right_178 rfl ?_
      refine ex_iconst (v := 0) dL_right_180 (by decide) ?_
      refine cV_x dL_right_181 (mm_kv i_X8_cell l_L_47) ⟨(Nat.le_of_ble_eq_true rfl), (Nat.le_of_ble_eq_true rfl)⟩ (lb_q B ((ce_v0 (show i < 40 by omega)).trans (by rw [hD.d (by omega)])) (c_X8_cell hl B.1 hc (by omega) _ _)) rfl rfl (cP_ow B.1) (Nat.le_of_ble_eq_true rfl) rfl ?_
      rintro _ h ⟨rfl, B⟩
      refine ex_aload_n dL_right_184 rfl ?_
      refine ex_iload dL_right_185 rfl ?_
      refine cS_f dL_right_187 (mm_ks i_L_depth l_L_10) ⟨(Nat.le_of_ble_eq_true rfl), (Nat.le_of_ble_eq_true rfl)⟩ (c_L_depth B.2.1 i (by omega) _ rfl) rfl rfl (Nat.le_of_ble_eq_true rfl) rfl ?_
      refine ex_icmp_ne (tgt := 262) dL_right_190 (by decide) (fun z => absurd rfl z) (fun _ => ?_)
      refine ex_aload_n dL_right_193 rfl ?_
      refine ex_iload dL_right_194 rfl ?_
      refine ex_iconst (v := 1) dL_right_196 (by decide) ?_
      refine cV_x dL_right_197 (mm_kv i_X8_cell l_L_47) ⟨(Nat.le_of_ble_eq_true rfl), (Nat.le_of_ble_eq_true rfl)⟩ (lb_q B ((ce_v1 (show i < 40 by omega)).trans (by rw [hD.g (by omega), ← du_0])) (c_X8_cell hl B.1 hc (by omega) _ _)) rfl rfl (cP_ow B.1) (Nat.le_of_ble_eq_true rfl) rfl ?_
      rintro _ h ⟨rfl, B⟩
      refine ex_aload_n dL_right_200 rfl ?_
      refine ex_iload dL_right_201 rfl ?_
      refine ex_iconst (v := 0) dL_right_203 (by decide) ?_
      refine cS_f dL_right_204 (mm_ks i_L_due l_L_50) ⟨(Nat.le_of_ble_eq_true rfl), (Nat.le_of_ble_eq_true rfl)⟩ (c_L_due B.2.1 i (by omega) _ rfl _) rfl rfl (Nat.le_of_ble_eq_true rfl) rfl ?_
      refine ex_icmp_ne (tgt := 262) dL_right_207 (by decide) (fun z => absurd rfl z) (fun _ => ?_)
      refine ex_aload_n dL_right_210 rfl ?_
      refine ex_iload dL_right_211 rfl ?_
      refine ex_iconst (v := 2) dL_right_213 (by decide) ?_
      refine cV_x dL_right_214 (mm_kv i_X8_cell l_L_47) ⟨(Nat.le_of_ble_eq_true rfl), (Nat.le_of_ble_eq_true rfl)⟩ (lb_q B (ce_v2 (show i < 40 by omega) (by omega) hc) (c_X8_cell hl B.1 hc (by omega) _ _)) rfl rfl (cP_ow B.1) (Nat.le_of_ble_eq_true rfl) rfl ?_
      rintro _ h ⟨rfl, B⟩
      refine ex_iload dL_right_217 rfl ?_
      refine ex_aload_n dL_right_219 rfl ?_
      refine ex_bipush (v := 6) dL_right_220 (by decide) ?_
      refine ex_ialv (v := cl_ce s) dL_right_222 B.2.2.2 (by unfold vp_in; decide) (tg_c (j := 6) (by decide) (by decide) rfl) ?_
      refine ex_icmp_ge (tgt := 231) dL_right_223 (by decide) (fun _ => ?_) (fun z => absurd (by rw [hc]; exact nI_le (by omega) (by omega)) z)
      refine ex_iconst (v := (-1)) dL_right_231 (by decide) ?_
      refine ex_icmp_ne (tgt := 262) dL_right_232 (by decide) (fun z => absurd (if_neg zk) z) (fun _ => ?_)
      refine ex_aload_n dL_right_235 rfl ?_
      refine ex_iload dL_right_236 rfl ?_
      refine ex_iconst (v := 3) dL_right_238 (by decide) ?_
      refine cV_x dL_right_239 (mm_kv i_X8_cell l_L_47) ⟨(Nat.le_of_ble_eq_true rfl), (Nat.le_of_ble_eq_true rfl)⟩ (lb_q B (ce_v3 (show i < 40 by omega) (by omega) hc) (c_X8_cell hl B.1 hc (by omega) _ _)) rfl rfl (cP_ow B.1) (Nat.le_of_ble_eq_true rfl) rfl ?_
      rintro _ h ⟨rfl, B⟩
      refine ex_iload dL_right_242 rfl ?_
      refine ex_aload_n dL_right_244 rfl ?_
      refine ex_bipush (v := 6) dL_right_245 (by decide) ?_
      refine ex_ialv (v := cl_ce s) dL_right_247 B.2.2.2 (by unfold vp_in; decide) (tg_c (j := 6) (by decide) (by decide) rfl) ?_
      refine ex_icmp_ge (tgt := 258) dL_right_248 (by decide) (fun _ => ?_) (fun z => absurd (by rw [hc]; exact nI_le (by omega) (by omega)) z)
      refine ex_iconst (v := (-1)) dL_right_258 (by decide) ?_
      refine ex_icmp_eq (tgt := 264) dL_right_259 (by decide) (fun _ => ?_) (fun z => absurd (if_neg zk) z)
      refine ex_iload dL_right_264 rfl ?_
      refine ex_iload dL_right_266 rfl ?_
      refine ex_aload_n dL_right_268 rfl ?_
      refine ex_bipush (v := 6) dL_right_269 (by decide) ?_
      refine ex_ialv (v := cl_ce s) dL_right_271 B.2.2.2 (by unfold vp_in; decide) (tg_c (j := 6) (by decide) (by decide) rfl) ?_
      refine ex_icmp_ge (tgt := 282) dL_right_272 (by decide) (fun _ => ?_) (fun z => absurd (by rw [hc]; exact nI_le (by omega) (by omega)) z)
      refine ex_iconst (v := 0) dL_right_282 (by decide) ?_
      refine ex_iadd dL_right_283 ?_
      refine ex_istore dL_right_284 (Nat.le_of_ble_eq_true rfl) ?_
      refine ex_iinc (d := 1) dL_right_286 rfl (by decide) ?_
      refine ex_goto (tgt := 159) dL_right_289 (by decide) ?_
      rw [nI_1, show ro_bs (c_s s) (min i k) + 0 = ro_bs (c_s s) (min (i + 1) k) by rw [Nat.min_eq_right (by omega), Nat.min_eq_right (by omega)]; grind]; exact ih h B
theorem c_L_right (hl : l.stackTraces = false) (hI : p_I n s d y kp k) (hn : n ≤ 512) (hk : k ≤ 39) (B : lb h s d (c_s s) (t_f s (t_r s)) c0 n0) : mm_Ct l G mL_right [.ref 0, .ref 29, .ref 30, .ref 31] h (lq 1 s d (c_s s) (t_f s (t_r s)) c0 n0) := by
  obtain ⟨⟨lo, wa, mk, c, hi⟩, hT, hW, hD, hN, hB, hF⟩ := hI
  have hc := hi.1.1
  have hbb : cl_bu s = 0 ∨ cl_bu s = 1 := by
    rcases (show iv_b s k lo from hi.2.2.2.2.2.1).1 with z | z
    · exact Or.inl z.1
    · exact Or.inr z
  replace B : lb h s d (c_s s) (tz_s s) c0 n0 := B
  show mm_Ct l G mL_right [.ref 0, .ref 29, .ref 30, .ref 31] h (lq 1 s d (c_s s) (tz_s s) c0 n0)
  have K125 : ∀ (h : mm_H), lb h s d (c_s s) (tz_s s) c0 n0 → mm_Ex l G mL_right (lq 1 s d (c_s s) (tz_s s) c0 n0) 125 (rt_L (.int (ro_bs (c_s s) k)) (.int (nI 0)) .null .null .null .null .null) [] h := by
    refine lp_nat 3 (fun i => ∀ (h : mm_H), lb h s d (c_s s) (tz_s s) c0 n0 → mm_Ex l G mL_right (lq 1 s d (c_s s) (tz_s s) c0 n0) 125 (rt_L (.int (ro_bs (c_s s) k)) (.int (nI i)) .null .null .null .null .null) [] h) ?_ ?_
    · intro h B
      refine ex_iload dL_right_125 rfl ?_
      refine ex_iconst (v := 3) dL_right_127 (by decide) ?_
      refine ex_icmp_ge (tgt := 153) dL_right_128 (by decide) (fun _ => ?_) (fun z => absurd (Int32.le_refl _) z)
      refine ex_iconst (v := 0) dL_right_153 (by decide) ?_
      refine ex_istore dL_right_154 (Nat.le_of_ble_eq_true rfl) ?_
      refine ex_iconst (v := 0) dL_right_156 (by decide) ?_
      refine ex_istore dL_right_157 (Nat.le_of_ble_eq_true rfl) ?_
      have := rt_cells (l := l) (G := G) hl hi hn hk hD hN _ rfl h B
      rw [show ro_bs (c_s s) (min 0 k) = 0 by rw [Nat.min_eq_left (Nat.zero_le _)]; rfl] at this
      exact this
    · intro i hi3 ih h B
      refine ex_iload dL_right_125 rfl ?_
      refine ex_iconst (v := 3) dL_right_127 (by decide) ?_
      refine ex_icmp_ge (tgt := 153) dL_right_128 (by decide) (fun z => absurd z (nI_ge (b := 3) hi3 (by decide))) (fun _ => ?_)
      refine ex_aload_n dL_right_131 rfl ?_
      refine ex_iload dL_right_132 rfl ?_
      refine ex_iconst (v := 0) dL_right_134 (by decide) ?_
      refine cV_x dL_right_135 (mm_kv i_X8_tank l_L_43) ⟨(Nat.le_of_ble_eq_true rfl), (Nat.le_of_ble_eq_true rfl)⟩ (lb_q B (tk_v hi3) (c_X8_tank hl B.1 _ _)) rfl rfl (cP_ow B.1) (Nat.le_of_ble_eq_true rfl) rfl ?_
      rintro _ h ⟨rfl, B⟩
      refine ex_aload_n dL_right_138 rfl ?_
      refine ex_iload dL_right_139 rfl ?_
      refine ex_ialv (v := (t_a s) i) dL_right_141 B.2.2.2 (vp_in_nI (by omega) (by decide)) (tg_k (j := i) (nI_clamp (by omega)) (by omega)) ?_
      refine ex_icmp_eq (tgt := 147) dL_right_142 (by decide) (fun _ => ?_) (fun z => absurd rfl z)
      refine ex_iinc (d := 1) dL_right_147 rfl (by decide) ?_
      refine ex_goto (tgt := 125) dL_right_150 (by decide) ?_
      rw [nI_1]; exact ih h B
  refine mm_ct (by decide +kernel) (by decide +kernel) rfl (by simp [Value.category]) (Nat.le_of_ble_eq_true rfl) rfl ?_
  refine ex_aload_n dL_right_0 rfl ?_
  refine ex_aload_n dL_right_1 rfl ?_
  refine cS_f dL_right_2 (mm_ks i_L_line l_L_16) ⟨(Nat.le_of_ble_eq_true rfl), (Nat.le_of_ble_eq_true rfl)⟩ (c_L_line B.2.2.1 B.2.2.2 (show tg _ _ 6 = nI k from hc) (by omega)) rfl rfl (Nat.le_of_ble_eq_true rfl) rfl ?_
  refine ex_istore dL_right_5 (Nat.le_of_ble_eq_true rfl) ?_
  refine ex_aload_n dL_right_7 rfl ?_
  refine ex_iconst (v := 0) dL_right_8 (by decide) ?_
  refine cV_x dL_right_9 (mm_kv i_X8_line l_L_20) ⟨(Nat.le_of_ble_eq_true rfl), (Nat.le_of_ble_eq_true rfl)⟩ (lb_q B (v := ro_bs (c_s s) k) (ln_v0.trans (by rw [bs_me hi])) (c_X8_line hl B.1 _)) rfl rfl (cP_ow B.1) (Nat.le_of_ble_eq_true rfl) rfl ?_
  rintro _ h ⟨rfl, B⟩
  refine ex_iload dL_right_12 rfl ?_
  refine ex_icmp_ne (tgt := 120) dL_right_14 (by decide) (fun z => absurd rfl z) (fun _ => ?_)
  refine ex_aload_n dL_right_17 rfl ?_
  refine ex_iconst (v := 1) dL_right_18 (by decide) ?_
  refine cV_x dL_right_19 (mm_kv i_X8_line l_L_20) ⟨(Nat.le_of_ble_eq_true rfl), (Nat.le_of_ble_eq_true rfl)⟩ (lb_q B ln_v1 (c_X8_line hl B.1 _)) rfl rfl (cP_ow B.1) (Nat.le_of_ble_eq_true rfl) rfl ?_
  rintro _ h ⟨rfl, B⟩
  refine ex_aload_n dL_right_22 rfl ?_
  refine ex_bipush (v := 6) dL_right_23 (by decide) ?_
  refine ex_ialv (v := cl_ce s) dL_right_25 B.2.2.2 (by unfold vp_in; decide) (tg_c (j := 6) (by decide) (by decide) rfl) ?_
  refine ex_icmp_ne (tgt := 120) dL_right_26 (by decide) (fun z => absurd rfl z) (fun _ => ?_)
  refine ex_aload_n dL_right_29 rfl ?_
  refine ex_iconst (v := 4) dL_right_30 (by decide) ?_
  refine cV_x dL_right_31 (mm_kv i_X8_line l_L_20) ⟨(Nat.le_of_ble_eq_true rfl), (Nat.le_of_ble_eq_true rfl)⟩ (lb_q B ln_v4 (c_X8_line hl B.1 _)) rfl rfl (cP_ow B.1) (Nat.le_of_ble_eq_true rfl) rfl ?_
  rintro _ h ⟨rfl, B⟩
  refine ex_aload_n dL_right_34 rfl ?_
  refine ex_bipush (v := 11) dL_right_35 (by decide) ?_
  refine ex_ialv (v := t_r s) dL_right_37 B.2.2.2 (by unfold vp_in; decide) (tg_c (j := 11) (by decide) (by decide) rfl) ?_
  refine ex_icmp_ne (tgt := 120) dL_right_38 (by decide) (fun z => absurd rfl z) (fun _ => ?_)
  refine ex_aload_n dL_right_41 rfl ?_
  refine ex_iconst (v := 5) dL_right_42 (by decide) ?_
  refine cV_x dL_right_43 (mm_kv i_X8_line l_L_20) ⟨(Nat.le_of_ble_eq_true rfl), (Nat.le_of_ble_eq_true rfl)⟩ (lb_q B ln_v5 (c_X8_line hl B.1 _)) rfl rfl (cP_ow B.1) (Nat.le_of_ble_eq_true rfl) rfl ?_
  rintro _ h ⟨rfl, B⟩
  refine ex_aload_n dL_right_46 rfl ?_
  refine ex_bipush (v := 9) dL_right_47 (by decide) ?_
  refine ex_ialv (v := cl_wa s) dL_right_49 B.2.2.2 (by unfold vp_in; decide) (tg_c (j := 9) (by decide) (by decide) rfl) ?_
  refine ex_icmp_ne (tgt := 120) dL_right_50 (by decide) (fun z => absurd rfl z) (fun _ => ?_)
  refine ex_aload_n dL_right_53 rfl ?_
  refine ex_bipush (v := 6) dL_right_54 (by decide) ?_
  refine cV_x dL_right_56 (mm_kv i_X8_line l_L_20) ⟨(Nat.le_of_ble_eq_true rfl), (Nat.le_of_ble_eq_true rfl)⟩ (lb_q B (ln_v6 hbb) (c_X8_line hl B.1 _)) rfl rfl (cP_ow B.1) (Nat.le_of_ble_eq_true rfl) rfl ?_
  rintro _ h ⟨rfl, B⟩
  refine ex_aload_n dL_right_59 rfl ?_
  refine ex_bipush (v := 7) dL_right_60 (by decide) ?_
  refine ex_ialv (v := cl_bu s) dL_right_62 B.2.2.2 (by unfold vp_in; decide) (tg_c (j := 7) (by decide) (by decide) rfl) ?_
  refine ex_icmp_ne (tgt := 120) dL_right_63 (by decide) (fun z => absurd rfl z) (fun _ => ?_)
  refine ex_aload_n dL_right_66 rfl ?_
  refine ex_bipush (v := 7) dL_right_67 (by decide) ?_
  refine cV_x dL_right_69 (mm_kv i_X8_line l_L_20) ⟨(Nat.le_of_ble_eq_true rfl), (Nat.le_of_ble_eq_true rfl)⟩ (lb_q B ln_v7 (c_X8_line hl B.1 _)) rfl rfl (cP_ow B.1) (Nat.le_of_ble_eq_true rfl) rfl ?_
  rintro _ h ⟨rfl, B⟩
  refine ex_aload_n dL_right_72 rfl ?_
  refine ex_bipush (v := 8) dL_right_73 (by decide) ?_
  refine ex_ialv (v := cl_lo s) dL_right_75 B.2.2.2 (by unfold vp_in; decide) (tg_c (j := 8) (by decide) (by decide) rfl) ?_
  refine ex_icmp_ne (tgt := 120) dL_right_76 (by decide) (fun z => absurd rfl z) (fun _ => ?_)
  refine ex_aload_n dL_right_79 rfl ?_
  refine cV_x dL_right_80 (mm_kv i_X8_day l_L_25) ⟨(Nat.le_of_ble_eq_true rfl), (Nat.le_of_ble_eq_true rfl)⟩ (lb_r B rfl (c_X8_day B.1)) rfl rfl (cP_ow B.1) (Nat.le_of_ble_eq_true rfl) rfl ?_
  rintro _ h ⟨rfl, B⟩
  refine ex_aload_n dL_right_83 rfl ?_
  refine ex_iconst (v := 3) dL_right_84 (by decide) ?_
  refine ex_ialv (v := s.2.2.1.1) dL_right_85 B.2.2.2 (by unfold vp_in; decide) (tg_c (j := 3) (by decide) (by decide) rfl) ?_
  refine ex_icmp_ne (tgt := 120) dL_right_86 (by decide) (fun z => absurd rfl z) (fun _ => ?_)
  refine ex_aload_n dL_right_89 rfl ?_
  refine cV_x dL_right_90 (mm_kv i_X8_waves l_L_29) ⟨(Nat.le_of_ble_eq_true rfl), (Nat.le_of_ble_eq_true rfl)⟩ (lb_r B rfl (c_X8_waves B.1)) rfl rfl (cP_ow B.1) (Nat.le_of_ble_eq_true rfl) rfl ?_
  rintro _ h ⟨rfl, B⟩
  refine ex_aload_n dL_right_93 rfl ?_
  refine ex_iconst (v := 4) dL_right_94 (by decide) ?_
  refine ex_ialv (v := s.2.2.1.2.1) dL_right_95 B.2.2.2 (by unfold vp_in; decide) (tg_c (j := 4) (by decide) (by decide) rfl) ?_
  refine ex_bipush (v := 10) dL_right_96 (by decide) ?_
  refine ex_irem dL_right_98 (by decide) ?_
  refine ex_icmp_ne (tgt := 120) dL_right_99 (by decide) (fun z => absurd rfl z) (fun _ => ?_)
  refine ex_aload_n dL_right_102 rfl ?_
  refine cV_x dL_right_103 (mm_kv i_X8_canWork l_L_32) ⟨(Nat.le_of_ble_eq_true rfl), (Nat.le_of_ble_eq_true rfl)⟩ (lb_r B (wk_v (r := t_r s) (x := t_l s)) (c_X8_canWork B.1)) rfl rfl (cP_ow B.1) (Nat.le_of_ble_eq_true rfl) rfl ?_
  rintro _ h ⟨rfl, B⟩
  refine ex_aload_n dL_right_106 rfl ?_
  refine cS_f dL_right_107 (mm_ks i_L_works l_L_36) ⟨(Nat.le_of_ble_eq_true rfl), (Nat.le_of_ble_eq_true rfl)⟩ (c_L_works B.2.2.2) rfl rfl (Nat.le_of_ble_eq_true rfl) rfl ?_
  refine ex_icmp_ne (tgt := 120) dL_right_110 (by decide) (fun z => absurd rfl z) (fun _ => ?_)
  refine ex_aload_n dL_right_113 rfl ?_
  refine cV_x dL_right_114 (mm_kv i_X8_isKept l_L_40) ⟨(Nat.le_of_ble_eq_true rfl), (Nat.le_of_ble_eq_true rfl)⟩ (lb_r B (kp_v hi) (c_X8_isKept B.1)) rfl rfl (cP_ow B.1) (Nat.le_of_ble_eq_true rfl) rfl ?_
  rintro _ h ⟨rfl, B⟩
  refine ex_if_ne (tgt := 122) dL_right_117 (by decide) (fun _ => ?_) (fun z => absurd z (by decide))
  refine ex_iconst (v := 0) dL_right_122 (by decide) ?_
  refine ex_istore dL_right_123 (Nat.le_of_ble_eq_true rfl) ?_
  exact K125 h B
end E1
