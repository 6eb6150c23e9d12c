/-! THE LAW: its cases -/
section LC
variable {l : Launch} {G : mm_G} {Q : mm_R → mm_H → Prop} {b i n : Nat} {h : mm_H}
theorem lw_k0 (hb : b = G.2.2.2.1) (hl : l.stackTraces = false) (v1 : vp_in (nI i + 1) G.2.2.2.2.1) (v2 : vp_in (nI i + 2) G.2.2.2.2.1) (v3 : vp_in (nI i + 3) G.2.2.2.2.1) (hn : n ≤ 511) (hJ : lw_J n h) (K : ∀ (x5 x6 : Value) (h' : mm_H), lw_J (n + 1) h' → mm_Ex l G mm_law Q 2178 [.retAddr b, .ref 0, .ref 29, .ref 65, .int (nI i), x5, x6] [] h') (x5 x6 : Value) : mm_Ex l G mm_law Q 200 [.retAddr b, .ref 0, .ref 29, .ref 65, .int (nI i), x5, x6] [] h := by
  obtain ⟨s, m, f, e, he, P, p, r, hi, hy, O⟩ := hJ
  refine ex_aload_n dL_law_200 rfl ?_
  refine ex_aload_x dL_law_201 rfl ?_
  refine ex_iload dL_law_202 rfl ?_
  refine ex_iconst (v := 1) dL_law_204 (by decide) ?_
  refine ex_iadd dL_law_205 ?_
  refine ex_xload dL_law_206 (by decide) hb v1 ?_
  refine ex_aload_x dL_law_207 rfl ?_
  refine ex_iload dL_law_208 rfl ?_
  refine ex_iconst (v := 2) dL_law_210 (by decide) ?_
  refine ex_iadd dL_law_211 ?_
  refine ex_xload dL_law_212 (by decide) hb v2 ?_
  refine ex_aload_x dL_law_213 rfl ?_
  refine ex_iload dL_law_214 rfl ?_
  refine ex_iconst (v := 3) dL_law_216 (by decide) ?_
  refine ex_iadd dL_law_217 ?_
  refine ex_xload dL_law_218 (by decide) hb v3 ?_
  refine ex_aload_n dL_law_219 rfl ?_
  refine ex_callSX dL_law_220 (mm_ksw i_L_sound l_L_108) ⟨(Nat.le_of_ble_eq_true rfl), (Nat.le_of_ble_eq_true rfl)⟩ rfl (Nat.le_of_ble_eq_true rfl) rfl (c_L_sound P O (G.2.2.2.2.2 (nI i + 1).toNatClampNeg) (G.2.2.2.2.2 (nI i + 2).toNatClampNeg) (G.2.2.2.2.2 (nI i + 3).toNatClampNeg) (k8_sound hl P hi (by omega) (G.2.2.2.2.2 (nI i + 1).toNatClampNeg) (G.2.2.2.2.2 (nI i + 2).toNatClampNeg) (G.2.2.2.2.2 (nI i + 3).toNatClampNeg)) (xc_sound (G.2.2.2.2.2 (nI i + 1).toNatClampNeg) (G.2.2.2.2.2 (nI i + 2).toNatClampNeg) (G.2.2.2.2.2 (nI i + 3).toNatClampNeg))) rfl (fun ov h1 q => ?_) (fun E h1 q => by obtain ⟨k, f1, z, -⟩ := q; cases z)
  obtain ⟨k, f1, z, a1, o1, P1, F1⟩ := q
  obtain rfl : ov = some (.int k) := by cases z; rfl
  clear z
  refine ex_istore dL_law_223 (Nat.le_of_ble_eq_true rfl) ?_
  refine ex_aload_n dL_law_225 rfl ?_
  refine ex_aload_x dL_law_226 rfl ?_
  refine ex_iload dL_law_227 rfl ?_
  refine ex_iconst (v := 1) dL_law_229 (by decide) ?_
  refine ex_iadd dL_law_230 ?_
  refine ex_xload dL_law_231 (by decide) hb v1 ?_
  refine ex_aload_x dL_law_232 rfl ?_
  refine ex_iload dL_law_233 rfl ?_
  refine ex_iconst (v := 2) dL_law_235 (by decide) ?_
  refine ex_iadd dL_law_236 ?_
  refine ex_xload dL_law_237 (by decide) hb v2 ?_
  refine ex_aload_x dL_law_238 rfl ?_
  refine ex_iload dL_law_239 rfl ?_
  refine ex_iconst (v := 3) dL_law_241 (by decide) ?_
  refine ex_iadd dL_law_242 ?_
  refine ex_xload dL_law_243 (by decide) hb v3 ?_
  refine cV_x dL_law_244 (mm_kv i_X9_sound l_L_113) ⟨(Nat.le_of_ble_eq_true rfl), (Nat.le_of_ble_eq_true rfl)⟩ (k9_sound (mP_mv p F1) r hi (by omega) hy (G.2.2.2.2.2 (nI i + 1).toNatClampNeg) (G.2.2.2.2.2 (nI i + 2).toNatClampNeg) (G.2.2.2.2.2 (nI i + 3).toNatClampNeg)) rfl rfl (mP_o (mP_mv p F1)) (Nat.le_of_ble_eq_true rfl) rfl (fun v h2 q => ?_)
  obtain ⟨m2, p2, r2, a2⟩ := q
  have nn := xi_n (xc_sound (s := s) (G.2.2.2.2.2 (nI i + 1).toNatClampNeg) (G.2.2.2.2.2 (nI i + 2).toNatClampNeg) (G.2.2.2.2.2 (nI i + 3).toNatClampNeg) _ rfl)
  obtain ⟨y, rfl, tk, ky⟩ := lw_eq ne_as nn a1 a2
  have J2 := lw_next he P1 p2 r2 (kv_sound hi (by omega) (G.2.2.2.2.2 (nI i + 1).toNatClampNeg) (G.2.2.2.2.2 (nI i + 2).toNatClampNeg) (G.2.2.2.2.2 (nI i + 3).toNatClampNeg)) (iy_sound hy (G.2.2.2.2.2 (nI i + 1).toNatClampNeg) (G.2.2.2.2.2 (nI i + 2).toNatClampNeg) (G.2.2.2.2.2 (nI i + 3).toNatClampNeg)) o1
  have o2 : lw_O h2 f1 := (p2.2.2.2 65 (Or.inr (Nat.le_refl 65))).trans o1
  refine ex_istore dL_law_247 (Nat.le_of_ble_eq_true rfl) ?_
  refine ex_aload_n dL_law_249 rfl ?_
  refine cV_f dL_law_250 (mm_kv i_X9_thrown l_L_114) ⟨(Nat.le_of_ble_eq_true rfl), (Nat.le_of_ble_eq_true rfl)⟩ (c_X9_thrown p2) rfl rfl (mP_o p2) (Nat.le_of_ble_eq_true rfl) rfl ?_
  refine ex_iload dL_law_253 rfl ?_
  refine ex_icmp_eq (tgt := 260) dL_law_255 (by decide) (fun _ => ?_) (fun z => absurd tk z)
  refine ex_iload dL_law_260 rfl ?_
  refine ex_if_ne (tgt := 277) dL_law_262 (by decide) (fun _ => ?_) (fun kz => ?_)
  · refine ex_goto (tgt := 2178) dL_law_277 (by decide) ?_
    exact K _ _ _ J2
  obtain ⟨ky1, ky2⟩ := ky kz
  refine ex_aload_n dL_law_265 rfl ?_
  refine ex_iconst (v := 0) dL_law_266 (by decide) ?_
  refine ex_laload dL_law_267 o2 (show vp_in (0 : Int32) 1 by unfold vp_in; decide) ?_
  refine ex_iload dL_law_268 rfl ?_
  refine ex_i2l dL_law_270 ?_
  refine ex_lcmp dL_law_271 ?_
  refine ex_if_eq (tgt := 277) dL_law_272 (by decide) (fun _ => ?_) (fun z => absurd (lg_c0 (lw_f0 ky2)) z)
  refine ex_goto (tgt := 2178) dL_law_277 (by decide) ?_
  exact K _ _ _ J2
theorem lw_k1 (hb : b = G.2.2.2.1) (hl : l.stackTraces = false) (v1 : vp_in (nI i + 1) G.2.2.2.2.1) (v2 : vp_in (nI i + 2) G.2.2.2.2.1) (v3 : vp_in (nI i + 3) G.2.2.2.2.1) (hn : n ≤ 511) (hJ : lw_J n h) (K : ∀ (x5 x6 : Value) (h' : mm_H), lw_J (n + 1) h' → mm_Ex l G mm_law Q 2178 [.retAddr b, .ref 0, .ref 29, .ref 65, .int (nI i), x5, x6] [] h') (x5 x6 : Value) : mm_Ex l G mm_law Q 280 [.retAddr b, .ref 0, .ref 29, .ref 65, .int (nI i), x5, x6] [] h := by
  obtain ⟨s, m, f, e, he, P, p, r, hi, hy, O⟩ := hJ
  by_cases z1 : G.2.2.2.2.2 (nI i + 2).toNatClampNeg = 0
  · refine ex_aload_n dL_law_280 rfl ?_
    refine ex_aload_x dL_law_281 rfl ?_
    refine ex_iload dL_law_282 rfl ?_
    refine ex_iconst (v := 1) dL_law_284 (by decide) ?_
    refine ex_iadd dL_law_285 ?_
    refine ex_xload dL_law_286 (by decide) hb v1 ?_
    refine ex_aload_x dL_law_287 rfl ?_
    refine ex_iload dL_law_288 rfl ?_
    refine ex_iconst (v := 2) dL_law_290 (by decide) ?_
    refine ex_iadd dL_law_291 ?_
    refine ex_xload dL_law_292 (by decide) hb v2 ?_
    refine ex_if_eq (tgt := 300) dL_law_293 (by decide) (fun _ => ?_) (fun z => absurd z1 z)
    refine ex_iconst (v := 0) dL_law_300 (by decide) ?_
    refine ex_aload_n dL_law_301 rfl ?_
    refine ex_callSX dL_law_302 (mm_ksw i_L_wreck l_L_117) ⟨(Nat.le_of_ble_eq_true rfl), (Nat.le_of_ble_eq_true rfl)⟩ rfl (Nat.le_of_ble_eq_true rfl) rfl (c_L_wreck P O (G.2.2.2.2.2 (nI i + 1).toNatClampNeg) 0 (k8_wreck hl P hi (by omega) (G.2.2.2.2.2 (nI i + 1).toNatClampNeg) 0 (Or.inl rfl)) (xc_wreck (G.2.2.2.2.2 (nI i + 1).toNatClampNeg) 0)) rfl (fun ov h1 q => ?_) (fun E h1 q => by obtain ⟨k, f1, z, -⟩ := q; cases z)
    obtain ⟨k, f1, z, a1, o1, P1, F1⟩ := q
    obtain rfl : ov = some (.int k) := by cases z; rfl
    clear z
    refine ex_istore dL_law_305 (Nat.le_of_ble_eq_true rfl) ?_
    refine ex_aload_n dL_law_307 rfl ?_
    refine ex_aload_x dL_law_308 rfl ?_
    refine ex_iload dL_law_309 rfl ?_
    refine ex_iconst (v := 1) dL_law_311 (by decide) ?_
    refine ex_iadd dL_law_312 ?_
    refine ex_xload dL_law_313 (by decide) hb v1 ?_
    refine ex_aload_x dL_law_314 rfl ?_
    refine ex_iload dL_law_315 rfl ?_
    refine ex_iconst (v := 2) dL_law_317 (by decide) ?_
    refine ex_iadd dL_law_318 ?_
    refine ex_xload dL_law_319 (by decide) hb v2 ?_
    refine ex_if_eq (tgt := 327) dL_law_320 (by decide) (fun _ => ?_) (fun z => absurd z1 z)
    refine ex_iconst (v := 0) dL_law_327 (by decide) ?_
    refine cV_x dL_law_328 (mm_kv i_X9_wreck l_L_120) ⟨(Nat.le_of_ble_eq_true rfl), (Nat.le_of_ble_eq_true rfl)⟩ (k9_wreck (mP_mv p F1) r hi (by omega) hy (G.2.2.2.2.2 (nI i + 1).toNatClampNeg) 0 (Or.inl rfl)) rfl rfl (mP_o (mP_mv p F1)) (Nat.le_of_ble_eq_true rfl) rfl (fun v h2 q => ?_)
    obtain ⟨m2, p2, r2, a2⟩ := q
    have nn := yb_n (xc_wreck (s := s) (G.2.2.2.2.2 (nI i + 1).toNatClampNeg) 0 _ rfl)
    have vv := fun x => yb_v (x := x) (xc_wreck (s := s) (G.2.2.2.2.2 (nI i + 1).toNatClampNeg) 0 _ rfl)
    obtain ⟨y, rfl, tk, ky⟩ := lw_eq ne_as nn a1 a2
    have J2 := lw_next he P1 p2 r2 (kv_wreck hi (by omega) (G.2.2.2.2.2 (nI i + 1).toNatClampNeg) 0) (iy_wreck hy (G.2.2.2.2.2 (nI i + 1).toNatClampNeg) 0) o1
    have o2 : lw_O h2 f1 := (p2.2.2.2 65 (Or.inr (Nat.le_refl 65))).trans o1
    refine ex_istore dL_law_331 (Nat.le_of_ble_eq_true rfl) ?_
    refine ex_aload_n dL_law_333 rfl ?_
    refine cV_f dL_law_334 (mm_kv i_X9_thrown l_L_114) ⟨(Nat.le_of_ble_eq_true rfl), (Nat.le_of_ble_eq_true rfl)⟩ (c_X9_thrown p2) rfl rfl (mP_o p2) (Nat.le_of_ble_eq_true rfl) rfl ?_
    refine ex_iload dL_law_337 rfl ?_
    refine ex_icmp_eq (tgt := 344) dL_law_339 (by decide) (fun _ => ?_) (fun z => absurd tk z)
    refine ex_iload dL_law_344 rfl ?_
    refine ex_if_ne (tgt := 368) dL_law_346 (by decide) (fun _ => ?_) (fun kz => ?_)
    · refine ex_goto (tgt := 2178) dL_law_368 (by decide) ?_
      exact K _ _ _ J2
    obtain ⟨ky1, ky2⟩ := ky kz
    rcases vv y ky1 with yv | yv
    · subst yv
      refine ex_aload_n dL_law_349 rfl ?_
      refine ex_iconst (v := 0) dL_law_350 (by decide) ?_
      refine ex_laload dL_law_351 o2 (show vp_in (0 : Int32) 1 by unfold vp_in; decide) ?_
      refine ex_iload dL_law_352 rfl ?_
      refine ex_if_eq (tgt := 361) dL_law_354 (by decide) (fun _ => ?_) (fun z => absurd rfl z)
      refine ex_lconst (v := 0) dL_law_361 (by decide) ?_
      refine ex_lcmp dL_law_362 ?_
      refine ex_if_eq (tgt := 368) dL_law_363 (by decide) (fun _ => ?_) (fun z => absurd (lg_c0 ((lw_f0 ky2).trans (by decide))) z)
      refine ex_goto (tgt := 2178) dL_law_368 (by decide) ?_
      exact K _ _ _ J2
    · subst yv
      refine ex_aload_n dL_law_349 rfl ?_
      refine ex_iconst (v := 0) dL_law_350 (by decide) ?_
      refine ex_laload dL_law_351 o2 (show vp_in (0 : Int32) 1 by unfold vp_in; decide) ?_
      refine ex_iload dL_law_352 rfl ?_
      refine ex_if_eq (tgt := 361) dL_law_354 (by decide) (fun z => absurd z (by decide)) (fun _ => ?_)
      refine ex_lconst (v := 1) dL_law_357 (by decide) ?_
      refine ex_goto (tgt := 362) dL_law_358 (by decide) ?_
      refine ex_lcmp dL_law_362 ?_
      refine ex_if_eq (tgt := 368) dL_law_363 (by decide) (fun _ => ?_) (fun z => absurd (lg_c0 ((lw_f0 ky2).trans (by decide))) z)
      refine ex_goto (tgt := 2178) dL_law_368 (by decide) ?_
      exact K _ _ _ J2
  · refine ex_aload_n dL_law_280 rfl ?_
    refine ex_aload_x dL_law_281 rfl ?_
    refine ex_iload dL_law_282 rfl ?_
    refine ex_iconst (v := 1) dL_law_284 (by decide) ?_
    refine ex_iadd dL_law_285 ?_
    refine ex_xload dL_law_286 (by decide) hb v1 ?_
    refine ex_aload_x dL_law_287 rfl ?_
    refine ex_iload dL_law_288 rfl ?_
    refine ex_iconst (v := 2) dL_law_290 (by decide) ?_
    refine ex_iadd dL_law_291 ?_
    refine ex_xload dL_law_292 (by decide) hb v2 ?_
    refine ex_if_eq (tgt := 300) dL_law_293 (by decide) (fun z => absurd z z1) (fun _ => ?_)
    refine ex_iconst (v := 1) dL_law_296 (by decide) ?_
    refine ex_goto (tgt := 301) dL_law_297 (by decide) ?_
    refine ex_aload_n dL_law_301 rfl ?_
    refine ex_callSX dL_law_302 (mm_ksw i_L_wreck l_L_117) ⟨(Nat.le_of_ble_eq_true rfl), (Nat.le_of_ble_eq_true rfl)⟩ rfl (Nat.le_of_ble_eq_true rfl) rfl (c_L_wreck P O (G.2.2.2.2.2 (nI i + 1).toNatClampNeg) 1 (k8_wreck hl P hi (by omega) (G.2.2.2.2.2 (nI i + 1).toNatClampNeg) 1 (Or.inr rfl)) (xc_wreck (G.2.2.2.2.2 (nI i + 1).toNatClampNeg) 1)) rfl (fun ov h1 q => ?_) (fun E h1 q => by obtain ⟨k, f1, z, -⟩ := q; cases z)
    obtain ⟨k, f1, z, a1, o1, P1, F1⟩ := q
    obtain rfl : ov = some (.int k) := by cases z; rfl
    clear z
    refine ex_istore dL_law_305 (Nat.le_of_ble_eq_true rfl) ?_
    refine ex_aload_n dL_law_307 rfl ?_
    refine ex_aload_x dL_law_308 rfl ?_
    refine ex_iload dL_law_309 rfl ?_
    refine ex_iconst (v := 1) dL_law_311 (by decide) ?_
    refine ex_iadd dL_law_312 ?_
    refine ex_xload dL_law_313 (by decide) hb v1 ?_
    refine ex_aload_x dL_law_314 rfl ?_
    refine ex_iload dL_law_315 rfl ?_
    refine ex_iconst (v := 2) dL_law_317 (by decide) ?_
    refine ex_iadd dL_law_318 ?_
    refine ex_xload dL_law_319 (by decide) hb v2 ?_
    refine ex_if_eq (tgt := 327) dL_law_320 (by decide) (fun z => absurd z z1) (fun _ => ?_)
    refine ex_iconst (v := 1) dL_law_323 (by decide) ?_
    refine ex_goto (tgt := 328) dL_law_324 (by decide) ?_
    refine cV_x dL_law_328 (mm_kv i_X9_wreck l_L_120) ⟨(Nat.le_of_ble_eq_true rfl), (Nat.le_of_ble_eq_true rfl)⟩ (k9_wreck (mP_mv p F1) r hi (by omega) hy (G.2.2.2.2.2 (nI i + 1).toNatClampNeg) 1 (Or.inr rfl)) rfl rfl (mP_o (mP_mv p F1)) (Nat.le_of_ble_eq_true rfl) rfl (fun v h2 q => ?_)
    obtain ⟨m2, p2, r2, a2⟩ := q
    have nn := yb_n (xc_wreck (s := s) (G.2.2.2.2.2 (nI i + 1).toNatClampNeg) 1 _ rfl)
    have vv := fun x => yb_v (x := x) (xc_wreck (s := s) (G.2.2.2.2.2 (nI i + 1).toNatClampNeg) 1 _ rfl)
    obtain ⟨y, rfl, tk, ky⟩ := lw_eq ne_as nn a1 a2
    have J2 := lw_next he P1 p2 r2 (kv_wreck hi (by omega) (G.2.2.2.2.2 (nI i + 1).toNatClampNeg) 1) (iy_wreck hy (G.2.2.2.2.2 (nI i + 1).toNatClampNeg) 1) o1
    have o2 : lw_O h2 f1 := (p2.2.2.2 65 (Or.inr (Nat.le_refl 65))).trans o1
    refine ex_istore dL_law_331 (Nat.le_of_ble_eq_true rfl) ?_
    refine ex_aload_n dL_law_333 rfl ?_
    refine cV_f dL_law_334 (mm_kv i_X9_thrown l_L_114) ⟨(Nat.le_of_ble_eq_true rfl), (Nat.le_of_ble_eq_true rfl)⟩ (c_X9_thrown p2) rfl rfl (mP_o p2) (Nat.le_of_ble_eq_true rfl) rfl ?_
    refine ex_iload dL_law_337 rfl ?_
    refine ex_icmp_eq (tgt := 344) dL_law_339 (by decide) (fun _ => ?_) (fun z => absurd tk z)
    refine ex_iload dL_law_344 rfl ?_
    refine ex_if_ne (tgt := 368) dL_law_346 (by decide) (fun _ => ?_) (fun kz => ?_)
    · refine ex_goto (tgt := 2178) dL_law_368 (by decide) ?_
      exact K _ _ _ J2
    obtain ⟨ky1, ky2⟩ := ky kz
    rcases vv y ky1 with yv | yv
    · subst yv
      refine ex_aload_n dL_law_349 rfl ?_
      refine ex_iconst (v := 0) dL_law_350 (by decide) ?_
      refine ex_laload dL_law_351 o2 (show vp_in (0 : Int32) 1 by unfold vp_in; decide) ?_
      refine ex_iload dL_law_352 rfl ?_
      refine ex_if_eq (tgt := 361) dL_law_354 (by decide) (fun _ => ?_) (fun z => absurd rfl z)
      refine ex_lconst (v := 0) dL_law_361 (by decide) ?_
      refine ex_lcmp dL_law_362 ?_
      refine ex_if_eq (tgt := 368) dL_law_363 (by decide) (fun _ => ?_) (fun z => absurd (lg_c0 ((lw_f0 ky2).trans (by decide))) z)
      refine ex_goto (tgt := 2178) dL_law_368 (by decide) ?_
      exact K _ _ _ J2
    · subst yv
      refine ex_aload_n dL_law_349 rfl ?_
      refine ex_iconst (v := 0) dL_law_350 (by decide) ?_
      refine ex_laload dL_law_351 o2 (show vp_in (0 : Int32) 1 by unfold vp_in; decide) ?_
      refine ex_iload dL_law_352 rfl ?_
      refine ex_if_eq (tgt := 361) dL_law_354 (by decide) (fun z => absurd z (by decide)) (fun _ => ?_)
      refine ex_lconst (v := 1) dL_law_357 (by decide) ?_
      refine ex_goto (tgt := 362) dL_law_358 (by decide) ?_
      refine ex_lcmp dL_law_362 ?_
      refine ex_if_eq (tgt := 368) dL_law_363 (by decide) (fun _ => ?_) (fun z => absurd (lg_c0 ((lw_f0 ky2).trans (by decide))) z)
      refine ex_goto (tgt := 2178) dL_law_368 (by decide) ?_
      exact K _ _ _ J2
theorem lw_k2 (hb : b = G.2.2.2.1) (hl : l.stackTraces = false) (v1 : vp_in (nI i + 1) G.2.2.2.2.1) (v2 : vp_in (nI i + 2) G.2.2.2.2.1) (v3 : vp_in (nI i + 3) G.2.2.2.2.1) (hn : n ≤ 511) (hJ : lw_J n h) (K : ∀ (x5 x6 : Value) (h' : mm_H), lw_J (n + 1) h' → mm_Ex l G mm_law Q 2178 [.retAddr b, .ref 0, .ref 29, .ref 65, .int (nI i), x5, x6] [] h') (x5 x6 : Value) : mm_Ex l G mm_law Q 371 [.retAddr b, .ref 0, .ref 29, .ref 65, .int (nI i), x5, x6] [] h := by
  obtain ⟨s, m, f, e, he, P, p, r, hi, hy, O⟩ := hJ
  refine ex_aload_n dL_law_371 rfl ?_
  refine ex_aload_x dL_law_372 rfl ?_
  refine ex_iload dL_law_373 rfl ?_
  refine ex_iconst (v := 1) dL_law_375 (by decide) ?_
  refine ex_iadd dL_law_376 ?_
  refine ex_xload dL_law_377 (by decide) hb v1 ?_
  refine ex_aload_x dL_law_378 rfl ?_
  refine ex_iload dL_law_379 rfl ?_
  refine ex_iconst (v := 2) dL_law_381 (by decide) ?_
  refine ex_iadd dL_law_382 ?_
  refine ex_xload dL_law_383 (by decide) hb v2 ?_
  refine ex_aload_n dL_law_384 rfl ?_
  refine ex_callSX dL_law_385 (mm_ksw i_L_crossing l_L_121) ⟨(Nat.le_of_ble_eq_true rfl), (Nat.le_of_ble_eq_true rfl)⟩ rfl (Nat.le_of_ble_eq_true rfl) rfl (c_L_crossing P O (G.2.2.2.2.2 (nI i + 1).toNatClampNeg) (G.2.2.2.2.2 (nI i + 2).toNatClampNeg) (k8_crossing hl P hi (by omega) (G.2.2.2.2.2 (nI i + 1).toNatClampNeg) (G.2.2.2.2.2 (nI i + 2).toNatClampNeg)) (xc_crossing (G.2.2.2.2.2 (nI i + 1).toNatClampNeg) (G.2.2.2.2.2 (nI i + 2).toNatClampNeg))) rfl (fun ov h1 q => ?_) (fun E h1 q => by obtain ⟨k, f1, z, -⟩ := q; cases z)
  obtain ⟨k, f1, z, a1, o1, P1, F1⟩ := q
  obtain rfl : ov = some (.int k) := by cases z; rfl
  clear z
  refine ex_istore dL_law_388 (Nat.le_of_ble_eq_true rfl) ?_
  refine ex_aload_n dL_law_390 rfl ?_
  refine ex_aload_x dL_law_391 rfl ?_
  refine ex_iload dL_law_392 rfl ?_
  refine ex_iconst (v := 1) dL_law_394 (by decide) ?_
  refine ex_iadd dL_law_395 ?_
  refine ex_xload dL_law_396 (by decide) hb v1 ?_
  refine ex_aload_x dL_law_397 rfl ?_
  refine ex_iload dL_law_398 rfl ?_
  refine ex_iconst (v := 2) dL_law_400 (by decide) ?_
  refine ex_iadd dL_law_401 ?_
  refine ex_xload dL_law_402 (by decide) hb v2 ?_
  refine cV_x dL_law_403 (mm_kv i_X9_crossing l_L_124) ⟨(Nat.le_of_ble_eq_true rfl), (Nat.le_of_ble_eq_true rfl)⟩ (k9_crossing (mP_mv p F1) r hi (by omega) hy (G.2.2.2.2.2 (nI i + 1).toNatClampNeg) (G.2.2.2.2.2 (nI i + 2).toNatClampNeg)) rfl rfl (mP_o (mP_mv p F1)) (Nat.le_of_ble_eq_true rfl) rfl (fun v h2 q => ?_)
  obtain ⟨m2, p2, r2, a2⟩ := q
  have nn := yi_n (xc_crossing (s := s) (G.2.2.2.2.2 (nI i + 1).toNatClampNeg) (G.2.2.2.2.2 (nI i + 2).toNatClampNeg) _ rfl)
  obtain ⟨y, rfl, tk, ky⟩ := lw_eq ne_as nn a1 a2
  have J2 := lw_next he P1 p2 r2 (kv_crossing hi (by omega) (G.2.2.2.2.2 (nI i + 1).toNatClampNeg) (G.2.2.2.2.2 (nI i + 2).toNatClampNeg)) (iy_crossing hy (G.2.2.2.2.2 (nI i + 1).toNatClampNeg) (G.2.2.2.2.2 (nI i + 2).toNatClampNeg)) o1
  have o2 : lw_O h2 f1 := (p2.2.2.2 65 (Or.inr (Nat.le_refl 65))).trans o1
  refine ex_istore dL_law_406 (Nat.le_of_ble_eq_true rfl) ?_
  refine ex_aload_n dL_law_408 rfl ?_
  refine cV_f dL_law_409 (mm_kv i_X9_thrown l_L_114) ⟨(Nat.le_of_ble_eq_true rfl), (Nat.le_of_ble_eq_true rfl)⟩ (c_X9_thrown p2) rfl rfl (mP_o p2) (Nat.le_of_ble_eq_true rfl) rfl ?_
  refine ex_iload dL_law_412 rfl ?_
  refine ex_icmp_eq (tgt := 419) dL_law_414 (by decide) (fun _ => ?_) (fun z => absurd tk z)
  refine ex_iload dL_law_419 rfl ?_
  refine ex_if_ne (tgt := 436) dL_law_421 (by decide) (fun _ => ?_) (fun kz => ?_)
  · refine ex_goto (tgt := 2178) dL_law_436 (by decide) ?_
    exact K _ _ _ J2
  obtain ⟨ky1, ky2⟩ := ky kz
  refine ex_aload_n dL_law_424 rfl ?_
  refine ex_iconst (v := 0) dL_law_425 (by decide) ?_
  refine ex_laload dL_law_426 o2 (show vp_in (0 : Int32) 1 by unfold vp_in; decide) ?_
  refine ex_iload dL_law_427 rfl ?_
  refine ex_i2l dL_law_429 ?_
  refine ex_lcmp dL_law_430 ?_
  refine ex_if_eq (tgt := 436) dL_law_431 (by decide) (fun _ => ?_) (fun z => absurd (lg_c0 (lw_f0 ky2)) z)
  refine ex_goto (tgt := 2178) dL_law_436 (by decide) ?_
  exact K _ _ _ J2
theorem lw_k3 (hb : b = G.2.2.2.1) (hl : l.stackTraces = false) (v1 : vp_in (nI i + 1) G.2.2.2.2.1) (v2 : vp_in (nI i + 2) G.2.2.2.2.1) (v3 : vp_in (nI i + 3) G.2.2.2.2.1) (hn : n ≤ 511) (hJ : lw_J n h) (K : ∀ (x5 x6 : Value) (h' : mm_H), lw_J (n + 1) h' → mm_Ex l G mm_law Q 2178 [.retAddr b, .ref 0, .ref 29, .ref 65, .int (nI i), x5, x6] [] h') (x5 x6 : Value) : mm_Ex l G mm_law Q 439 [.retAddr b, .ref 0, .ref 29, .ref 65, .int (nI i), x5, x6] [] h := by
  obtain ⟨s, m, f, e, he, P, p, r, hi, hy, O⟩ := hJ
  refine ex_aload_n dL_law_439 rfl ?_
  refine ex_aload_x dL_law_440 rfl ?_
  refine ex_iload dL_law_441 rfl ?_
  refine ex_iconst (v := 1) dL_law_443 (by decide) ?_
  refine ex_iadd dL_law_444 ?_
  refine ex_xload dL_law_445 (by decide) hb v1 ?_
  refine ex_aload_n dL_law_446 rfl ?_
  refine ex_callSX dL_law_447 (mm_ksw i_L_weather l_L_125) ⟨(Nat.le_of_ble_eq_true rfl), (Nat.le_of_ble_eq_true rfl)⟩ rfl (Nat.le_of_ble_eq_true rfl) rfl (c_L_weather P O (G.2.2.2.2.2 (nI i + 1).toNatClampNeg) (k8_weather hl P hi (by omega) (G.2.2.2.2.2 (nI i + 1).toNatClampNeg)) (xc_weather (G.2.2.2.2.2 (nI i + 1).toNatClampNeg))) rfl (fun ov h1 q => ?_) (fun E h1 q => by obtain ⟨k, f1, z, -⟩ := q; cases z)
  obtain ⟨k, f1, z, a1, o1, P1, F1⟩ := q
  obtain rfl : ov = some (.int k) := by cases z; rfl
  clear z
  refine ex_istore dL_law_450 (Nat.le_of_ble_eq_true rfl) ?_
  refine ex_aload_n dL_law_452 rfl ?_
  refine ex_aload_x dL_law_453 rfl ?_
  refine ex_iload dL_law_454 rfl ?_
  refine ex_iconst (v := 1) dL_law_456 (by decide) ?_
  refine ex_iadd dL_law_457 ?_
  refine ex_xload dL_law_458 (by decide) hb v1 ?_
  refine cV_x dL_law_459 (mm_kv i_X9_weather l_L_128) ⟨(Nat.le_of_ble_eq_true rfl), (Nat.le_of_ble_eq_true rfl)⟩ (k9_weather (mP_mv p F1) r hi (by omega) hy (G.2.2.2.2.2 (nI i + 1).toNatClampNeg)) rfl rfl (mP_o (mP_mv p F1)) (Nat.le_of_ble_eq_true rfl) rfl (fun v h2 q => ?_)
  obtain ⟨m2, p2, r2, a2⟩ := q
  have nn := xi_n (xc_weather (s := s) (G.2.2.2.2.2 (nI i + 1).toNatClampNeg) _ rfl)
  obtain ⟨y, rfl, tk, ky⟩ := lw_eq ne_as nn a1 a2
  have J2 := lw_next he P1 p2 r2 (kv_weather hi (by omega) (G.2.2.2.2.2 (nI i + 1).toNatClampNeg)) (iy_weather hy (G.2.2.2.2.2 (nI i + 1).toNatClampNeg)) o1
  have o2 : lw_O h2 f1 := (p2.2.2.2 65 (Or.inr (Nat.le_refl 65))).trans o1
  refine ex_istore dL_law_462 (Nat.le_of_ble_eq_true rfl) ?_
  refine ex_aload_n dL_law_464 rfl ?_
  refine cV_f dL_law_465 (mm_kv i_X9_thrown l_L_114) ⟨(Nat.le_of_ble_eq_true rfl), (Nat.le_of_ble_eq_true rfl)⟩ (c_X9_thrown p2) rfl rfl (mP_o p2) (Nat.le_of_ble_eq_true rfl) rfl ?_
  refine ex_iload dL_law_468 rfl ?_
  refine ex_icmp_eq (tgt := 475) dL_law_470 (by decide) (fun _ => ?_) (fun z => absurd tk z)
  refine ex_iload dL_law_475 rfl ?_
  refine ex_if_ne (tgt := 492) dL_law_477 (by decide) (fun _ => ?_) (fun kz => ?_)
  · refine ex_goto (tgt := 2178) dL_law_492 (by decide) ?_
    exact K _ _ _ J2
  obtain ⟨ky1, ky2⟩ := ky kz
  refine ex_aload_n dL_law_480 rfl ?_
  refine ex_iconst (v := 0) dL_law_481 (by decide) ?_
  refine ex_laload dL_law_482 o2 (show vp_in (0 : Int32) 1 by unfold vp_in; decide) ?_
  refine ex_iload dL_law_483 rfl ?_
  refine ex_i2l dL_law_485 ?_
  refine ex_lcmp dL_law_486 ?_
  refine ex_if_eq (tgt := 492) dL_law_487 (by decide) (fun _ => ?_) (fun z => absurd (lg_c0 (lw_f0 ky2)) z)
  refine ex_goto (tgt := 2178) dL_law_492 (by decide) ?_
  exact K _ _ _ J2
theorem lw_k4 (hb : b = G.2.2.2.1) (hl : l.stackTraces = false) (v1 : vp_in (nI i + 1) G.2.2.2.2.1) (v2 : vp_in (nI i + 2) G.2.2.2.2.1) (v3 : vp_in (nI i + 3) G.2.2.2.2.1) (hn : n ≤ 511) (hJ : lw_J n h) (K : ∀ (x5 x6 : Value) (h' : mm_H), lw_J (n + 1) h' → mm_Ex l G mm_law Q 2178 [.retAddr b, .ref 0, .ref 29, .ref 65, .int (nI i), x5, x6] [] h') (x5 x6 : Value) : mm_Ex l G mm_law Q 495 [.retAddr b, .ref 0, .ref 29, .ref 65, .int (nI i), x5, x6] [] h := by
  obtain ⟨s, m, f, e, he, P, p, r, hi, hy, O⟩ := hJ
  refine ex_aload_n dL_law_495 rfl ?_
  refine ex_aload_x dL_law_496 rfl ?_
  refine ex_iload dL_law_497 rfl ?_
  refine ex_iconst (v := 1) dL_law_499 (by decide) ?_
  refine ex_iadd dL_law_500 ?_
  refine ex_xload dL_law_501 (by decide) hb v1 ?_
  refine ex_aload_n dL_law_502 rfl ?_
  refine ex_callSX dL_law_503 (mm_ksw i_L_pass l_L_129) ⟨(Nat.le_of_ble_eq_true rfl), (Nat.le_of_ble_eq_true rfl)⟩ rfl (Nat.le_of_ble_eq_true rfl) rfl (c_L_pass P O (G.2.2.2.2.2 (nI i + 1).toNatClampNeg) (k8_pass hl P hi (by omega) (G.2.2.2.2.2 (nI i + 1).toNatClampNeg)) (xc_pass (G.2.2.2.2.2 (nI i + 1).toNatClampNeg))) rfl (fun ov h1 q => ?_) (fun E h1 q => by obtain ⟨k, f1, z, -⟩ := q; cases z)
  obtain ⟨k, f1, z, a1, o1, P1, F1⟩ := q
  obtain rfl : ov = some (.int k) := by cases z; rfl
  clear z
  refine ex_istore dL_law_506 (Nat.le_of_ble_eq_true rfl) ?_
  refine ex_aload_n dL_law_508 rfl ?_
  refine ex_aload_x dL_law_509 rfl ?_
  refine ex_iload dL_law_510 rfl ?_
  refine ex_iconst (v := 1) dL_law_512 (by decide) ?_
  refine ex_iadd dL_law_513 ?_
  refine ex_xload dL_law_514 (by decide) hb v1 ?_
  refine cV_x dL_law_515 (mm_kv i_X9_pass l_L_131) ⟨(Nat.le_of_ble_eq_true rfl), (Nat.le_of_ble_eq_true rfl)⟩ (k9_pass (mP_mv p F1) r hi (by omega) hy (G.2.2.2.2.2 (nI i + 1).toNatClampNeg)) rfl rfl (mP_o (mP_mv p F1)) (Nat.le_of_ble_eq_true rfl) rfl (fun v h2 q => ?_)
  obtain ⟨m2, p2, r2, a2⟩ := q
  have nn := xi_n (xc_pass (s := s) (G.2.2.2.2.2 (nI i + 1).toNatClampNeg) _ rfl)
  obtain ⟨y, rfl, tk, ky⟩ := lw_eq ne_as nn a1 a2
  have J2 := lw_next he P1 p2 r2 (kv_pass hi (by omega) (G.2.2.2.2.2 (nI i + 1).toNatClampNeg)) (iy_pass hy (G.2.2.2.2.2 (nI i + 1).toNatClampNeg)) o1
  have o2 : lw_O h2 f1 := (p2.2.2.2 65 (Or.inr (Nat.le_refl 65))).trans o1
  refine ex_istore dL_law_518 (Nat.le_of_ble_eq_true rfl) ?_
  refine ex_aload_n dL_law_520 rfl ?_
  refine cV_f dL_law_521 (mm_kv i_X9_thrown l_L_114) ⟨(Nat.le_of_ble_eq_true rfl), (Nat.le_of_ble_eq_true rfl)⟩ (c_X9_thrown p2) rfl rfl (mP_o p2) (Nat.le_of_ble_eq_true rfl) rfl ?_
  refine ex_iload dL_law_524 rfl ?_
  refine ex_icmp_eq (tgt := 531) dL_law_526 (by decide) (fun _ => ?_) (fun z => absurd tk z)
  refine ex_iload dL_law_531 rfl ?_
  refine ex_if_ne (tgt := 548) dL_law_533 (by decide) (fun _ => ?_) (fun kz => ?_)
  · refine ex_goto (tgt := 2178) dL_law_548 (by decide) ?_
    exact K _ _ _ J2
  obtain ⟨ky1, ky2⟩ := ky kz
  refine ex_aload_n dL_law_536 rfl ?_
  refine ex_iconst (v := 0) dL_law_537 (by decide) ?_
  refine ex_laload dL_law_538 o2 (show vp_in (0 : Int32) 1 by unfold vp_in; decide) ?_
  refine ex_iload dL_law_539 rfl ?_
  refine ex_i2l dL_law_541 ?_
  refine ex_lcmp dL_law_542 ?_
  refine ex_if_eq (tgt := 548) dL_law_543 (by decide) (fun _ => ?_) (fun z => absurd (lg_c0 (lw_f0 ky2)) z)
  refine ex_goto (tgt := 2178) dL_law_548 (by decide) ?_
  exact K _ _ _ J2
theorem lw_k5 (hb : b = G.2.2.2.1) (hl : l.stackTraces = false) (v1 : vp_in (nI i + 1) G.2.2.2.2.1) (v2 : vp_in (nI i + 2) G.2.2.2.2.1) (v3 : vp_in (nI i + 3) G.2.2.2.2.1) (hn : n ≤ 511) (hJ : lw_J n h) (K : ∀ (x5 x6 : Value) (h' : mm_H), lw_J (n + 1) h' → mm_Ex l G mm_law Q 2178 [.retAddr b, .ref 0, .ref 29, .ref 65, .int (nI i), x5, x6] [] h') (x5 x6 : Value) : mm_Ex l G mm_law Q 551 [.retAddr b, .ref 0, .ref 29, .ref 65, .int (nI i), x5, x6] [] h := by
  obtain ⟨s, m, f, e, he, P, p, r, hi, hy, O⟩ := hJ
  refine ex_aload_n dL_law_551 rfl ?_
  refine ex_aload_x dL_law_552 rfl ?_
  refine ex_iload dL_law_553 rfl ?_
  refine ex_iconst (v := 1) dL_law_555 (by decide) ?_
  refine ex_iadd dL_law_556 ?_
  refine ex_xload dL_law_557 (by decide) hb v1 ?_
  refine ex_aload_x dL_law_558 rfl ?_
  refine ex_iload dL_law_559 rfl ?_
  refine ex_iconst (v := 2) dL_law_561 (by decide) ?_
  refine ex_iadd dL_law_562 ?_
  refine ex_xload dL_law_563 (by decide) hb v2 ?_
  refine ex_aload_x dL_law_564 rfl ?_
  refine ex_iload dL_law_565 rfl ?_
  refine ex_iconst (v := 3) dL_law_567 (by decide) ?_
  refine ex_iadd dL_law_568 ?_
  refine ex_xload dL_law_569 (by decide) hb v3 ?_
  refine ex_aload_n dL_law_570 rfl ?_
  refine ex_callSX dL_law_571 (mm_ksw i_L_make l_L_132) ⟨(Nat.le_of_ble_eq_true rfl), (Nat.le_of_ble_eq_true rfl)⟩ rfl (Nat.le_of_ble_eq_true rfl) rfl (c_L_make P O (G.2.2.2.2.2 (nI i + 1).toNatClampNeg) (G.2.2.2.2.2 (nI i + 2).toNatClampNeg) (G.2.2.2.2.2 (nI i + 3).toNatClampNeg) (k8_make hl P hi (by omega) (G.2.2.2.2.2 (nI i + 1).toNatClampNeg) (G.2.2.2.2.2 (nI i + 2).toNatClampNeg) (G.2.2.2.2.2 (nI i + 3).toNatClampNeg)) (xc_make (G.2.2.2.2.2 (nI i + 1).toNatClampNeg) (G.2.2.2.2.2 (nI i + 2).toNatClampNeg) (G.2.2.2.2.2 (nI i + 3).toNatClampNeg))) rfl (fun ov h1 q => ?_) (fun E h1 q => by obtain ⟨k, f1, z, -⟩ := q; cases z)
  obtain ⟨k, f1, z, a1, o1, P1, F1⟩ := q
  obtain rfl : ov = some (.int k) := by cases z; rfl
  clear z
  refine ex_istore dL_law_574 (Nat.le_of_ble_eq_true rfl) ?_
  refine ex_aload_n dL_law_576 rfl ?_
  refine ex_aload_x dL_law_577 rfl ?_
  refine ex_iload dL_law_578 rfl ?_
  refine ex_iconst (v := 1) dL_law_580 (by decide) ?_
  refine ex_iadd dL_law_581 ?_
  refine ex_xload dL_law_582 (by decide) hb v1 ?_
  refine ex_aload_x dL_law_583 rfl ?_
  refine ex_iload dL_law_584 rfl ?_
  refine ex_iconst (v := 2) dL_law_586 (by decide) ?_
  refine ex_iadd dL_law_587 ?_
  refine ex_xload dL_law_588 (by decide) hb v2 ?_
  refine ex_aload_x dL_law_589 rfl ?_
  refine ex_iload dL_law_590 rfl ?_
  refine ex_iconst (v := 3) dL_law_592 (by decide) ?_
  refine ex_iadd dL_law_593 ?_
  refine ex_xload dL_law_594 (by decide) hb v3 ?_
  refine cV_x dL_law_595 (mm_kv i_X9_make l_L_134) ⟨(Nat.le_of_ble_eq_true rfl), (Nat.le_of_ble_eq_true rfl)⟩ (k9_make (mP_mv p F1) r hi (by omega) hy (G.2.2.2.2.2 (nI i + 1).toNatClampNeg) (G.2.2.2.2.2 (nI i + 2).toNatClampNeg) (G.2.2.2.2.2 (nI i + 3).toNatClampNeg)) rfl rfl (mP_o (mP_mv p F1)) (Nat.le_of_ble_eq_true rfl) rfl (fun v h2 q => ?_)
  obtain ⟨m2, p2, r2, a2⟩ := q
  have nn := xi_n (xc_make (s := s) (G.2.2.2.2.2 (nI i + 1).toNatClampNeg) (G.2.2.2.2.2 (nI i + 2).toNatClampNeg) (G.2.2.2.2.2 (nI i + 3).toNatClampNeg) _ rfl)
  obtain ⟨y, rfl, tk, ky⟩ := lw_eq ne_as nn a1 a2
  have J2 := lw_next he P1 p2 r2 (kv_make hi (by omega) (G.2.2.2.2.2 (nI i + 1).toNatClampNeg) (G.2.2.2.2.2 (nI i + 2).toNatClampNeg) (G.2.2.2.2.2 (nI i + 3).toNatClampNeg)) (iy_make hy (G.2.2.2.2.2 (nI i + 1).toNatClampNeg) (G.2.2.2.2.2 (nI i + 2).toNatClampNeg) (G.2.2.2.2.2 (nI i + 3).toNatClampNeg)) o1
  have o2 : lw_O h2 f1 := (p2.2.2.2 65 (Or.inr (Nat.le_refl 65))).trans o1
  refine ex_istore dL_law_598 (Nat.le_of_ble_eq_true rfl) ?_
  refine ex_aload_n dL_law_600 rfl ?_
  refine cV_f dL_law_601 (mm_kv i_X9_thrown l_L_114) ⟨(Nat.le_of_ble_eq_true rfl), (Nat.le_of_ble_eq_true rfl)⟩ (c_X9_thrown p2) rfl rfl (mP_o p2) (Nat.le_of_ble_eq_true rfl) rfl ?_
  refine ex_iload dL_law_604 rfl ?_
  refine ex_icmp_eq (tgt := 611) dL_law_606 (by decide) (fun _ => ?_) (fun z => absurd tk z)
  refine ex_iload dL_law_611 rfl ?_
  refine ex_if_ne (tgt := 628) dL_law_613 (by decide) (fun _ => ?_) (fun kz => ?_)
  · refine ex_goto (tgt := 2178) dL_law_628 (by decide) ?_
    exact K _ _ _ J2
  obtain ⟨ky1, ky2⟩ := ky kz
  refine ex_aload_n dL_law_616 rfl ?_
  refine ex_iconst (v := 0) dL_law_617 (by decide) ?_
  refine ex_laload dL_law_618 o2 (show vp_in (0 : Int32) 1 by unfold vp_in; decide) ?_
  refine ex_iload dL_law_619 rfl ?_
  refine ex_i2l dL_law_621 ?_
  refine ex_lcmp dL_law_622 ?_
  refine ex_if_eq (tgt := 628) dL_law_623 (by decide) (fun _ => ?_) (fun z => absurd (lg_c0 (lw_f0 ky2)) z)
  refine ex_goto (tgt := 2178) dL_law_628 (by decide) ?_
  exact K _ _ _ J2
theorem lw_k6 (hb : b = G.2.2.2.1) (hl : l.stackTraces = false) (v1 : vp_in (nI i + 1) G.2.2.2.2.1) (v2 : vp_in (nI i + 2) G.2.2.2.2.1) (v3 : vp_in (nI i + 3) G.2.2.2.2.1) (hn : n ≤ 511) (hJ : lw_J n h) (K : ∀ (x5 x6 : Value) (h' : mm_H), lw_J (n + 1) h' → mm_Ex l G mm_law Q 2178 [.retAddr b, .ref 0, .ref 29, .ref 65, .int (nI i), x5, x6] [] h') (x5 x6 : Value) : mm_Ex l G mm_law Q 631 [.retAddr b, .ref 0, .ref 29, .ref 65, .int (nI i), x5, x6] [] h := by
  obtain ⟨s, m, f, e, he, P, p, r, hi, hy, O⟩ := hJ
  refine ex_aload_n dL_law_631 rfl ?_
  refine ex_aload_x dL_law_632 rfl ?_
  refine ex_iload dL_law_633 rfl ?_
  refine ex_iconst (v := 1) dL_law_635 (by decide) ?_
  refine ex_iadd dL_law_636 ?_
  refine ex_xload dL_law_637 (by decide) hb v1 ?_
  refine ex_aload_x dL_law_638 rfl ?_
  refine ex_iload dL_law_639 rfl ?_
  refine ex_iconst (v := 2) dL_law_641 (by decide) ?_
  refine ex_iadd dL_law_642 ?_
  refine ex_xload dL_law_643 (by decide) hb v2 ?_
  refine ex_aload_x dL_law_644 rfl ?_
  refine ex_iload dL_law_645 rfl ?_
  refine ex_iconst (v := 3) dL_law_647 (by decide) ?_
  refine ex_iadd dL_law_648 ?_
  refine ex_xload dL_law_649 (by decide) hb v3 ?_
  refine ex_aload_n dL_law_650 rfl ?_
  refine ex_callSX dL_law_651 (mm_ksw i_L_lay l_L_135) ⟨(Nat.le_of_ble_eq_true rfl), (Nat.le_of_ble_eq_true rfl)⟩ rfl (Nat.le_of_ble_eq_true rfl) rfl (c_L_lay P O (G.2.2.2.2.2 (nI i + 1).toNatClampNeg) (G.2.2.2.2.2 (nI i + 2).toNatClampNeg) (G.2.2.2.2.2 (nI i + 3).toNatClampNeg) (k8_lay hl P hi (by omega) (G.2.2.2.2.2 (nI i + 1).toNatClampNeg) (G.2.2.2.2.2 (nI i + 2).toNatClampNeg) (G.2.2.2.2.2 (nI i + 3).toNatClampNeg)) (xc_lay (G.2.2.2.2.2 (nI i + 1).toNatClampNeg) (G.2.2.2.2.2 (nI i + 2).toNatClampNeg) (G.2.2.2.2.2 (nI i + 3).toNatClampNeg))) rfl (fun ov h1 q => ?_) (fun E h1 q => by obtain ⟨k, f1, z, -⟩ := q; cases z)
  obtain ⟨k, f1, z, a1, o1, P1, F1⟩ := q
  obtain rfl : ov = some (.int k) := by cases z; rfl
  clear z
  refine ex_istore dL_law_654 (Nat.le_of_ble_eq_true rfl) ?_
  refine ex_aload_n dL_law_656 rfl ?_
  refine ex_aload_x dL_law_657 rfl ?_
  refine ex_iload dL_law_658 rfl ?_
  refine ex_iconst (v := 1) dL_law_660 (by decide) ?_
  refine ex_iadd dL_law_661 ?_
  refine ex_xload dL_law_662 (by decide) hb v1 ?_
  refine ex_aload_x dL_law_663 rfl ?_
  refine ex_iload dL_law_664 rfl ?_
  refine ex_iconst (v := 2) dL_law_666 (by decide) ?_
  refine ex_iadd dL_law_667 ?_
  refine ex_xload dL_law_668 (by decide) hb v2 ?_
  refine ex_aload_x dL_law_669 rfl ?_
  refine ex_iload dL_law_670 rfl ?_
  refine ex_iconst (v := 3) dL_law_672 (by decide) ?_
  refine ex_iadd dL_law_673 ?_
  refine ex_xload dL_law_674 (by decide) hb v3 ?_
  refine cV_x dL_law_675 (mm_kv i_X9_lay l_L_137) ⟨(Nat.le_of_ble_eq_true rfl), (Nat.le_of_ble_eq_true rfl)⟩ (k9_lay (mP_mv p F1) r hi (by omega) hy (G.2.2.2.2.2 (nI i + 1).toNatClampNeg) (G.2.2.2.2.2 (nI i + 2).toNatClampNeg) (G.2.2.2.2.2 (nI i + 3).toNatClampNeg)) rfl rfl (mP_o (mP_mv p F1)) (Nat.le_of_ble_eq_true rfl) rfl (fun v h2 q => ?_)
  obtain ⟨m2, p2, r2, a2⟩ := q
  have nn := xi_n (xc_lay (s := s) (G.2.2.2.2.2 (nI i + 1).toNatClampNeg) (G.2.2.2.2.2 (nI i + 2).toNatClampNeg) (G.2.2.2.2.2 (nI i + 3).toNatClampNeg) _ rfl)
  obtain ⟨y, rfl, tk, ky⟩ := lw_eq ne_as nn a1 a2
  have J2 := lw_next he P1 p2 r2 (kv_lay hi (by omega) (G.2.2.2.2.2 (nI i + 1).toNatClampNeg) (G.2.2.2.2.2 (nI i + 2).toNatClampNeg) (G.2.2.2.2.2 (nI i + 3).toNatClampNeg)) (iy_lay hy (G.2.2.2.2.2 (nI i + 1).toNatClampNeg) (G.2.2.2.2.2 (nI i + 2).toNatClampNeg) (G.2.2.2.2.2 (nI i + 3).toNatClampNeg)) o1
  have o2 : lw_O h2 f1 := (p2.2.2.2 65 (Or.inr (Nat.le_refl 65))).trans o1
  refine ex_istore dL_law_678 (Nat.le_of_ble_eq_true rfl) ?_
  refine ex_aload_n dL_law_680 rfl ?_
  refine cV_f dL_law_681 (mm_kv i_X9_thrown l_L_114) ⟨(Nat.le_of_ble_eq_true rfl), (Nat.le_of_ble_eq_true rfl)⟩ (c_X9_thrown p2) rfl rfl (mP_o p2) (Nat.le_of_ble_eq_true rfl) rfl ?_
  refine ex_iload dL_law_684 rfl ?_
  refine ex_icmp_eq (tgt := 691) dL_law_686 (by decide) (fun _ => ?_) (fun z => absurd tk z)
  refine ex_iload dL_law_691 rfl ?_
  refine ex_if_ne (tgt := 708) dL_law_693 (by decide) (fun _ => ?_) (fun kz => ?_)
  · refine ex_goto (tgt := 2178) dL_law_708 (by decide) ?_
    exact K _ _ _ J2
  obtain ⟨ky1, ky2⟩ := ky kz
  refine ex_aload_n dL_law_696 rfl ?_
  refine ex_iconst (v := 0) dL_law_697 (by decide) ?_
  refine ex_laload dL_law_698 o2 (show vp_in (0 : Int32) 1 by unfold vp_in; decide) ?_
  refine ex_iload dL_law_699 rfl ?_
  refine ex_i2l dL_law_701 ?_
  refine ex_lcmp dL_law_702 ?_
  refine ex_if_eq (tgt := 708) dL_law_703 (by decide) (fun _ => ?_) (fun z => absurd (lg_c0 (lw_f0 ky2)) z)
  refine ex_goto (tgt := 2178) dL_law_708 (by decide) ?_
  exact K _ _ _ J2
theorem lw_k7 (hb : b = G.2.2.2.1) (hl : l.stackTraces = false) (v1 : vp_in (nI i + 1) G.2.2.2.2.1) (v2 : vp_in (nI i + 2) G.2.2.2.2.1) (v3 : vp_in (nI i + 3) G.2.2.2.2.1) (hn : n ≤ 511) (hJ : lw_J n h) (K : ∀ (x5 x6 : Value) (h' : mm_H), lw_J (n + 1) h' → mm_Ex l G mm_law Q 2178 [.retAddr b, .ref 0, .ref 29, .ref 65, .int (nI i), x5, x6] [] h') (x5 x6 : Value) : mm_Ex l G mm_law Q 711 [.retAddr b, .ref 0, .ref 29, .ref 65, .int (nI i), x5, x6] [] h := by
  obtain ⟨s, m, f, e, he, P, p, r, hi, hy, O⟩ := hJ
  refine ex_aload_n dL_law_711 rfl ?_
  refine ex_aload_n dL_law_712 rfl ?_
  refine ex_callSX dL_law_713 (mm_ksw i_L_repeater l_L_138) ⟨(Nat.le_of_ble_eq_true rfl), (Nat.le_of_ble_eq_true rfl)⟩ rfl (Nat.le_of_ble_eq_true rfl) rfl (c_L_repeater P O (k8_repeater hl P hi (by omega)) (xc_repeater)) rfl (fun ov h1 q => ?_) (fun E h1 q => by obtain ⟨k, f1, z, -⟩ := q; cases z)
  obtain ⟨k, f1, z, a1, o1, P1, F1⟩ := q
  obtain rfl : ov = some (.int k) := by cases z; rfl
  clear z
  refine ex_istore dL_law_716 (Nat.le_of_ble_eq_true rfl) ?_
  refine ex_aload_n dL_law_718 rfl ?_
  refine cV_x dL_law_719 (mm_kv i_X9_repeater l_L_141) ⟨(Nat.le_of_ble_eq_true rfl), (Nat.le_of_ble_eq_true rfl)⟩ (k9_repeater (mP_mv p F1) r hi (by omega) hy) rfl rfl (mP_o (mP_mv p F1)) (Nat.le_of_ble_eq_true rfl) rfl (fun v h2 q => ?_)
  obtain ⟨m2, p2, r2, a2⟩ := q
  have nn := yi_n (xc_repeater (s := s) _ rfl)
  obtain ⟨y, rfl, tk, ky⟩ := lw_eq ne_sa nn a1 a2
  have J2 := lw_next he P1 p2 r2 (kv_repeater hi (by omega)) (iy_repeater hy) o1
  have o2 : lw_O h2 f1 := (p2.2.2.2 65 (Or.inr (Nat.le_refl 65))).trans o1
  refine ex_istore dL_law_722 (Nat.le_of_ble_eq_true rfl) ?_
  refine ex_aload_n dL_law_724 rfl ?_
  refine cV_f dL_law_725 (mm_kv i_X9_thrown l_L_114) ⟨(Nat.le_of_ble_eq_true rfl), (Nat.le_of_ble_eq_true rfl)⟩ (c_X9_thrown p2) rfl rfl (mP_o p2) (Nat.le_of_ble_eq_true rfl) rfl ?_
  refine ex_iload dL_law_728 rfl ?_
  refine ex_icmp_eq (tgt := 735) dL_law_730 (by decide) (fun _ => ?_) (fun z => absurd tk z)
  refine ex_iload dL_law_735 rfl ?_
  refine ex_if_ne (tgt := 752) dL_law_737 (by decide) (fun _ => ?_) (fun kz => ?_)
  · refine ex_goto (tgt := 2178) dL_law_752 (by decide) ?_
    exact K _ _ _ J2
  obtain ⟨ky1, ky2⟩ := ky kz
  refine ex_aload_n dL_law_740 rfl ?_
  refine ex_iconst (v := 0) dL_law_741 (by decide) ?_
  refine ex_laload dL_law_742 o2 (show vp_in (0 : Int32) 1 by unfold vp_in; decide) ?_
  refine ex_iload dL_law_743 rfl ?_
  refine ex_i2l dL_law_745 ?_
  refine ex_lcmp dL_law_746 ?_
  refine ex_if_eq (tgt := 752) dL_law_747 (by decide) (fun _ => ?_) (fun z => absurd (lg_c0 (lw_f0 ky2)) z)
  refine ex_goto (tgt := 2178) dL_law_752 (by decide) ?_
  exact K _ _ _ J2
theorem lw_k8 (hb : b = G.2.2.2.1) (hl : l.stackTraces = false) (v1 : vp_in (nI i + 1) G.2.2.2.2.1) (v2 : vp_in (nI i + 2) G.2.2.2.2.1) (v3 : vp_in (nI i + 3) G.2.2.2.2.1) (hn : n ≤ 511) (hJ : lw_J n h) (K : ∀ (x5 x6 : Value) (h' : mm_H), lw_J (n + 1) h' → mm_Ex l G mm_law Q 2178 [.retAddr b, .ref 0, .ref 29, .ref 65, .int (nI i), x5, x6] [] h') (x5 x6 : Value) : mm_Ex l G mm_law Q 755 [.retAddr b, .ref 0, .ref 29, .ref 65, .int (nI i), x5, x6] [] h := by
  obtain ⟨s, m, f, e, he, P, p, r, hi, hy, O⟩ := hJ
  refine ex_aload_n dL_law_755 rfl ?_
  refine ex_aload_x dL_law_756 rfl ?_
  refine ex_iload dL_law_757 rfl ?_
  refine ex_iconst (v := 1) dL_law_759 (by decide) ?_
  refine ex_iadd dL_law_760 ?_
  refine ex_xload dL_law_761 (by decide) hb v1 ?_
  refine ex_aload_n dL_law_762 rfl ?_
  refine ex_callSX dL_law_763 (mm_ksw i_L_takeUp l_L_142) ⟨(Nat.le_of_ble_eq_true rfl), (Nat.le_of_ble_eq_true rfl)⟩ rfl (Nat.le_of_ble_eq_true rfl) rfl (c_L_takeUp P O (G.2.2.2.2.2 (nI i + 1).toNatClampNeg) (k8_takeUp hl P hi (by omega) (G.2.2.2.2.2 (nI i + 1).toNatClampNeg)) (xc_takeUp (G.2.2.2.2.2 (nI i + 1).toNatClampNeg))) rfl (fun ov h1 q => ?_) (fun E h1 q => by obtain ⟨k, f1, z, -⟩ := q; cases z)
  obtain ⟨k, f1, z, a1, o1, P1, F1⟩ := q
  obtain rfl : ov = some (.int k) := by cases z; rfl
  clear z
  refine ex_istore dL_law_766 (Nat.le_of_ble_eq_true rfl) ?_
  refine ex_aload_n dL_law_768 rfl ?_
  refine ex_aload_x dL_law_769 rfl ?_
  refine ex_iload dL_law_770 rfl ?_
  refine ex_iconst (v := 1) dL_law_772 (by decide) ?_
  refine ex_iadd dL_law_773 ?_
  refine ex_xload dL_law_774 (by decide) hb v1 ?_
  refine cV_x dL_law_775 (mm_kv i_X9_takeUp l_L_144) ⟨(Nat.le_of_ble_eq_true rfl), (Nat.le_of_ble_eq_true rfl)⟩ (k9_takeUp (mP_mv p F1) r hi (by omega) hy (G.2.2.2.2.2 (nI i + 1).toNatClampNeg)) rfl rfl (mP_o (mP_mv p F1)) (Nat.le_of_ble_eq_true rfl) rfl (fun v h2 q => ?_)
  obtain ⟨m2, p2, r2, a2⟩ := q
  have nn := xi_n (xc_takeUp (s := s) (G.2.2.2.2.2 (nI i + 1).toNatClampNeg) _ rfl)
  obtain ⟨y, rfl, tk, ky⟩ := lw_eq ne_as nn a1 a2
  have J2 := lw_next he P1 p2 r2 (kv_takeUp hi (by omega) (G.2.2.2.2.2 (nI i + 1).toNatClampNeg)) (iy_takeUp hy (G.2.2.2.2.2 (nI i + 1).toNatClampNeg)) o1
  have o2 : lw_O h2 f1 := (p2.2.2.2 65 (Or.inr (Nat.le_refl 65))).trans o1
  refine ex_istore dL_law_778 (Nat.le_of_ble_eq_true rfl) ?_
  refine ex_aload_n dL_law_780 rfl ?_
  refine cV_f dL_law_781 (mm_kv i_X9_thrown l_L_114) ⟨(Nat.le_of_ble_eq_true rfl), (Nat.le_of_ble_eq_true rfl)⟩ (c_X9_thrown p2) rfl rfl (mP_o p2) (Nat.le_of_ble_eq_true rfl) rfl ?_
  refine ex_iload dL_law_784 rfl ?_
  refine ex_icmp_eq (tgt := 791) dL_law_786 (by decide) (fun _ => ?_) (fun z => absurd tk z)
  refine ex_iload dL_law_791 rfl ?_
  refine ex_if_ne (tgt := 808) dL_law_793 (by decide) (fun _ => ?_) (fun kz => ?_)
  · refine ex_goto (tgt := 2178) dL_law_808 (by decide) ?_
    exact K _ _ _ J2
  obtain ⟨ky1, ky2⟩ := ky kz
  refine ex_aload_n dL_law_796 rfl ?_
  refine ex_iconst (v := 0) dL_law_797 (by decide) ?_
  refine ex_laload dL_law_798 o2 (show vp_in (0 : Int32) 1 by unfold vp_in; decide) ?_
  refine ex_iload dL_law_799 rfl ?_
  refine ex_i2l dL_law_801 ?_
  refine ex_lcmp dL_law_802 ?_
  refine ex_if_eq (tgt := 808) dL_law_803 (by decide) (fun _ => ?_) (fun z => absurd (lg_c0 (lw_f0 ky2)) z)
  refine ex_goto (tgt := 2178) dL_law_808 (by decide) ?_
  exact K _ _ _ J2
theorem lw_k9 (hb : b = G.2.2.2.1) (hl : l.stackTraces = false) (v1 : vp_in (nI i + 1) G.2.2.2.2.1) (v2 : vp_in (nI i + 2) G.2.2.2.2.1) (v3 : vp_in (nI i + 3) G.2.2.2.2.1) (hn : n ≤ 511) (hJ : lw_J n h) (K : ∀ (x5 x6 : Value) (h' : mm_H), lw_J (n + 1) h' → mm_Ex l G mm_law Q 2178 [.retAddr b, .ref 0, .ref 29, .ref 65, .int (nI i), x5, x6] [] h') (x5 x6 : Value) : mm_Ex l G mm_law Q 811 [.retAddr b, .ref 0, .ref 29, .ref 65, .int (nI i), x5, x6] [] h := by
  obtain ⟨s, m, f, e, he, P, p, r, hi, hy, O⟩ := hJ
  refine ex_aload_n dL_law_811 rfl ?_
  refine ex_aload_x dL_law_812 rfl ?_
  refine ex_iload dL_law_813 rfl ?_
  refine ex_iconst (v := 1) dL_law_815 (by decide) ?_
  refine ex_iadd dL_law_816 ?_
  refine ex_xload dL_law_817 (by decide) hb v1 ?_
  refine ex_aload_x dL_law_818 rfl ?_
  refine ex_iload dL_law_819 rfl ?_
  refine ex_iconst (v := 2) dL_law_821 (by decide) ?_
  refine ex_iadd dL_law_822 ?_
  refine ex_xload dL_law_823 (by decide) hb v2 ?_
  refine ex_callSX dL_law_824 (mm_ksw i_L_feed l_L_145) ⟨(Nat.le_of_ble_eq_true rfl), (Nat.le_of_ble_eq_true rfl)⟩ rfl (Nat.le_of_ble_eq_true rfl) rfl (c_L_feed P O (G.2.2.2.2.2 (nI i + 1).toNatClampNeg) (G.2.2.2.2.2 (nI i + 2).toNatClampNeg) (k8_feed hl P hi (by omega) (G.2.2.2.2.2 (nI i + 1).toNatClampNeg) (G.2.2.2.2.2 (nI i + 2).toNatClampNeg)) (xc_feed (G.2.2.2.2.2 (nI i + 1).toNatClampNeg) (G.2.2.2.2.2 (nI i + 2).toNatClampNeg))) rfl (fun ov h1 q => ?_) (fun E h1 q => by obtain ⟨k, f1, z, -⟩ := q; cases z)
  obtain ⟨k, f1, z, a1, o1, P1, F1⟩ := q
  obtain rfl : ov = some (.int k) := by cases z; rfl
  clear z
  refine ex_istore dL_law_827 (Nat.le_of_ble_eq_true rfl) ?_
  refine ex_aload_n dL_law_829 rfl ?_
  refine ex_aload_x dL_law_830 rfl ?_
  refine ex_iload dL_law_831 rfl ?_
  refine ex_iconst (v := 1) dL_law_833 (by decide) ?_
  refine ex_iadd dL_law_834 ?_
  refine ex_xload dL_law_835 (by decide) hb v1 ?_
  refine ex_aload_x dL_law_836 rfl ?_
  refine ex_iload dL_law_837 rfl ?_
  refine ex_iconst (v := 2) dL_law_839 (by decide) ?_
  refine ex_iadd dL_law_840 ?_
  refine ex_xload dL_law_841 (by decide) hb v2 ?_
  refine cV_y dL_law_842 (mm_kv i_X9_feed l_L_148) ⟨(Nat.le_of_ble_eq_true rfl), (Nat.le_of_ble_eq_true rfl)⟩ (k9_feed (mP_mv p F1) r hi (by omega) hy (G.2.2.2.2.2 (nI i + 1).toNatClampNeg) (G.2.2.2.2.2 (nI i + 2).toNatClampNeg)) rfl rfl (mP_o (mP_mv p F1)) (Nat.le_of_ble_eq_true rfl) rfl (fun h2 q => ?_)
  obtain ⟨m2, p2, r2, a2⟩ := q
  have tk := lw_eqv ne_as (yv_n (xc_feed (s := s) (G.2.2.2.2.2 (nI i + 1).toNatClampNeg) (G.2.2.2.2.2 (nI i + 2).toNatClampNeg) _ rfl)) a1 a2
  have J2 := lw_next he P1 p2 r2 (kv_feed hi (by omega) (G.2.2.2.2.2 (nI i + 1).toNatClampNeg) (G.2.2.2.2.2 (nI i + 2).toNatClampNeg)) (iy_feed hy (G.2.2.2.2.2 (nI i + 1).toNatClampNeg) (G.2.2.2.2.2 (nI i + 2).toNatClampNeg)) o1
  have o2 : lw_O h2 f1 := (p2.2.2.2 65 (Or.inr (Nat.le_refl 65))).trans o1
  refine ex_aload_n dL_law_845 rfl ?_
  refine cV_f dL_law_846 (mm_kv i_X9_thrown l_L_114) ⟨(Nat.le_of_ble_eq_true rfl), (Nat.le_of_ble_eq_true rfl)⟩ (c_X9_thrown p2) rfl rfl (mP_o p2) (Nat.le_of_ble_eq_true rfl) rfl ?_
  refine ex_iload dL_law_849 rfl ?_
  refine ex_icmp_eq (tgt := 856) dL_law_851 (by decide) (fun _ => ?_) (fun z => absurd tk z)
  refine ex_goto (tgt := 2178) dL_law_856 (by decide) ?_
  exact K _ _ _ J2
end LC
