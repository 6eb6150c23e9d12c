/-! THE LAW: its cases -/
section LC
variable {l : Launch} {G : mm_G} {Q : mm_R → mm_H → Prop} {b i n : Nat} {h : mm_H}
theorem lw_k16 (hb : b = G.2.2.2.1) (hl : l.stackTraces = false) (v1 : vp_in (nI i + 1) G.2.2.2.2.1) (v2 : vp_in (nI i + 2) G.2.2.2.2.1) (v3 : vp_in (nI i + 3) G.2.2.2.2.1) (hn : n ≤ 511) (hJ : lw_J n h) (K : ∀ (x5 x6 : Value) (h' : mm_H), lw_J (n + 1) h' → mm_Ex l G mm_law Q 2178 [.retAddr b, .ref 0, .ref 29, .ref 65, .int (nI i), x5, x6] [] h') (x5 x6 : Value) : mm_Ex l G mm_law Q 1341 [.retAddr b, .ref 0, .ref 29, .ref 65, .int (nI i), x5, x6] [] h := by
  obtain ⟨s, m, f, e, he, P, p, r, hi, hy, O⟩ := hJ
  refine ex_aload_n dL_law_1341 rfl ?_
  refine ex_aload_x dL_law_1342 rfl ?_
  refine ex_iload dL_law_1343 rfl ?_
  refine ex_iconst (v := 1) dL_law_1345 (by decide) ?_
  refine ex_iadd dL_law_1346 ?_
  refine ex_xload dL_law_1347 (by decide) hb v1 ?_
  refine ex_aload_x dL_law_1348 rfl ?_
  refine ex_iload dL_law_1349 rfl ?_
  refine ex_iconst (v := 2) dL_law_1351 (by decide) ?_
  refine ex_iadd dL_law_1352 ?_
  refine ex_xload dL_law_1353 (by decide) hb v2 ?_
  refine ex_aload_x dL_law_1354 rfl ?_
  refine ex_iload dL_law_1355 rfl ?_
  refine ex_iconst (v := 3) dL_law_1357 (by decide) ?_
  refine ex_iadd dL_law_1358 ?_
  refine ex_xload dL_law_1359 (by decide) hb v3 ?_
  refine ex_aload_n dL_law_1360 rfl ?_
  refine ex_callSX dL_law_1361 (mm_ksw i_L_demand l_L_168) ⟨(Nat.le_of_ble_eq_true rfl), (Nat.le_of_ble_eq_true rfl)⟩ rfl (Nat.le_of_ble_eq_true rfl) rfl (c_L_demand P O (G.2.2.2.2.2 (nI i + 1).toNatClampNeg) (G.2.2.2.2.2 (nI i + 2).toNatClampNeg) (G.2.2.2.2.2 (nI i + 3).toNatClampNeg) (k8_demand hl P hi (by omega) (G.2.2.2.2.2 (nI i + 1).toNatClampNeg) (G.2.2.2.2.2 (nI i + 2).toNatClampNeg) (G.2.2.2.2.2 (nI i + 3).toNatClampNeg)) (xc_demand (G.2.2.2.2.2 (nI i + 1).toNatClampNeg) (G.2.2.2.2.2 (nI i + 2).toNatClampNeg) (G.2.2.2.2.2 (nI i + 3).toNatClampNeg))) rfl (fun ov h1 q => ?_) (fun E h1 q => by obtain ⟨k, f1, z, -⟩ := q; cases z)
  obtain ⟨k, f1, z, a1, o1, P1, F1⟩ := q
  obtain rfl : ov = some (.int k) := by cases z; rfl
  clear z
  refine ex_istore dL_law_1364 (Nat.le_of_ble_eq_true rfl) ?_
  refine ex_aload_n dL_law_1366 rfl ?_
  refine ex_aload_x dL_law_1367 rfl ?_
  refine ex_iload dL_law_1368 rfl ?_
  refine ex_iconst (v := 1) dL_law_1370 (by decide) ?_
  refine ex_iadd dL_law_1371 ?_
  refine ex_xload dL_law_1372 (by decide) hb v1 ?_
  refine ex_aload_x dL_law_1373 rfl ?_
  refine ex_iload dL_law_1374 rfl ?_
  refine ex_iconst (v := 2) dL_law_1376 (by decide) ?_
  refine ex_iadd dL_law_1377 ?_
  refine ex_xload dL_law_1378 (by decide) hb v2 ?_
  refine ex_aload_x dL_law_1379 rfl ?_
  refine ex_iload dL_law_1380 rfl ?_
  refine ex_iconst (v := 3) dL_law_1382 (by decide) ?_
  refine ex_iadd dL_law_1383 ?_
  refine ex_xload dL_law_1384 (by decide) hb v3 ?_
  refine cV_x dL_law_1385 (mm_kv i_X9_demand l_L_170) ⟨(Nat.le_of_ble_eq_true rfl), (Nat.le_of_ble_eq_true rfl)⟩ (k9_demand (mP_mv p F1) r hi (by omega) hy (G.2.2.2.2.2 (nI i + 1).toNatClampNeg) (G.2.2.2.2.2 (nI i + 2).toNatClampNeg) (G.2.2.2.2.2 (nI i + 3).toNatClampNeg)) rfl rfl (mP_o (mP_mv p F1)) (Nat.le_of_ble_eq_true rfl) rfl (fun v h2 q => ?_)
  obtain ⟨m2, p2, r2, a2⟩ := q
  have nn := xi_n (xc_demand (s := s) (G.2.2.2.2.2 (nI i + 1).toNatClampNeg) (G.2.2.2.2.2 (nI i + 2).toNatClampNeg) (G.2.2.2.2.2 (nI i + 3).toNatClampNeg) _ rfl)
  obtain ⟨y, rfl, tk, ky⟩ := lw_eq ne_as nn a1 a2
  have J2 := lw_next he P1 p2 r2 (kv_demand hi (by omega) (G.2.2.2.2.2 (nI i + 1).toNatClampNeg) (G.2.2.2.2.2 (nI i + 2).toNatClampNeg) (G.2.2.2.2.2 (nI i + 3).toNatClampNeg)) (iy_demand hy (G.2.2.2.2.2 (nI i + 1).toNatClampNeg) (G.2.2.2.2.2 (nI i + 2).toNatClampNeg) (G.2.2.2.2.2 (nI i + 3).toNatClampNeg)) o1
  have o2 : lw_O h2 f1 := (p2.2.2.2 65 (Or.inr (Nat.le_refl 65))).trans o1
  refine ex_istore dL_law_1388 (Nat.le_of_ble_eq_true rfl) ?_
  refine ex_aload_n dL_law_1390 rfl ?_
  refine cV_f dL_law_1391 (mm_kv i_X9_thrown l_L_114) ⟨(Nat.le_of_ble_eq_true rfl), (Nat.le_of_ble_eq_true rfl)⟩ (c_X9_thrown p2) rfl rfl (mP_o p2) (Nat.le_of_ble_eq_true rfl) rfl ?_
  refine ex_iload dL_law_1394 rfl ?_
  refine ex_icmp_eq (tgt := 1401) dL_law_1396 (by decide) (fun _ => ?_) (fun z => absurd tk z)
  refine ex_iload dL_law_1401 rfl ?_
  refine ex_if_ne (tgt := 1418) dL_law_1403 (by decide) (fun _ => ?_) (fun kz => ?_)
  · refine ex_goto (tgt := 2178) dL_law_1418 (by decide) ?_
    exact K _ _ _ J2
  obtain ⟨ky1, ky2⟩ := ky kz
  refine ex_aload_n dL_law_1406 rfl ?_
  refine ex_iconst (v := 0) dL_law_1407 (by decide) ?_
  refine ex_laload dL_law_1408 o2 (show vp_in (0 : Int32) 1 by unfold vp_in; decide) ?_
  refine ex_iload dL_law_1409 rfl ?_
  refine ex_i2l dL_law_1411 ?_
  refine ex_lcmp dL_law_1412 ?_
  refine ex_if_eq (tgt := 1418) dL_law_1413 (by decide) (fun _ => ?_) (fun z => absurd (lg_c0 (lw_f0 ky2)) z)
  refine ex_goto (tgt := 2178) dL_law_1418 (by decide) ?_
  exact K _ _ _ J2
theorem lw_k17 (hb : b = G.2.2.2.1) (hl : l.stackTraces = false) (v1 : vp_in (nI i + 1) G.2.2.2.2.1) (v2 : vp_in (nI i + 2) G.2.2.2.2.1) (v3 : vp_in (nI i + 3) G.2.2.2.2.1) (hn : n ≤ 511) (hJ : lw_J n h) (K : ∀ (x5 x6 : Value) (h' : mm_H), lw_J (n + 1) h' → mm_Ex l G mm_law Q 2178 [.retAddr b, .ref 0, .ref 29, .ref 65, .int (nI i), x5, x6] [] h') (x5 x6 : Value) : mm_Ex l G mm_law Q 1421 [.retAddr b, .ref 0, .ref 29, .ref 65, .int (nI i), x5, x6] [] h := by
  obtain ⟨s, m, f, e, he, P, p, r, hi, hy, O⟩ := hJ
  refine ex_aload_n dL_law_1421 rfl ?_
  refine ex_callV dL_law_1422 (mm_kv i_X8_restore l_L_171) ⟨(Nat.le_of_ble_eq_true rfl), (Nat.le_of_ble_eq_true rfl)⟩ rfl (cP_ow P) (Nat.le_of_ble_eq_true rfl) rfl (c_X8_restore P) rfl (fun ov h1 q => ?_) (fun E h1 q => by obtain ⟨z, -⟩ := q; cases z)
  obtain ⟨z, P1, F1⟩ := q
  obtain rfl : ov = some (.int (ne_cd (s.1 5) (cl_dl s) ((s.1 6).map (ne_off (cl_dl s))) [] s.2.2.2.2.2.1 0).2.2) := by cases z; rfl
  have o1 : lw_O h1 f := (F1 65 (by decide) (by decide)).trans O
  have p1 := mP_mv p (fun p a b => F1 p a (by omega))
  refine ex_aload_n dL_law_1425 rfl ?_
  refine cV_x dL_law_1426 (mm_kv i_X9_restore l_L_174) ⟨(Nat.le_of_ble_eq_true rfl), (Nat.le_of_ble_eq_true rfl)⟩ (c_X9_restore p1 r hi (by omega)) rfl rfl (mP_o p1) (Nat.le_of_ble_eq_true rfl) rfl (fun v h2 q => ?_)
  obtain ⟨m2, p2, r2, -, rfl⟩ := q
  have J2 := lw_next he P1 p2 r2 (iv_restore hi).up (iy_restore hy) o1
  refine ex_icmp_eq (tgt := 2178) dL_law_1429 (by decide) (fun _ => ?_) (fun z => absurd rfl z)
  exact K _ _ _ J2
theorem lw_k18 (hb : b = G.2.2.2.1) (hl : l.stackTraces = false) (v1 : vp_in (nI i + 1) G.2.2.2.2.1) (v2 : vp_in (nI i + 2) G.2.2.2.2.1) (v3 : vp_in (nI i + 3) G.2.2.2.2.1) (hn : n ≤ 511) (hJ : lw_J n h) (K : ∀ (x5 x6 : Value) (h' : mm_H), lw_J (n + 1) h' → mm_Ex l G mm_law Q 2178 [.retAddr b, .ref 0, .ref 29, .ref 65, .int (nI i), x5, x6] [] h') (x5 x6 : Value) : mm_Ex l G mm_law Q 1434 [.retAddr b, .ref 0, .ref 29, .ref 65, .int (nI i), x5, x6] [] h := by
  obtain ⟨s, m, f, e, he, P, p, r, hi, hy, O⟩ := hJ
  refine ex_aload_n dL_law_1434 rfl ?_
  refine ex_aload_x dL_law_1435 rfl ?_
  refine ex_iload dL_law_1436 rfl ?_
  refine ex_iconst (v := 1) dL_law_1438 (by decide) ?_
  refine ex_iadd dL_law_1439 ?_
  refine ex_xload dL_law_1440 (by decide) hb v1 ?_
  refine ex_aload_n dL_law_1441 rfl ?_
  refine ex_callSX dL_law_1442 (mm_ksw i_L_way l_L_175) ⟨(Nat.le_of_ble_eq_true rfl), (Nat.le_of_ble_eq_true rfl)⟩ rfl (Nat.le_of_ble_eq_true rfl) rfl (c_L_way P O (G.2.2.2.2.2 (nI i + 1).toNatClampNeg) (k8_way hl P hi (by omega) (G.2.2.2.2.2 (nI i + 1).toNatClampNeg)) (xc_way (G.2.2.2.2.2 (nI i + 1).toNatClampNeg))) rfl (fun ov h1 q => ?_) (fun E h1 q => by obtain ⟨k, f1, z, -⟩ := q; cases z)
  obtain ⟨k, f1, z, a1, o1, P1, F1⟩ := q
  obtain rfl : ov = some (.int k) := by cases z; rfl
  clear z
  refine ex_istore dL_law_1445 (Nat.le_of_ble_eq_true rfl) ?_
  refine ex_aload_n dL_law_1447 rfl ?_
  refine ex_aload_x dL_law_1448 rfl ?_
  refine ex_iload dL_law_1449 rfl ?_
  refine ex_iconst (v := 1) dL_law_1451 (by decide) ?_
  refine ex_iadd dL_law_1452 ?_
  refine ex_xload dL_law_1453 (by decide) hb v1 ?_
  refine cV_x dL_law_1454 (mm_kv i_X9_way l_L_177) ⟨(Nat.le_of_ble_eq_true rfl), (Nat.le_of_ble_eq_true rfl)⟩ (k9_way (mP_mv p F1) r hi (by omega) hy (G.2.2.2.2.2 (nI i + 1).toNatClampNeg)) rfl rfl (mP_o (mP_mv p F1)) (Nat.le_of_ble_eq_true rfl) rfl (fun v h2 q => ?_)
  obtain ⟨m2, p2, r2, a2⟩ := q
  have nn := yi_n (xc_way (s := s) (G.2.2.2.2.2 (nI i + 1).toNatClampNeg) _ rfl)
  obtain ⟨y, rfl, tk, ky⟩ := lw_eq ne_is nn a1 a2
  have J2 := lw_next he P1 p2 r2 (kv_way hi (by omega) (G.2.2.2.2.2 (nI i + 1).toNatClampNeg)) (iy_way hy (G.2.2.2.2.2 (nI i + 1).toNatClampNeg)) o1
  have o2 : lw_O h2 f1 := (p2.2.2.2 65 (Or.inr (Nat.le_refl 65))).trans o1
  refine ex_istore dL_law_1457 (Nat.le_of_ble_eq_true rfl) ?_
  refine ex_aload_n dL_law_1459 rfl ?_
  refine cV_f dL_law_1460 (mm_kv i_X9_thrown l_L_114) ⟨(Nat.le_of_ble_eq_true rfl), (Nat.le_of_ble_eq_true rfl)⟩ (c_X9_thrown p2) rfl rfl (mP_o p2) (Nat.le_of_ble_eq_true rfl) rfl ?_
  refine ex_iload dL_law_1463 rfl ?_
  refine ex_icmp_eq (tgt := 1470) dL_law_1465 (by decide) (fun _ => ?_) (fun z => absurd tk z)
  refine ex_iload dL_law_1470 rfl ?_
  refine ex_if_ne (tgt := 1487) dL_law_1472 (by decide) (fun _ => ?_) (fun kz => ?_)
  · refine ex_goto (tgt := 2178) dL_law_1487 (by decide) ?_
    exact K _ _ _ J2
  obtain ⟨ky1, ky2⟩ := ky kz
  refine ex_aload_n dL_law_1475 rfl ?_
  refine ex_iconst (v := 0) dL_law_1476 (by decide) ?_
  refine ex_laload dL_law_1477 o2 (show vp_in (0 : Int32) 1 by unfold vp_in; decide) ?_
  refine ex_iload dL_law_1478 rfl ?_
  refine ex_i2l dL_law_1480 ?_
  refine ex_lcmp dL_law_1481 ?_
  refine ex_if_eq (tgt := 1487) dL_law_1482 (by decide) (fun _ => ?_) (fun z => absurd (lg_c0 (lw_f0 ky2)) z)
  refine ex_goto (tgt := 2178) dL_law_1487 (by decide) ?_
  exact K _ _ _ J2
theorem lw_k19 (hb : b = G.2.2.2.1) (hl : l.stackTraces = false) (v1 : vp_in (nI i + 1) G.2.2.2.2.1) (v2 : vp_in (nI i + 2) G.2.2.2.2.1) (v3 : vp_in (nI i + 3) G.2.2.2.2.1) (hn : n ≤ 511) (hJ : lw_J n h) (K : ∀ (x5 x6 : Value) (h' : mm_H), lw_J (n + 1) h' → mm_Ex l G mm_law Q 2178 [.retAddr b, .ref 0, .ref 29, .ref 65, .int (nI i), x5, x6] [] h') (x5 x6 : Value) : mm_Ex l G mm_law Q 1490 [.retAddr b, .ref 0, .ref 29, .ref 65, .int (nI i), x5, x6] [] h := by
  obtain ⟨s, m, f, e, he, P, p, r, hi, hy, O⟩ := hJ
  refine ex_aload_n dL_law_1490 rfl ?_
  refine ex_aload_x dL_law_1491 rfl ?_
  refine ex_iload dL_law_1492 rfl ?_
  refine ex_iconst (v := 1) dL_law_1494 (by decide) ?_
  refine ex_iadd dL_law_1495 ?_
  refine ex_xload dL_law_1496 (by decide) hb v1 ?_
  refine ex_aload_n dL_law_1497 rfl ?_
  refine ex_callSX dL_law_1498 (mm_ksw i_L_isLit l_L_178) ⟨(Nat.le_of_ble_eq_true rfl), (Nat.le_of_ble_eq_true rfl)⟩ rfl (Nat.le_of_ble_eq_true rfl) rfl (c_L_isLit P O (G.2.2.2.2.2 (nI i + 1).toNatClampNeg) (k8_isLit hl P hi (by omega) (G.2.2.2.2.2 (nI i + 1).toNatClampNeg)) (xc_isLit (G.2.2.2.2.2 (nI i + 1).toNatClampNeg))) rfl (fun ov h1 q => ?_) (fun E h1 q => by obtain ⟨k, f1, z, -⟩ := q; cases z)
  obtain ⟨k, f1, z, a1, o1, P1, F1⟩ := q
  obtain rfl : ov = some (.int k) := by cases z; rfl
  clear z
  refine ex_istore dL_law_1501 (Nat.le_of_ble_eq_true rfl) ?_
  refine ex_aload_n dL_law_1503 rfl ?_
  refine ex_aload_x dL_law_1504 rfl ?_
  refine ex_iload dL_law_1505 rfl ?_
  refine ex_iconst (v := 1) dL_law_1507 (by decide) ?_
  refine ex_iadd dL_law_1508 ?_
  refine ex_xload dL_law_1509 (by decide) hb v1 ?_
  refine cV_x dL_law_1510 (mm_kv i_X9_isLit l_L_180) ⟨(Nat.le_of_ble_eq_true rfl), (Nat.le_of_ble_eq_true rfl)⟩ (k9_isLit (mP_mv p F1) r hi (by omega) hy (G.2.2.2.2.2 (nI i + 1).toNatClampNeg)) rfl rfl (mP_o (mP_mv p F1)) (Nat.le_of_ble_eq_true rfl) rfl (fun v h2 q => ?_)
  obtain ⟨m2, p2, r2, a2⟩ := q
  have nn := yb_n (xc_isLit (s := s) (G.2.2.2.2.2 (nI i + 1).toNatClampNeg) _ rfl)
  have vv := fun x => yb_v (x := x) (xc_isLit (s := s) (G.2.2.2.2.2 (nI i + 1).toNatClampNeg) _ rfl)
  obtain ⟨y, rfl, tk, ky⟩ := lw_eq ne_is nn a1 a2
  have J2 := lw_next he P1 p2 r2 (kv_isLit hi (by omega) (G.2.2.2.2.2 (nI i + 1).toNatClampNeg)) (iy_isLit hy (G.2.2.2.2.2 (nI i + 1).toNatClampNeg)) o1
  have o2 : lw_O h2 f1 := (p2.2.2.2 65 (Or.inr (Nat.le_refl 65))).trans o1
  refine ex_istore dL_law_1513 (Nat.le_of_ble_eq_true rfl) ?_
  refine ex_aload_n dL_law_1515 rfl ?_
  refine cV_f dL_law_1516 (mm_kv i_X9_thrown l_L_114) ⟨(Nat.le_of_ble_eq_true rfl), (Nat.le_of_ble_eq_true rfl)⟩ (c_X9_thrown p2) rfl rfl (mP_o p2) (Nat.le_of_ble_eq_true rfl) rfl ?_
  refine ex_iload dL_law_1519 rfl ?_
  refine ex_icmp_eq (tgt := 1526) dL_law_1521 (by decide) (fun _ => ?_) (fun z => absurd tk z)
  refine ex_iload dL_law_1526 rfl ?_
  refine ex_if_ne (tgt := 1550) dL_law_1528 (by decide) (fun _ => ?_) (fun kz => ?_)
  · refine ex_goto (tgt := 2178) dL_law_1550 (by decide) ?_
    exact K _ _ _ J2
  obtain ⟨ky1, ky2⟩ := ky kz
  rcases vv y ky1 with yv | yv
  · subst yv
    refine ex_aload_n dL_law_1531 rfl ?_
    refine ex_iconst (v := 0) dL_law_1532 (by decide) ?_
    refine ex_laload dL_law_1533 o2 (show vp_in (0 : Int32) 1 by unfold vp_in; decide) ?_
    refine ex_iload dL_law_1534 rfl ?_
    refine ex_if_eq (tgt := 1543) dL_law_1536 (by decide) (fun _ => ?_) (fun z => absurd rfl z)
    refine ex_lconst (v := 0) dL_law_1543 (by decide) ?_
    refine ex_lcmp dL_law_1544 ?_
    refine ex_if_eq (tgt := 1550) dL_law_1545 (by decide) (fun _ => ?_) (fun z => absurd (lg_c0 ((lw_f0 ky2).trans (by decide))) z)
    refine ex_goto (tgt := 2178) dL_law_1550 (by decide) ?_
    exact K _ _ _ J2
  · subst yv
    refine ex_aload_n dL_law_1531 rfl ?_
    refine ex_iconst (v := 0) dL_law_1532 (by decide) ?_
    refine ex_laload dL_law_1533 o2 (show vp_in (0 : Int32) 1 by unfold vp_in; decide) ?_
    refine ex_iload dL_law_1534 rfl ?_
    refine ex_if_eq (tgt := 1543) dL_law_1536 (by decide) (fun z => absurd z (by decide)) (fun _ => ?_)
    refine ex_lconst (v := 1) dL_law_1539 (by decide) ?_
    refine ex_goto (tgt := 1544) dL_law_1540 (by decide) ?_
    refine ex_lcmp dL_law_1544 ?_
    refine ex_if_eq (tgt := 1550) dL_law_1545 (by decide) (fun _ => ?_) (fun z => absurd (lg_c0 ((lw_f0 ky2).trans (by decide))) z)
    refine ex_goto (tgt := 2178) dL_law_1550 (by decide) ?_
    exact K _ _ _ J2
theorem lw_k20 (hb : b = G.2.2.2.1) (hl : l.stackTraces = false) (v1 : vp_in (nI i + 1) G.2.2.2.2.1) (v2 : vp_in (nI i + 2) G.2.2.2.2.1) (v3 : vp_in (nI i + 3) G.2.2.2.2.1) (hn : n ≤ 511) (hJ : lw_J n h) (K : ∀ (x5 x6 : Value) (h' : mm_H), lw_J (n + 1) h' → mm_Ex l G mm_law Q 2178 [.retAddr b, .ref 0, .ref 29, .ref 65, .int (nI i), x5, x6] [] h') (x5 x6 : Value) : mm_Ex l G mm_law Q 1553 [.retAddr b, .ref 0, .ref 29, .ref 65, .int (nI i), x5, x6] [] h := by
  obtain ⟨s, m, f, e, he, P, p, r, hi, hy, O⟩ := hJ
  refine ex_aload_n dL_law_1553 rfl ?_
  refine cV_f dL_law_1554 (mm_kv i_X8_day l_L_181) ⟨(Nat.le_of_ble_eq_true rfl), (Nat.le_of_ble_eq_true rfl)⟩ (c_X8_day P) rfl rfl (cP_ow P) (Nat.le_of_ble_eq_true rfl) rfl ?_
  refine ex_aload_n dL_law_1557 rfl ?_
  refine cV_x dL_law_1558 (mm_kv i_X9_day l_L_184) ⟨(Nat.le_of_ble_eq_true rfl), (Nat.le_of_ble_eq_true rfl)⟩ (c_X9_day p r) rfl rfl (mP_o p) (Nat.le_of_ble_eq_true rfl) rfl (fun v h2 q => ?_)
  obtain ⟨m2, p2, r2, rfl⟩ := q
  have J2 := lw_next (x := (.inl none, s)) he P p2 r2 hi.up hy O
  refine ex_icmp_eq (tgt := 2178) dL_law_1561 (by decide) (fun _ => ?_) (fun z => absurd rfl z)
  exact K _ _ _ J2
theorem lw_k21 (hb : b = G.2.2.2.1) (hl : l.stackTraces = false) (v1 : vp_in (nI i + 1) G.2.2.2.2.1) (v2 : vp_in (nI i + 2) G.2.2.2.2.1) (v3 : vp_in (nI i + 3) G.2.2.2.2.1) (hn : n ≤ 511) (hJ : lw_J n h) (K : ∀ (x5 x6 : Value) (h' : mm_H), lw_J (n + 1) h' → mm_Ex l G mm_law Q 2178 [.retAddr b, .ref 0, .ref 29, .ref 65, .int (nI i), x5, x6] [] h') (x5 x6 : Value) : mm_Ex l G mm_law Q 1566 [.retAddr b, .ref 0, .ref 29, .ref 65, .int (nI i), x5, x6] [] h := by
  obtain ⟨s, m, f, e, he, P, p, r, hi, hy, O⟩ := hJ
  refine ex_aload_n dL_law_1566 rfl ?_
  refine cV_f dL_law_1567 (mm_kv i_X8_waves l_L_185) ⟨(Nat.le_of_ble_eq_true rfl), (Nat.le_of_ble_eq_true rfl)⟩ (c_X8_waves P) rfl rfl (cP_ow P) (Nat.le_of_ble_eq_true rfl) rfl ?_
  refine ex_aload_n dL_law_1570 rfl ?_
  refine cV_x dL_law_1571 (mm_kv i_X9_waves l_L_188) ⟨(Nat.le_of_ble_eq_true rfl), (Nat.le_of_ble_eq_true rfl)⟩ (c_X9_waves p r) rfl rfl (mP_o p) (Nat.le_of_ble_eq_true rfl) rfl (fun v h2 q => ?_)
  obtain ⟨m2, p2, r2, rfl⟩ := q
  have J2 := lw_next (x := (.inl none, s)) he P p2 r2 hi.up hy O
  refine ex_icmp_eq (tgt := 2178) dL_law_1574 (by decide) (fun _ => ?_) (fun z => absurd rfl z)
  exact K _ _ _ J2
theorem lw_k22 (hb : b = G.2.2.2.1) (hl : l.stackTraces = false) (v1 : vp_in (nI i + 1) G.2.2.2.2.1) (v2 : vp_in (nI i + 2) G.2.2.2.2.1) (v3 : vp_in (nI i + 3) G.2.2.2.2.1) (hn : n ≤ 511) (hJ : lw_J n h) (K : ∀ (x5 x6 : Value) (h' : mm_H), lw_J (n + 1) h' → mm_Ex l G mm_law Q 2178 [.retAddr b, .ref 0, .ref 29, .ref 65, .int (nI i), x5, x6] [] h') (x5 x6 : Value) : mm_Ex l G mm_law Q 1579 [.retAddr b, .ref 0, .ref 29, .ref 65, .int (nI i), x5, x6] [] h := by
  obtain ⟨s, m, f, e, he, P, p, r, hi, hy, O⟩ := hJ
  refine ex_aload_n dL_law_1579 rfl ?_
  refine cV_f dL_law_1580 (mm_kv i_X8_canWork l_L_189) ⟨(Nat.le_of_ble_eq_true rfl), (Nat.le_of_ble_eq_true rfl)⟩ (c_X8_canWork P) rfl rfl (cP_ow P) (Nat.le_of_ble_eq_true rfl) rfl ?_
  refine ex_aload_n dL_law_1583 rfl ?_
  refine cV_x dL_law_1584 (mm_kv i_X9_canWork l_L_193) ⟨(Nat.le_of_ble_eq_true rfl), (Nat.le_of_ble_eq_true rfl)⟩ (c_X9_canWork p r) rfl rfl (mP_o p) (Nat.le_of_ble_eq_true rfl) rfl (fun v h2 q => ?_)
  obtain ⟨m2, p2, r2, rfl⟩ := q
  have J2 := lw_next (x := (.inl none, s)) he P p2 r2 hi.up hy O
  refine ex_icmp_eq (tgt := 2178) dL_law_1587 (by decide) (fun _ => ?_) (fun z => absurd rfl z)
  exact K _ _ _ J2
theorem lw_k23 (hb : b = G.2.2.2.1) (hl : l.stackTraces = false) (v1 : vp_in (nI i + 1) G.2.2.2.2.1) (v2 : vp_in (nI i + 2) G.2.2.2.2.1) (v3 : vp_in (nI i + 3) G.2.2.2.2.1) (hn : n ≤ 511) (hJ : lw_J n h) (K : ∀ (x5 x6 : Value) (h' : mm_H), lw_J (n + 1) h' → mm_Ex l G mm_law Q 2178 [.retAddr b, .ref 0, .ref 29, .ref 65, .int (nI i), x5, x6] [] h') (x5 x6 : Value) : mm_Ex l G mm_law Q 1592 [.retAddr b, .ref 0, .ref 29, .ref 65, .int (nI i), x5, x6] [] h := by
  obtain ⟨s, m, f, e, he, P, p, r, hi, hy, O⟩ := hJ
  refine ex_aload_n dL_law_1592 rfl ?_
  refine ex_aload_x dL_law_1593 rfl ?_
  refine ex_iload dL_law_1594 rfl ?_
  refine ex_iconst (v := 1) dL_law_1596 (by decide) ?_
  refine ex_iadd dL_law_1597 ?_
  refine ex_xload dL_law_1598 (by decide) hb v1 ?_
  refine ex_aload_x dL_law_1599 rfl ?_
  refine ex_iload dL_law_1600 rfl ?_
  refine ex_iconst (v := 2) dL_law_1602 (by decide) ?_
  refine ex_iadd dL_law_1603 ?_
  refine ex_xload dL_law_1604 (by decide) hb v2 ?_
  refine ex_aload_n dL_law_1605 rfl ?_
  refine ex_callSX dL_law_1606 (mm_ksw i_L_cell l_L_194) ⟨(Nat.le_of_ble_eq_true rfl), (Nat.le_of_ble_eq_true rfl)⟩ rfl (Nat.le_of_ble_eq_true rfl) rfl (c_L_cell P O (G.2.2.2.2.2 (nI i + 1).toNatClampNeg) (G.2.2.2.2.2 (nI i + 2).toNatClampNeg) (k8_cell hl P hi (by omega) (G.2.2.2.2.2 (nI i + 1).toNatClampNeg) (G.2.2.2.2.2 (nI i + 2).toNatClampNeg)) (xc_cell (G.2.2.2.2.2 (nI i + 1).toNatClampNeg) (G.2.2.2.2.2 (nI i + 2).toNatClampNeg))) rfl (fun ov h1 q => ?_) (fun E h1 q => by obtain ⟨k, f1, z, -⟩ := q; cases z)
  obtain ⟨k, f1, z, a1, o1, P1, F1⟩ := q
  obtain rfl : ov = some (.int k) := by cases z; rfl
  clear z
  refine ex_istore dL_law_1609 (Nat.le_of_ble_eq_true rfl) ?_
  refine ex_aload_n dL_law_1611 rfl ?_
  refine ex_aload_x dL_law_1612 rfl ?_
  refine ex_iload dL_law_1613 rfl ?_
  refine ex_iconst (v := 1) dL_law_1615 (by decide) ?_
  refine ex_iadd dL_law_1616 ?_
  refine ex_xload dL_law_1617 (by decide) hb v1 ?_
  refine ex_aload_x dL_law_1618 rfl ?_
  refine ex_iload dL_law_1619 rfl ?_
  refine ex_iconst (v := 2) dL_law_1621 (by decide) ?_
  refine ex_iadd dL_law_1622 ?_
  refine ex_xload dL_law_1623 (by decide) hb v2 ?_
  refine cV_x dL_law_1624 (mm_kv i_X9_cell l_L_196) ⟨(Nat.le_of_ble_eq_true rfl), (Nat.le_of_ble_eq_true rfl)⟩ (k9_cell (mP_mv p F1) r hi (by omega) hy (G.2.2.2.2.2 (nI i + 1).toNatClampNeg) (G.2.2.2.2.2 (nI i + 2).toNatClampNeg)) rfl rfl (mP_o (mP_mv p F1)) (Nat.le_of_ble_eq_true rfl) rfl (fun v h2 q => ?_)
  obtain ⟨m2, p2, r2, a2⟩ := q
  have nn := yi_n (xc_cell (s := s) (G.2.2.2.2.2 (nI i + 1).toNatClampNeg) (G.2.2.2.2.2 (nI i + 2).toNatClampNeg) _ rfl)
  obtain ⟨y, rfl, tk, ky⟩ := lw_eq ne_as nn a1 a2
  have J2 := lw_next he P1 p2 r2 (kv_cell hi (by omega) (G.2.2.2.2.2 (nI i + 1).toNatClampNeg) (G.2.2.2.2.2 (nI i + 2).toNatClampNeg)) (iy_cell hy (G.2.2.2.2.2 (nI i + 1).toNatClampNeg) (G.2.2.2.2.2 (nI i + 2).toNatClampNeg)) o1
  have o2 : lw_O h2 f1 := (p2.2.2.2 65 (Or.inr (Nat.le_refl 65))).trans o1
  refine ex_istore dL_law_1627 (Nat.le_of_ble_eq_true rfl) ?_
  refine ex_aload_n dL_law_1629 rfl ?_
  refine cV_f dL_law_1630 (mm_kv i_X9_thrown l_L_114) ⟨(Nat.le_of_ble_eq_true rfl), (Nat.le_of_ble_eq_true rfl)⟩ (c_X9_thrown p2) rfl rfl (mP_o p2) (Nat.le_of_ble_eq_true rfl) rfl ?_
  refine ex_iload dL_law_1633 rfl ?_
  refine ex_icmp_eq (tgt := 1640) dL_law_1635 (by decide) (fun _ => ?_) (fun z => absurd tk z)
  refine ex_iload dL_law_1640 rfl ?_
  refine ex_if_ne (tgt := 1657) dL_law_1642 (by decide) (fun _ => ?_) (fun kz => ?_)
  · refine ex_goto (tgt := 2178) dL_law_1657 (by decide) ?_
    exact K _ _ _ J2
  obtain ⟨ky1, ky2⟩ := ky kz
  refine ex_aload_n dL_law_1645 rfl ?_
  refine ex_iconst (v := 0) dL_law_1646 (by decide) ?_
  refine ex_laload dL_law_1647 o2 (show vp_in (0 : Int32) 1 by unfold vp_in; decide) ?_
  refine ex_iload dL_law_1648 rfl ?_
  refine ex_i2l dL_law_1650 ?_
  refine ex_lcmp dL_law_1651 ?_
  refine ex_if_eq (tgt := 1657) dL_law_1652 (by decide) (fun _ => ?_) (fun z => absurd (lg_c0 (lw_f0 ky2)) z)
  refine ex_goto (tgt := 2178) dL_law_1657 (by decide) ?_
  exact K _ _ _ J2
theorem lw_k24 (hb : b = G.2.2.2.1) (hl : l.stackTraces = false) (v1 : vp_in (nI i + 1) G.2.2.2.2.1) (v2 : vp_in (nI i + 2) G.2.2.2.2.1) (v3 : vp_in (nI i + 3) G.2.2.2.2.1) (hn : n ≤ 511) (hJ : lw_J n h) (K : ∀ (x5 x6 : Value) (h' : mm_H), lw_J (n + 1) h' → mm_Ex l G mm_law Q 2178 [.retAddr b, .ref 0, .ref 29, .ref 65, .int (nI i), x5, x6] [] h') (x5 x6 : Value) : mm_Ex l G mm_law Q 1660 [.retAddr b, .ref 0, .ref 29, .ref 65, .int (nI i), x5, x6] [] h := by
  obtain ⟨s, m, f, e, he, P, p, r, hi, hy, O⟩ := hJ
  refine ex_aload_n dL_law_1660 rfl ?_
  refine ex_aload_x dL_law_1661 rfl ?_
  refine ex_iload dL_law_1662 rfl ?_
  refine ex_iconst (v := 1) dL_law_1664 (by decide) ?_
  refine ex_iadd dL_law_1665 ?_
  refine ex_xload dL_law_1666 (by decide) hb v1 ?_
  refine ex_aload_x dL_law_1667 rfl ?_
  refine ex_iload dL_law_1668 rfl ?_
  refine ex_iconst (v := 2) dL_law_1670 (by decide) ?_
  refine ex_iadd dL_law_1671 ?_
  refine ex_xload dL_law_1672 (by decide) hb v2 ?_
  refine ex_aload_n dL_law_1673 rfl ?_
  refine ex_callSX dL_law_1674 (mm_ksw i_L_tension l_L_197) ⟨(Nat.le_of_ble_eq_true rfl), (Nat.le_of_ble_eq_true rfl)⟩ rfl (Nat.le_of_ble_eq_true rfl) rfl (c_L_tension P O (G.2.2.2.2.2 (nI i + 1).toNatClampNeg) (G.2.2.2.2.2 (nI i + 2).toNatClampNeg) (k8_tension hl P hi (by omega) (G.2.2.2.2.2 (nI i + 1).toNatClampNeg) (G.2.2.2.2.2 (nI i + 2).toNatClampNeg)) (xc_tension (G.2.2.2.2.2 (nI i + 1).toNatClampNeg) (G.2.2.2.2.2 (nI i + 2).toNatClampNeg))) rfl (fun ov h1 q => ?_) (fun E h1 q => by obtain ⟨k, f1, z, -⟩ := q; cases z)
  obtain ⟨k, f1, z, a1, o1, P1, F1⟩ := q
  obtain rfl : ov = some (.int k) := by cases z; rfl
  clear z
  refine ex_istore dL_law_1677 (Nat.le_of_ble_eq_true rfl) ?_
  refine ex_aload_n dL_law_1679 rfl ?_
  refine ex_aload_x dL_law_1680 rfl ?_
  refine ex_iload dL_law_1681 rfl ?_
  refine ex_iconst (v := 1) dL_law_1683 (by decide) ?_
  refine ex_iadd dL_law_1684 ?_
  refine ex_xload dL_law_1685 (by decide) hb v1 ?_
  refine ex_aload_x dL_law_1686 rfl ?_
  refine ex_iload dL_law_1687 rfl ?_
  refine ex_iconst (v := 2) dL_law_1689 (by decide) ?_
  refine ex_iadd dL_law_1690 ?_
  refine ex_xload dL_law_1691 (by decide) hb v2 ?_
  refine cV_x dL_law_1692 (mm_kv i_X9_tension l_L_199) ⟨(Nat.le_of_ble_eq_true rfl), (Nat.le_of_ble_eq_true rfl)⟩ (k9_tension (mP_mv p F1) r hi (by omega) hy (G.2.2.2.2.2 (nI i + 1).toNatClampNeg) (G.2.2.2.2.2 (nI i + 2).toNatClampNeg)) rfl rfl (mP_o (mP_mv p F1)) (Nat.le_of_ble_eq_true rfl) rfl (fun v h2 q => ?_)
  obtain ⟨m2, p2, r2, a2⟩ := q
  have nn := yi_n (xc_tension (s := s) (G.2.2.2.2.2 (nI i + 1).toNatClampNeg) (G.2.2.2.2.2 (nI i + 2).toNatClampNeg) _ rfl)
  obtain ⟨y, rfl, tk, ky⟩ := lw_eq ne_as nn a1 a2
  have J2 := lw_next he P1 p2 r2 (kv_tension hi (by omega) (G.2.2.2.2.2 (nI i + 1).toNatClampNeg) (G.2.2.2.2.2 (nI i + 2).toNatClampNeg)) (iy_tension hy (G.2.2.2.2.2 (nI i + 1).toNatClampNeg) (G.2.2.2.2.2 (nI i + 2).toNatClampNeg)) o1
  have o2 : lw_O h2 f1 := (p2.2.2.2 65 (Or.inr (Nat.le_refl 65))).trans o1
  refine ex_istore dL_law_1695 (Nat.le_of_ble_eq_true rfl) ?_
  refine ex_aload_n dL_law_1697 rfl ?_
  refine cV_f dL_law_1698 (mm_kv i_X9_thrown l_L_114) ⟨(Nat.le_of_ble_eq_true rfl), (Nat.le_of_ble_eq_true rfl)⟩ (c_X9_thrown p2) rfl rfl (mP_o p2) (Nat.le_of_ble_eq_true rfl) rfl ?_
  refine ex_iload dL_law_1701 rfl ?_
  refine ex_icmp_eq (tgt := 1708) dL_law_1703 (by decide) (fun _ => ?_) (fun z => absurd tk z)
  refine ex_iload dL_law_1708 rfl ?_
  refine ex_if_ne (tgt := 1725) dL_law_1710 (by decide) (fun _ => ?_) (fun kz => ?_)
  · refine ex_goto (tgt := 2178) dL_law_1725 (by decide) ?_
    exact K _ _ _ J2
  obtain ⟨ky1, ky2⟩ := ky kz
  refine ex_aload_n dL_law_1713 rfl ?_
  refine ex_iconst (v := 0) dL_law_1714 (by decide) ?_
  refine ex_laload dL_law_1715 o2 (show vp_in (0 : Int32) 1 by unfold vp_in; decide) ?_
  refine ex_iload dL_law_1716 rfl ?_
  refine ex_i2l dL_law_1718 ?_
  refine ex_lcmp dL_law_1719 ?_
  refine ex_if_eq (tgt := 1725) dL_law_1720 (by decide) (fun _ => ?_) (fun z => absurd (lg_c0 (lw_f0 ky2)) z)
  refine ex_goto (tgt := 2178) dL_law_1725 (by decide) ?_
  exact K _ _ _ J2
theorem lw_k25 (hb : b = G.2.2.2.1) (hl : l.stackTraces = false) (v1 : vp_in (nI i + 1) G.2.2.2.2.1) (v2 : vp_in (nI i + 2) G.2.2.2.2.1) (v3 : vp_in (nI i + 3) G.2.2.2.2.1) (hn : n ≤ 511) (hJ : lw_J n h) (K : ∀ (x5 x6 : Value) (h' : mm_H), lw_J (n + 1) h' → mm_Ex l G mm_law Q 2178 [.retAddr b, .ref 0, .ref 29, .ref 65, .int (nI i), x5, x6] [] h') (x5 x6 : Value) : mm_Ex l G mm_law Q 1728 [.retAddr b, .ref 0, .ref 29, .ref 65, .int (nI i), x5, x6] [] h := by
  obtain ⟨s, m, f, e, he, P, p, r, hi, hy, O⟩ := hJ
  refine ex_aload_n dL_law_1728 rfl ?_
  refine ex_aload_x dL_law_1729 rfl ?_
  refine ex_iload dL_law_1730 rfl ?_
  refine ex_iconst (v := 1) dL_law_1732 (by decide) ?_
  refine ex_iadd dL_law_1733 ?_
  refine ex_xload dL_law_1734 (by decide) hb v1 ?_
  refine ex_aload_x dL_law_1735 rfl ?_
  refine ex_iload dL_law_1736 rfl ?_
  refine ex_iconst (v := 2) dL_law_1738 (by decide) ?_
  refine ex_iadd dL_law_1739 ?_
  refine ex_xload dL_law_1740 (by decide) hb v2 ?_
  refine ex_aload_n dL_law_1741 rfl ?_
  refine ex_callSX dL_law_1742 (mm_ksw i_L_tank l_L_200) ⟨(Nat.le_of_ble_eq_true rfl), (Nat.le_of_ble_eq_true rfl)⟩ rfl (Nat.le_of_ble_eq_true rfl) rfl (c_L_tank P O (G.2.2.2.2.2 (nI i + 1).toNatClampNeg) (G.2.2.2.2.2 (nI i + 2).toNatClampNeg) (k8_tank hl P hi (by omega) (G.2.2.2.2.2 (nI i + 1).toNatClampNeg) (G.2.2.2.2.2 (nI i + 2).toNatClampNeg)) (xc_tank (G.2.2.2.2.2 (nI i + 1).toNatClampNeg) (G.2.2.2.2.2 (nI i + 2).toNatClampNeg))) rfl (fun ov h1 q => ?_) (fun E h1 q => by obtain ⟨k, f1, z, -⟩ := q; cases z)
  obtain ⟨k, f1, z, a1, o1, P1, F1⟩ := q
  obtain rfl : ov = some (.int k) := by cases z; rfl
  clear z
  refine ex_istore dL_law_1745 (Nat.le_of_ble_eq_true rfl) ?_
  refine ex_aload_n dL_law_1747 rfl ?_
  refine ex_aload_x dL_law_1748 rfl ?_
  refine ex_iload dL_law_1749 rfl ?_
  refine ex_iconst (v := 1) dL_law_1751 (by decide) ?_
  refine ex_iadd dL_law_1752 ?_
  refine ex_xload dL_law_1753 (by decide) hb v1 ?_
  refine ex_aload_x dL_law_1754 rfl ?_
  refine ex_iload dL_law_1755 rfl ?_
  refine ex_iconst (v := 2) dL_law_1757 (by decide) ?_
  refine ex_iadd dL_law_1758 ?_
  refine ex_xload dL_law_1759 (by decide) hb v2 ?_
  refine cV_x dL_law_1760 (mm_kv i_X9_tank l_L_202) ⟨(Nat.le_of_ble_eq_true rfl), (Nat.le_of_ble_eq_true rfl)⟩ (k9_tank (mP_mv p F1) r hi (by omega) hy (G.2.2.2.2.2 (nI i + 1).toNatClampNeg) (G.2.2.2.2.2 (nI i + 2).toNatClampNeg)) rfl rfl (mP_o (mP_mv p F1)) (Nat.le_of_ble_eq_true rfl) rfl (fun v h2 q => ?_)
  obtain ⟨m2, p2, r2, a2⟩ := q
  have nn := yi_n (xc_tank (s := s) (G.2.2.2.2.2 (nI i + 1).toNatClampNeg) (G.2.2.2.2.2 (nI i + 2).toNatClampNeg) _ rfl)
  obtain ⟨y, rfl, tk, ky⟩ := lw_eq ne_as nn a1 a2
  have J2 := lw_next he P1 p2 r2 (kv_tank hi (by omega) (G.2.2.2.2.2 (nI i + 1).toNatClampNeg) (G.2.2.2.2.2 (nI i + 2).toNatClampNeg)) (iy_tank hy (G.2.2.2.2.2 (nI i + 1).toNatClampNeg) (G.2.2.2.2.2 (nI i + 2).toNatClampNeg)) o1
  have o2 : lw_O h2 f1 := (p2.2.2.2 65 (Or.inr (Nat.le_refl 65))).trans o1
  refine ex_istore dL_law_1763 (Nat.le_of_ble_eq_true rfl) ?_
  refine ex_aload_n dL_law_1765 rfl ?_
  refine cV_f dL_law_1766 (mm_kv i_X9_thrown l_L_114) ⟨(Nat.le_of_ble_eq_true rfl), (Nat.le_of_ble_eq_true rfl)⟩ (c_X9_thrown p2) rfl rfl (mP_o p2) (Nat.le_of_ble_eq_true rfl) rfl ?_
  refine ex_iload dL_law_1769 rfl ?_
  refine ex_icmp_eq (tgt := 1776) dL_law_1771 (by decide) (fun _ => ?_) (fun z => absurd tk z)
  refine ex_iload dL_law_1776 rfl ?_
  refine ex_if_ne (tgt := 1793) dL_law_1778 (by decide) (fun _ => ?_) (fun kz => ?_)
  · refine ex_goto (tgt := 2178) dL_law_1793 (by decide) ?_
    exact K _ _ _ J2
  obtain ⟨ky1, ky2⟩ := ky kz
  refine ex_aload_n dL_law_1781 rfl ?_
  refine ex_iconst (v := 0) dL_law_1782 (by decide) ?_
  refine ex_laload dL_law_1783 o2 (show vp_in (0 : Int32) 1 by unfold vp_in; decide) ?_
  refine ex_iload dL_law_1784 rfl ?_
  refine ex_i2l dL_law_1786 ?_
  refine ex_lcmp dL_law_1787 ?_
  refine ex_if_eq (tgt := 1793) dL_law_1788 (by decide) (fun _ => ?_) (fun z => absurd (lg_c0 (lw_f0 ky2)) z)
  refine ex_goto (tgt := 2178) dL_law_1793 (by decide) ?_
  exact K _ _ _ J2
theorem lw_k26 (hb : b = G.2.2.2.1) (hl : l.stackTraces = false) (v1 : vp_in (nI i + 1) G.2.2.2.2.1) (v2 : vp_in (nI i + 2) G.2.2.2.2.1) (v3 : vp_in (nI i + 3) G.2.2.2.2.1) (hn : n ≤ 511) (hJ : lw_J n h) (K : ∀ (x5 x6 : Value) (h' : mm_H), lw_J (n + 1) h' → mm_Ex l G mm_law Q 2178 [.retAddr b, .ref 0, .ref 29, .ref 65, .int (nI i), x5, x6] [] h') (x5 x6 : Value) : mm_Ex l G mm_law Q 1796 [.retAddr b, .ref 0, .ref 29, .ref 65, .int (nI i), x5, x6] [] h := by
  obtain ⟨s, m, f, e, he, P, p, r, hi, hy, O⟩ := hJ
  refine ex_aload_n dL_law_1796 rfl ?_
  refine ex_aload_x dL_law_1797 rfl ?_
  refine ex_iload dL_law_1798 rfl ?_
  refine ex_iconst (v := 1) dL_law_1800 (by decide) ?_
  refine ex_iadd dL_law_1801 ?_
  refine ex_xload dL_law_1802 (by decide) hb v1 ?_
  refine ex_aload_n dL_law_1803 rfl ?_
  refine ex_callSX dL_law_1804 (mm_ksw i_L_line l_L_203) ⟨(Nat.le_of_ble_eq_true rfl), (Nat.le_of_ble_eq_true rfl)⟩ rfl (Nat.le_of_ble_eq_true rfl) rfl (c_L_line P O (G.2.2.2.2.2 (nI i + 1).toNatClampNeg) (k8_line hl P hi (by omega) (G.2.2.2.2.2 (nI i + 1).toNatClampNeg)) (xc_line (G.2.2.2.2.2 (nI i + 1).toNatClampNeg))) rfl (fun ov h1 q => ?_) (fun E h1 q => by obtain ⟨k, f1, z, -⟩ := q; cases z)
  obtain ⟨k, f1, z, a1, o1, P1, F1⟩ := q
  obtain rfl : ov = some (.int k) := by cases z; rfl
  clear z
  refine ex_istore dL_law_1807 (Nat.le_of_ble_eq_true rfl) ?_
  refine ex_aload_n dL_law_1809 rfl ?_
  refine ex_aload_x dL_law_1810 rfl ?_
  refine ex_iload dL_law_1811 rfl ?_
  refine ex_iconst (v := 1) dL_law_1813 (by decide) ?_
  refine ex_iadd dL_law_1814 ?_
  refine ex_xload dL_law_1815 (by decide) hb v1 ?_
  refine cV_x dL_law_1816 (mm_kv i_X9_line l_L_205) ⟨(Nat.le_of_ble_eq_true rfl), (Nat.le_of_ble_eq_true rfl)⟩ (k9_line (mP_mv p F1) r hi (by omega) hy (G.2.2.2.2.2 (nI i + 1).toNatClampNeg)) rfl rfl (mP_o (mP_mv p F1)) (Nat.le_of_ble_eq_true rfl) rfl (fun v h2 q => ?_)
  obtain ⟨m2, p2, r2, a2⟩ := q
  have nn := yi_n (xc_line (s := s) (G.2.2.2.2.2 (nI i + 1).toNatClampNeg) _ rfl)
  obtain ⟨y, rfl, tk, ky⟩ := lw_eq ne_as nn a1 a2
  have J2 := lw_next he P1 p2 r2 (kv_line hi (by omega) (G.2.2.2.2.2 (nI i + 1).toNatClampNeg)) (iy_line hy (G.2.2.2.2.2 (nI i + 1).toNatClampNeg)) o1
  have o2 : lw_O h2 f1 := (p2.2.2.2 65 (Or.inr (Nat.le_refl 65))).trans o1
  refine ex_istore dL_law_1819 (Nat.le_of_ble_eq_true rfl) ?_
  refine ex_aload_n dL_law_1821 rfl ?_
  refine cV_f dL_law_1822 (mm_kv i_X9_thrown l_L_114) ⟨(Nat.le_of_ble_eq_true rfl), (Nat.le_of_ble_eq_true rfl)⟩ (c_X9_thrown p2) rfl rfl (mP_o p2) (Nat.le_of_ble_eq_true rfl) rfl ?_
  refine ex_iload dL_law_1825 rfl ?_
  refine ex_icmp_eq (tgt := 1832) dL_law_1827 (by decide) (fun _ => ?_) (fun z => absurd tk z)
  refine ex_iload dL_law_1832 rfl ?_
  refine ex_if_ne (tgt := 1849) dL_law_1834 (by decide) (fun _ => ?_) (fun kz => ?_)
  · refine ex_goto (tgt := 2178) dL_law_1849 (by decide) ?_
    exact K _ _ _ J2
  obtain ⟨ky1, ky2⟩ := ky kz
  refine ex_aload_n dL_law_1837 rfl ?_
  refine ex_iconst (v := 0) dL_law_1838 (by decide) ?_
  refine ex_laload dL_law_1839 o2 (show vp_in (0 : Int32) 1 by unfold vp_in; decide) ?_
  refine ex_iload dL_law_1840 rfl ?_
  refine ex_i2l dL_law_1842 ?_
  refine ex_lcmp dL_law_1843 ?_
  refine ex_if_eq (tgt := 1849) dL_law_1844 (by decide) (fun _ => ?_) (fun z => absurd (lg_c0 (lw_f0 ky2)) z)
  refine ex_goto (tgt := 2178) dL_law_1849 (by decide) ?_
  exact K _ _ _ J2
theorem lw_k27 (hb : b = G.2.2.2.1) (hl : l.stackTraces = false) (v1 : vp_in (nI i + 1) G.2.2.2.2.1) (v2 : vp_in (nI i + 2) G.2.2.2.2.1) (v3 : vp_in (nI i + 3) G.2.2.2.2.1) (hn : n ≤ 511) (hJ : lw_J n h) (K : ∀ (x5 x6 : Value) (h' : mm_H), lw_J (n + 1) h' → mm_Ex l G mm_law Q 2178 [.retAddr b, .ref 0, .ref 29, .ref 65, .int (nI i), x5, x6] [] h') (x5 x6 : Value) : mm_Ex l G mm_law Q 1852 [.retAddr b, .ref 0, .ref 29, .ref 65, .int (nI i), x5, x6] [] h := by
  obtain ⟨s, m, f, e, he, P, p, r, hi, hy, O⟩ := hJ
  refine ex_aload_n dL_law_1852 rfl ?_
  refine ex_aload_x dL_law_1853 rfl ?_
  refine ex_iload dL_law_1854 rfl ?_
  refine ex_iconst (v := 1) dL_law_1856 (by decide) ?_
  refine ex_iadd dL_law_1857 ?_
  refine ex_xload dL_law_1858 (by decide) hb v1 ?_
  refine ex_aload_x dL_law_1859 rfl ?_
  refine ex_iload dL_law_1860 rfl ?_
  refine ex_iconst (v := 2) dL_law_1862 (by decide) ?_
  refine ex_iadd dL_law_1863 ?_
  refine ex_xload dL_law_1864 (by decide) hb v2 ?_
  refine ex_aload_n dL_law_1865 rfl ?_
  refine ex_callSX dL_law_1866 (mm_ksw i_L_thing l_L_206) ⟨(Nat.le_of_ble_eq_true rfl), (Nat.le_of_ble_eq_true rfl)⟩ rfl (Nat.le_of_ble_eq_true rfl) rfl (c_L_thing P O (G.2.2.2.2.2 (nI i + 1).toNatClampNeg) (G.2.2.2.2.2 (nI i + 2).toNatClampNeg) (k8_thing hl P hi (by omega) (G.2.2.2.2.2 (nI i + 1).toNatClampNeg) (G.2.2.2.2.2 (nI i + 2).toNatClampNeg)) (xc_thing (G.2.2.2.2.2 (nI i + 1).toNatClampNeg) (G.2.2.2.2.2 (nI i + 2).toNatClampNeg))) rfl (fun ov h1 q => ?_) (fun E h1 q => by obtain ⟨k, f1, z, -⟩ := q; cases z)
  obtain ⟨k, f1, z, a1, o1, P1, F1⟩ := q
  obtain rfl : ov = some (.int k) := by cases z; rfl
  clear z
  refine ex_istore dL_law_1869 (Nat.le_of_ble_eq_true rfl) ?_
  refine ex_aload_n dL_law_1871 rfl ?_
  refine ex_aload_x dL_law_1872 rfl ?_
  refine ex_iload dL_law_1873 rfl ?_
  refine ex_iconst (v := 1) dL_law_1875 (by decide) ?_
  refine ex_iadd dL_law_1876 ?_
  refine ex_xload dL_law_1877 (by decide) hb v1 ?_
  refine ex_aload_x dL_law_1878 rfl ?_
  refine ex_iload dL_law_1879 rfl ?_
  refine ex_iconst (v := 2) dL_law_1881 (by decide) ?_
  refine ex_iadd dL_law_1882 ?_
  refine ex_xload dL_law_1883 (by decide) hb v2 ?_
  refine cV_x dL_law_1884 (mm_kv i_X9_thing l_L_208) ⟨(Nat.le_of_ble_eq_true rfl), (Nat.le_of_ble_eq_true rfl)⟩ (k9_thing (mP_mv p F1) r hi (by omega) hy (G.2.2.2.2.2 (nI i + 1).toNatClampNeg) (G.2.2.2.2.2 (nI i + 2).toNatClampNeg)) rfl rfl (mP_o (mP_mv p F1)) (Nat.le_of_ble_eq_true rfl) rfl (fun v h2 q => ?_)
  obtain ⟨m2, p2, r2, a2⟩ := q
  have nn := xi_n (xc_thing (s := s) (G.2.2.2.2.2 (nI i + 1).toNatClampNeg) (G.2.2.2.2.2 (nI i + 2).toNatClampNeg) _ rfl)
  obtain ⟨y, rfl, tk, ky⟩ := lw_eq ne_ia nn a1 a2
  have J2 := lw_next he P1 p2 r2 (kv_thing hi (by omega) (G.2.2.2.2.2 (nI i + 1).toNatClampNeg) (G.2.2.2.2.2 (nI i + 2).toNatClampNeg)) (iy_thing hy (G.2.2.2.2.2 (nI i + 1).toNatClampNeg) (G.2.2.2.2.2 (nI i + 2).toNatClampNeg)) o1
  have o2 : lw_O h2 f1 := (p2.2.2.2 65 (Or.inr (Nat.le_refl 65))).trans o1
  refine ex_istore dL_law_1887 (Nat.le_of_ble_eq_true rfl) ?_
  refine ex_aload_n dL_law_1889 rfl ?_
  refine cV_f dL_law_1890 (mm_kv i_X9_thrown l_L_114) ⟨(Nat.le_of_ble_eq_true rfl), (Nat.le_of_ble_eq_true rfl)⟩ (c_X9_thrown p2) rfl rfl (mP_o p2) (Nat.le_of_ble_eq_true rfl) rfl ?_
  refine ex_iload dL_law_1893 rfl ?_
  refine ex_icmp_eq (tgt := 1900) dL_law_1895 (by decide) (fun _ => ?_) (fun z => absurd tk z)
  refine ex_iload dL_law_1900 rfl ?_
  refine ex_if_ne (tgt := 1917) dL_law_1902 (by decide) (fun _ => ?_) (fun kz => ?_)
  · refine ex_goto (tgt := 2178) dL_law_1917 (by decide) ?_
    exact K _ _ _ J2
  obtain ⟨ky1, ky2⟩ := ky kz
  refine ex_aload_n dL_law_1905 rfl ?_
  refine ex_iconst (v := 0) dL_law_1906 (by decide) ?_
  refine ex_laload dL_law_1907 o2 (show vp_in (0 : Int32) 1 by unfold vp_in; decide) ?_
  refine ex_iload dL_law_1908 rfl ?_
  refine ex_i2l dL_law_1910 ?_
  refine ex_lcmp dL_law_1911 ?_
  refine ex_if_eq (tgt := 1917) dL_law_1912 (by decide) (fun _ => ?_) (fun z => absurd (lg_c0 (lw_f0 ky2)) z)
  refine ex_goto (tgt := 2178) dL_law_1917 (by decide) ?_
  exact K _ _ _ J2
end LC
