/-! THE LAW: its cases -/
section LC
variable {l : Launch} {G : mm_G} {Q : mm_R → mm_H → Prop} {b i n : Nat} {h : mm_H}
theorem lw_k28 (hb : b = G.2.2.2.1) (hl : l.stackTraces = false) (v1 : vp_in (nI i + 1) G.2.2.2.2.1) (v2 : vp_in (nI i + 2) G.2.2.2.2.1) (v3 : vp_in (nI i + 3) G.2.2.2.2.1) (hn : n ≤ 511) (hJ : lw_J n h) (K : ∀ (x5 x6 : Value) (h' : mm_H), lw_J (n + 1) h' → mm_Ex l G mm_law Q 2178 [.retAddr b, .ref 0, .ref 29, .ref 65, .int (nI i), x5, x6] [] h') (x5 x6 : Value) : mm_Ex l G mm_law Q 1920 [.retAddr b, .ref 0, .ref 29, .ref 65, .int (nI i), x5, x6] [] h := by
  obtain ⟨s, m, f, e, he, P, p, r, hi, hy, O⟩ := hJ
  refine ex_aload_n dL_law_1920 rfl ?_
  refine ex_aload_x dL_law_1921 rfl ?_
  refine ex_iload dL_law_1922 rfl ?_
  refine ex_iconst (v := 1) dL_law_1924 (by decide) ?_
  refine ex_iadd dL_law_1925 ?_
  refine ex_xload dL_law_1926 (by decide) hb v1 ?_
  refine ex_aload_n dL_law_1927 rfl ?_
  refine ex_callSX dL_law_1928 (mm_ksw i_L_metre l_L_209) ⟨(Nat.le_of_ble_eq_true rfl), (Nat.le_of_ble_eq_true rfl)⟩ rfl (Nat.le_of_ble_eq_true rfl) rfl (c_L_metre P O (G.2.2.2.2.2 (nI i + 1).toNatClampNeg) (k8_metre hl P hi (by omega) (G.2.2.2.2.2 (nI i + 1).toNatClampNeg)) (xc_metre (G.2.2.2.2.2 (nI i + 1).toNatClampNeg))) rfl (fun ov h1 q => ?_) (fun E h1 q => by obtain ⟨k, f1, z, -⟩ := q; cases z)
  obtain ⟨k, f1, z, a1, o1, P1, F1⟩ := q
  obtain rfl : ov = some (.int k) := by cases z; rfl
  clear z
  refine ex_istore dL_law_1931 (Nat.le_of_ble_eq_true rfl) ?_
  refine ex_aload_n dL_law_1933 rfl ?_
  refine ex_aload_x dL_law_1934 rfl ?_
  refine ex_iload dL_law_1935 rfl ?_
  refine ex_iconst (v := 1) dL_law_1937 (by decide) ?_
  refine ex_iadd dL_law_1938 ?_
  refine ex_xload dL_law_1939 (by decide) hb v1 ?_
  refine cV_x dL_law_1940 (mm_kv i_X9_metre l_L_211) ⟨(Nat.le_of_ble_eq_true rfl), (Nat.le_of_ble_eq_true rfl)⟩ (k9_metre (mP_mv p F1) r hi (by omega) hy (G.2.2.2.2.2 (nI i + 1).toNatClampNeg)) rfl rfl (mP_o (mP_mv p F1)) (Nat.le_of_ble_eq_true rfl) rfl (fun v h2 q => ?_)
  obtain ⟨m2, p2, r2, a2⟩ := q
  have nn := yi_n (xc_metre (s := s) (G.2.2.2.2.2 (nI i + 1).toNatClampNeg) _ rfl)
  obtain ⟨y, rfl, tk, ky⟩ := lw_eq ne_is nn a1 a2
  have J2 := lw_next he P1 p2 r2 (kv_metre hi (by omega) (G.2.2.2.2.2 (nI i + 1).toNatClampNeg)) (iy_metre hy (G.2.2.2.2.2 (nI i + 1).toNatClampNeg)) o1
  have o2 : lw_O h2 f1 := (p2.2.2.2 65 (Or.inr (Nat.le_refl 65))).trans o1
  refine ex_istore dL_law_1943 (Nat.le_of_ble_eq_true rfl) ?_
  refine ex_aload_n dL_law_1945 rfl ?_
  refine cV_f dL_law_1946 (mm_kv i_X9_thrown l_L_114) ⟨(Nat.le_of_ble_eq_true rfl), (Nat.le_of_ble_eq_true rfl)⟩ (c_X9_thrown p2) rfl rfl (mP_o p2) (Nat.le_of_ble_eq_true rfl) rfl ?_
  refine ex_iload dL_law_1949 rfl ?_
  refine ex_icmp_eq (tgt := 1956) dL_law_1951 (by decide) (fun _ => ?_) (fun z => absurd tk z)
  refine ex_iload dL_law_1956 rfl ?_
  refine ex_if_ne (tgt := 1973) dL_law_1958 (by decide) (fun _ => ?_) (fun kz => ?_)
  · refine ex_goto (tgt := 2178) dL_law_1973 (by decide) ?_
    exact K _ _ _ J2
  obtain ⟨ky1, ky2⟩ := ky kz
  refine ex_aload_n dL_law_1961 rfl ?_
  refine ex_iconst (v := 0) dL_law_1962 (by decide) ?_
  refine ex_laload dL_law_1963 o2 (show vp_in (0 : Int32) 1 by unfold vp_in; decide) ?_
  refine ex_iload dL_law_1964 rfl ?_
  refine ex_i2l dL_law_1966 ?_
  refine ex_lcmp dL_law_1967 ?_
  refine ex_if_eq (tgt := 1973) dL_law_1968 (by decide) (fun _ => ?_) (fun z => absurd (lg_c0 (lw_f0 ky2)) z)
  refine ex_goto (tgt := 2178) dL_law_1973 (by decide) ?_
  exact K _ _ _ J2
theorem lw_k29 (hb : b = G.2.2.2.1) (hl : l.stackTraces = false) (v1 : vp_in (nI i + 1) G.2.2.2.2.1) (v2 : vp_in (nI i + 2) G.2.2.2.2.1) (v3 : vp_in (nI i + 3) G.2.2.2.2.1) (hn : n ≤ 511) (hJ : lw_J n h) (K : ∀ (x5 x6 : Value) (h' : mm_H), lw_J (n + 1) h' → mm_Ex l G mm_law Q 2178 [.retAddr b, .ref 0, .ref 29, .ref 65, .int (nI i), x5, x6] [] h') (x5 x6 : Value) : mm_Ex l G mm_law Q 1976 [.retAddr b, .ref 0, .ref 29, .ref 65, .int (nI i), x5, x6] [] h := by
  obtain ⟨s, m, f, e, he, P, p, r, hi, hy, O⟩ := hJ
  refine ex_aload_n dL_law_1976 rfl ?_
  refine ex_aload_x dL_law_1977 rfl ?_
  refine ex_iload dL_law_1978 rfl ?_
  refine ex_iconst (v := 1) dL_law_1980 (by decide) ?_
  refine ex_iadd dL_law_1981 ?_
  refine ex_xload dL_law_1982 (by decide) hb v1 ?_
  refine ex_aload_n dL_law_1983 rfl ?_
  refine ex_callSX dL_law_1984 (mm_ksw i_L_metreAnew l_L_212) ⟨(Nat.le_of_ble_eq_true rfl), (Nat.le_of_ble_eq_true rfl)⟩ rfl (Nat.le_of_ble_eq_true rfl) rfl (c_L_metreAnew P O (G.2.2.2.2.2 (nI i + 1).toNatClampNeg) (k8_metreAnew hl P hi (by omega) (G.2.2.2.2.2 (nI i + 1).toNatClampNeg)) (xc_metreAnew (G.2.2.2.2.2 (nI i + 1).toNatClampNeg))) rfl (fun ov h1 q => ?_) (fun E h1 q => by obtain ⟨k, f1, z, -⟩ := q; cases z)
  obtain ⟨k, f1, z, a1, o1, P1, F1⟩ := q
  obtain rfl : ov = some (.int k) := by cases z; rfl
  clear z
  refine ex_istore dL_law_1987 (Nat.le_of_ble_eq_true rfl) ?_
  refine ex_aload_n dL_law_1989 rfl ?_
  refine ex_aload_x dL_law_1990 rfl ?_
  refine ex_iload dL_law_1991 rfl ?_
  refine ex_iconst (v := 1) dL_law_1993 (by decide) ?_
  refine ex_iadd dL_law_1994 ?_
  refine ex_xload dL_law_1995 (by decide) hb v1 ?_
  refine cV_x dL_law_1996 (mm_kv i_X9_metreAnew l_L_214) ⟨(Nat.le_of_ble_eq_true rfl), (Nat.le_of_ble_eq_true rfl)⟩ (k9_metreAnew (mP_mv p F1) r hi (by omega) hy (G.2.2.2.2.2 (nI i + 1).toNatClampNeg)) rfl rfl (mP_o (mP_mv p F1)) (Nat.le_of_ble_eq_true rfl) rfl (fun v h2 q => ?_)
  obtain ⟨m2, p2, r2, a2⟩ := q
  have nn := yi_n (xc_metreAnew (s := s) (G.2.2.2.2.2 (nI i + 1).toNatClampNeg) _ rfl)
  obtain ⟨y, rfl, tk, ky⟩ := lw_eq ne_is nn a1 a2
  have J2 := lw_next he P1 p2 r2 (kv_metreAnew hi (by omega) (G.2.2.2.2.2 (nI i + 1).toNatClampNeg)) (iy_metreAnew hy (G.2.2.2.2.2 (nI i + 1).toNatClampNeg)) o1
  have o2 : lw_O h2 f1 := (p2.2.2.2 65 (Or.inr (Nat.le_refl 65))).trans o1
  refine ex_istore dL_law_1999 (Nat.le_of_ble_eq_true rfl) ?_
  refine ex_aload_n dL_law_2001 rfl ?_
  refine cV_f dL_law_2002 (mm_kv i_X9_thrown l_L_114) ⟨(Nat.le_of_ble_eq_true rfl), (Nat.le_of_ble_eq_true rfl)⟩ (c_X9_thrown p2) rfl rfl (mP_o p2) (Nat.le_of_ble_eq_true rfl) rfl ?_
  refine ex_iload dL_law_2005 rfl ?_
  refine ex_icmp_eq (tgt := 2012) dL_law_2007 (by decide) (fun _ => ?_) (fun z => absurd tk z)
  refine ex_iload dL_law_2012 rfl ?_
  refine ex_if_ne (tgt := 2029) dL_law_2014 (by decide) (fun _ => ?_) (fun kz => ?_)
  · refine ex_goto (tgt := 2178) dL_law_2029 (by decide) ?_
    exact K _ _ _ J2
  obtain ⟨ky1, ky2⟩ := ky kz
  refine ex_aload_n dL_law_2017 rfl ?_
  refine ex_iconst (v := 0) dL_law_2018 (by decide) ?_
  refine ex_laload dL_law_2019 o2 (show vp_in (0 : Int32) 1 by unfold vp_in; decide) ?_
  refine ex_iload dL_law_2020 rfl ?_
  refine ex_i2l dL_law_2022 ?_
  refine ex_lcmp dL_law_2023 ?_
  refine ex_if_eq (tgt := 2029) dL_law_2024 (by decide) (fun _ => ?_) (fun z => absurd (lg_c0 (lw_f0 ky2)) z)
  refine ex_goto (tgt := 2178) dL_law_2029 (by decide) ?_
  exact K _ _ _ J2
theorem lw_k30 (hb : b = G.2.2.2.1) (hl : l.stackTraces = false) (v1 : vp_in (nI i + 1) G.2.2.2.2.1) (v2 : vp_in (nI i + 2) G.2.2.2.2.1) (v3 : vp_in (nI i + 3) G.2.2.2.2.1) (hn : n ≤ 511) (hJ : lw_J n h) (K : ∀ (x5 x6 : Value) (h' : mm_H), lw_J (n + 1) h' → mm_Ex l G mm_law Q 2178 [.retAddr b, .ref 0, .ref 29, .ref 65, .int (nI i), x5, x6] [] h') (x5 x6 : Value) : mm_Ex l G mm_law Q 2032 [.retAddr b, .ref 0, .ref 29, .ref 65, .int (nI i), x5, x6] [] h := by
  obtain ⟨s, m, f, e, he, P, p, r, hi, hy, O⟩ := hJ
  refine ex_aload_n dL_law_2032 rfl ?_
  refine cV_f dL_law_2033 (mm_kv i_X8_margin l_L_215) ⟨(Nat.le_of_ble_eq_true rfl), (Nat.le_of_ble_eq_true rfl)⟩ (c_X8_margin P) rfl rfl (cP_ow P) (Nat.le_of_ble_eq_true rfl) rfl ?_
  refine ex_aload_n dL_law_2036 rfl ?_
  have hW : ln_W (s.1 2) := by
    obtain ⟨k, kp, lo, wa, mk, c, hx⟩ := hi
    exact hx.W (by omega)
  refine cV_x dL_law_2037 (mm_kv i_X9_margin l_L_218) ⟨(Nat.le_of_ble_eq_true rfl), (Nat.le_of_ble_eq_true rfl)⟩ (c_X9_margin p r hW) rfl rfl (mP_o p) (Nat.le_of_ble_eq_true rfl) rfl (fun v h2 q => ?_)
  obtain ⟨m2, p2, r2, rfl⟩ := q
  have J2 := lw_next (x := (.inl none, s)) he P p2 r2 hi.up hy O
  refine ex_icmp_eq (tgt := 2178) dL_law_2040 (by decide) (fun _ => ?_) (fun z => absurd rfl z)
  exact K _ _ _ J2
theorem lw_k31 (hb : b = G.2.2.2.1) (hl : l.stackTraces = false) (v1 : vp_in (nI i + 1) G.2.2.2.2.1) (v2 : vp_in (nI i + 2) G.2.2.2.2.1) (v3 : vp_in (nI i + 3) G.2.2.2.2.1) (hn : n ≤ 511) (hJ : lw_J n h) (K : ∀ (x5 x6 : Value) (h' : mm_H), lw_J (n + 1) h' → mm_Ex l G mm_law Q 2178 [.retAddr b, .ref 0, .ref 29, .ref 65, .int (nI i), x5, x6] [] h') (x5 x6 : Value) : mm_Ex l G mm_law Q 2045 [.retAddr b, .ref 0, .ref 29, .ref 65, .int (nI i), x5, x6] [] h := by
  obtain ⟨s, m, f, e, he, P, p, r, hi, hy, O⟩ := hJ
  refine ex_aload_n dL_law_2045 rfl ?_
  refine cV_f dL_law_2046 (mm_kv i_X8_earth l_L_219) ⟨(Nat.le_of_ble_eq_true rfl), (Nat.le_of_ble_eq_true rfl)⟩ (c_X8_earth P) rfl rfl (cP_ow P) (Nat.le_of_ble_eq_true rfl) rfl ?_
  refine ex_aload_n dL_law_2049 rfl ?_
  refine cV_x dL_law_2050 (mm_kv i_X9_earth l_L_222) ⟨(Nat.le_of_ble_eq_true rfl), (Nat.le_of_ble_eq_true rfl)⟩ (c_X9_earth p r hi (by omega)) rfl rfl (mP_o p) (Nat.le_of_ble_eq_true rfl) rfl (fun v h2 q => ?_)
  obtain ⟨m2, p2, r2, rfl⟩ := q
  have J2 := lw_next (x := (.inl none, s)) he P p2 r2 hi.up hy O
  refine ex_icmp_eq (tgt := 2178) dL_law_2053 (by decide) (fun _ => ?_) (fun z => absurd rfl z)
  exact K _ _ _ J2
theorem lw_k32 (hb : b = G.2.2.2.1) (hl : l.stackTraces = false) (v1 : vp_in (nI i + 1) G.2.2.2.2.1) (v2 : vp_in (nI i + 2) G.2.2.2.2.1) (v3 : vp_in (nI i + 3) G.2.2.2.2.1) (hn : n ≤ 511) (hJ : lw_J n h) (K : ∀ (x5 x6 : Value) (h' : mm_H), lw_J (n + 1) h' → mm_Ex l G mm_law Q 2178 [.retAddr b, .ref 0, .ref 29, .ref 65, .int (nI i), x5, x6] [] h') (x5 x6 : Value) : mm_Ex l G mm_law Q 2058 [.retAddr b, .ref 0, .ref 29, .ref 65, .int (nI i), x5, x6] [] h := by
  obtain ⟨s, m, f, e, he, P, p, r, hi, hy, O⟩ := hJ
  refine ex_aload_n dL_law_2058 rfl ?_
  refine cV_f dL_law_2059 (mm_kv i_X8_isFed l_L_223) ⟨(Nat.le_of_ble_eq_true rfl), (Nat.le_of_ble_eq_true rfl)⟩ (c_X8_isFed P) rfl rfl (cP_ow P) (Nat.le_of_ble_eq_true rfl) rfl ?_
  refine ex_aload_n dL_law_2062 rfl ?_
  refine cV_x dL_law_2063 (mm_kv i_X9_isFed l_L_226) ⟨(Nat.le_of_ble_eq_true rfl), (Nat.le_of_ble_eq_true rfl)⟩ (c_X9_isFed p r hi (by omega)) rfl rfl (mP_o p) (Nat.le_of_ble_eq_true rfl) rfl (fun v h2 q => ?_)
  obtain ⟨m2, p2, r2, rfl⟩ := q
  have J2 := lw_next (x := (.inl none, s)) he P p2 r2 hi.up hy O
  refine ex_icmp_eq (tgt := 2178) dL_law_2066 (by decide) (fun _ => ?_) (fun z => absurd rfl z)
  exact K _ _ _ J2
theorem lw_k33 (hb : b = G.2.2.2.1) (hl : l.stackTraces = false) (v1 : vp_in (nI i + 1) G.2.2.2.2.1) (v2 : vp_in (nI i + 2) G.2.2.2.2.1) (v3 : vp_in (nI i + 3) G.2.2.2.2.1) (hn : n ≤ 511) (hJ : lw_J n h) (K : ∀ (x5 x6 : Value) (h' : mm_H), lw_J (n + 1) h' → mm_Ex l G mm_law Q 2178 [.retAddr b, .ref 0, .ref 29, .ref 65, .int (nI i), x5, x6] [] h') (x5 x6 : Value) : mm_Ex l G mm_law Q 2071 [.retAddr b, .ref 0, .ref 29, .ref 65, .int (nI i), x5, x6] [] h := by
  obtain ⟨s, m, f, e, he, P, p, r, hi, hy, O⟩ := hJ
  refine ex_aload_n dL_law_2071 rfl ?_
  refine cV_f dL_law_2072 (mm_kv i_X8_works l_L_227) ⟨(Nat.le_of_ble_eq_true rfl), (Nat.le_of_ble_eq_true rfl)⟩ (c_X8_works P) rfl rfl (cP_ow P) (Nat.le_of_ble_eq_true rfl) rfl ?_
  refine ex_aload_n dL_law_2075 rfl ?_
  refine cV_x dL_law_2076 (mm_kv i_X9_works l_L_230) ⟨(Nat.le_of_ble_eq_true rfl), (Nat.le_of_ble_eq_true rfl)⟩ (c_X9_works p r hi (by omega)) rfl rfl (mP_o p) (Nat.le_of_ble_eq_true rfl) rfl (fun v h2 q => ?_)
  obtain ⟨m2, p2, r2, rfl⟩ := q
  have J2 := lw_next (x := (.inl none, s)) he P p2 r2 hi.up hy O
  refine ex_icmp_eq (tgt := 2178) dL_law_2079 (by decide) (fun _ => ?_) (fun z => absurd rfl z)
  exact K _ _ _ J2
theorem lw_k34 (hb : b = G.2.2.2.1) (hl : l.stackTraces = false) (v1 : vp_in (nI i + 1) G.2.2.2.2.1) (v2 : vp_in (nI i + 2) G.2.2.2.2.1) (v3 : vp_in (nI i + 3) G.2.2.2.2.1) (hn : n ≤ 511) (hJ : lw_J n h) (K : ∀ (x5 x6 : Value) (h' : mm_H), lw_J (n + 1) h' → mm_Ex l G mm_law Q 2178 [.retAddr b, .ref 0, .ref 29, .ref 65, .int (nI i), x5, x6] [] h') (x5 x6 : Value) : mm_Ex l G mm_law Q 2084 [.retAddr b, .ref 0, .ref 29, .ref 65, .int (nI i), x5, x6] [] h := by
  obtain ⟨s, m, f, e, he, P, p, r, hi, hy, O⟩ := hJ
  refine ex_aload_n dL_law_2084 rfl ?_
  refine ex_aload_x dL_law_2085 rfl ?_
  refine ex_iload dL_law_2086 rfl ?_
  refine ex_iconst (v := 1) dL_law_2088 (by decide) ?_
  refine ex_iadd dL_law_2089 ?_
  refine ex_xload dL_law_2090 (by decide) hb v1 ?_
  refine ex_aload_x dL_law_2091 rfl ?_
  refine ex_iload dL_law_2092 rfl ?_
  refine ex_iconst (v := 2) dL_law_2094 (by decide) ?_
  refine ex_iadd dL_law_2095 ?_
  refine ex_xload dL_law_2096 (by decide) hb v2 ?_
  refine ex_aload_n dL_law_2097 rfl ?_
  refine ex_callSX dL_law_2098 (mm_ksw i_L_ofFault l_L_231) ⟨(Nat.le_of_ble_eq_true rfl), (Nat.le_of_ble_eq_true rfl)⟩ rfl (Nat.le_of_ble_eq_true rfl) rfl (c_L_ofFault P O (G.2.2.2.2.2 (nI i + 1).toNatClampNeg) (G.2.2.2.2.2 (nI i + 2).toNatClampNeg) (k8_ofFault hl P hi (by omega) (G.2.2.2.2.2 (nI i + 1).toNatClampNeg) (G.2.2.2.2.2 (nI i + 2).toNatClampNeg)) (xc_ofFault (G.2.2.2.2.2 (nI i + 1).toNatClampNeg) (G.2.2.2.2.2 (nI i + 2).toNatClampNeg))) rfl (fun ov h1 q => ?_) (fun E h1 q => by obtain ⟨k, f1, z, -⟩ := q; cases z)
  obtain ⟨k, f1, z, a1, o1, P1, F1⟩ := q
  obtain rfl : ov = some (.int k) := by cases z; rfl
  clear z
  refine ex_istore dL_law_2101 (Nat.le_of_ble_eq_true rfl) ?_
  refine ex_aload_n dL_law_2103 rfl ?_
  refine ex_aload_x dL_law_2104 rfl ?_
  refine ex_iload dL_law_2105 rfl ?_
  refine ex_iconst (v := 1) dL_law_2107 (by decide) ?_
  refine ex_iadd dL_law_2108 ?_
  refine ex_xload dL_law_2109 (by decide) hb v1 ?_
  refine ex_aload_x dL_law_2110 rfl ?_
  refine ex_iload dL_law_2111 rfl ?_
  refine ex_iconst (v := 2) dL_law_2113 (by decide) ?_
  refine ex_iadd dL_law_2114 ?_
  refine ex_xload dL_law_2115 (by decide) hb v2 ?_
  refine cV_x dL_law_2116 (mm_kv i_X9_ofFault l_L_233) ⟨(Nat.le_of_ble_eq_true rfl), (Nat.le_of_ble_eq_true rfl)⟩ (k9_ofFault (mP_mv p F1) r hi (by omega) hy (G.2.2.2.2.2 (nI i + 1).toNatClampNeg) (G.2.2.2.2.2 (nI i + 2).toNatClampNeg)) rfl rfl (mP_o (mP_mv p F1)) (Nat.le_of_ble_eq_true rfl) rfl (fun v h2 q => ?_)
  obtain ⟨m2, p2, r2, a2⟩ := q
  have nn := xi_n (xc_ofFault (s := s) (G.2.2.2.2.2 (nI i + 1).toNatClampNeg) (G.2.2.2.2.2 (nI i + 2).toNatClampNeg) _ rfl)
  obtain ⟨y, rfl, tk, ky⟩ := lw_eq ne_ia nn a1 a2
  have J2 := lw_next he P1 p2 r2 (kv_ofFault hi (by omega) (G.2.2.2.2.2 (nI i + 1).toNatClampNeg) (G.2.2.2.2.2 (nI i + 2).toNatClampNeg)) (iy_ofFault hy (G.2.2.2.2.2 (nI i + 1).toNatClampNeg) (G.2.2.2.2.2 (nI i + 2).toNatClampNeg)) o1
  have o2 : lw_O h2 f1 := (p2.2.2.2 65 (Or.inr (Nat.le_refl 65))).trans o1
  refine ex_istore dL_law_2119 (Nat.le_of_ble_eq_true rfl) ?_
  refine ex_aload_n dL_law_2121 rfl ?_
  refine cV_f dL_law_2122 (mm_kv i_X9_thrown l_L_114) ⟨(Nat.le_of_ble_eq_true rfl), (Nat.le_of_ble_eq_true rfl)⟩ (c_X9_thrown p2) rfl rfl (mP_o p2) (Nat.le_of_ble_eq_true rfl) rfl ?_
  refine ex_iload dL_law_2125 rfl ?_
  refine ex_icmp_eq (tgt := 2132) dL_law_2127 (by decide) (fun _ => ?_) (fun z => absurd tk z)
  refine ex_iload dL_law_2132 rfl ?_
  refine ex_if_ne (tgt := 2149) dL_law_2134 (by decide) (fun _ => ?_) (fun kz => ?_)
  · refine ex_goto (tgt := 2178) dL_law_2149 (by decide) ?_
    exact K _ _ _ J2
  obtain ⟨ky1, ky2⟩ := ky kz
  refine ex_aload_n dL_law_2137 rfl ?_
  refine ex_iconst (v := 0) dL_law_2138 (by decide) ?_
  refine ex_laload dL_law_2139 o2 (show vp_in (0 : Int32) 1 by unfold vp_in; decide) ?_
  refine ex_iload dL_law_2140 rfl ?_
  refine ex_i2l dL_law_2142 ?_
  refine ex_lcmp dL_law_2143 ?_
  refine ex_if_eq (tgt := 2149) dL_law_2144 (by decide) (fun _ => ?_) (fun z => absurd (lg_c0 (lw_f0 ky2)) z)
  refine ex_goto (tgt := 2178) dL_law_2149 (by decide) ?_
  exact K _ _ _ J2
theorem lw_k35 (hb : b = G.2.2.2.1) (hl : l.stackTraces = false) (v1 : vp_in (nI i + 1) G.2.2.2.2.1) (v2 : vp_in (nI i + 2) G.2.2.2.2.1) (v3 : vp_in (nI i + 3) G.2.2.2.2.1) (hn : n ≤ 511) (hJ : lw_J n h) (K : ∀ (x5 x6 : Value) (h' : mm_H), lw_J (n + 1) h' → mm_Ex l G mm_law Q 2178 [.retAddr b, .ref 0, .ref 29, .ref 65, .int (nI i), x5, x6] [] h') (x5 x6 : Value) : mm_Ex l G mm_law Q 2152 [.retAddr b, .ref 0, .ref 29, .ref 65, .int (nI i), x5, x6] [] h := by
  obtain ⟨s, m, f, e, he, P, p, r, hi, hy, O⟩ := hJ
  refine ex_aload_n dL_law_2152 rfl ?_
  refine cV_f dL_law_2153 (mm_kv i_X8_faults l_L_234) ⟨(Nat.le_of_ble_eq_true rfl), (Nat.le_of_ble_eq_true rfl)⟩ (c_X8_faults P) rfl rfl (cP_ow P) (Nat.le_of_ble_eq_true rfl) rfl ?_
  refine ex_aload_n dL_law_2156 rfl ?_
  refine cV_x dL_law_2157 (mm_kv i_X9_faults l_L_237) ⟨(Nat.le_of_ble_eq_true rfl), (Nat.le_of_ble_eq_true rfl)⟩ (c_X9_faults p r) rfl rfl (mP_o p) (Nat.le_of_ble_eq_true rfl) rfl (fun v h2 q => ?_)
  obtain ⟨m2, p2, r2, rfl⟩ := q
  have J2 := lw_next (x := (.inl none, s)) he P p2 r2 hi.up hy O
  refine ex_icmp_eq (tgt := 2178) dL_law_2160 (by decide) (fun _ => ?_) (fun z => absurd rfl z)
  exact K _ _ _ J2
theorem lw_k36 (hb : b = G.2.2.2.1) (hl : l.stackTraces = false) (v1 : vp_in (nI i + 1) G.2.2.2.2.1) (v2 : vp_in (nI i + 2) G.2.2.2.2.1) (v3 : vp_in (nI i + 3) G.2.2.2.2.1) (hn : n ≤ 511) (hJ : lw_J n h) (K : ∀ (x5 x6 : Value) (h' : mm_H), lw_J (n + 1) h' → mm_Ex l G mm_law Q 2178 [.retAddr b, .ref 0, .ref 29, .ref 65, .int (nI i), x5, x6] [] h') (x5 x6 : Value) : mm_Ex l G mm_law Q 2165 [.retAddr b, .ref 0, .ref 29, .ref 65, .int (nI i), x5, x6] [] h := by
  obtain ⟨s, m, f, e, he, P, p, r, hi, hy, O⟩ := hJ
  refine ex_aload_n dL_law_2165 rfl ?_
  refine cV_f dL_law_2166 (mm_kv i_X8_isKept l_L_238) ⟨(Nat.le_of_ble_eq_true rfl), (Nat.le_of_ble_eq_true rfl)⟩ (c_X8_isKept P) rfl rfl (cP_ow P) (Nat.le_of_ble_eq_true rfl) rfl ?_
  refine ex_aload_n dL_law_2169 rfl ?_
  refine cV_x dL_law_2170 (mm_kv i_X9_isKept l_L_241) ⟨(Nat.le_of_ble_eq_true rfl), (Nat.le_of_ble_eq_true rfl)⟩ (c_X9_isKept p r hi (by omega)) rfl rfl (mP_o p) (Nat.le_of_ble_eq_true rfl) rfl (fun v h2 q => ?_)
  obtain ⟨m2, p2, r2, rfl⟩ := q
  have J2 := lw_next (x := (.inl none, s)) he P p2 r2 hi.up hy O
  refine ex_icmp_eq (tgt := 2178) dL_law_2173 (by decide) (fun _ => ?_) (fun z => absurd rfl z)
  exact K _ _ _ J2
end LC
