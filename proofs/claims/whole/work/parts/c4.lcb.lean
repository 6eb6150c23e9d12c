/-! THE LAW: its cases -/
section LC
variable {l : Launch} {G : mm_G} {Q : mm_R → mm_H → Prop} {b i n : Nat} {h : mm_H}
theorem lw_k10 (hb : b = G.2.2.2.1) (hl : l.stackTraces = false) (v1 : vp_in (nI i + 1) G.2.2.2.2.1) (v2 : vp_in (nI i + 2) G.2.2.2.2.1) (v3 : vp_in (nI i + 3) G.2.2.2.2.1) (hn : n ≤ 511) (hJ : lw_J n h) (K : ∀ (x5 x6 : Value) (h' : mm_H), lw_J (n + 1) h' → mm_Ex l G mm_law Q 2178 [.retAddr b, .ref 0, .ref 29, .ref 65, .int (nI i), x5, x6] [] h') (x5 x6 : Value) : mm_Ex l G mm_law Q 859 [.retAddr b, .ref 0, .ref 29, .ref 65, .int (nI i), x5, x6] [] h := by
  obtain ⟨s, m, f, e, he, P, p, r, hi, hy, O⟩ := hJ
  refine ex_aload_n dL_law_859 rfl ?_
  refine ex_aload_x dL_law_860 rfl ?_
  refine ex_iload dL_law_861 rfl ?_
  refine ex_iconst (v := 1) dL_law_863 (by decide) ?_
  refine ex_iadd dL_law_864 ?_
  refine ex_xload dL_law_865 (by decide) hb v1 ?_
  refine ex_aload_x dL_law_866 rfl ?_
  refine ex_iload dL_law_867 rfl ?_
  refine ex_iconst (v := 2) dL_law_869 (by decide) ?_
  refine ex_iadd dL_law_870 ?_
  refine ex_xload dL_law_871 (by decide) hb v2 ?_
  refine ex_aload_n dL_law_872 rfl ?_
  refine ex_callSX dL_law_873 (mm_ksw i_L_fault l_L_149) ⟨(Nat.le_of_ble_eq_true rfl), (Nat.le_of_ble_eq_true rfl)⟩ rfl (Nat.le_of_ble_eq_true rfl) rfl (c_L_fault P O (G.2.2.2.2.2 (nI i + 1).toNatClampNeg) (G.2.2.2.2.2 (nI i + 2).toNatClampNeg) (k8_fault hl P hi (by omega) (G.2.2.2.2.2 (nI i + 1).toNatClampNeg) (G.2.2.2.2.2 (nI i + 2).toNatClampNeg)) (xc_fault (G.2.2.2.2.2 (nI i + 1).toNatClampNeg) (G.2.2.2.2.2 (nI i + 2).toNatClampNeg))) rfl (fun ov h1 q => ?_) (fun E h1 q => by obtain ⟨k, f1, z, -⟩ := q; cases z)
  obtain ⟨k, f1, z, a1, o1, P1, F1⟩ := q
  obtain rfl : ov = some (.int k) := by cases z; rfl
  clear z
  refine ex_istore dL_law_876 (Nat.le_of_ble_eq_true rfl) ?_
  refine ex_aload_n dL_law_878 rfl ?_
  refine ex_aload_x dL_law_879 rfl ?_
  refine ex_iload dL_law_880 rfl ?_
  refine ex_iconst (v := 1) dL_law_882 (by decide) ?_
  refine ex_iadd dL_law_883 ?_
  refine ex_xload dL_law_884 (by decide) hb v1 ?_
  refine ex_aload_x dL_law_885 rfl ?_
  refine ex_iload dL_law_886 rfl ?_
  refine ex_iconst (v := 2) dL_law_888 (by decide) ?_
  refine ex_iadd dL_law_889 ?_
  refine ex_xload dL_law_890 (by decide) hb v2 ?_
  refine cV_x dL_law_891 (mm_kv i_X9_fault l_L_151) ⟨(Nat.le_of_ble_eq_true rfl), (Nat.le_of_ble_eq_true rfl)⟩ (k9_fault (mP_mv p F1) r hi (by omega) hy (G.2.2.2.2.2 (nI i + 1).toNatClampNeg) (G.2.2.2.2.2 (nI i + 2).toNatClampNeg)) rfl rfl (mP_o (mP_mv p F1)) (Nat.le_of_ble_eq_true rfl) rfl (fun v h2 q => ?_)
  obtain ⟨m2, p2, r2, a2⟩ := q
  have nn := xi_n (xc_fault (s := s) (G.2.2.2.2.2 (nI i + 1).toNatClampNeg) (G.2.2.2.2.2 (nI i + 2).toNatClampNeg) _ rfl)
  obtain ⟨y, rfl, tk, ky⟩ := lw_eq ne_as nn a1 a2
  have J2 := lw_next he P1 p2 r2 (kv_fault hi (by omega) (G.2.2.2.2.2 (nI i + 1).toNatClampNeg) (G.2.2.2.2.2 (nI i + 2).toNatClampNeg)) (iy_fault hy (G.2.2.2.2.2 (nI i + 1).toNatClampNeg) (G.2.2.2.2.2 (nI i + 2).toNatClampNeg)) o1
  have o2 : lw_O h2 f1 := (p2.2.2.2 65 (Or.inr (Nat.le_refl 65))).trans o1
  refine ex_istore dL_law_894 (Nat.le_of_ble_eq_true rfl) ?_
  refine ex_aload_n dL_law_896 rfl ?_
  refine cV_f dL_law_897 (mm_kv i_X9_thrown l_L_114) ⟨(Nat.le_of_ble_eq_true rfl), (Nat.le_of_ble_eq_true rfl)⟩ (c_X9_thrown p2) rfl rfl (mP_o p2) (Nat.le_of_ble_eq_true rfl) rfl ?_
  refine ex_iload dL_law_900 rfl ?_
  refine ex_icmp_eq (tgt := 907) dL_law_902 (by decide) (fun _ => ?_) (fun z => absurd tk z)
  refine ex_iload dL_law_907 rfl ?_
  refine ex_if_ne (tgt := 924) dL_law_909 (by decide) (fun _ => ?_) (fun kz => ?_)
  · refine ex_goto (tgt := 2178) dL_law_924 (by decide) ?_
    exact K _ _ _ J2
  obtain ⟨ky1, ky2⟩ := ky kz
  refine ex_aload_n dL_law_912 rfl ?_
  refine ex_iconst (v := 0) dL_law_913 (by decide) ?_
  refine ex_laload dL_law_914 o2 (show vp_in (0 : Int32) 1 by unfold vp_in; decide) ?_
  refine ex_iload dL_law_915 rfl ?_
  refine ex_i2l dL_law_917 ?_
  refine ex_lcmp dL_law_918 ?_
  refine ex_if_eq (tgt := 924) dL_law_919 (by decide) (fun _ => ?_) (fun z => absurd (lg_c0 (lw_f0 ky2)) z)
  refine ex_goto (tgt := 2178) dL_law_924 (by decide) ?_
  exact K _ _ _ J2
theorem lw_k11 (hb : b = G.2.2.2.1) (hl : l.stackTraces = false) (v1 : vp_in (nI i + 1) G.2.2.2.2.1) (v2 : vp_in (nI i + 2) G.2.2.2.2.1) (v3 : vp_in (nI i + 3) G.2.2.2.2.1) (hn : n ≤ 511) (hJ : lw_J n h) (K : ∀ (x5 x6 : Value) (h' : mm_H), lw_J (n + 1) h' → mm_Ex l G mm_law Q 2178 [.retAddr b, .ref 0, .ref 29, .ref 65, .int (nI i), x5, x6] [] h') (x5 x6 : Value) : mm_Ex l G mm_law Q 927 [.retAddr b, .ref 0, .ref 29, .ref 65, .int (nI i), x5, x6] [] h := by
  obtain ⟨s, m, f, e, he, P, p, r, hi, hy, O⟩ := hJ
  refine ex_aload_n dL_law_927 rfl ?_
  refine ex_aload_x dL_law_928 rfl ?_
  refine ex_iload dL_law_929 rfl ?_
  refine ex_iconst (v := 1) dL_law_931 (by decide) ?_
  refine ex_iadd dL_law_932 ?_
  refine ex_xload dL_law_933 (by decide) hb v1 ?_
  refine ex_aload_n dL_law_934 rfl ?_
  refine ex_callSX dL_law_935 (mm_ksw i_L_net l_L_152) ⟨(Nat.le_of_ble_eq_true rfl), (Nat.le_of_ble_eq_true rfl)⟩ rfl (Nat.le_of_ble_eq_true rfl) rfl (c_L_net P O (G.2.2.2.2.2 (nI i + 1).toNatClampNeg) (k8_net hl P hi (by omega) (G.2.2.2.2.2 (nI i + 1).toNatClampNeg)) (xc_net (G.2.2.2.2.2 (nI i + 1).toNatClampNeg))) rfl (fun ov h1 q => ?_) (fun E h1 q => by obtain ⟨k, f1, z, -⟩ := q; cases z)
  obtain ⟨k, f1, z, a1, o1, P1, F1⟩ := q
  obtain rfl : ov = some (.int k) := by cases z; rfl
  clear z
  refine ex_istore dL_law_938 (Nat.le_of_ble_eq_true rfl) ?_
  refine ex_aload_n dL_law_940 rfl ?_
  refine ex_aload_x dL_law_941 rfl ?_
  refine ex_iload dL_law_942 rfl ?_
  refine ex_iconst (v := 1) dL_law_944 (by decide) ?_
  refine ex_iadd dL_law_945 ?_
  refine ex_xload dL_law_946 (by decide) hb v1 ?_
  refine cV_x dL_law_947 (mm_kv i_X9_net l_L_154) ⟨(Nat.le_of_ble_eq_true rfl), (Nat.le_of_ble_eq_true rfl)⟩ (k9_net (mP_mv p F1) r hi (by omega) hy (G.2.2.2.2.2 (nI i + 1).toNatClampNeg)) rfl rfl (mP_o (mP_mv p F1)) (Nat.le_of_ble_eq_true rfl) rfl (fun v h2 q => ?_)
  obtain ⟨m2, p2, r2, a2⟩ := q
  have nn := xb_n (xc_net (s := s) (G.2.2.2.2.2 (nI i + 1).toNatClampNeg) _ rfl)
  have vv := fun x => xb_v (x := x) (xc_net (s := s) (G.2.2.2.2.2 (nI i + 1).toNatClampNeg) _ rfl)
  obtain ⟨y, rfl, tk, ky⟩ := lw_eq ne_as nn a1 a2
  have J2 := lw_next he P1 p2 r2 (kv_net hi (by omega) (G.2.2.2.2.2 (nI i + 1).toNatClampNeg)) (iy_net hy (G.2.2.2.2.2 (nI i + 1).toNatClampNeg)) o1
  have o2 : lw_O h2 f1 := (p2.2.2.2 65 (Or.inr (Nat.le_refl 65))).trans o1
  refine ex_istore dL_law_950 (Nat.le_of_ble_eq_true rfl) ?_
  refine ex_aload_n dL_law_952 rfl ?_
  refine cV_f dL_law_953 (mm_kv i_X9_thrown l_L_114) ⟨(Nat.le_of_ble_eq_true rfl), (Nat.le_of_ble_eq_true rfl)⟩ (c_X9_thrown p2) rfl rfl (mP_o p2) (Nat.le_of_ble_eq_true rfl) rfl ?_
  refine ex_iload dL_law_956 rfl ?_
  refine ex_icmp_eq (tgt := 963) dL_law_958 (by decide) (fun _ => ?_) (fun z => absurd tk z)
  refine ex_iload dL_law_963 rfl ?_
  refine ex_if_ne (tgt := 987) dL_law_965 (by decide) (fun _ => ?_) (fun kz => ?_)
  · refine ex_goto (tgt := 2178) dL_law_987 (by decide) ?_
    exact K _ _ _ J2
  obtain ⟨ky1, ky2⟩ := ky kz
  rcases vv y ky1 with yv | yv
  · subst yv
    refine ex_aload_n dL_law_968 rfl ?_
    refine ex_iconst (v := 0) dL_law_969 (by decide) ?_
    refine ex_laload dL_law_970 o2 (show vp_in (0 : Int32) 1 by unfold vp_in; decide) ?_
    refine ex_iload dL_law_971 rfl ?_
    refine ex_if_eq (tgt := 980) dL_law_973 (by decide) (fun _ => ?_) (fun z => absurd rfl z)
    refine ex_lconst (v := 0) dL_law_980 (by decide) ?_
    refine ex_lcmp dL_law_981 ?_
    refine ex_if_eq (tgt := 987) dL_law_982 (by decide) (fun _ => ?_) (fun z => absurd (lg_c0 ((lw_f0 ky2).trans (by decide))) z)
    refine ex_goto (tgt := 2178) dL_law_987 (by decide) ?_
    exact K _ _ _ J2
  · subst yv
    refine ex_aload_n dL_law_968 rfl ?_
    refine ex_iconst (v := 0) dL_law_969 (by decide) ?_
    refine ex_laload dL_law_970 o2 (show vp_in (0 : Int32) 1 by unfold vp_in; decide) ?_
    refine ex_iload dL_law_971 rfl ?_
    refine ex_if_eq (tgt := 980) dL_law_973 (by decide) (fun z => absurd z (by decide)) (fun _ => ?_)
    refine ex_lconst (v := 1) dL_law_976 (by decide) ?_
    refine ex_goto (tgt := 981) dL_law_977 (by decide) ?_
    refine ex_lcmp dL_law_981 ?_
    refine ex_if_eq (tgt := 987) dL_law_982 (by decide) (fun _ => ?_) (fun z => absurd (lg_c0 ((lw_f0 ky2).trans (by decide))) z)
    refine ex_goto (tgt := 2178) dL_law_987 (by decide) ?_
    exact K _ _ _ J2
theorem lw_k12 (hb : b = G.2.2.2.1) (hl : l.stackTraces = false) (v1 : vp_in (nI i + 1) G.2.2.2.2.1) (v2 : vp_in (nI i + 2) G.2.2.2.2.1) (v3 : vp_in (nI i + 3) G.2.2.2.2.1) (hn : n ≤ 511) (hJ : lw_J n h) (K : ∀ (x5 x6 : Value) (h' : mm_H), lw_J (n + 1) h' → mm_Ex l G mm_law Q 2178 [.retAddr b, .ref 0, .ref 29, .ref 65, .int (nI i), x5, x6] [] h') (x5 x6 : Value) : mm_Ex l G mm_law Q 990 [.retAddr b, .ref 0, .ref 29, .ref 65, .int (nI i), x5, x6] [] h := by
  obtain ⟨s, m, f, e, he, P, p, r, hi, hy, O⟩ := hJ
  by_cases z0 : G.2.2.2.2.2 (nI i + 1).toNatClampNeg = 0
  · by_cases z1 : G.2.2.2.2.2 (nI i + 2).toNatClampNeg = 0
    · refine ex_aload_n dL_law_990 rfl ?_
      refine ex_aload_x dL_law_991 rfl ?_
      refine ex_iload dL_law_992 rfl ?_
      refine ex_iconst (v := 1) dL_law_994 (by decide) ?_
      refine ex_iadd dL_law_995 ?_
      refine ex_xload dL_law_996 (by decide) hb v1 ?_
      refine ex_if_eq (tgt := 1004) dL_law_997 (by decide) (fun _ => ?_) (fun z => absurd z0 z)
      refine ex_iconst (v := 0) dL_law_1004 (by decide) ?_
      refine ex_aload_x dL_law_1005 rfl ?_
      refine ex_iload dL_law_1006 rfl ?_
      refine ex_iconst (v := 2) dL_law_1008 (by decide) ?_
      refine ex_iadd dL_law_1009 ?_
      refine ex_xload dL_law_1010 (by decide) hb v2 ?_
      refine ex_if_eq (tgt := 1018) dL_law_1011 (by decide) (fun _ => ?_) (fun z => absurd z1 z)
      refine ex_iconst (v := 0) dL_law_1018 (by decide) ?_
      refine ex_aload_x dL_law_1019 rfl ?_
      refine ex_iload dL_law_1020 rfl ?_
      refine ex_iconst (v := 3) dL_law_1022 (by decide) ?_
      refine ex_iadd dL_law_1023 ?_
      refine ex_xload dL_law_1024 (by decide) hb v3 ?_
      refine ex_aload_n dL_law_1025 rfl ?_
      refine ex_callSX dL_law_1026 (mm_ksw i_L_measure l_L_155) ⟨(Nat.le_of_ble_eq_true rfl), (Nat.le_of_ble_eq_true rfl)⟩ rfl (Nat.le_of_ble_eq_true rfl) rfl (c_L_measure P O 0 0 (G.2.2.2.2.2 (nI i + 3).toNatClampNeg) (k8_measure hl P hi (by omega) 0 0 (G.2.2.2.2.2 (nI i + 3).toNatClampNeg)) (xc_measure 0 0 (G.2.2.2.2.2 (nI i + 3).toNatClampNeg))) rfl (fun ov h1 q => ?_) (fun E h1 q => by obtain ⟨k, f1, z, -⟩ := q; cases z)
      obtain ⟨k, f1, z, a1, o1, P1, F1⟩ := q
      obtain rfl : ov = some (.int k) := by cases z; rfl
      clear z
      refine ex_istore dL_law_1029 (Nat.le_of_ble_eq_true rfl) ?_
      refine ex_aload_n dL_law_1031 rfl ?_
      refine ex_aload_x dL_law_1032 rfl ?_
      refine ex_iload dL_law_1033 rfl ?_
      refine ex_iconst (v := 1) dL_law_1035 (by decide) ?_
      refine ex_iadd dL_law_1036 ?_
      refine ex_xload dL_law_1037 (by decide) hb v1 ?_
      refine ex_if_eq (tgt := 1045) dL_law_1038 (by decide) (fun _ => ?_) (fun z => absurd z0 z)
      refine ex_iconst (v := 0) dL_law_1045 (by decide) ?_
      refine ex_aload_x dL_law_1046 rfl ?_
      refine ex_iload dL_law_1047 rfl ?_
      refine ex_iconst (v := 2) dL_law_1049 (by decide) ?_
      refine ex_iadd dL_law_1050 ?_
      refine ex_xload dL_law_1051 (by decide) hb v2 ?_
      refine ex_if_eq (tgt := 1059) dL_law_1052 (by decide) (fun _ => ?_) (fun z => absurd z1 z)
      refine ex_iconst (v := 0) dL_law_1059 (by decide) ?_
      refine ex_aload_x dL_law_1060 rfl ?_
      refine ex_iload dL_law_1061 rfl ?_
      refine ex_iconst (v := 3) dL_law_1063 (by decide) ?_
      refine ex_iadd dL_law_1064 ?_
      refine ex_xload dL_law_1065 (by decide) hb v3 ?_
      refine cV_x dL_law_1066 (mm_kv i_X9_measure l_L_158) ⟨(Nat.le_of_ble_eq_true rfl), (Nat.le_of_ble_eq_true rfl)⟩ (k9_measure (mP_mv p F1) r hi (by omega) hy 0 0 (G.2.2.2.2.2 (nI i + 3).toNatClampNeg) (Or.inl rfl)) rfl rfl (mP_o (mP_mv p F1)) (Nat.le_of_ble_eq_true rfl) rfl (fun v h2 q => ?_)
      obtain ⟨m2, p2, r2, a2⟩ := q
      have nn := xi_n (xc_measure (s := s) 0 0 (G.2.2.2.2.2 (nI i + 3).toNatClampNeg) _ rfl)
      obtain ⟨y, rfl, tk, ky⟩ := lw_eq ne_as nn a1 a2
      have J2 := lw_next he P1 p2 r2 (kv_measure hi (by omega) 0 0 (G.2.2.2.2.2 (nI i + 3).toNatClampNeg)) (iy_measure hy 0 0 (G.2.2.2.2.2 (nI i + 3).toNatClampNeg)) o1
      have o2 : lw_O h2 f1 := (p2.2.2.2 65 (Or.inr (Nat.le_refl 65))).trans o1
      refine ex_istore dL_law_1069 (Nat.le_of_ble_eq_true rfl) ?_
      refine ex_aload_n dL_law_1071 rfl ?_
      refine cV_f dL_law_1072 (mm_kv i_X9_thrown l_L_114) ⟨(Nat.le_of_ble_eq_true rfl), (Nat.le_of_ble_eq_true rfl)⟩ (c_X9_thrown p2) rfl rfl (mP_o p2) (Nat.le_of_ble_eq_true rfl) rfl ?_
      refine ex_iload dL_law_1075 rfl ?_
      refine ex_icmp_eq (tgt := 1082) dL_law_1077 (by decide) (fun _ => ?_) (fun z => absurd tk z)
      refine ex_iload dL_law_1082 rfl ?_
      refine ex_if_ne (tgt := 1099) dL_law_1084 (by decide) (fun _ => ?_) (fun kz => ?_)
      · refine ex_goto (tgt := 2178) dL_law_1099 (by decide) ?_
        exact K _ _ _ J2
      obtain ⟨ky1, ky2⟩ := ky kz
      refine ex_aload_n dL_law_1087 rfl ?_
      refine ex_iconst (v := 0) dL_law_1088 (by decide) ?_
      refine ex_laload dL_law_1089 o2 (show vp_in (0 : Int32) 1 by unfold vp_in; decide) ?_
      refine ex_iload dL_law_1090 rfl ?_
      refine ex_i2l dL_law_1092 ?_
      refine ex_lcmp dL_law_1093 ?_
      refine ex_if_eq (tgt := 1099) dL_law_1094 (by decide) (fun _ => ?_) (fun z => absurd (lg_c0 (lw_f0 ky2)) z)
      refine ex_goto (tgt := 2178) dL_law_1099 (by decide) ?_
      exact K _ _ _ J2
    · refine ex_aload_n dL_law_990 rfl ?_
      refine ex_aload_x dL_law_991 rfl ?_
      refine ex_iload dL_law_992 rfl ?_
      refine ex_iconst (v := 1) dL_law_994 (by decide) ?_
      refine ex_iadd dL_law_995 ?_
      refine ex_xload dL_law_996 (by decide) hb v1 ?_
      refine ex_if_eq (tgt := 1004) dL_law_997 (by decide) (fun _ => ?_) (fun z => absurd z0 z)
      refine ex_iconst (v := 0) dL_law_1004 (by decide) ?_
      refine ex_aload_x dL_law_1005 rfl ?_
      refine ex_iload dL_law_1006 rfl ?_
      refine ex_iconst (v := 2) dL_law_1008 (by decide) ?_
      refine ex_iadd dL_law_1009 ?_
      refine ex_xload dL_law_1010 (by decide) hb v2 ?_
      refine ex_if_eq (tgt := 1018) dL_law_1011 (by decide) (fun z => absurd z z1) (fun _ => ?_)
      refine ex_iconst (v := 1) dL_law_1014 (by decide) ?_
      refine ex_goto (tgt := 1019) dL_law_1015 (by decide) ?_
      refine ex_aload_x dL_law_1019 rfl ?_
      refine ex_iload dL_law_1020 rfl ?_
      refine ex_iconst (v := 3) dL_law_1022 (by decide) ?_
      refine ex_iadd dL_law_1023 ?_
      refine ex_xload dL_law_1024 (by decide) hb v3 ?_
      refine ex_aload_n dL_law_1025 rfl ?_
      refine ex_callSX dL_law_1026 (mm_ksw i_L_measure l_L_155) ⟨(Nat.le_of_ble_eq_true rfl), (Nat.le_of_ble_eq_true rfl)⟩ rfl (Nat.le_of_ble_eq_true rfl) rfl (c_L_measure P O 0 1 (G.2.2.2.2.2 (nI i + 3).toNatClampNeg) (k8_measure hl P hi (by omega) 0 1 (G.2.2.2.2.2 (nI i + 3).toNatClampNeg)) (xc_measure 0 1 (G.2.2.2.2.2 (nI i + 3).toNatClampNeg))) rfl (fun ov h1 q => ?_) (fun E h1 q => by obtain ⟨k, f1, z, -⟩ := q; cases z)
      obtain ⟨k, f1, z, a1, o1, P1, F1⟩ := q
      obtain rfl : ov = some (.int k) := by cases z; rfl
      clear z
      refine ex_istore dL_law_1029 (Nat.le_of_ble_eq_true rfl) ?_
      refine ex_aload_n dL_law_1031 rfl ?_
      refine ex_aload_x dL_law_1032 rfl ?_
      refine ex_iload dL_law_1033 rfl ?_
      refine ex_iconst (v := 1) dL_law_1035 (by decide) ?_
      refine ex_iadd dL_law_1036 ?_
      refine ex_xload dL_law_1037 (by decide) hb v1 ?_
      refine ex_if_eq (tgt := 1045) dL_law_1038 (by decide) (fun _ => ?_) (fun z => absurd z0 z)
      refine ex_iconst (v := 0) dL_law_1045 (by decide) ?_
      refine ex_aload_x dL_law_1046 rfl ?_
      refine ex_iload dL_law_1047 rfl ?_
      refine ex_iconst (v := 2) dL_law_1049 (by decide) ?_
      refine ex_iadd dL_law_1050 ?_
      refine ex_xload dL_law_1051 (by decide) hb v2 ?_
      refine ex_if_eq (tgt := 1059) dL_law_1052 (by decide) (fun z => absurd z z1) (fun _ => ?_)
      refine ex_iconst (v := 1) dL_law_1055 (by decide) ?_
      refine ex_goto (tgt := 1060) dL_law_1056 (by decide) ?_
      refine ex_aload_x dL_law_1060 rfl ?_
      refine ex_iload dL_law_1061 rfl ?_
      refine ex_iconst (v := 3) dL_law_1063 (by decide) ?_
      refine ex_iadd dL_law_1064 ?_
      refine ex_xload dL_law_1065 (by decide) hb v3 ?_
      refine cV_x dL_law_1066 (mm_kv i_X9_measure l_L_158) ⟨(Nat.le_of_ble_eq_true rfl), (Nat.le_of_ble_eq_true rfl)⟩ (k9_measure (mP_mv p F1) r hi (by omega) hy 0 1 (G.2.2.2.2.2 (nI i + 3).toNatClampNeg) (Or.inl rfl)) rfl rfl (mP_o (mP_mv p F1)) (Nat.le_of_ble_eq_true rfl) rfl (fun v h2 q => ?_)
      obtain ⟨m2, p2, r2, a2⟩ := q
      have nn := xi_n (xc_measure (s := s) 0 1 (G.2.2.2.2.2 (nI i + 3).toNatClampNeg) _ rfl)
      obtain ⟨y, rfl, tk, ky⟩ := lw_eq ne_as nn a1 a2
      have J2 := lw_next he P1 p2 r2 (kv_measure hi (by omega) 0 1 (G.2.2.2.2.2 (nI i + 3).toNatClampNeg)) (iy_measure hy 0 1 (G.2.2.2.2.2 (nI i + 3).toNatClampNeg)) o1
      have o2 : lw_O h2 f1 := (p2.2.2.2 65 (Or.inr (Nat.le_refl 65))).trans o1
      refine ex_istore dL_law_1069 (Nat.le_of_ble_eq_true rfl) ?_
      refine ex_aload_n dL_law_1071 rfl ?_
      refine cV_f dL_law_1072 (mm_kv i_X9_thrown l_L_114) ⟨(Nat.le_of_ble_eq_true rfl), (Nat.le_of_ble_eq_true rfl)⟩ (c_X9_thrown p2) rfl rfl (mP_o p2) (Nat.le_of_ble_eq_true rfl) rfl ?_
      refine ex_iload dL_law_1075 rfl ?_
      refine ex_icmp_eq (tgt := 1082) dL_law_1077 (by decide) (fun _ => ?_) (fun z => absurd tk z)
      refine ex_iload dL_law_1082 rfl ?_
      refine ex_if_ne (tgt := 1099) dL_law_1084 (by decide) (fun _ => ?_) (fun kz => ?_)
      · refine ex_goto (tgt := 2178) dL_law_1099 (by decide) ?_
        exact K _ _ _ J2
      obtain ⟨ky1, ky2⟩ := ky kz
      refine ex_aload_n dL_law_1087 rfl ?_
      refine ex_iconst (v := 0) dL_law_1088 (by decide) ?_
      refine ex_laload dL_law_1089 o2 (show vp_in (0 : Int32) 1 by unfold vp_in; decide) ?_
      refine ex_iload dL_law_1090 rfl ?_
      refine ex_i2l dL_law_1092 ?_
      refine ex_lcmp dL_law_1093 ?_
      refine ex_if_eq (tgt := 1099) dL_law_1094 (by decide) (fun _ => ?_) (fun z => absurd (lg_c0 (lw_f0 ky2)) z)
      refine ex_goto (tgt := 2178) dL_law_1099 (by decide) ?_
      exact K _ _ _ J2
  · by_cases z1 : G.2.2.2.2.2 (nI i + 2).toNatClampNeg = 0
    · refine ex_aload_n dL_law_990 rfl ?_
      refine ex_aload_x dL_law_991 rfl ?_
      refine ex_iload dL_law_992 rfl ?_
      refine ex_iconst (v := 1) dL_law_994 (by decide) ?_
      refine ex_iadd dL_law_995 ?_
      refine ex_xload dL_law_996 (by decide) hb v1 ?_
      refine ex_if_eq (tgt := 1004) dL_law_997 (by decide) (fun z => absurd z z0) (fun _ => ?_)
      refine ex_iconst (v := 1) dL_law_1000 (by decide) ?_
      refine ex_goto (tgt := 1005) dL_law_1001 (by decide) ?_
      refine ex_aload_x dL_law_1005 rfl ?_
      refine ex_iload dL_law_1006 rfl ?_
      refine ex_iconst (v := 2) dL_law_1008 (by decide) ?_
      refine ex_iadd dL_law_1009 ?_
      refine ex_xload dL_law_1010 (by decide) hb v2 ?_
      refine ex_if_eq (tgt := 1018) dL_law_1011 (by decide) (fun _ => ?_) (fun z => absurd z1 z)
      refine ex_iconst (v := 0) dL_law_1018 (by decide) ?_
      refine ex_aload_x dL_law_1019 rfl ?_
      refine ex_iload dL_law_1020 rfl ?_
      refine ex_iconst (v := 3) dL_law_1022 (by decide) ?_
      refine ex_iadd dL_law_1023 ?_
      refine ex_xload dL_law_1024 (by decide) hb v3 ?_
      refine ex_aload_n dL_law_1025 rfl ?_
      refine ex_callSX dL_law_1026 (mm_ksw i_L_measure l_L_155) ⟨(Nat.le_of_ble_eq_true rfl), (Nat.le_of_ble_eq_true rfl)⟩ rfl (Nat.le_of_ble_eq_true rfl) rfl (c_L_measure P O 1 0 (G.2.2.2.2.2 (nI i + 3).toNatClampNeg) (k8_measure hl P hi (by omega) 1 0 (G.2.2.2.2.2 (nI i + 3).toNatClampNeg)) (xc_measure 1 0 (G.2.2.2.2.2 (nI i + 3).toNatClampNeg))) rfl (fun ov h1 q => ?_) (fun E h1 q => by obtain ⟨k, f1, z, -⟩ := q; cases z)
      obtain ⟨k, f1, z, a1, o1, P1, F1⟩ := q
      obtain rfl : ov = some (.int k) := by cases z; rfl
      clear z
      refine ex_istore dL_law_1029 (Nat.le_of_ble_eq_true rfl) ?_
      refine ex_aload_n dL_law_1031 rfl ?_
      refine ex_aload_x dL_law_1032 rfl ?_
      refine ex_iload dL_law_1033 rfl ?_
      refine ex_iconst (v := 1) dL_law_1035 (by decide) ?_
      refine ex_iadd dL_law_1036 ?_
      refine ex_xload dL_law_1037 (by decide) hb v1 ?_
      refine ex_if_eq (tgt := 1045) dL_law_1038 (by decide) (fun z => absurd z z0) (fun _ => ?_)
      refine ex_iconst (v := 1) dL_law_1041 (by decide) ?_
      refine ex_goto (tgt := 1046) dL_law_1042 (by decide) ?_
      refine ex_aload_x dL_law_1046 rfl ?_
      refine ex_iload dL_law_1047 rfl ?_
      refine ex_iconst (v := 2) dL_law_1049 (by decide) ?_
      refine ex_iadd dL_law_1050 ?_
      refine ex_xload dL_law_1051 (by decide) hb v2 ?_
      refine ex_if_eq (tgt := 1059) dL_law_1052 (by decide) (fun _ => ?_) (fun z => absurd z1 z)
      refine ex_iconst (v := 0) dL_law_1059 (by decide) ?_
      refine ex_aload_x dL_law_1060 rfl ?_
      refine ex_iload dL_law_1061 rfl ?_
      refine ex_iconst (v := 3) dL_law_1063 (by decide) ?_
      refine ex_iadd dL_law_1064 ?_
      refine ex_xload dL_law_1065 (by decide) hb v3 ?_
      refine cV_x dL_law_1066 (mm_kv i_X9_measure l_L_158) ⟨(Nat.le_of_ble_eq_true rfl), (Nat.le_of_ble_eq_true rfl)⟩ (k9_measure (mP_mv p F1) r hi (by omega) hy 1 0 (G.2.2.2.2.2 (nI i + 3).toNatClampNeg) (Or.inr rfl)) rfl rfl (mP_o (mP_mv p F1)) (Nat.le_of_ble_eq_true rfl) rfl (fun v h2 q => ?_)
      obtain ⟨m2, p2, r2, a2⟩ := q
      have nn := xi_n (xc_measure (s := s) 1 0 (G.2.2.2.2.2 (nI i + 3).toNatClampNeg) _ rfl)
      obtain ⟨y, rfl, tk, ky⟩ := lw_eq ne_as nn a1 a2
      have J2 := lw_next he P1 p2 r2 (kv_measure hi (by omega) 1 0 (G.2.2.2.2.2 (nI i + 3).toNatClampNeg)) (iy_measure hy 1 0 (G.2.2.2.2.2 (nI i + 3).toNatClampNeg)) o1
      have o2 : lw_O h2 f1 := (p2.2.2.2 65 (Or.inr (Nat.le_refl 65))).trans o1
      refine ex_istore dL_law_1069 (Nat.le_of_ble_eq_true rfl) ?_
      refine ex_aload_n dL_law_1071 rfl ?_
      refine cV_f dL_law_1072 (mm_kv i_X9_thrown l_L_114) ⟨(Nat.le_of_ble_eq_true rfl), (Nat.le_of_ble_eq_true rfl)⟩ (c_X9_thrown p2) rfl rfl (mP_o p2) (Nat.le_of_ble_eq_true rfl) rfl ?_
      refine ex_iload dL_law_1075 rfl ?_
      refine ex_icmp_eq (tgt := 1082) dL_law_1077 (by decide) (fun _ => ?_) (fun z => absurd tk z)
      refine ex_iload dL_law_1082 rfl ?_
      refine ex_if_ne (tgt := 1099) dL_law_1084 (by decide) (fun _ => ?_) (fun kz => ?_)
      · refine ex_goto (tgt := 2178) dL_law_1099 (by decide) ?_
        exact K _ _ _ J2
      obtain ⟨ky1, ky2⟩ := ky kz
      refine ex_aload_n dL_law_1087 rfl ?_
      refine ex_iconst (v := 0) dL_law_1088 (by decide) ?_
      refine ex_laload dL_law_1089 o2 (show vp_in (0 : Int32) 1 by unfold vp_in; decide) ?_
      refine ex_iload dL_law_1090 rfl ?_
      refine ex_i2l dL_law_1092 ?_
      refine ex_lcmp dL_law_1093 ?_
      refine ex_if_eq (tgt := 1099) dL_law_1094 (by decide) (fun _ => ?_) (fun z => absurd (lg_c0 (lw_f0 ky2)) z)
      refine ex_goto (tgt := 2178) dL_law_1099 (by decide) ?_
      exact K _ _ _ J2
    · refine ex_aload_n dL_law_990 rfl ?_
      refine ex_aload_x dL_law_991 rfl ?_
      refine ex_iload dL_law_992 rfl ?_
      refine ex_iconst (v := 1) dL_law_994 (by decide) ?_
      refine ex_iadd dL_law_995 ?_
      refine ex_xload dL_law_996 (by decide) hb v1 ?_
      refine ex_if_eq (tgt := 1004) dL_law_997 (by decide) (fun z => absurd z z0) (fun _ => ?_)
      refine ex_iconst (v := 1) dL_law_1000 (by decide) ?_
      refine ex_goto (tgt := 1005) dL_law_1001 (by decide) ?_
      refine ex_aload_x dL_law_1005 rfl ?_
      refine ex_iload dL_law_1006 rfl ?_
      refine ex_iconst (v := 2) dL_law_1008 (by decide) ?_
      refine ex_iadd dL_law_1009 ?_
      refine ex_xload dL_law_1010 (by decide) hb v2 ?_
      refine ex_if_eq (tgt := 1018) dL_law_1011 (by decide) (fun z => absurd z z1) (fun _ => ?_)
      refine ex_iconst (v := 1) dL_law_1014 (by decide) ?_
      refine ex_goto (tgt := 1019) dL_law_1015 (by decide) ?_
      refine ex_aload_x dL_law_1019 rfl ?_
      refine ex_iload dL_law_1020 rfl ?_
      refine ex_iconst (v := 3) dL_law_1022 (by decide) ?_
      refine ex_iadd dL_law_1023 ?_
      refine ex_xload dL_law_1024 (by decide) hb v3 ?_
      refine ex_aload_n dL_law_1025 rfl ?_
      refine ex_callSX dL_law_1026 (mm_ksw i_L_measure l_L_155) ⟨(Nat.le_of_ble_eq_true rfl), (Nat.le_of_ble_eq_true rfl)⟩ rfl (Nat.le_of_ble_eq_true rfl) rfl (c_L_measure P O 1 1 (G.2.2.2.2.2 (nI i + 3).toNatClampNeg) (k8_measure hl P hi (by omega) 1 1 (G.2.2.2.2.2 (nI i + 3).toNatClampNeg)) (xc_measure 1 1 (G.2.2.2.2.2 (nI i + 3).toNatClampNeg))) rfl (fun ov h1 q => ?_) (fun E h1 q => by obtain ⟨k, f1, z, -⟩ := q; cases z)
      obtain ⟨k, f1, z, a1, o1, P1, F1⟩ := q
      obtain rfl : ov = some (.int k) := by cases z; rfl
      clear z
      refine ex_istore dL_law_1029 (Nat.le_of_ble_eq_true rfl) ?_
      refine ex_aload_n dL_law_1031 rfl ?_
      refine ex_aload_x dL_law_1032 rfl ?_
      refine ex_iload dL_law_1033 rfl ?_
      refine ex_iconst (v := 1) dL_law_1035 (by decide) ?_
      refine ex_iadd dL_law_1036 ?_
      refine ex_xload dL_law_1037 (by decide) hb v1 ?_
      refine ex_if_eq (tgt := 1045) dL_law_1038 (by decide) (fun z => absurd z z0) (fun _ => ?_)
      refine ex_iconst (v := 1) dL_law_1041 (by decide) ?_
      refine ex_goto (tgt := 1046) dL_law_1042 (by decide) ?_
      refine ex_aload_x dL_law_1046 rfl ?_
      refine ex_iload dL_law_1047 rfl ?_
      refine ex_iconst (v := 2) dL_law_1049 (by decide) ?_
      refine ex_iadd dL_law_1050 ?_
      refine ex_xload dL_law_1051 (by decide) hb v2 ?_
      refine ex_if_eq (tgt := 1059) dL_law_1052 (by decide) (fun z => absurd z z1) (fun _ => ?_)
      refine ex_iconst (v := 1) dL_law_1055 (by decide) ?_
      refine ex_goto (tgt := 1060) dL_law_1056 (by decide) ?_
      refine ex_aload_x dL_law_1060 rfl ?_
      refine ex_iload dL_law_1061 rfl ?_
      refine ex_iconst (v := 3) dL_law_1063 (by decide) ?_
      refine ex_iadd dL_law_1064 ?_
      refine ex_xload dL_law_1065 (by decide) hb v3 ?_
      refine cV_x dL_law_1066 (mm_kv i_X9_measure l_L_158) ⟨(Nat.le_of_ble_eq_true rfl), (Nat.le_of_ble_eq_true rfl)⟩ (k9_measure (mP_mv p F1) r hi (by omega) hy 1 1 (G.2.2.2.2.2 (nI i + 3).toNatClampNeg) (Or.inr rfl)) rfl rfl (mP_o (mP_mv p F1)) (Nat.le_of_ble_eq_true rfl) rfl (fun v h2 q => ?_)
      obtain ⟨m2, p2, r2, a2⟩ := q
      have nn := xi_n (xc_measure (s := s) 1 1 (G.2.2.2.2.2 (nI i + 3).toNatClampNeg) _ rfl)
      obtain ⟨y, rfl, tk, ky⟩ := lw_eq ne_as nn a1 a2
      have J2 := lw_next he P1 p2 r2 (kv_measure hi (by omega) 1 1 (G.2.2.2.2.2 (nI i + 3).toNatClampNeg)) (iy_measure hy 1 1 (G.2.2.2.2.2 (nI i + 3).toNatClampNeg)) o1
      have o2 : lw_O h2 f1 := (p2.2.2.2 65 (Or.inr (Nat.le_refl 65))).trans o1
      refine ex_istore dL_law_1069 (Nat.le_of_ble_eq_true rfl) ?_
      refine ex_aload_n dL_law_1071 rfl ?_
      refine cV_f dL_law_1072 (mm_kv i_X9_thrown l_L_114) ⟨(Nat.le_of_ble_eq_true rfl), (Nat.le_of_ble_eq_true rfl)⟩ (c_X9_thrown p2) rfl rfl (mP_o p2) (Nat.le_of_ble_eq_true rfl) rfl ?_
      refine ex_iload dL_law_1075 rfl ?_
      refine ex_icmp_eq (tgt := 1082) dL_law_1077 (by decide) (fun _ => ?_) (fun z => absurd tk z)
      refine ex_iload dL_law_1082 rfl ?_
      refine ex_if_ne (tgt := 1099) dL_law_1084 (by decide) (fun _ => ?_) (fun kz => ?_)
      · refine ex_goto (tgt := 2178) dL_law_1099 (by decide) ?_
        exact K _ _ _ J2
      obtain ⟨ky1, ky2⟩ := ky kz
      refine ex_aload_n dL_law_1087 rfl ?_
      refine ex_iconst (v := 0) dL_law_1088 (by decide) ?_
      refine ex_laload dL_law_1089 o2 (show vp_in (0 : Int32) 1 by unfold vp_in; decide) ?_
      refine ex_iload dL_law_1090 rfl ?_
      refine ex_i2l dL_law_1092 ?_
      refine ex_lcmp dL_law_1093 ?_
      refine ex_if_eq (tgt := 1099) dL_law_1094 (by decide) (fun _ => ?_) (fun z => absurd (lg_c0 (lw_f0 ky2)) z)
      refine ex_goto (tgt := 2178) dL_law_1099 (by decide) ?_
      exact K _ _ _ J2
theorem lw_k13 (hb : b = G.2.2.2.1) (hl : l.stackTraces = false) (v1 : vp_in (nI i + 1) G.2.2.2.2.1) (v2 : vp_in (nI i + 2) G.2.2.2.2.1) (v3 : vp_in (nI i + 3) G.2.2.2.2.1) (hn : n ≤ 511) (hJ : lw_J n h) (K : ∀ (x5 x6 : Value) (h' : mm_H), lw_J (n + 1) h' → mm_Ex l G mm_law Q 2178 [.retAddr b, .ref 0, .ref 29, .ref 65, .int (nI i), x5, x6] [] h') (x5 x6 : Value) : mm_Ex l G mm_law Q 1102 [.retAddr b, .ref 0, .ref 29, .ref 65, .int (nI i), x5, x6] [] h := by
  obtain ⟨s, m, f, e, he, P, p, r, hi, hy, O⟩ := hJ
  refine ex_aload_n dL_law_1102 rfl ?_
  refine ex_aload_x dL_law_1103 rfl ?_
  refine ex_iload dL_law_1104 rfl ?_
  refine ex_iconst (v := 1) dL_law_1106 (by decide) ?_
  refine ex_iadd dL_law_1107 ?_
  refine ex_xload dL_law_1108 (by decide) hb v1 ?_
  refine ex_aload_x dL_law_1109 rfl ?_
  refine ex_iload dL_law_1110 rfl ?_
  refine ex_iconst (v := 2) dL_law_1112 (by decide) ?_
  refine ex_iadd dL_law_1113 ?_
  refine ex_xload dL_law_1114 (by decide) hb v2 ?_
  refine ex_aload_n dL_law_1115 rfl ?_
  refine ex_callSX dL_law_1116 (mm_ksw i_L_mend l_L_159) ⟨(Nat.le_of_ble_eq_true rfl), (Nat.le_of_ble_eq_true rfl)⟩ rfl (Nat.le_of_ble_eq_true rfl) rfl (c_L_mend P O (G.2.2.2.2.2 (nI i + 1).toNatClampNeg) (G.2.2.2.2.2 (nI i + 2).toNatClampNeg) (k8_mend hl P hi (by omega) (G.2.2.2.2.2 (nI i + 1).toNatClampNeg) (G.2.2.2.2.2 (nI i + 2).toNatClampNeg)) (xc_mend (G.2.2.2.2.2 (nI i + 1).toNatClampNeg) (G.2.2.2.2.2 (nI i + 2).toNatClampNeg))) rfl (fun ov h1 q => ?_) (fun E h1 q => by obtain ⟨k, f1, z, -⟩ := q; cases z)
  obtain ⟨k, f1, z, a1, o1, P1, F1⟩ := q
  obtain rfl : ov = some (.int k) := by cases z; rfl
  clear z
  refine ex_istore dL_law_1119 (Nat.le_of_ble_eq_true rfl) ?_
  refine ex_aload_n dL_law_1121 rfl ?_
  refine ex_aload_x dL_law_1122 rfl ?_
  refine ex_iload dL_law_1123 rfl ?_
  refine ex_iconst (v := 1) dL_law_1125 (by decide) ?_
  refine ex_iadd dL_law_1126 ?_
  refine ex_xload dL_law_1127 (by decide) hb v1 ?_
  refine ex_aload_x dL_law_1128 rfl ?_
  refine ex_iload dL_law_1129 rfl ?_
  refine ex_iconst (v := 2) dL_law_1131 (by decide) ?_
  refine ex_iadd dL_law_1132 ?_
  refine ex_xload dL_law_1133 (by decide) hb v2 ?_
  refine cV_x dL_law_1134 (mm_kv i_X9_mend l_L_161) ⟨(Nat.le_of_ble_eq_true rfl), (Nat.le_of_ble_eq_true rfl)⟩ (k9_mend (mP_mv p F1) r hi (by omega) hy (G.2.2.2.2.2 (nI i + 1).toNatClampNeg) (G.2.2.2.2.2 (nI i + 2).toNatClampNeg)) rfl rfl (mP_o (mP_mv p F1)) (Nat.le_of_ble_eq_true rfl) rfl (fun v h2 q => ?_)
  obtain ⟨m2, p2, r2, a2⟩ := q
  have nn := xi_n (xc_mend (s := s) (G.2.2.2.2.2 (nI i + 1).toNatClampNeg) (G.2.2.2.2.2 (nI i + 2).toNatClampNeg) _ rfl)
  obtain ⟨y, rfl, tk, ky⟩ := lw_eq ne_as nn a1 a2
  have J2 := lw_next he P1 p2 r2 (kv_mend hi (by omega) (G.2.2.2.2.2 (nI i + 1).toNatClampNeg) (G.2.2.2.2.2 (nI i + 2).toNatClampNeg)) (iy_mend hy (G.2.2.2.2.2 (nI i + 1).toNatClampNeg) (G.2.2.2.2.2 (nI i + 2).toNatClampNeg)) o1
  have o2 : lw_O h2 f1 := (p2.2.2.2 65 (Or.inr (Nat.le_refl 65))).trans o1
  refine ex_istore dL_law_1137 (Nat.le_of_ble_eq_true rfl) ?_
  refine ex_aload_n dL_law_1139 rfl ?_
  refine cV_f dL_law_1140 (mm_kv i_X9_thrown l_L_114) ⟨(Nat.le_of_ble_eq_true rfl), (Nat.le_of_ble_eq_true rfl)⟩ (c_X9_thrown p2) rfl rfl (mP_o p2) (Nat.le_of_ble_eq_true rfl) rfl ?_
  refine ex_iload dL_law_1143 rfl ?_
  refine ex_icmp_eq (tgt := 1150) dL_law_1145 (by decide) (fun _ => ?_) (fun z => absurd tk z)
  refine ex_iload dL_law_1150 rfl ?_
  refine ex_if_ne (tgt := 1167) dL_law_1152 (by decide) (fun _ => ?_) (fun kz => ?_)
  · refine ex_goto (tgt := 2178) dL_law_1167 (by decide) ?_
    exact K _ _ _ J2
  obtain ⟨ky1, ky2⟩ := ky kz
  refine ex_aload_n dL_law_1155 rfl ?_
  refine ex_iconst (v := 0) dL_law_1156 (by decide) ?_
  refine ex_laload dL_law_1157 o2 (show vp_in (0 : Int32) 1 by unfold vp_in; decide) ?_
  refine ex_iload dL_law_1158 rfl ?_
  refine ex_i2l dL_law_1160 ?_
  refine ex_lcmp dL_law_1161 ?_
  refine ex_if_eq (tgt := 1167) dL_law_1162 (by decide) (fun _ => ?_) (fun z => absurd (lg_c0 (lw_f0 ky2)) z)
  refine ex_goto (tgt := 2178) dL_law_1167 (by decide) ?_
  exact K _ _ _ J2
theorem lw_k14 (hb : b = G.2.2.2.1) (hl : l.stackTraces = false) (v1 : vp_in (nI i + 1) G.2.2.2.2.1) (v2 : vp_in (nI i + 2) G.2.2.2.2.1) (v3 : vp_in (nI i + 3) G.2.2.2.2.1) (hn : n ≤ 511) (hJ : lw_J n h) (K : ∀ (x5 x6 : Value) (h' : mm_H), lw_J (n + 1) h' → mm_Ex l G mm_law Q 2178 [.retAddr b, .ref 0, .ref 29, .ref 65, .int (nI i), x5, x6] [] h') (x5 x6 : Value) : mm_Ex l G mm_law Q 1170 [.retAddr b, .ref 0, .ref 29, .ref 65, .int (nI i), x5, x6] [] h := by
  obtain ⟨s, m, f, e, he, P, p, r, hi, hy, O⟩ := hJ
  refine ex_aload_n dL_law_1170 rfl ?_
  refine ex_aload_x dL_law_1171 rfl ?_
  refine ex_iload dL_law_1172 rfl ?_
  refine ex_iconst (v := 1) dL_law_1174 (by decide) ?_
  refine ex_iadd dL_law_1175 ?_
  refine ex_xload dL_law_1176 (by decide) hb v1 ?_
  refine ex_aload_x dL_law_1177 rfl ?_
  refine ex_iload dL_law_1178 rfl ?_
  refine ex_iconst (v := 2) dL_law_1180 (by decide) ?_
  refine ex_iadd dL_law_1181 ?_
  refine ex_xload dL_law_1182 (by decide) hb v2 ?_
  refine ex_aload_x dL_law_1183 rfl ?_
  refine ex_iload dL_law_1184 rfl ?_
  refine ex_iconst (v := 3) dL_law_1186 (by decide) ?_
  refine ex_iadd dL_law_1187 ?_
  refine ex_xload dL_law_1188 (by decide) hb v3 ?_
  refine ex_aload_n dL_law_1189 rfl ?_
  refine ex_callSX dL_law_1190 (mm_ksw i_L_link l_L_162) ⟨(Nat.le_of_ble_eq_true rfl), (Nat.le_of_ble_eq_true rfl)⟩ rfl (Nat.le_of_ble_eq_true rfl) rfl (c_L_link P O (G.2.2.2.2.2 (nI i + 1).toNatClampNeg) (G.2.2.2.2.2 (nI i + 2).toNatClampNeg) (G.2.2.2.2.2 (nI i + 3).toNatClampNeg) (k8_link hl P hi (by omega) (G.2.2.2.2.2 (nI i + 1).toNatClampNeg) (G.2.2.2.2.2 (nI i + 2).toNatClampNeg) (G.2.2.2.2.2 (nI i + 3).toNatClampNeg)) (xc_link (G.2.2.2.2.2 (nI i + 1).toNatClampNeg) (G.2.2.2.2.2 (nI i + 2).toNatClampNeg) (G.2.2.2.2.2 (nI i + 3).toNatClampNeg))) rfl (fun ov h1 q => ?_) (fun E h1 q => by obtain ⟨k, f1, z, -⟩ := q; cases z)
  obtain ⟨k, f1, z, a1, o1, P1, F1⟩ := q
  obtain rfl : ov = some (.int k) := by cases z; rfl
  clear z
  refine ex_istore dL_law_1193 (Nat.le_of_ble_eq_true rfl) ?_
  refine ex_aload_n dL_law_1195 rfl ?_
  refine ex_aload_x dL_law_1196 rfl ?_
  refine ex_iload dL_law_1197 rfl ?_
  refine ex_iconst (v := 1) dL_law_1199 (by decide) ?_
  refine ex_iadd dL_law_1200 ?_
  refine ex_xload dL_law_1201 (by decide) hb v1 ?_
  refine ex_aload_x dL_law_1202 rfl ?_
  refine ex_iload dL_law_1203 rfl ?_
  refine ex_iconst (v := 2) dL_law_1205 (by decide) ?_
  refine ex_iadd dL_law_1206 ?_
  refine ex_xload dL_law_1207 (by decide) hb v2 ?_
  refine ex_aload_x dL_law_1208 rfl ?_
  refine ex_iload dL_law_1209 rfl ?_
  refine ex_iconst (v := 3) dL_law_1211 (by decide) ?_
  refine ex_iadd dL_law_1212 ?_
  refine ex_xload dL_law_1213 (by decide) hb v3 ?_
  refine cV_x dL_law_1214 (mm_kv i_X9_link l_L_164) ⟨(Nat.le_of_ble_eq_true rfl), (Nat.le_of_ble_eq_true rfl)⟩ (k9_link (mP_mv p F1) r hi (by omega) hy (G.2.2.2.2.2 (nI i + 1).toNatClampNeg) (G.2.2.2.2.2 (nI i + 2).toNatClampNeg) (G.2.2.2.2.2 (nI i + 3).toNatClampNeg)) rfl rfl (mP_o (mP_mv p F1)) (Nat.le_of_ble_eq_true rfl) rfl (fun v h2 q => ?_)
  obtain ⟨m2, p2, r2, a2⟩ := q
  have nn := xi_n (xc_link (s := s) (G.2.2.2.2.2 (nI i + 1).toNatClampNeg) (G.2.2.2.2.2 (nI i + 2).toNatClampNeg) (G.2.2.2.2.2 (nI i + 3).toNatClampNeg) _ rfl)
  obtain ⟨y, rfl, tk, ky⟩ := lw_eq ne_as nn a1 a2
  have J2 := lw_next he P1 p2 r2 (kv_link hi (by omega) (G.2.2.2.2.2 (nI i + 1).toNatClampNeg) (G.2.2.2.2.2 (nI i + 2).toNatClampNeg) (G.2.2.2.2.2 (nI i + 3).toNatClampNeg)) (iy_link hy (G.2.2.2.2.2 (nI i + 1).toNatClampNeg) (G.2.2.2.2.2 (nI i + 2).toNatClampNeg) (G.2.2.2.2.2 (nI i + 3).toNatClampNeg)) o1
  have o2 : lw_O h2 f1 := (p2.2.2.2 65 (Or.inr (Nat.le_refl 65))).trans o1
  refine ex_istore dL_law_1217 (Nat.le_of_ble_eq_true rfl) ?_
  refine ex_aload_n dL_law_1219 rfl ?_
  refine cV_f dL_law_1220 (mm_kv i_X9_thrown l_L_114) ⟨(Nat.le_of_ble_eq_true rfl), (Nat.le_of_ble_eq_true rfl)⟩ (c_X9_thrown p2) rfl rfl (mP_o p2) (Nat.le_of_ble_eq_true rfl) rfl ?_
  refine ex_iload dL_law_1223 rfl ?_
  refine ex_icmp_eq (tgt := 1230) dL_law_1225 (by decide) (fun _ => ?_) (fun z => absurd tk z)
  refine ex_iload dL_law_1230 rfl ?_
  refine ex_if_ne (tgt := 1247) dL_law_1232 (by decide) (fun _ => ?_) (fun kz => ?_)
  · refine ex_goto (tgt := 2178) dL_law_1247 (by decide) ?_
    exact K _ _ _ J2
  obtain ⟨ky1, ky2⟩ := ky kz
  refine ex_aload_n dL_law_1235 rfl ?_
  refine ex_iconst (v := 0) dL_law_1236 (by decide) ?_
  refine ex_laload dL_law_1237 o2 (show vp_in (0 : Int32) 1 by unfold vp_in; decide) ?_
  refine ex_iload dL_law_1238 rfl ?_
  refine ex_i2l dL_law_1240 ?_
  refine ex_lcmp dL_law_1241 ?_
  refine ex_if_eq (tgt := 1247) dL_law_1242 (by decide) (fun _ => ?_) (fun z => absurd (lg_c0 (lw_f0 ky2)) z)
  refine ex_goto (tgt := 2178) dL_law_1247 (by decide) ?_
  exact K _ _ _ J2
theorem lw_k15 (hb : b = G.2.2.2.1) (hl : l.stackTraces = false) (v1 : vp_in (nI i + 1) G.2.2.2.2.1) (v2 : vp_in (nI i + 2) G.2.2.2.2.1) (v3 : vp_in (nI i + 3) G.2.2.2.2.1) (hn : n ≤ 511) (hJ : lw_J n h) (K : ∀ (x5 x6 : Value) (h' : mm_H), lw_J (n + 1) h' → mm_Ex l G mm_law Q 2178 [.retAddr b, .ref 0, .ref 29, .ref 65, .int (nI i), x5, x6] [] h') (x5 x6 : Value) : mm_Ex l G mm_law Q 1250 [.retAddr b, .ref 0, .ref 29, .ref 65, .int (nI i), x5, x6] [] h := by
  obtain ⟨s, m, f, e, he, P, p, r, hi, hy, O⟩ := hJ
  by_cases z1 : G.2.2.2.2.2 (nI i + 2).toNatClampNeg = 0
  · refine ex_aload_n dL_law_1250 rfl ?_
    refine ex_aload_x dL_law_1251 rfl ?_
    refine ex_iload dL_law_1252 rfl ?_
    refine ex_iconst (v := 1) dL_law_1254 (by decide) ?_
    refine ex_iadd dL_law_1255 ?_
    refine ex_xload dL_law_1256 (by decide) hb v1 ?_
    refine ex_aload_x dL_law_1257 rfl ?_
    refine ex_iload dL_law_1258 rfl ?_
    refine ex_iconst (v := 2) dL_law_1260 (by decide) ?_
    refine ex_iadd dL_law_1261 ?_
    refine ex_xload dL_law_1262 (by decide) hb v2 ?_
    refine ex_if_eq (tgt := 1270) dL_law_1263 (by decide) (fun _ => ?_) (fun z => absurd z1 z)
    refine ex_iconst (v := 0) dL_law_1270 (by decide) ?_
    refine ex_aload_n dL_law_1271 rfl ?_
    refine ex_callSX dL_law_1272 (mm_ksw i_L_dead l_L_165) ⟨(Nat.le_of_ble_eq_true rfl), (Nat.le_of_ble_eq_true rfl)⟩ rfl (Nat.le_of_ble_eq_true rfl) rfl (c_L_dead P O (G.2.2.2.2.2 (nI i + 1).toNatClampNeg) 0 (k8_dead hl P hi (by omega) (G.2.2.2.2.2 (nI i + 1).toNatClampNeg) 0) (xc_dead (G.2.2.2.2.2 (nI i + 1).toNatClampNeg) 0)) rfl (fun ov h1 q => ?_) (fun E h1 q => by obtain ⟨k, f1, z, -⟩ := q; cases z)
    obtain ⟨k, f1, z, a1, o1, P1, F1⟩ := q
    obtain rfl : ov = some (.int k) := by cases z; rfl
    clear z
    refine ex_istore dL_law_1275 (Nat.le_of_ble_eq_true rfl) ?_
    refine ex_aload_n dL_law_1277 rfl ?_
    refine ex_aload_x dL_law_1278 rfl ?_
    refine ex_iload dL_law_1279 rfl ?_
    refine ex_iconst (v := 1) dL_law_1281 (by decide) ?_
    refine ex_iadd dL_law_1282 ?_
    refine ex_xload dL_law_1283 (by decide) hb v1 ?_
    refine ex_aload_x dL_law_1284 rfl ?_
    refine ex_iload dL_law_1285 rfl ?_
    refine ex_iconst (v := 2) dL_law_1287 (by decide) ?_
    refine ex_iadd dL_law_1288 ?_
    refine ex_xload dL_law_1289 (by decide) hb v2 ?_
    refine ex_if_eq (tgt := 1297) dL_law_1290 (by decide) (fun _ => ?_) (fun z => absurd z1 z)
    refine ex_iconst (v := 0) dL_law_1297 (by decide) ?_
    refine cV_x dL_law_1298 (mm_kv i_X9_dead l_L_167) ⟨(Nat.le_of_ble_eq_true rfl), (Nat.le_of_ble_eq_true rfl)⟩ (k9_dead (mP_mv p F1) r hi (by omega) hy (G.2.2.2.2.2 (nI i + 1).toNatClampNeg) 0 (Or.inl rfl)) rfl rfl (mP_o (mP_mv p F1)) (Nat.le_of_ble_eq_true rfl) rfl (fun v h2 q => ?_)
    obtain ⟨m2, p2, r2, a2⟩ := q
    have nn := xb_n (xc_dead (s := s) (G.2.2.2.2.2 (nI i + 1).toNatClampNeg) 0 _ rfl)
    have vv := fun x => xb_v (x := x) (xc_dead (s := s) (G.2.2.2.2.2 (nI i + 1).toNatClampNeg) 0 _ rfl)
    obtain ⟨y, rfl, tk, ky⟩ := lw_eq ne_ia nn a1 a2
    have J2 := lw_next he P1 p2 r2 (kv_dead hi (by omega) (G.2.2.2.2.2 (nI i + 1).toNatClampNeg) 0) (iy_dead hy (G.2.2.2.2.2 (nI i + 1).toNatClampNeg) 0) o1
    have o2 : lw_O h2 f1 := (p2.2.2.2 65 (Or.inr (Nat.le_refl 65))).trans o1
    refine ex_istore dL_law_1301 (Nat.le_of_ble_eq_true rfl) ?_
    refine ex_aload_n dL_law_1303 rfl ?_
    refine cV_f dL_law_1304 (mm_kv i_X9_thrown l_L_114) ⟨(Nat.le_of_ble_eq_true rfl), (Nat.le_of_ble_eq_true rfl)⟩ (c_X9_thrown p2) rfl rfl (mP_o p2) (Nat.le_of_ble_eq_true rfl) rfl ?_
    refine ex_iload dL_law_1307 rfl ?_
    refine ex_icmp_eq (tgt := 1314) dL_law_1309 (by decide) (fun _ => ?_) (fun z => absurd tk z)
    refine ex_iload dL_law_1314 rfl ?_
    refine ex_if_ne (tgt := 1338) dL_law_1316 (by decide) (fun _ => ?_) (fun kz => ?_)
    · refine ex_goto (tgt := 2178) dL_law_1338 (by decide) ?_
      exact K _ _ _ J2
    obtain ⟨ky1, ky2⟩ := ky kz
    rcases vv y ky1 with yv | yv
    · subst yv
      refine ex_aload_n dL_law_1319 rfl ?_
      refine ex_iconst (v := 0) dL_law_1320 (by decide) ?_
      refine ex_laload dL_law_1321 o2 (show vp_in (0 : Int32) 1 by unfold vp_in; decide) ?_
      refine ex_iload dL_law_1322 rfl ?_
      refine ex_if_eq (tgt := 1331) dL_law_1324 (by decide) (fun _ => ?_) (fun z => absurd rfl z)
      refine ex_lconst (v := 0) dL_law_1331 (by decide) ?_
      refine ex_lcmp dL_law_1332 ?_
      refine ex_if_eq (tgt := 1338) dL_law_1333 (by decide) (fun _ => ?_) (fun z => absurd (lg_c0 ((lw_f0 ky2).trans (by decide))) z)
      refine ex_goto (tgt := 2178) dL_law_1338 (by decide) ?_
      exact K _ _ _ J2
    · subst yv
      refine ex_aload_n dL_law_1319 rfl ?_
      refine ex_iconst (v := 0) dL_law_1320 (by decide) ?_
      refine ex_laload dL_law_1321 o2 (show vp_in (0 : Int32) 1 by unfold vp_in; decide) ?_
      refine ex_iload dL_law_1322 rfl ?_
      refine ex_if_eq (tgt := 1331) dL_law_1324 (by decide) (fun z => absurd z (by decide)) (fun _ => ?_)
      refine ex_lconst (v := 1) dL_law_1327 (by decide) ?_
      refine ex_goto (tgt := 1332) dL_law_1328 (by decide) ?_
      refine ex_lcmp dL_law_1332 ?_
      refine ex_if_eq (tgt := 1338) dL_law_1333 (by decide) (fun _ => ?_) (fun z => absurd (lg_c0 ((lw_f0 ky2).trans (by decide))) z)
      refine ex_goto (tgt := 2178) dL_law_1338 (by decide) ?_
      exact K _ _ _ J2
  · refine ex_aload_n dL_law_1250 rfl ?_
    refine ex_aload_x dL_law_1251 rfl ?_
    refine ex_iload dL_law_1252 rfl ?_
    refine ex_iconst (v := 1) dL_law_1254 (by decide) ?_
    refine ex_iadd dL_law_1255 ?_
    refine ex_xload dL_law_1256 (by decide) hb v1 ?_
    refine ex_aload_x dL_law_1257 rfl ?_
    refine ex_iload dL_law_1258 rfl ?_
    refine ex_iconst (v := 2) dL_law_1260 (by decide) ?_
    refine ex_iadd dL_law_1261 ?_
    refine ex_xload dL_law_1262 (by decide) hb v2 ?_
    refine ex_if_eq (tgt := 1270) dL_law_1263 (by decide) (fun z => absurd z z1) (fun _ => ?_)
    refine ex_iconst (v := 1) dL_law_1266 (by decide) ?_
    refine ex_goto (tgt := 1271) dL_law_1267 (by decide) ?_
    refine ex_aload_n dL_law_1271 rfl ?_
    refine ex_callSX dL_law_1272 (mm_ksw i_L_dead l_L_165) ⟨(Nat.le_of_ble_eq_true rfl), (Nat.le_of_ble_eq_true rfl)⟩ rfl (Nat.le_of_ble_eq_true rfl) rfl (c_L_dead P O (G.2.2.2.2.2 (nI i + 1).toNatClampNeg) 1 (k8_dead hl P hi (by omega) (G.2.2.2.2.2 (nI i + 1).toNatClampNeg) 1) (xc_dead (G.2.2.2.2.2 (nI i + 1).toNatClampNeg) 1)) rfl (fun ov h1 q => ?_) (fun E h1 q => by obtain ⟨k, f1, z, -⟩ := q; cases z)
    obtain ⟨k, f1, z, a1, o1, P1, F1⟩ := q
    obtain rfl : ov = some (.int k) := by cases z; rfl
    clear z
    refine ex_istore dL_law_1275 (Nat.le_of_ble_eq_true rfl) ?_
    refine ex_aload_n dL_law_1277 rfl ?_
    refine ex_aload_x dL_law_1278 rfl ?_
    refine ex_iload dL_law_1279 rfl ?_
    refine ex_iconst (v := 1) dL_law_1281 (by decide) ?_
    refine ex_iadd dL_law_1282 ?_
    refine ex_xload dL_law_1283 (by decide) hb v1 ?_
    refine ex_aload_x dL_law_1284 rfl ?_
    refine ex_iload dL_law_1285 rfl ?_
    refine ex_iconst (v := 2) dL_law_1287 (by decide) ?_
    refine ex_iadd dL_law_1288 ?_
    refine ex_xload dL_law_1289 (by decide) hb v2 ?_
    refine ex_if_eq (tgt := 1297) dL_law_1290 (by decide) (fun z => absurd z z1) (fun _ => ?_)
    refine ex_iconst (v := 1) dL_law_1293 (by decide) ?_
    refine ex_goto (tgt := 1298) dL_law_1294 (by decide) ?_
    refine cV_x dL_law_1298 (mm_kv i_X9_dead l_L_167) ⟨(Nat.le_of_ble_eq_true rfl), (Nat.le_of_ble_eq_true rfl)⟩ (k9_dead (mP_mv p F1) r hi (by omega) hy (G.2.2.2.2.2 (nI i + 1).toNatClampNeg) 1 (Or.inr rfl)) rfl rfl (mP_o (mP_mv p F1)) (Nat.le_of_ble_eq_true rfl) rfl (fun v h2 q => ?_)
    obtain ⟨m2, p2, r2, a2⟩ := q
    have nn := xb_n (xc_dead (s := s) (G.2.2.2.2.2 (nI i + 1).toNatClampNeg) 1 _ rfl)
    have vv := fun x => xb_v (x := x) (xc_dead (s := s) (G.2.2.2.2.2 (nI i + 1).toNatClampNeg) 1 _ rfl)
    obtain ⟨y, rfl, tk, ky⟩ := lw_eq ne_ia nn a1 a2
    have J2 := lw_next he P1 p2 r2 (kv_dead hi (by omega) (G.2.2.2.2.2 (nI i + 1).toNatClampNeg) 1) (iy_dead hy (G.2.2.2.2.2 (nI i + 1).toNatClampNeg) 1) o1
    have o2 : lw_O h2 f1 := (p2.2.2.2 65 (Or.inr (Nat.le_refl 65))).trans o1
    refine ex_istore dL_law_1301 (Nat.le_of_ble_eq_true rfl) ?_
    refine ex_aload_n dL_law_1303 rfl ?_
    refine cV_f dL_law_1304 (mm_kv i_X9_thrown l_L_114) ⟨(Nat.le_of_ble_eq_true rfl), (Nat.le_of_ble_eq_true rfl)⟩ (c_X9_thrown p2) rfl rfl (mP_o p2) (Nat.le_of_ble_eq_true rfl) rfl ?_
    refine ex_iload dL_law_1307 rfl ?_
    refine ex_icmp_eq (tgt := 1314) dL_law_1309 (by decide) (fun _ => ?_) (fun z => absurd tk z)
    refine ex_iload dL_law_1314 rfl ?_
    refine ex_if_ne (tgt := 1338) dL_law_1316 (by decide) (fun _ => ?_) (fun kz => ?_)
    · refine ex_goto (tgt := 2178) dL_law_1338 (by decide) ?_
      exact K _ _ _ J2
    obtain ⟨ky1, ky2⟩ := ky kz
    rcases vv y ky1 with yv | yv
    · subst yv
      refine ex_aload_n dL_law_1319 rfl ?_
      refine ex_iconst (v := 0) dL_law_1320 (by decide) ?_
      refine ex_laload dL_law_1321 o2 (show vp_in (0 : Int32) 1 by unfold vp_in; decide) ?_
      refine ex_iload dL_law_1322 rfl ?_
      refine ex_if_eq (tgt := 1331) dL_law_1324 (by decide) (fun _ => ?_) (fun z => absurd rfl z)
      refine ex_lconst (v := 0) dL_law_1331 (by decide) ?_
      refine ex_lcmp dL_law_1332 ?_
      refine ex_if_eq (tgt := 1338) dL_law_1333 (by decide) (fun _ => ?_) (fun z => absurd (lg_c0 ((lw_f0 ky2).trans (by decide))) z)
      refine ex_goto (tgt := 2178) dL_law_1338 (by decide) ?_
      exact K _ _ _ J2
    · subst yv
      refine ex_aload_n dL_law_1319 rfl ?_
      refine ex_iconst (v := 0) dL_law_1320 (by decide) ?_
      refine ex_laload dL_law_1321 o2 (show vp_in (0 : Int32) 1 by unfold vp_in; decide) ?_
      refine ex_iload dL_law_1322 rfl ?_
      refine ex_if_eq (tgt := 1331) dL_law_1324 (by decide) (fun z => absurd z (by decide)) (fun _ => ?_)
      refine ex_lconst (v := 1) dL_law_1327 (by decide) ?_
      refine ex_goto (tgt := 1332) dL_law_1328 (by decide) ?_
      refine ex_lcmp dL_law_1332 ?_
      refine ex_if_eq (tgt := 1338) dL_law_1333 (by decide) (fun _ => ?_) (fun z => absurd (lg_c0 ((lw_f0 ky2).trans (by decide))) z)
      refine ex_goto (tgt := 2178) dL_law_1338 (by decide) ?_
      exact K _ _ _ J2
end LC
