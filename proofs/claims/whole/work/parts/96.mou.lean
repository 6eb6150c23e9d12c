/-! THE MODEL: what is kept of the line when a cell is mended -/
def r_new (s : mo_S) (T : List tt_R) : Prop := s.1 26 = nI T.length ∧ ∀ (i : Nat) (r : tt_R), T[i]? = some r → s.2.2 27 i = r.1 ∧ s.2.2 28 i = r.2.1 ∧ s.2.2 29 i = r.2.2.1 ∧ s.2.2 30 i = ln_to r
theorem r_new.fr {K : List Nat} {s s' : mo_S} {T : List tt_R} (h : r_new s T) (f : mo_F K s s') (h1 : K.elem 26 = false := by rfl) (h2 : K.elem 27 = false := by rfl) (h3 : K.elem 28 = false := by rfl) (h4 : K.elem 29 = false := by rfl) (h5 : K.elem 30 = false := by rfl) : r_new s' T := by
  unfold r_new
  rw [f.1 26 h1, f.2.2 27 h2, f.2.2 28 h3, f.2.2 29 h4, f.2.2 30 h5]
  exact h
def mo_kp (s : mo_S) (n : Nat) (k x f t : Int32) : mo_S := mo_sf (mo_sa (mo_sa (mo_sa (mo_sa s 27 n k) 28 n x) 29 n f) 30 n t) 26 (nI (n + 1))
theorem mo_F.kp {K : List Nat} {s s1 : mo_S} (h : mo_F K s s1) (n : Nat) (k x f t : Int32) (h1 : K.elem 26 = true := by rfl) (h2 : K.elem 27 = true := by rfl) (h3 : K.elem 28 = true := by rfl) (h4 : K.elem 29 = true := by rfl) (h5 : K.elem 30 = true := by rfl) : mo_F K s (mo_kp s1 n k x f t) := ((((h.a 27 h2).a 28 h3).a 29 h4).a 30 h5).f 26 h1
theorem r_new.kp {s : mo_S} {T : List tt_R} (h : r_new s T) (x : tt_R) : r_new (mo_kp s T.length x.1 x.2.1 x.2.2.1 (ln_to x)) (T ++ [x]) := by
  obtain ⟨h1, h2⟩ := h
  refine ⟨by rw [List.length_append]; rfl, fun i r hr => ⟨?_, ?_, ?_, ?_⟩⟩
  · exact ls_up0 (f := s.2.2 27) (c := fun r => r.1) (x := x) (fun i r hr => (h2 i r hr).1) i r hr
  · exact ls_up0 (f := s.2.2 28) (c := fun r => r.2.1) (x := x) (fun i r hr => (h2 i r hr).2.1) i r hr
  · exact ls_up0 (f := s.2.2 29) (c := fun r => r.2.2.1) (x := x) (fun i r hr => (h2 i r hr).2.2.1) i r hr
  · exact ls_up0 (f := s.2.2 30) (c := fun r => ln_to r) (x := x) (fun i r hr => (h2 i r hr).2.2.2) i r hr
abbrev kF_c (lo hi cu : Nat) (ah : Int32) (a : Nat) (r : tt_R) : Prop := lo ≤ a ∧ a ≤ hi ∧ (r.1 = 2 ∨ ¬ a = cu) ∧ (¬ ah = 0 ∨ lo < a ∨ r.1 = 2)
def kF_r (lo hi : Nat) (a : Nat) (r : tt_R) : tt_R := (0, r.2.1, r.2.2.1 + nI (max a lo - a), nI (min (a + rl r) hi - max a lo))
def kF1 (lo hi cu : Nat) (ah : Int32) (a : Nat) (r : tt_R) : List tt_R := if r.1 = 0 then (if max a lo < min (a + rl r) hi then [kF_r lo hi a r] else []) else if kF_c lo hi cu ah a r then [r] else []
def kF (lo hi cu : Nat) (ah : Int32) : List tt_R → Nat → List tt_R
  | [], _ => []
  | r :: L, a => kF1 lo hi cu ah a r ++ kF lo hi cu ah L (a + rl r)
theorem kF_A {kp b : Nat} : ∀ (T : List tt_R) (a : Nat), (∀ r ∈ T, ln_k kp r) → kF 0 b b 1 T a = kA b T a
  | [], _, _ => rfl
  | r :: T, a, h => by
    have hr := (h r List.mem_cons_self).ln
    rw [kF, kA, kF_A T _ (fun x hx => h x (List.mem_cons_of_mem _ hx))]
    congr 1
    unfold kF1 kA1 kF_r kF_c
    by_cases e : r.1 = 0
    · have := (hr.2.2.1 e).1
      rw [if_pos e, if_pos e]
      by_cases e2 : a < b
      · rw [if_pos (by omega), if_pos e2, show max a 0 - a = 0 by omega, show min (a + rl r) b - max a 0 = min (rl r) (b - a) by omega, nI_0, show r.2.2.1 + 0 = r.2.2.1 by grind]
      · rw [if_neg (by omega), if_neg e2]
    · rw [if_neg e, if_neg e]
      by_cases e2 : r.1 = 2
      · rw [if_pos e2]
        by_cases e3 : a ≤ b
        · rw [if_pos e3, if_pos ⟨by omega, e3, Or.inl e2, Or.inl (by decide)⟩]
        · rw [if_neg e3, if_neg (fun z => e3 z.2.1)]
      · rw [if_neg e2]
        by_cases e3 : a < b
        · rw [if_pos e3, if_pos ⟨by omega, by omega, Or.inr (by omega), Or.inl (by decide)⟩]
        · rw [if_neg e3, if_neg (fun z => z.2.2.1.elim e2 (fun y => by have := z.2.1; omega))]
theorem kF_B {kp e N : Nat} : ∀ (T : List tt_R) (a : Nat), (∀ r ∈ T, ln_k kp r) → a + ln_N T ≤ N → kF e N e 0 T a = kB e T a
  | [], _, _, _ => rfl
  | r :: T, a, h, hN => by
    have hr := (h r List.mem_cons_self).ln
    rw [ln_N] at hN
    rw [kF, kB, kF_B T _ (fun x hx => h x (List.mem_cons_of_mem _ hx)) (by omega)]
    congr 1
    unfold kF1 kB1 kF_r kF_c
    by_cases e1 : r.1 = 0
    · have := (hr.2.2.1 e1).1
      rw [if_pos e1, if_pos e1]
      by_cases e2 : e < a + rl r
      · rw [if_pos (by omega), if_pos e2, show min (a + rl r) N - max a e = a + rl r - max a e by omega]
      · rw [if_neg (by omega), if_neg e2]
    · rw [if_neg e1, if_neg e1]
      by_cases e2 : r.1 = 2
      · rw [if_pos e2]
        by_cases e3 : e ≤ a
        · rw [if_pos e3, if_pos ⟨e3, by omega, Or.inl e2, Or.inr (Or.inr e2)⟩]
        · rw [if_neg e3, if_neg (fun z => e3 z.1)]
      · rw [if_neg e2]
        by_cases e3 : e < a
        · rw [if_pos e3, if_pos ⟨by omega, by omega, Or.inr (by omega), Or.inr (Or.inl e3)⟩]
        · rw [if_neg e3, if_neg (fun z => z.2.2.2.elim (fun y => y rfl) (fun y => y.elim e3 e2))]
theorem kF_len {lo hi cu : Nat} {ah : Int32} : ∀ (T : List tt_R) (a : Nat), (kF lo hi cu ah T a).length ≤ T.length
  | [], _ => Nat.le_refl _
  | r :: T, a => by
    have := kF_len (lo := lo) (hi := hi) (cu := cu) (ah := ah) T (a + rl r)
    rw [kF, List.length_append, List.length_cons]
    have : (kF1 lo hi cu ah a r).length ≤ 1 := by
      unfold kF1
      split
      · split <;> simp
      · split <;> simp
    omega
section MOU
variable {l : Launch} {G : mm_G} {h0 h : mm_H} {m s : mo_S} {n : Nat} {T L D : List tt_R}
theorem c_X9_keeps (p : mo_P h0 h s) {n : Nat} (e : s.1 26 = nI n) (hn : n < 8192) (k x f t : Int32) : mm_Ct l G mX9_keeps [.ref 29, .int k, .int x, .int f, .int t] h (mm_qv (fun h' => mo_P h0 h' (mo_kp s n k x f t))) := by
  refine mm_ct (by decide +kernel) (by decide +kernel) rfl (by simp [Value.category]) (Nat.le_of_ble_eq_true rfl) rfl ?_
  refine ex_aload_n dX9_keeps_0 rfl ?_
  refine ex_getfield dX9_keeps_1 g_X9_62 (mP_o p) rfl ?_
  refine ex_aload_n dX9_keeps_4 rfl ?_
  refine ex_getfield (v := .int (nI n)) dX9_keeps_5 g_X9_269 (mP_o p) (congrArg (fun z => some (Value.int z)) (e)) ?_
  refine ex_iload_n dX9_keeps_8 rfl ?_
  refine ex_iastore dX9_keeps_9 (mA_27 p) (by first | assumption | exact vp_in_nI (by omega) (by decide)) ?_
  refine mq_27 p (fun h9 p9 => ?_)
  refine ex_aload_n dX9_keeps_10 rfl ?_
  refine ex_getfield dX9_keeps_11 g_X9_65 (mP_o p9) rfl ?_
  refine ex_aload_n dX9_keeps_14 rfl ?_
  refine ex_getfield (v := .int (nI n)) dX9_keeps_15 g_X9_269 (mP_o p9) (congrArg (fun z => some (Value.int z)) (e)) ?_
  refine ex_iload_n dX9_keeps_18 rfl ?_
  refine ex_iastore dX9_keeps_19 (mA_28 p9) (by first | assumption | exact vp_in_nI (by omega) (by decide)) ?_
  refine mq_28 p9 (fun h19 p19 => ?_)
  refine ex_aload_n dX9_keeps_20 rfl ?_
  refine ex_getfield dX9_keeps_21 g_X9_68 (mP_o p19) rfl ?_
  refine ex_aload_n dX9_keeps_24 rfl ?_
  refine ex_getfield (v := .int (nI n)) dX9_keeps_25 g_X9_269 (mP_o p19) (congrArg (fun z => some (Value.int z)) (e)) ?_
  refine ex_iload_n dX9_keeps_28 rfl ?_
  refine ex_iastore dX9_keeps_29 (mA_29 p19) (by first | assumption | exact vp_in_nI (by omega) (by decide)) ?_
  refine mq_29 p19 (fun h29 p29 => ?_)
  refine ex_aload_n dX9_keeps_30 rfl ?_
  refine ex_getfield dX9_keeps_31 g_X9_71 (mP_o p29) rfl ?_
  refine ex_aload_n dX9_keeps_34 rfl ?_
  refine ex_getfield (v := .int (nI n)) dX9_keeps_35 g_X9_269 (mP_o p29) (congrArg (fun z => some (Value.int z)) (e)) ?_
  refine ex_iload dX9_keeps_38 rfl ?_
  refine ex_iastore dX9_keeps_40 (mA_30 p29) (by first | assumption | exact vp_in_nI (by omega) (by decide)) ?_
  refine mq_30 p29 (fun h40 p40 => ?_)
  refine ex_aload_n dX9_keeps_41 rfl ?_
  refine ex_dup dX9_keeps_42 rfl ?_
  refine ex_getfield (v := .int (nI n)) dX9_keeps_43 g_X9_269 (mP_o p40) (congrArg (fun z => some (Value.int z)) (e)) ?_
  refine ex_iconst (v := 1) dX9_keeps_46 (by decide) ?_
  refine ex_iadd dX9_keeps_47 ?_
  rw [nI_1]
  refine ex_put dX9_keeps_48 p_X9_269 (mP_o p40) (Nat.le_of_ble_eq_true rfl) (fun z => nomatch z) (mm_fi _) ?_
  refine mk_26 p40 (fun h48 p48 => ?_)
  refine ex_return dX9_keeps_51 rfl ?_
  rw [nI_clamp (show n < 2 ^ 31 by omega)] at p48; exact ⟨rfl, p48⟩
theorem c_X9_keepsFrom (p : mo_P h0 h s) (hl : r_line s T) (hw : ln_W T) (hd : r_new s D) {lo hi cu : Nat} (hlo : lo < 2 ^ 31) (hhi : hi < 2 ^ 31) (hcu : cu < 2 ^ 31) (hN : ln_N T < 2 ^ 31) (hn : D.length + T.length ≤ 8190) (ah lov hiv cuv : Int32) (e1 : lov = nI lo) (e2 : hiv = nI hi) (e3 : cuv = nI cu) : mm_Ct l G mX9_keepsFrom [.ref 29, .int lov, .int hiv, .int cuv, .int ah] h (mm_qv (fun h' => ∃ s', mo_P h0 h' s' ∧ mo_F [26, 27, 28, 29, 30] s s' ∧ r_new s' (D ++ kF lo hi cu ah T 0))) := by
  subst e1 e2 e3
  have key : ∀ (a : Nat) (D1 : List tt_R) (s1 : mo_S) (h1 : mm_H) (x7 x8 x9 : Value), a + ln_N T < 2 ^ 31 → mo_P h0 h1 s1 → mo_F [26, 27, 28, 29, 30] s s1 → r_new s1 D1 → D1.length + T.length ≤ 8190 → mm_Ex l G mX9_keepsFrom (mm_qv (fun h' => ∃ s', mo_P h0 h' s' ∧ mo_F [26, 27, 28, 29, 30] s s' ∧ r_new s' (D1 ++ kF lo hi cu ah T a))) 6 [.ref 29, .int (nI lo), .int (nI hi), .int (nI cu), .int ah, .int (nI a), .int (nI 0), x7, x8, x9] [] h1 := by
    refine lp_fwd T (fun i T' => ∀ (a : Nat) (D1 : List tt_R) (s1 : mo_S) (h1 : mm_H) (x7 x8 x9 : Value), a + ln_N T' < 2 ^ 31 → mo_P h0 h1 s1 → mo_F [26, 27, 28, 29, 30] s s1 → r_new s1 D1 → D1.length + T'.length ≤ 8190 → mm_Ex l G mX9_keepsFrom (mm_qv (fun h' => ∃ s', mo_P h0 h' s' ∧ mo_F [26, 27, 28, 29, 30] s s' ∧ r_new s' (D1 ++ kF lo hi cu ah T' a))) 6 [.ref 29, .int (nI lo), .int (nI hi), .int (nI cu), .int ah, .int (nI a), .int (nI i), x7, x8, x9] [] h1) ?_ ?_
    · intro a D1 s1 h1 x7 x8 x9 ha p1 f1 d1 hn1
      refine ex_iload dX9_keepsFrom_6 rfl ?_
      refine ex_aload_n dX9_keepsFrom_8 rfl ?_
      refine ex_getfield (v := .int (nI T.length)) dX9_keepsFrom_9 g_X9_171 (mP_o p1) (congrArg (fun z => some (Value.int z)) (f1.g hl.1)) ?_
      refine ex_icmp_ge (tgt := 195) dX9_keepsFrom_12 (by decide) (fun _ => ?_) (fun z => absurd (Int32.le_refl _) z)
      refine ex_return dX9_keepsFrom_195 rfl ?_
      exact ⟨rfl, s1, p1, f1, by rw [kF, List.append_nil]; exact d1⟩
    · intro i r R hr hR hi1 ih a D1 s1 h1 x7 x8 x9 ha p1 f1 d1 hn1
      rw [List.length_cons] at hn1
      rw [ln_N] at ha
      have hrw := hw.2 i r hr
      have hrl := hrw.ln
      obtain ⟨l1, l2, l3, l4⟩ := hl.2 i r hr
      have hstep : ∀ (D2 : List tt_R) (s2 : mo_S) (h2 : mm_H) (x8 x9 : Value), D2.length ≤ D1.length + 1 → D2 = D1 ++ kF1 lo hi cu ah a r → mo_P h0 h2 s2 → mo_F [26, 27, 28, 29, 30] s s2 → r_new s2 D2 → mm_Ex l G mX9_keepsFrom (mm_qv (fun h' => ∃ s', mo_P h0 h' s' ∧ mo_F [26, 27, 28, 29, 30] s s' ∧ r_new s' (D1 ++ kF lo hi cu ah (r :: R) a))) 182 [.ref 29, .int (nI lo), .int (nI hi), .int (nI cu), .int ah, .int (nI a), .int (nI i), .int r.2.2.2, x8, x9] [] h2 := by
        intro D2 s2 h2 x8 x9 hD e p2 f2 d2
        have := fun (x7 : Value) => ih (a + rl r) D2 s2 h2 x7 x8 x9 (by omega) p2 f2 d2 (by omega)
        rw [kF, ← List.append_assoc, ← e]
        refine ex_iload dX9_keepsFrom_182 rfl ?_
        refine ex_iload dX9_keepsFrom_184 rfl ?_
        refine ex_iadd dX9_keepsFrom_186 ?_
        refine ex_istore dX9_keepsFrom_187 (Nat.le_of_ble_eq_true rfl) ?_
        refine ex_iinc (d := 1) dX9_keepsFrom_189 rfl (by decide) ?_
        refine ex_goto (tgt := 6) dX9_keepsFrom_192 (by decide) ?_
        rw [nI_1, hrl.1, nI_add]; exact this _
      refine ex_iload dX9_keepsFrom_6 rfl ?_
      refine ex_aload_n dX9_keepsFrom_8 rfl ?_
      refine ex_getfield (v := .int (nI T.length)) dX9_keepsFrom_9 g_X9_171 (mP_o p1) (congrArg (fun z => some (Value.int z)) (f1.g hl.1)) ?_
      refine ex_icmp_ge (tgt := 195) dX9_keepsFrom_12 (by decide) (fun z => absurd z (nI_ge hi1 (by have := hw.1; omega))) (fun _ => ?_)
      refine ex_aload_n dX9_keepsFrom_15 rfl ?_
      refine ex_iload dX9_keepsFrom_16 rfl ?_
      refine cV_f dX9_keepsFrom_18 (mm_kv i_X9_lengthOf l_X9_174) ⟨(Nat.le_of_ble_eq_true rfl), (Nat.le_of_ble_eq_true rfl)⟩ (c_X9_lengthOf p1 (hl.fr f1) hw hr _ rfl) rfl rfl (mP_o p1) (Nat.le_of_ble_eq_true rfl) rfl ?_
      refine ex_istore dX9_keepsFrom_21 (Nat.le_of_ble_eq_true rfl) ?_
      skip
      by_cases e0 : r.1 = 0
      rotate_left
      · have hb : r.2.1 = -1 ∧ r.2.2.1 = -1 ∧ ln_to r = -1 := by
          rcases hrw with ⟨z, -⟩ | ⟨-, z⟩
          · exact absurd z e0
          · exact ⟨congrArg Prod.fst z, congrArg (fun y => y.2.1) z, if_neg e0⟩
        have hno : ¬ kF_c lo hi cu ah a r → mm_Ex l G mX9_keepsFrom (mm_qv (fun h' => ∃ s', mo_P h0 h' s' ∧ mo_F [26, 27, 28, 29, 30] s s' ∧ r_new s' (D1 ++ kF lo hi cu ah (r :: R) a))) 182 [.ref 29, .int (nI lo), .int (nI hi), .int (nI cu), .int ah, .int (nI a), .int (nI i), .int r.2.2.2, x8, x9] [] h1 := fun z => hstep D1 s1 h1 x8 x9 (Nat.le_succ _) (by rw [kF1, if_neg e0, if_neg z, List.append_nil]) p1 f1 d1
        have hyes : kF_c lo hi cu ah a r → ∀ h2, mo_P h0 h2 (mo_kp s1 D1.length r.1 (-1) (-1) (-1)) → mm_Ex l G mX9_keepsFrom (mm_qv (fun h' => ∃ s', mo_P h0 h' s' ∧ mo_F [26, 27, 28, 29, 30] s s' ∧ r_new s' (D1 ++ kF lo hi cu ah (r :: R) a))) 182 [.ref 29, .int (nI lo), .int (nI hi), .int (nI cu), .int ah, .int (nI a), .int (nI i), .int r.2.2.2, x8, x9] [] h2 := fun z h2 p2 => hstep (D1 ++ [r]) _ h2 x8 x9 (by rw [List.length_append]; exact Nat.le_refl _) (by rw [kF1, if_neg e0, if_pos z]) p2 (f1.kp _ _ _ _ _) (by have := d1.kp r; rw [hb.1, hb.2.1, hb.2.2] at this; exact this)
        have hA : nI a < nI lo ↔ a < lo := nI_ltI (by omega) hlo
        have hB : nI hi < nI a ↔ hi < a := nI_ltI hhi (by omega)
        have hC : nI a = nI cu ↔ a = cu := nI_eq (by omega) hcu
        have hD : nI lo < nI a ↔ lo < a := nI_ltI hlo (by omega)
        refine ex_aload_n dX9_keepsFrom_23 rfl ?_
        refine ex_getfield dX9_keepsFrom_24 g_X9_50 (mP_o p1) rfl ?_
        refine ex_iload dX9_keepsFrom_27 rfl ?_
        refine ex_ialoadv (v := r.1) dX9_keepsFrom_29 (mA_22 p1) (by first | assumption | exact vp_in_nI (by omega) (by decide)) (mo_av ((congrFun (f1.2.2 22 rfl) i).trans l1) rfl (by have := hw.1; omega)) ?_
        refine ex_if_ne (tgt := 117) dX9_keepsFrom_30 (by decide) (fun _ => ?_) (fun z => absurd z e0)
        refine ex_iload dX9_keepsFrom_117 rfl ?_
        refine ex_iload_n dX9_keepsFrom_119 rfl ?_
        refine ex_icmp_lt (tgt := 182) dX9_keepsFrom_120 (by decide) (fun c_120 => ?_) (fun c_120 => ?_)
        · exact hno (fun z => Nat.not_lt.mpr z.1 (hA.mp c_120))
        · refine ex_iload dX9_keepsFrom_123 rfl ?_
          refine ex_iload_n dX9_keepsFrom_125 rfl ?_
          refine ex_icmp_gt (tgt := 182) dX9_keepsFrom_126 (by decide) (fun c_126 => ?_) (fun c_126 => ?_)
          · exact hno (fun z => Nat.not_lt.mpr z.2.1 (hB.mp c_126))
          · refine ex_aload_n dX9_keepsFrom_129 rfl ?_
            refine ex_getfield dX9_keepsFrom_130 g_X9_50 (mP_o p1) rfl ?_
            refine ex_iload dX9_keepsFrom_133 rfl ?_
            refine ex_ialoadv (v := r.1) dX9_keepsFrom_135 (mA_22 p1) (by first | assumption | exact vp_in_nI (by omega) (by decide)) (mo_av ((congrFun (f1.2.2 22 rfl) i).trans l1) rfl (by have := hw.1; omega)) ?_
            refine ex_iconst (v := 2) dX9_keepsFrom_136 (by decide) ?_
            refine ex_icmp_eq (tgt := 146) dX9_keepsFrom_137 (by decide) (fun c_137 => ?_) (fun c_137 => ?_)
            · refine ex_iload dX9_keepsFrom_146 rfl ?_
              refine ex_if_ne (tgt := 168) dX9_keepsFrom_148 (by decide) (fun c_148 => ?_) (fun c_148 => ?_)
              · refine ex_aload_n dX9_keepsFrom_168 rfl ?_
                refine ex_aload_n dX9_keepsFrom_169 rfl ?_
                refine ex_getfield dX9_keepsFrom_170 g_X9_50 (mP_o p1) rfl ?_
                refine ex_iload dX9_keepsFrom_173 rfl ?_
                refine ex_ialoadv (v := r.1) dX9_keepsFrom_175 (mA_22 p1) (by first | assumption | exact vp_in_nI (by omega) (by decide)) (mo_av ((congrFun (f1.2.2 22 rfl) i).trans l1) rfl (by have := hw.1; omega)) ?_
                refine ex_iconst (v := (-1)) dX9_keepsFrom_176 (by decide) ?_
                refine ex_iconst (v := (-1)) dX9_keepsFrom_177 (by decide) ?_
                refine ex_iconst (v := (-1)) dX9_keepsFrom_178 (by decide) ?_
                refine cV_y dX9_keepsFrom_179 (mm_kv i_X9_keeps l_X9_272) ⟨(Nat.le_of_ble_eq_true rfl), (Nat.le_of_ble_eq_true rfl)⟩ (c_X9_keeps p1 d1.1 (by omega) _ _ _ _) rfl rfl (mP_o p1) (Nat.le_of_ble_eq_true rfl) rfl ?_
                rintro h179 p179
                exact hyes ⟨Nat.not_lt.mp (mt hA.mpr c_120), Nat.not_lt.mp (mt hB.mpr c_126), (by first | exact Or.inl c_137 | exact Or.inr (mt hC.mpr c_143)), (by first | exact Or.inl c_148 | exact Or.inr (Or.inl (hD.mp c_154)) | exact Or.inr (Or.inr c_165))⟩ _ p179
              · refine ex_iload dX9_keepsFrom_151 rfl ?_
                refine ex_iload_n dX9_keepsFrom_153 rfl ?_
                refine ex_icmp_gt (tgt := 168) dX9_keepsFrom_154 (by decide) (fun c_154 => ?_) (fun c_154 => ?_)
                · refine ex_aload_n dX9_keepsFrom_168 rfl ?_
                  refine ex_aload_n dX9_keepsFrom_169 rfl ?_
                  refine ex_getfield dX9_keepsFrom_170 g_X9_50 (mP_o p1) rfl ?_
                  refine ex_iload dX9_keepsFrom_173 rfl ?_
                  refine ex_ialoadv (v := r.1) dX9_keepsFrom_175 (mA_22 p1) (by first | assumption | exact vp_in_nI (by omega) (by decide)) (mo_av ((congrFun (f1.2.2 22 rfl) i).trans l1) rfl (by have := hw.1; omega)) ?_
                  refine ex_iconst (v := (-1)) dX9_keepsFrom_176 (by decide) ?_
                  refine ex_iconst (v := (-1)) dX9_keepsFrom_177 (by decide) ?_
                  refine ex_iconst (v := (-1)) dX9_keepsFrom_178 (by decide) ?_
                  refine cV_y dX9_keepsFrom_179 (mm_kv i_X9_keeps l_X9_272) ⟨(Nat.le_of_ble_eq_true rfl), (Nat.le_of_ble_eq_true rfl)⟩ (c_X9_keeps p1 d1.1 (by omega) _ _ _ _) rfl rfl (mP_o p1) (Nat.le_of_ble_eq_true rfl) rfl ?_
                  rintro h179 p179
                  exact hyes ⟨Nat.not_lt.mp (mt hA.mpr c_120), Nat.not_lt.mp (mt hB.mpr c_126), (by first | exact Or.inl c_137 | exact Or.inr (mt hC.mpr c_143)), (by first | exact Or.inl c_148 | exact Or.inr (Or.inl (hD.mp c_154)) | exact Or.inr (Or.inr c_165))⟩ _ p179
                · refine ex_aload_n dX9_keepsFrom_157 rfl ?_
                  refine ex_getfield dX9_keepsFrom_158 g_X9_50 (mP_o p1) rfl ?_
                  refine ex_iload dX9_keepsFrom_161 rfl ?_
                  refine ex_ialoadv (v := r.1) dX9_keepsFrom_163 (mA_22 p1) (by first | assumption | exact vp_in_nI (by omega) (by decide)) (mo_av ((congrFun (f1.2.2 22 rfl) i).trans l1) rfl (by have := hw.1; omega)) ?_
                  refine ex_iconst (v := 2) dX9_keepsFrom_164 (by decide) ?_
                  refine ex_icmp_ne (tgt := 182) dX9_keepsFrom_165 (by decide) (fun c_165 => ?_) (fun c_165 => ?_)
                  · exact hno (fun z => z.2.2.2.elim (fun y => y c_148) (fun y => y.elim (fun x => c_154 (hD.mpr x)) c_165))
                  · refine ex_aload_n dX9_keepsFrom_168 rfl ?_
                    refine ex_aload_n dX9_keepsFrom_169 rfl ?_
                    refine ex_getfield dX9_keepsFrom_170 g_X9_50 (mP_o p1) rfl ?_
                    refine ex_iload dX9_keepsFrom_173 rfl ?_
                    refine ex_ialoadv (v := r.1) dX9_keepsFrom_175 (mA_22 p1) (by first | assumption | exact vp_in_nI (by omega) (by decide)) (mo_av ((congrFun (f1.2.2 22 rfl) i).trans l1) rfl (by have := hw.1; omega)) ?_
                    refine ex_iconst (v := (-1)) dX9_keepsFrom_176 (by decide) ?_
                    refine ex_iconst (v := (-1)) dX9_keepsFrom_177 (by decide) ?_
                    refine ex_iconst (v := (-1)) dX9_keepsFrom_178 (by decide) ?_
                    refine cV_y dX9_keepsFrom_179 (mm_kv i_X9_keeps l_X9_272) ⟨(Nat.le_of_ble_eq_true rfl), (Nat.le_of_ble_eq_true rfl)⟩ (c_X9_keeps p1 d1.1 (by omega) _ _ _ _) rfl rfl (mP_o p1) (Nat.le_of_ble_eq_true rfl) rfl ?_
                    rintro h179 p179
                    exact hyes ⟨Nat.not_lt.mp (mt hA.mpr c_120), Nat.not_lt.mp (mt hB.mpr c_126), (by first | exact Or.inl c_137 | exact Or.inr (mt hC.mpr c_143)), (by first | exact Or.inl c_148 | exact Or.inr (Or.inl (hD.mp c_154)) | exact Or.inr (Or.inr c_165))⟩ _ p179
            · refine ex_iload dX9_keepsFrom_140 rfl ?_
              refine ex_iload_n dX9_keepsFrom_142 rfl ?_
              refine ex_icmp_eq (tgt := 182) dX9_keepsFrom_143 (by decide) (fun c_143 => ?_) (fun c_143 => ?_)
              · exact hno (fun z => z.2.2.1.elim c_137 (fun y => y (hC.mp c_143)))
              · refine ex_iload dX9_keepsFrom_146 rfl ?_
                refine ex_if_ne (tgt := 168) dX9_keepsFrom_148 (by decide) (fun c_148 => ?_) (fun c_148 => ?_)
                · refine ex_aload_n dX9_keepsFrom_168 rfl ?_
                  refine ex_aload_n dX9_keepsFrom_169 rfl ?_
                  refine ex_getfield dX9_keepsFrom_170 g_X9_50 (mP_o p1) rfl ?_
                  refine ex_iload dX9_keepsFrom_173 rfl ?_
                  refine ex_ialoadv (v := r.1) dX9_keepsFrom_175 (mA_22 p1) (by first | assumption | exact vp_in_nI (by omega) (by decide)) (mo_av ((congrFun (f1.2.2 22 rfl) i).trans l1) rfl (by have := hw.1; omega)) ?_
                  refine ex_iconst (v := (-1)) dX9_keepsFrom_176 (by decide) ?_
                  refine ex_iconst (v := (-1)) dX9_keepsFrom_177 (by decide) ?_
                  refine ex_iconst (v := (-1)) dX9_keepsFrom_178 (by decide) ?_
                  refine cV_y dX9_keepsFrom_179 (mm_kv i_X9_keeps l_X9_272) ⟨(Nat.le_of_ble_eq_true rfl), (Nat.le_of_ble_eq_true rfl)⟩ (c_X9_keeps p1 d1.1 (by omega) _ _ _ _) rfl rfl (mP_o p1) (Nat.le_of_ble_eq_true rfl) rfl ?_
                  rintro h179 p179
                  exact hyes ⟨Nat.not_lt.mp (mt hA.mpr c_120), Nat.not_lt.mp (mt hB.mpr c_126), (by first | exact Or.inl c_137 | exact Or.inr (mt hC.mpr c_143)), (by first | exact Or.inl c_148 | exact Or.inr (Or.inl (hD.mp c_154)) | exact Or.inr (Or.inr c_165))⟩ _ p179
                · refine ex_iload dX9_keepsFrom_151 rfl ?_
                  refine ex_iload_n dX9_keepsFrom_153 rfl ?_
                  refine ex_icmp_gt (tgt := 168) dX9_keepsFrom_154 (by decide) (fun c_154 => ?_) (fun c_154 => ?_)
                  · refine ex_aload_n dX9_keepsFrom_168 rfl ?_
                    refine ex_aload_n dX9_keepsFrom_169 rfl ?_
                    refine ex_getfield dX9_keepsFrom_170 g_X9_50 (mP_o p1) rfl ?_
                    refine ex_iload dX9_keepsFrom_173 rfl ?_
                    refine ex_ialoadv (v := r.1) dX9_keepsFrom_175 (mA_22 p1) (by first | assumption | exact vp_in_nI (by omega) (by decide)) (mo_av ((congrFun (f1.2.2 22 rfl) i).trans l1) rfl (by have := hw.1; omega)) ?_
                    refine ex_iconst (v := (-1)) dX9_keepsFrom_176 (by decide) ?_
                    refine ex_iconst (v := (-1)) dX9_keepsFrom_177 (by decide) ?_
                    refine ex_iconst (v := (-1)) dX9_keepsFrom_178 (by decide) ?_
                    refine cV_y dX9_keepsFrom_179 (mm_kv i_X9_keeps l_X9_272) ⟨(Nat.le_of_ble_eq_true rfl), (Nat.le_of_ble_eq_true rfl)⟩ (c_X9_keeps p1 d1.1 (by omega) _ _ _ _) rfl rfl (mP_o p1) (Nat.le_of_ble_eq_true rfl) rfl ?_
                    rintro h179 p179
                    exact hyes ⟨Nat.not_lt.mp (mt hA.mpr c_120), Nat.not_lt.mp (mt hB.mpr c_126), (by first | exact Or.inl c_137 | exact Or.inr (mt hC.mpr c_143)), (by first | exact Or.inl c_148 | exact Or.inr (Or.inl (hD.mp c_154)) | exact Or.inr (Or.inr c_165))⟩ _ p179
                  · refine ex_aload_n dX9_keepsFrom_157 rfl ?_
                    refine ex_getfield dX9_keepsFrom_158 g_X9_50 (mP_o p1) rfl ?_
                    refine ex_iload dX9_keepsFrom_161 rfl ?_
                    refine ex_ialoadv (v := r.1) dX9_keepsFrom_163 (mA_22 p1) (by first | assumption | exact vp_in_nI (by omega) (by decide)) (mo_av ((congrFun (f1.2.2 22 rfl) i).trans l1) rfl (by have := hw.1; omega)) ?_
                    refine ex_iconst (v := 2) dX9_keepsFrom_164 (by decide) ?_
                    refine ex_icmp_ne (tgt := 182) dX9_keepsFrom_165 (by decide) (fun c_165 => ?_) (fun c_165 => ?_)
                    · exact hno (fun z => z.2.2.2.elim (fun y => y c_148) (fun y => y.elim (fun x => c_154 (hD.mpr x)) c_165))
                    · refine ex_aload_n dX9_keepsFrom_168 rfl ?_
                      refine ex_aload_n dX9_keepsFrom_169 rfl ?_
                      refine ex_getfield dX9_keepsFrom_170 g_X9_50 (mP_o p1) rfl ?_
                      refine ex_iload dX9_keepsFrom_173 rfl ?_
                      refine ex_ialoadv (v := r.1) dX9_keepsFrom_175 (mA_22 p1) (by first | assumption | exact vp_in_nI (by omega) (by decide)) (mo_av ((congrFun (f1.2.2 22 rfl) i).trans l1) rfl (by have := hw.1; omega)) ?_
                      refine ex_iconst (v := (-1)) dX9_keepsFrom_176 (by decide) ?_
                      refine ex_iconst (v := (-1)) dX9_keepsFrom_177 (by decide) ?_
                      refine ex_iconst (v := (-1)) dX9_keepsFrom_178 (by decide) ?_
                      refine cV_y dX9_keepsFrom_179 (mm_kv i_X9_keeps l_X9_272) ⟨(Nat.le_of_ble_eq_true rfl), (Nat.le_of_ble_eq_true rfl)⟩ (c_X9_keeps p1 d1.1 (by omega) _ _ _ _) rfl rfl (mP_o p1) (Nat.le_of_ble_eq_true rfl) rfl ?_
                      rintro h179 p179
                      exact hyes ⟨Nat.not_lt.mp (mt hA.mpr c_120), Nat.not_lt.mp (mt hB.mpr c_126), (by first | exact Or.inl c_137 | exact Or.inr (mt hC.mpr c_143)), (by first | exact Or.inl c_148 | exact Or.inr (Or.inl (hD.mp c_154)) | exact Or.inr (Or.inr c_165))⟩ _ p179
      · have hn1' := (hrl.2.2.1 e0).1
        refine ex_aload_n dX9_keepsFrom_23 rfl ?_
        refine ex_getfield dX9_keepsFrom_24 g_X9_50 (mP_o p1) rfl ?_
        refine ex_iload dX9_keepsFrom_27 rfl ?_
        refine ex_ialoadv (v := r.1) dX9_keepsFrom_29 (mA_22 p1) (by first | assumption | exact vp_in_nI (by omega) (by decide)) (mo_av ((congrFun (f1.2.2 22 rfl) i).trans l1) rfl (by have := hw.1; omega)) ?_
        refine ex_if_ne (tgt := 117) dX9_keepsFrom_30 (by decide) (fun z => absurd e0 z) (fun _ => ?_)
        skip
        refine mm_viaJ (nI (max a lo)) (pc' := 45) (ls' := [.ref 29, .int (nI lo), .int (nI hi), .int (nI cu), .int ah, .int (nI a), .int (nI i), .int r.2.2.2, x8, x9]) (st := []) ?_ (fun kk => ?_)
        · skip
          refine ex_istore dX9_keepsFrom_45 (Nat.le_of_ble_eq_true rfl) ?_
          skip
          refine mm_viaJ (nI (min (a + rl r) hi)) (pc' := 65) (ls' := [.ref 29, .int (nI lo), .int (nI hi), .int (nI cu), .int ah, .int (nI a), .int (nI i), .int r.2.2.2, .int (nI (max a lo)), x9]) (st := []) ?_ (fun kk => ?_)
          · by_cases e4 : max a lo < min (a + rl r) hi
            · skip
              refine ex_istore dX9_keepsFrom_65 (Nat.le_of_ble_eq_true rfl) ?_
              refine ex_iload dX9_keepsFrom_67 rfl ?_
              refine ex_iload dX9_keepsFrom_69 rfl ?_
              refine ex_icmp_le (tgt := 114) dX9_keepsFrom_71 (by decide) (fun z => absurd z (nI_ge e4 (by omega))) (fun _ => ?_)
              refine ex_aload_n dX9_keepsFrom_74 rfl ?_
              refine ex_iconst (v := 0) dX9_keepsFrom_75 (by decide) ?_
              refine ex_aload_n dX9_keepsFrom_76 rfl ?_
              refine ex_getfield dX9_keepsFrom_77 g_X9_53 (mP_o p1) rfl ?_
              refine ex_iload dX9_keepsFrom_80 rfl ?_
              refine ex_ialoadv (v := r.2.1) dX9_keepsFrom_82 (mA_23 p1) (by first | assumption | exact vp_in_nI (by omega) (by decide)) (mo_av ((congrFun (f1.2.2 23 rfl) i).trans l2) rfl (by have := hw.1; omega)) ?_
              refine ex_aload_n dX9_keepsFrom_83 rfl ?_
              refine ex_getfield dX9_keepsFrom_84 g_X9_56 (mP_o p1) rfl ?_
              refine ex_iload dX9_keepsFrom_87 rfl ?_
              refine ex_ialoadv (v := r.2.2.1) dX9_keepsFrom_89 (mA_24 p1) (by first | assumption | exact vp_in_nI (by omega) (by decide)) (mo_av ((congrFun (f1.2.2 24 rfl) i).trans l3) rfl (by have := hw.1; omega)) ?_
              refine ex_iload dX9_keepsFrom_90 rfl ?_
              refine ex_iadd dX9_keepsFrom_92 ?_
              refine ex_iload dX9_keepsFrom_93 rfl ?_
              refine ex_isub dX9_keepsFrom_95 ?_
              refine ex_aload_n dX9_keepsFrom_96 rfl ?_
              refine ex_getfield dX9_keepsFrom_97 g_X9_56 (mP_o p1) rfl ?_
              refine ex_iload dX9_keepsFrom_100 rfl ?_
              refine ex_ialoadv (v := r.2.2.1) dX9_keepsFrom_102 (mA_24 p1) (by first | assumption | exact vp_in_nI (by omega) (by decide)) (mo_av ((congrFun (f1.2.2 24 rfl) i).trans l3) rfl (by have := hw.1; omega)) ?_
              refine ex_iload dX9_keepsFrom_103 rfl ?_
              refine ex_iadd dX9_keepsFrom_105 ?_
              refine ex_iload dX9_keepsFrom_106 rfl ?_
              refine ex_isub dX9_keepsFrom_108 ?_
              refine ex_iconst (v := 1) dX9_keepsFrom_109 (by decide) ?_
              refine ex_isub dX9_keepsFrom_110 ?_
              refine cV_y dX9_keepsFrom_111 (mm_kv i_X9_keeps l_X9_272) ⟨(Nat.le_of_ble_eq_true rfl), (Nat.le_of_ble_eq_true rfl)⟩ (c_X9_keeps p1 d1.1 (by omega) _ _ _ _) rfl rfl (mP_o p1) (Nat.le_of_ble_eq_true rfl) rfl ?_
              rintro h111 p111
              refine ex_goto (tgt := 182) dX9_keepsFrom_114 (by decide) ?_
              skip
              have x1 : r.2.2.1 + nI (max a lo) - nI a = (kF_r lo hi a r).2.2.1 := by
                unfold kF_r
                dsimp only
                rw [← nI_sub (show a ≤ max a lo by omega)]; grind
              have x2 : r.2.2.1 + nI (min (a + rl r) hi) - nI a - 1 = ln_to (kF_r lo hi a r) := by
                unfold kF_r ln_to
                dsimp only
                rw [if_pos rfl, ← nI_sub (show a ≤ max a lo by omega), ← nI_sub (show max a lo ≤ min (a + rl r) hi by omega)]; grind
              rw [x1, x2] at p111
              exact hstep (D1 ++ [kF_r lo hi a r]) _ h111 _ _ (by rw [List.length_append]; exact Nat.le_refl _) (by rw [kF1, if_pos e0, if_pos e4]) p111 (f1.kp _ _ _ _ _) (d1.kp (kF_r lo hi a r))
            · skip
              refine ex_istore dX9_keepsFrom_65 (Nat.le_of_ble_eq_true rfl) ?_
              refine ex_iload dX9_keepsFrom_67 rfl ?_
              refine ex_iload dX9_keepsFrom_69 rfl ?_
              refine ex_icmp_le (tgt := 114) dX9_keepsFrom_71 (by decide) (fun _ => ?_) (fun z => absurd (nI_le (by omega) (by omega)) z)
              refine ex_goto (tgt := 182) dX9_keepsFrom_114 (by decide) ?_
              exact hstep D1 s1 h1 _ _ (Nat.le_succ _) (by rw [kF1, if_pos e0, if_neg e4, List.append_nil]) p1 f1 d1
          · rw [hrl.1] at kk ⊢
            refine ex_iload dX9_keepsFrom_47 rfl ?_
            refine ex_iload dX9_keepsFrom_49 rfl ?_
            refine ex_iadd dX9_keepsFrom_51 ?_
            refine ex_iload_n dX9_keepsFrom_52 rfl ?_
            refine ex_icmp_ge (tgt := 64) dX9_keepsFrom_53 (by decide) (fun c_53 => ?_) (fun c_53 => ?_)
            · refine ex_iload_n dX9_keepsFrom_64 rfl ?_
              exact kk _ (by rw [nI_add] at c_53; have := (nI_leI hhi (by omega)).mp c_53; congr 1; omega)
            · refine ex_iload dX9_keepsFrom_56 rfl ?_
              refine ex_iload dX9_keepsFrom_58 rfl ?_
              refine ex_iadd dX9_keepsFrom_60 ?_
              refine ex_goto (tgt := 65) dX9_keepsFrom_61 (by decide) ?_
              exact kk _ (by rw [nI_add] at c_53 ⊢; have := mt (nI_leI hhi (by omega)).mpr c_53; congr 1; omega)
        · skip
          refine ex_iload dX9_keepsFrom_33 rfl ?_
          refine ex_iload_n dX9_keepsFrom_35 rfl ?_
          refine ex_icmp_le (tgt := 44) dX9_keepsFrom_36 (by decide) (fun c_36 => ?_) (fun c_36 => ?_)
          · refine ex_iload_n dX9_keepsFrom_44 rfl ?_
            exact kk _ (by have := (nI_leI (by omega) hlo).mp c_36; congr 1; omega)
          · refine ex_iload dX9_keepsFrom_39 rfl ?_
            refine ex_goto (tgt := 45) dX9_keepsFrom_41 (by decide) ?_
            exact kk _ (by have := mt (nI_leI (by omega) hlo).mpr c_36; congr 1; omega)
  refine mm_ct (by decide +kernel) (by decide +kernel) rfl (by simp [Value.category]) (Nat.le_of_ble_eq_true rfl) rfl ?_
  refine ex_iconst (v := 0) dX9_keepsFrom_0 (by decide) ?_
  refine ex_istore dX9_keepsFrom_1 (Nat.le_of_ble_eq_true rfl) ?_
  refine ex_iconst (v := 0) dX9_keepsFrom_3 (by decide) ?_
  refine ex_istore dX9_keepsFrom_4 (Nat.le_of_ble_eq_true rfl) ?_
  exact key 0 D s h _ _ _ (by omega) p (mo_F.refl _ s) hd hn
end MOU
