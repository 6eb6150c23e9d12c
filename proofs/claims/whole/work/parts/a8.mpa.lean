/-! THE MODEL: the search of a way of a given length -/
section MPA
variable {l : Launch} {G : mm_G} {h0 h : mm_H} {m : mo_S} {s : cl_S} {n : Nat}
theorem nI_rem6 {y : Nat} (hy : y < 2 ^ 31) : nI y - nI y / 6 * 6 = nI (y % 6) := by
  rw [show (6 : Int32) = nI 6 from rfl, pk_div hy (by decide) (by decide), pk_mul, nI_sub (by omega)]
  congr 1; omega
theorem x_X9_step (p : mo_P h0 h m) (r : r_all s m) (hi : iv n s) (hn : n ≤ 513) {Q : mm_R → mm_H → Prop} {j : Nat} {e : tt_R} (he : (s.1 6)[j]? = some e) {k x : Nat} (hk : k ≤ 3) (hx : x < 216) (pw : Value) : ∀ (t st : Nat) (nd vis us : Int32) (x10 : Value), st + t = k → (nd = -1 ∨ ∃ v, v < 4 ∧ nd = nI v) → (∀ x5 x7 x9 x10, mm_Ex l G mX9_wayOf Q 174 [.ref 29, .int (nI j), .int (nI k), pw, .int (nI x), x5, .int (mw (s.1 5) (ne_us (s.1 6) e.2.2.1 (cl_dl s) (s.1 5) 0 0) t x nd vis us).1, x7, .int (mw (s.1 5) (ne_us (s.1 6) e.2.2.1 (cl_dl s) (s.1 5) 0 0) t x nd vis us).2, x9, x10] [] h) → mm_Ex l G mX9_wayOf Q 54 [.ref 29, .int (nI j), .int (nI k), pw, .int (nI x), .int (nI (6 ^ t)), .int nd, .int vis, .int us, .int (nI st), x10] [] h
  | 0, st, nd, vis, us, x10, hst, _, kk => by
    refine ex_iload dX9_wayOf_54 rfl ?_
    refine ex_iload_n dX9_wayOf_56 rfl ?_
    refine ex_icmp_ge (tgt := 174) dX9_wayOf_57 (by decide) (fun _ => ?_) (fun z => absurd (by rw [show st = k by omega]; exact Int32.le_refl _) z)
    exact kk _ _ _ _
  | t + 1, st, nd, vis, us, x10, hst, hnd, kk => by
    obtain ⟨k', kp, lo, wa, mk, c, hxx⟩ := id hi
    obtain ⟨⟨g1, g2, g3, g4⟩, g5, g6⟩ := hxx.2.2.2.2.2.2.2.2.2.2.2
    have hl := r.2.2.2.2.2.2.2.2.1.1
    have hlk : ∀ q ∈ s.1 5, lk_k q := fun q hq => by
      obtain ⟨a, b, w, d, eq, h1, h2, h3, -⟩ := g4 q hq
      exact ⟨a, b, by rw [eq], by rw [eq], h1, h2, h3⟩
    have h6t : 6 ^ (t + 1) / 6 = 6 ^ t := by rw [Nat.pow_succ]; exact Nat.mul_div_cancel _ (by decide)
    have hpt : 6 ^ t = 1 ∨ 6 ^ t = 6 ∨ 6 ^ t = 36 := p6 (by omega)
    have hpt1 : 6 ^ (t + 1) < 2 ^ 31 := by rw [Nat.pow_succ]; omega
    rcases hnd with hnd | ⟨v, hv, rfl⟩
    · skip
      refine ex_iload dX9_wayOf_54 rfl ?_
      refine ex_iload_n dX9_wayOf_56 rfl ?_
      refine ex_icmp_ge (tgt := 174) dX9_wayOf_57 (by decide) (fun z => absurd z (nI_ge (by omega) (by omega))) (fun _ => ?_)
      refine ex_iload dX9_wayOf_60 rfl ?_
      refine ex_iconst (v := (-1)) dX9_wayOf_62 (by decide) ?_
      refine ex_icmp_eq (tgt := 174) dX9_wayOf_63 (by decide) (fun _ => ?_) (fun z => absurd hnd z)
      rw [mw, if_pos hnd] at kk; exact kk _ _ _ _
    refine ex_iload dX9_wayOf_54 rfl ?_
    refine ex_iload_n dX9_wayOf_56 rfl ?_
    refine ex_icmp_ge (tgt := 174) dX9_wayOf_57 (by decide) (fun z => absurd z (nI_ge (by omega) (by omega))) (fun _ => ?_)
    refine ex_iload dX9_wayOf_60 rfl ?_
    refine ex_iconst (v := (-1)) dX9_wayOf_62 (by decide) ?_
    refine ex_icmp_eq (tgt := 174) dX9_wayOf_63 (by decide) (fun z => absurd z (nI_m1n (by omega))) (fun _ => ?_)
    refine ex_iload dX9_wayOf_66 rfl ?_
    refine ex_bipush (v := 6) dX9_wayOf_68 (by decide) ?_
    refine ex_idiv dX9_wayOf_70 (by decide) ?_
    rw [show (6 : Int32) = nI 6 from rfl, pk_div hpt1 (by decide) (by decide), h6t]
    refine ex_istore dX9_wayOf_71 (Nat.le_of_ble_eq_true rfl) ?_
    refine ex_iload dX9_wayOf_73 rfl ?_
    refine ex_iload dX9_wayOf_75 rfl ?_
    refine ex_idiv dX9_wayOf_77 (nI_ne0 (by omega) (by omega)) ?_
    refine ex_bipush (v := 6) dX9_wayOf_78 (by decide) ?_
    refine ex_irem dX9_wayOf_80 (by decide) ?_
    rw [pk_div (by omega) (by omega) (by omega), nI_rem6 (by have := Nat.div_le_self x (6 ^ t); omega)]
    refine ex_istore dX9_wayOf_81 (Nat.le_of_ble_eq_true rfl) ?_
    skip
    have hi6 : x / 6 ^ t % 6 < 6 := Nat.mod_lt _ (by decide)
    rw [mw, if_neg (nI_m1n (by omega))] at kk
    have hor := mwt_or (u := ne_us (s.1 6) e.2.2.1 (cl_dl s) (s.1 5) 0 0) hlk (i := x / 6 ^ t % 6) hv vis
    rw [mw_t0] at kk hor
    generalize x / 6 ^ t % 6 = i at hi6 kk hor
    have hus := fun z => us_no (D := s.1 6) (w := e.2.2.1) (d := cl_dl s) g2 (i := i) hi6 z
    generalize hu : ne_us (s.1 6) e.2.2.1 (cl_dl s) (s.1 5) 0 0 = u at kk hor hus
    refine mm_viaJ (mw_0 (s.1 5) u i (nI v)) (pc' := 114) (ls' := [.ref 29, .int (nI j), .int (nI k), pw, .int (nI x), .int (nI (6 ^ t)), .int (nI v), .int vis, .int us, .int (nI st), .int (nI i)]) (st := []) ?_ (fun k2 => ?_)
    · generalize mw_0 (s.1 5) u i (nI v) = v0 at kk hor
      have hih := fun nd' (hnd' : nd' = -1 ∨ ∃ v, v < 4 ∧ nd' = nI v) (x10 : Value) => x_X9_step (Q := Q) p r hi hn he hk hx pw t (st + 1) nd' (vis ||| (if nd' = -1 then 0 else (1 : Int32) <<< (nd' &&& 31))) (us ||| ne_1 i) x10 (by omega) hnd'
      rw [hu] at hih
      refine ex_istore dX9_wayOf_114 (Nat.le_of_ble_eq_true rfl) ?_
      skip
      refine mm_viaJ (if v0 = -1 then -1 else if (vis >>> (v0 &&& 31)) &&& 1 = 0 then v0 else -1) (pc' := 138) (ls' := [.ref 29, .int (nI j), .int (nI k), pw, .int (nI x), .int (nI (6 ^ t)), .int v0, .int vis, .int us, .int (nI st), .int (nI i)]) (st := []) ?_ (fun k3 => ?_)
      · have hor' : (if v0 = -1 then -1 else if (vis >>> (v0 &&& 31)) &&& 1 = 0 then v0 else -1) = -1 ∨ ∃ v, v < 4 ∧ (if v0 = -1 then -1 else if (vis >>> (v0 &&& 31)) &&& 1 = 0 then v0 else -1) = nI v := hor.imp id (fun ⟨t, h1, h2⟩ => ⟨t, h2.1, h1⟩)
        generalize (if v0 = -1 then -1 else if (vis >>> (v0 &&& 31)) &&& 1 = 0 then v0 else -1) = nd' at kk hor'
        refine ex_istore dX9_wayOf_138 (Nat.le_of_ble_eq_true rfl) ?_
        refine ex_iload dX9_wayOf_140 rfl ?_
        skip
        refine mm_viaJ (if nd' = -1 then 0 else (1 : Int32) <<< (nd' &&& 31)) (pc' := 156) (ls' := [.ref 29, .int (nI j), .int (nI k), pw, .int (nI x), .int (nI (6 ^ t)), .int nd', .int vis, .int us, .int (nI st), .int (nI i)]) (st := [.int vis]) ?_ (fun k4 => ?_)
        · skip
          refine ex_ior dX9_wayOf_156 ?_
          refine ex_istore dX9_wayOf_157 (Nat.le_of_ble_eq_true rfl) ?_
          refine ex_iload dX9_wayOf_159 rfl ?_
          refine ex_iconst (v := 1) dX9_wayOf_161 (by decide) ?_
          refine ex_iload dX9_wayOf_162 rfl ?_
          refine ex_ishl dX9_wayOf_164 ?_
          refine ex_ior dX9_wayOf_165 ?_
          refine ex_istore dX9_wayOf_166 (Nat.le_of_ble_eq_true rfl) ?_
          refine ex_iinc (d := 1) dX9_wayOf_168 rfl (by decide) ?_
          refine ex_goto (tgt := 54) dX9_wayOf_171 (by decide) ?_
          rw [nI_1]; exact hih nd' hor' _ kk
        · skip
          refine ex_iload dX9_wayOf_142 rfl ?_
          refine ex_iconst (v := (-1)) dX9_wayOf_144 (by decide) ?_
          refine ex_icmp_ne (tgt := 152) dX9_wayOf_145 (by decide) (fun c_145 => ?_) (fun c_145 => ?_)
          · refine ex_iconst (v := 1) dX9_wayOf_152 (by decide) ?_
            refine ex_iload dX9_wayOf_153 rfl ?_
            refine ex_ishl dX9_wayOf_155 ?_
            exact k4 _ (by rw [if_neg c_145])
          · refine ex_iconst (v := 0) dX9_wayOf_148 (by decide) ?_
            refine ex_goto (tgt := 156) dX9_wayOf_149 (by decide) ?_
            exact k4 _ (by rw [if_pos c_145])
      · skip
        refine ex_iload dX9_wayOf_116 rfl ?_
        refine ex_iconst (v := (-1)) dX9_wayOf_118 (by decide) ?_
        refine ex_icmp_eq (tgt := 137) dX9_wayOf_119 (by decide) (fun c_119 => ?_) (fun c_119 => ?_)
        · refine ex_iconst (v := (-1)) dX9_wayOf_137 (by decide) ?_
          exact k3 _ (by rw [if_pos c_119])
        · refine ex_iload dX9_wayOf_122 rfl ?_
          refine ex_iload dX9_wayOf_124 rfl ?_
          refine ex_ishr dX9_wayOf_126 ?_
          refine ex_iconst (v := 1) dX9_wayOf_127 (by decide) ?_
          refine ex_iand dX9_wayOf_128 ?_
          refine ex_if_ne (tgt := 137) dX9_wayOf_129 (by decide) (fun c_129 => ?_) (fun c_129 => ?_)
          · refine ex_iconst (v := (-1)) dX9_wayOf_137 (by decide) ?_
            exact k3 _ (by rw [if_neg c_119, if_neg c_129])
          · refine ex_iload dX9_wayOf_132 rfl ?_
            refine ex_goto (tgt := 138) dX9_wayOf_134 (by decide) ?_
            exact k3 _ (by rw [if_neg c_119, if_pos c_129])
    · rcases Nat.lt_or_ge i (s.1 5).length with zi | zi
      · have hq := List.getElem?_eq_getElem zi
        generalize (s.1 5)[i] = q at hq
        refine ex_iload dX9_wayOf_83 rfl ?_
        refine ex_aload_n dX9_wayOf_85 rfl ?_
        refine ex_getfield (v := .int (nI (s.1 5).length)) dX9_wayOf_86 g_X9_89 (mP_o p) (congrArg (fun z => some (Value.int z)) (hl)) ?_
        refine ex_icmp_ge (tgt := 113) dX9_wayOf_89 (by decide) (fun z => absurd z (nI_ge zi (by omega))) (fun _ => ?_)
        refine ex_aload_n dX9_wayOf_92 rfl ?_
        refine ex_iload dX9_wayOf_93 rfl ?_
        refine ex_iload_n dX9_wayOf_95 rfl ?_
        refine cV_f dX9_wayOf_96 (mm_kv i_X9_hasFree l_X9_292) ⟨(Nat.le_of_ble_eq_true rfl), (Nat.le_of_ble_eq_true rfl)⟩ (c_X9_hasFree p r hi hn hq he _ _ rfl rfl) rfl rfl (mP_o p) (Nat.le_of_ble_eq_true rfl) rfl ?_
        refine ex_if_eq (tgt := 113) dX9_wayOf_99 (by decide) (fun c_99 => ?_) (fun c_99 => ?_)
        · refine ex_iconst (v := (-1)) dX9_wayOf_113 (by decide) ?_
          exact k2 _ (by rw [hu] at c_99; rw [mw_0, if_neg (bb_0.mp c_99)])
        · refine ex_aload_n dX9_wayOf_102 rfl ?_
          refine ex_iload dX9_wayOf_103 rfl ?_
          refine ex_iload dX9_wayOf_105 rfl ?_
          refine cV_f dX9_wayOf_107 (mm_kv i_X9_across l_X9_295) ⟨(Nat.le_of_ble_eq_true rfl), (Nat.le_of_ble_eq_true rfl)⟩ (c_X9_across p r hq hi6 _) rfl rfl (mP_o p) (Nat.le_of_ble_eq_true rfl) rfl ?_
          refine ex_goto (tgt := 114) dX9_wayOf_110 (by decide) ?_
          exact k2 _ (by rw [hu] at c_99; rw [mw_0, if_pos (bb_n.mp c_99), hq])
      · skip
        refine ex_iload dX9_wayOf_83 rfl ?_
        refine ex_aload_n dX9_wayOf_85 rfl ?_
        refine ex_getfield (v := .int (nI (s.1 5).length)) dX9_wayOf_86 g_X9_89 (mP_o p) (congrArg (fun z => some (Value.int z)) (hl)) ?_
        refine ex_icmp_ge (tgt := 113) dX9_wayOf_89 (by decide) (fun _ => ?_) (fun z => absurd (nI_le zi (by omega)) z)
        refine ex_iconst (v := (-1)) dX9_wayOf_113 (by decide) ?_
        exact k2 _ (by rw [mw_0, if_neg (by rw [hus zi]; decide)])
theorem c_X9_wayOf (p : mo_P h0 h m) (r : r_all s m) (hi : iv n s) (hn : n ≤ 513) {j a b : Nat} {e : tt_R} (he : (s.1 6)[j]? = some e) (h1 : e.1 = nI a) (h2 : e.2.1 = nI b) (ha : a < 4) (hb : b < 4) {k : Nat} (hk : k ≤ 3) (kv : Int32) (hkv : kv = nI k) : mm_Ct l G mX9_wayOf [.ref 29, .int (nI j), .int kv] h (mm_ri (.int (ms (s.1 5) (ne_us (s.1 6) e.2.2.1 (cl_dl s) (s.1 5) 0 0) k a b (6 ^ k) 0)) h) := by
  subst hkv
  have hj10 : j < 10 := by
    obtain ⟨k', kp, lo, wa, mk, c, hxx⟩ := id hi
    have := hxx.2.2.2.2.2.2.2.2.2.2.2.2.1
    have := (List.getElem?_eq_some_iff.mp he).1
    omega
  obtain ⟨-, rd⟩ := r.2.2.2.2.2.2.2.2.2
  have h6k : 6 ^ k ≤ 216 := Nat.pow_le_pow_right (by decide) (show k ≤ 3 from hk)
  have key : ∀ (n x : Nat) (x5 x6 x7 x8 x9 x10 : Value), x + n = 6 ^ k → mm_Ex l G mX9_wayOf (mm_ri (.int (ms (s.1 5) (ne_us (s.1 6) e.2.2.1 (cl_dl s) (s.1 5) 0 0) k a b n x)) h) 25 [.ref 29, .int (nI j), .int (nI k), .int (nI (6 ^ k)), .int (nI x), x5, x6, x7, x8, x9, x10] [] h := by
    intro n
    induction n with
    | zero =>
      intro x x5 x6 x7 x8 x9 x10 hx
      refine ex_iload dX9_wayOf_25 rfl ?_
      refine ex_iload_n dX9_wayOf_27 rfl ?_
      refine ex_icmp_ge (tgt := 194) dX9_wayOf_28 (by decide) (fun _ => ?_) (fun z => absurd (by rw [show x = 6 ^ k by omega]; exact Int32.le_refl _) z)
      refine ex_iconst (v := 0) dX9_wayOf_194 (by decide) ?_
      refine ex_ireturn dX9_wayOf_195 ⟨_, rfl, rfl⟩ ?_
      exact ⟨rfl, rfl⟩
    | succ n ih =>
      intro x x5 x6 x7 x8 x9 x10 hx
      refine ex_iload dX9_wayOf_25 rfl ?_
      refine ex_iload_n dX9_wayOf_27 rfl ?_
      refine ex_icmp_ge (tgt := 194) dX9_wayOf_28 (by decide) (fun z => absurd z (nI_ge (by omega) (by omega))) (fun _ => ?_)
      refine ex_iload_n dX9_wayOf_31 rfl ?_
      refine ex_istore dX9_wayOf_32 (Nat.le_of_ble_eq_true rfl) ?_
      refine ex_aload_n dX9_wayOf_34 rfl ?_
      refine ex_getfield dX9_wayOf_35 g_X9_105 (mP_o p) rfl ?_
      refine ex_iload_n dX9_wayOf_38 rfl ?_
      refine ex_ialoadv (v := nI a) dX9_wayOf_39 (mA_49 p) (by first | assumption | exact vp_in_nI (by omega) (by decide)) (mo_av (show m.2.2 49 j = nI a from (rd j e he).1.trans h1) rfl (by omega)) ?_
      refine ex_istore dX9_wayOf_40 (Nat.le_of_ble_eq_true rfl) ?_
      refine ex_iconst (v := 1) dX9_wayOf_42 (by decide) ?_
      refine ex_iload dX9_wayOf_43 rfl ?_
      refine ex_ishl dX9_wayOf_45 ?_
      refine ex_istore dX9_wayOf_46 (Nat.le_of_ble_eq_true rfl) ?_
      refine ex_iconst (v := 0) dX9_wayOf_48 (by decide) ?_
      refine ex_istore dX9_wayOf_49 (Nat.le_of_ble_eq_true rfl) ?_
      refine ex_iconst (v := 0) dX9_wayOf_51 (by decide) ?_
      refine ex_istore dX9_wayOf_52 (Nat.le_of_ble_eq_true rfl) ?_
      skip
      refine x_X9_step p r hi hn he hk (x := x) (by omega) _ k 0 (nI a) _ 0 _ (Nat.zero_add k) (Or.inr ⟨a, ha, rfl⟩) (fun y5 y7 y9 y10 => ?_)
      show mm_Ex l G mX9_wayOf _ 174 [.ref 29, .int (nI j), .int (nI k), .int (nI (6 ^ k)), .int (nI x), y5, .int (mw (s.1 5) (ne_us (s.1 6) e.2.2.1 (cl_dl s) (s.1 5) 0 0) k x (nI a) (ne_1 a) 0).1, y7, .int (mw (s.1 5) (ne_us (s.1 6) e.2.2.1 (cl_dl s) (s.1 5) 0 0) k x (nI a) (ne_1 a) 0).2, y9, y10] [] h
      rw [ms]
      generalize mw (s.1 5) (ne_us (s.1 6) e.2.2.1 (cl_dl s) (s.1 5) 0 0) k x (nI a) (ne_1 a) 0 = w
      refine ex_iload dX9_wayOf_174 rfl ?_
      refine ex_aload_n dX9_wayOf_176 rfl ?_
      refine ex_getfield dX9_wayOf_177 g_X9_108 (mP_o p) rfl ?_
      refine ex_iload_n dX9_wayOf_180 rfl ?_
      refine ex_ialoadv (v := nI b) dX9_wayOf_181 (mA_50 p) (by first | assumption | exact vp_in_nI (by omega) (by decide)) (mo_av (show m.2.2 50 j = nI b from (rd j e he).2.1.trans h2) rfl (by omega)) ?_
      refine ex_icmp_ne (tgt := 188) dX9_wayOf_182 (by decide) (fun c_182 => ?_) (fun c_182 => ?_)
      · refine ex_iinc (d := 1) dX9_wayOf_188 rfl (by decide) ?_
        refine ex_goto (tgt := 25) dX9_wayOf_191 (by decide) ?_
        rw [if_neg c_182, nI_1]; exact ih (x + 1) _ _ _ _ _ _ (by omega)
      · refine ex_iload dX9_wayOf_185 rfl ?_
        refine ex_ireturn dX9_wayOf_187 ⟨_, rfl, rfl⟩ ?_
        rw [if_pos c_182]; exact ⟨rfl, rfl⟩
  have pw : mm_Ex l G mX9_wayOf (mm_ri (.int (ms (s.1 5) (ne_us (s.1 6) e.2.2.1 (cl_dl s) (s.1 5) 0 0) k a b (6 ^ k) 0)) h) 5 [.ref 29, .int (nI j), .int (nI k), .int (nI (6 ^ 0)), .int (nI 0), .null, .null, .null, .null, .null, .null] [] h := by
    refine lp_nat k (fun i => mm_Ex l G mX9_wayOf (mm_ri (.int (ms (s.1 5) (ne_us (s.1 6) e.2.2.1 (cl_dl s) (s.1 5) 0 0) k a b (6 ^ k) 0)) h) 5 [.ref 29, .int (nI j), .int (nI k), .int (nI (6 ^ i)), .int (nI i), .null, .null, .null, .null, .null, .null] [] h) ?_ ?_
    · skip
      refine ex_iload dX9_wayOf_5 rfl ?_
      refine ex_iload_n dX9_wayOf_7 rfl ?_
      refine ex_icmp_ge (tgt := 22) dX9_wayOf_8 (by decide) (fun _ => ?_) (fun z => absurd (Int32.le_refl _) z)
      refine ex_iconst (v := 0) dX9_wayOf_22 (by decide) ?_
      refine ex_istore dX9_wayOf_23 (Nat.le_of_ble_eq_true rfl) ?_
      exact key (6 ^ k) 0 _ _ _ _ _ _ (Nat.zero_add _)
    · intro i hik ih
      have h6i : 6 ^ i < 2 ^ 31 := Nat.lt_of_le_of_lt (Nat.pow_le_pow_right (by decide) (show i ≤ 3 by omega)) (by decide)
      refine ex_iload dX9_wayOf_5 rfl ?_
      refine ex_iload_n dX9_wayOf_7 rfl ?_
      refine ex_icmp_ge (tgt := 22) dX9_wayOf_8 (by decide) (fun z => absurd z (nI_ge hik (by omega))) (fun _ => ?_)
      refine ex_iload_n dX9_wayOf_11 rfl ?_
      refine ex_bipush (v := 6) dX9_wayOf_12 (by decide) ?_
      refine ex_imul dX9_wayOf_14 ?_
      refine ex_istore_n dX9_wayOf_15 (Nat.le_of_ble_eq_true rfl) ?_
      refine ex_iinc (d := 1) dX9_wayOf_16 rfl (by decide) ?_
      refine ex_goto (tgt := 5) dX9_wayOf_19 (by decide) ?_
      rw [nI_1, show (6 : Int32) = nI 6 from rfl, pk_mul, ← Nat.pow_succ]; exact ih
  refine mm_ct (by decide +kernel) (by decide +kernel) rfl (by simp [Value.category]) (Nat.le_of_ble_eq_true rfl) rfl ?_
  refine ex_iconst (v := 1) dX9_wayOf_0 (by decide) ?_
  refine ex_istore_n dX9_wayOf_1 (Nat.le_of_ble_eq_true rfl) ?_
  refine ex_iconst (v := 0) dX9_wayOf_2 (by decide) ?_
  refine ex_istore dX9_wayOf_3 (Nat.le_of_ble_eq_true rfl) ?_
  exact pw
end MPA
