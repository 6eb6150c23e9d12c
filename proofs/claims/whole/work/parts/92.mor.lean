/-! THE MODEL: drops, feeding, working -/
def dr_1 (lo hi a : Nat) (r : tt_R) : Nat := if r.1 = 2 then (if (lo < a ∨ lo = 0) ∧ a ≤ hi then 40 else 0) else (min (a + rl r) hi - max a lo) / 100
def mo_dr (lo hi : Nat) : List tt_R → Nat → Nat
  | [], _ => 0
  | r :: L, a => dr_1 lo hi a r + mo_dr lo hi L (a + rl r)
def mo_db (p : Nat) : List tt_R → Nat → Nat
  | [], _ => 0
  | r :: L, a => (if r.1 = 2 then (if p < a then 40 else 0) else (a + rl r - max a p) / 100) + mo_db p L (a + rl r)
def mo_r0 (p : Nat) : List tt_R → Nat → Nat
  | [], _ => 0
  | r :: L, a => (if r.1 = 2 ∧ a ≤ p then 1 else 0) + mo_r0 p L (a + rl r)
theorem mo_dr_0 {lo hi : Nat} : ∀ (L : List tt_R) (a : Nat), hi < a → mo_dr lo hi L a = 0
  | [], _, _ => rfl
  | r :: L, a, h => by
    rw [mo_dr, mo_dr_0 L _ (by omega), dr_1]
    split
    · rw [if_neg (fun z => by omega)]
    · have : min (a + rl r) hi - max a lo = 0 := by omega
      rw [this]
theorem ro_do_N {kp : Nat} {r : tt_R} {x : Nat} (h : ln_k kp r) (hx : x ≤ rl r) : ro_do r.1 (nI x) = nI (if r.1 = 2 then 40 else x / 100) := by
  have := h.ln.2.1
  rw [ro_do]
  by_cases e : r.1 = 2
  · rw [if_pos e, if_pos e]; rfl
  · rw [if_neg e, if_neg e, show (100 : Int32) = nI 100 from rfl, pk_div (by omega) (by decide) (by decide)]
theorem ro_da_N {kp p : Nat} (hp : p < 2 ^ 31) : ∀ (T : List tt_R) (d a : Nat), (∀ r ∈ T, ln_k kp r) → a + ln_N T < 2 ^ 31 → ro_da (nI p) T (nI d) (nI a) = nI (d + mo_dr 0 p T a)
  | [], d, a, _, _ => rfl
  | r :: T, d, a, h, hN => by
    have hr := h r List.mem_cons_self
    rw [ln_N] at hN
    rw [ro_da]
    by_cases e : p < a
    · rw [if_pos (nI_lt e (by omega)), mo_dr_0 (r :: T) a e]; rfl
    · rw [if_neg (nI_nlt (by omega) hp), hr.ln.1, nI_sub (by omega), mn_nI (by have := hr.ln.2.1; omega) (by omega), ro_do_N hr (Nat.min_le_left _ _), nI_add, nI_add, ro_da_N hp T _ _ (fun q hq => h q (List.mem_cons_of_mem _ hq)) (by omega), mo_dr, dr_1]
      congr 1
      rw [Nat.add_assoc]
      congr 1
      congr 1
      by_cases e2 : r.1 = 2
      · rw [if_pos e2, if_pos e2, if_pos ⟨Or.inr rfl, by omega⟩]
      · rw [if_neg e2, if_neg e2]; congr 1; omega
theorem mo_db_app {p : Nat} : ∀ (L M : List tt_R) (a : Nat), mo_db p (L ++ M) a = mo_db p L a + mo_db p M (a + ln_N L)
  | [], M, a => by show mo_db p M a = 0 + mo_db p M (a + 0); rw [Nat.zero_add, Nat.add_zero]
  | r :: L, M, a => by
    show _ + mo_db p (L ++ M) (a + rl r) = _ + mo_db p L (a + rl r) + mo_db p M (a + (rl r + ln_N L))
    rw [mo_db_app L M, Nat.add_assoc, Nat.add_assoc]
theorem mo_db_0 {p : Nat} : ∀ (L : List tt_R) (a : Nat), a + ln_N L ≤ p → mo_db p L a = 0
  | [], _, _ => rfl
  | r :: L, a, h => by
    rw [ln_N] at h
    rw [mo_db, mo_db_0 L _ (by omega)]
    split
    · rw [if_neg (by omega)]
    · have : a + rl r - max a p = 0 := by omega
      rw [this]
theorem ro_db_N {kp p : Nat} (hp : p < 2 ^ 31) : ∀ (R : List tt_R) (d : Nat), (∀ r ∈ R, ln_k kp r) → ln_N R < 2 ^ 31 → ro_db (nI p) R (nI d) (nI (ln_N R)) = nI (d + mo_db p R.reverse 0)
  | [], d, _, _ => rfl
  | r :: R, d, h, hN => by
    have hr := h r List.mem_cons_self
    have h4 := hr.ln.2.2.2
    rw [ln_N] at hN
    have hrev : mo_db p (r :: R).reverse 0 = mo_db p R.reverse 0 + (if r.1 = 2 then (if p < ln_N R then 40 else 0) else (ln_N R + rl r - max (ln_N R) p) / 100) := by
      rw [List.reverse_cons, mo_db_app, ln_N_rev, Nat.zero_add]; rfl
    rw [ro_db, ln_N]
    by_cases e : rl r + ln_N R ≤ p
    · rw [if_pos (nI_le e hp), mo_db_0 (r :: R).reverse 0 (by rw [ln_N_rev, ln_N]; omega)]; rfl
    · rw [if_neg (nI_ge (by omega) (by omega)), hr.ln.1, nI_sub (by omega), mn_nI (by have := hr.ln.2.1; omega) (by omega), ro_do_N hr (Nat.min_le_left _ _), nI_add, nI_sub (by omega), show rl r + ln_N R - rl r = ln_N R by omega, ro_db_N hp R _ (fun q hq => h q (List.mem_cons_of_mem _ hq)) (by omega), hrev]
      congr 1
      by_cases e2 : r.1 = 2
      · have := h4 (by rw [e2]; decide)
        rw [if_pos e2, if_pos e2, if_pos (by omega)]; omega
      · rw [if_neg e2, if_neg e2]
        have : min (rl r) (rl r + ln_N R - p) = ln_N R + rl r - max (ln_N R) p := by omega
        rw [this]; omega
theorem mo_dr_db {lo hi : Nat} : ∀ (L : List tt_R) (a : Nat), a + ln_N L ≤ hi → mo_dr lo hi L a = mo_db lo L a + (if lo = 0 then 40 * mo_r0 0 L a else 0)
  | [], a, _ => by show 0 = 0 + _; split <;> rfl
  | r :: L, a, h => by
    rw [ln_N] at h
    rw [mo_dr, mo_db, mo_r0, mo_dr_db L _ (by omega), dr_1]
    by_cases e2 : r.1 = 2
    · rw [if_pos e2, if_pos e2]
      by_cases e0 : lo = 0
      · subst e0
        rw [if_pos ⟨Or.inr rfl, by omega⟩, if_pos rfl, if_pos rfl]
        by_cases ea : 0 < a
        · rw [if_pos ea, if_neg (fun z => by omega)]; omega
        · rw [if_neg ea, if_pos ⟨e2, by omega⟩]; omega
      · rw [if_neg e0, if_neg e0]
        by_cases ea : lo < a
        · rw [if_pos ⟨Or.inl ea, by omega⟩, if_pos ea]; omega
        · rw [if_neg (fun z => by omega), if_neg ea]; omega
    · rw [if_neg e2, if_neg e2, if_neg (show ¬ (r.1 = 2 ∧ a ≤ 0) from fun z => e2 z.1)]
      have : min (a + rl r) hi = a + rl r := by omega
      rw [this, Nat.zero_add, Nat.add_assoc]
def f_ok (N : Nat) (x : Int32) : Prop := x = -1 ∨ ∃ q, q < N ∧ x = nI q
theorem fa_f_ok {N : Nat} : ∀ (L : List tt_R) (f g : Int32), (∀ r ∈ L, ∃ q, q < N ∧ r.2.1 = nI q) → N < 2 ^ 31 → f_ok N f → f_ok N g → (¬ f = -1 → ¬ g = -1) → f_ok N (fa_f L f) ∧ f_ok N (fa_l L g) ∧ (¬ fa_f L f = -1 → ¬ fa_l L g = -1)
  | [], f, g, _, _, hf, hg, hfg => ⟨hf, hg, hfg⟩
  | r :: L, f, g, h, hN, hf, hg, hfg => by
    have hL := fun q hq => h q (List.mem_cons_of_mem _ hq)
    obtain ⟨q, hq, eq⟩ := h r List.mem_cons_self
    have hro : f_ok N r.2.1 := Or.inr ⟨q, hq, eq⟩
    have hr1 : ¬ r.2.1 = -1 := fun z => absurd (show nI q < 0 by rw [← eq, z]; decide) (nI_pos (by omega))
    have hmx : f_ok N (mx g r.2.1) ∧ ¬ mx g r.2.1 = -1 := by
      unfold mx
      by_cases e : g < r.2.1
      · rw [if_pos e]; exact ⟨hro, hr1⟩
      · rw [if_neg e]
        refine ⟨hg, fun z => e ?_⟩
        rw [z, eq]
        exact Int32.lt_of_lt_of_le (by decide : (-1 : Int32) < 0) (nI_pos' (by omega))
    rw [fa_f, fa_l]
    by_cases e : r.1 = 0
    · rw [if_pos e, if_pos e]
      by_cases e1 : f = -1
      · rw [if_pos e1]; exact fa_f_ok L _ _ hL hN hro hmx.1 (fun _ => hmx.2)
      · rw [if_neg e1]
        by_cases e2 : f ≤ r.2.1
        · rw [if_pos e2]; exact fa_f_ok L _ _ hL hN hf hmx.1 (fun _ => hmx.2)
        · rw [if_neg e2]; exact fa_f_ok L _ _ hL hN hro hmx.1 (fun _ => hmx.2)
    · rw [if_neg e, if_neg e]; exact fa_f_ok L _ _ hL hN hf hg hfg
section MOR
variable {l : Launch} {G : mm_G} {h0 h : mm_H} {m : mo_S} {s : cl_S} {n : Nat} {T L : List tt_R}
theorem c_X9_drops (p : mo_P h0 h m) (hl : r_line m T) (hw : ln_W T) (hN : ln_N T < 2 ^ 30) {lo hi : Nat} (h1 : lo < 2 ^ 30) (h2 : hi < 2 ^ 30) (lv hv : Int32) (elv : lv = nI lo) (ehv : hv = nI hi) : mm_Ct l G mX9_drops [.ref 29, .int lv, .int hv] h (mm_ri (.int (nI (mo_dr lo hi T 0))) h) := by
  subst elv ehv
  have hL := hw.1
  have key : ∀ (x a : Nat) (x6 x7 x8 : Value), a + ln_N T < 2 ^ 30 → mm_Ex l G mX9_drops (mm_ri (.int (nI (x + mo_dr lo hi T a))) h) 8 [.ref 29, .int (nI lo), .int (nI hi), .int (nI x), .int (nI a), .int (nI 0), x6, x7, x8] [] h := by
    refine lp_fwd T (fun i R => ∀ (x a : Nat) (x6 x7 x8 : Value), a + ln_N R < 2 ^ 30 → mm_Ex l G mX9_drops (mm_ri (.int (nI (x + mo_dr lo hi R a))) h) 8 [.ref 29, .int (nI lo), .int (nI hi), .int (nI x), .int (nI a), .int (nI i), x6, x7, x8] [] h) ?_ ?_
    · intro x a x6 x7 x8 _
      refine ex_iload dX9_drops_8 rfl ?_
      refine ex_aload_n dX9_drops_10 rfl ?_
      refine ex_getfield (v := .int (nI T.length)) dX9_drops_11 g_X9_171 (mP_o p) (congrArg (fun z => some (Value.int z)) (hl.1)) ?_
      refine ex_icmp_ge (tgt := 133) dX9_drops_14 (by decide) (fun _ => ?_) (fun z => absurd (Int32.le_refl _) z)
      refine ex_iload_n dX9_drops_133 rfl ?_
      refine ex_ireturn dX9_drops_134 ⟨_, rfl, rfl⟩ ?_
      exact ⟨rfl, rfl⟩
    · intro i r R hr hR hi' ih x a x6 x7 x8 ha
      obtain ⟨w1, w2, w3, w4⟩ := (hw.2 i r hr).ln
      obtain ⟨d1, d2, d3, d4⟩ := hl.2 i r hr
      rw [ln_N] at ha
      refine ex_iload dX9_drops_8 rfl ?_
      refine ex_aload_n dX9_drops_10 rfl ?_
      refine ex_getfield (v := .int (nI T.length)) dX9_drops_11 g_X9_171 (mP_o p) (congrArg (fun z => some (Value.int z)) (hl.1)) ?_
      refine ex_icmp_ge (tgt := 133) dX9_drops_14 (by decide) (fun z => absurd z (nI_ge hi' (by omega))) (fun _ => ?_)
      refine ex_aload_n dX9_drops_17 rfl ?_
      refine ex_iload dX9_drops_18 rfl ?_
      refine cV_f dX9_drops_20 (mm_kv i_X9_lengthOf l_X9_174) ⟨(Nat.le_of_ble_eq_true rfl), (Nat.le_of_ble_eq_true rfl)⟩ (c_X9_lengthOf p hl hw hr _ rfl) rfl rfl (mP_o p) (Nat.le_of_ble_eq_true rfl) rfl ?_
      rw [w1]
      refine ex_istore dX9_drops_23 (Nat.le_of_ble_eq_true rfl) ?_
      refine ex_aload_n dX9_drops_25 rfl ?_
      refine ex_getfield dX9_drops_26 g_X9_50 (mP_o p) rfl ?_
      refine ex_iload dX9_drops_29 rfl ?_
      refine ex_ialoadv (v := r.1) dX9_drops_31 (mA_22 p) (by first | assumption | exact vp_in_nI (by omega) (by decide)) (mo_av d1 rfl (by omega)) ?_
      refine ex_iconst (v := 2) dX9_drops_32 (by decide) ?_
      skip
      have hnx : ∀ (y : Nat) (x7 x8 : Value), y = x + dr_1 lo hi a r → mm_Ex l G mX9_drops (mm_ri (.int (nI (x + mo_dr lo hi (r :: R) a))) h) 120 [.ref 29, .int (nI lo), .int (nI hi), .int (nI y), .int (nI a), .int (nI i), .int (nI (rl r)), x7, x8] [] h := by
        intro y x7 x8 hy
        refine ex_iload dX9_drops_120 rfl ?_
        refine ex_iload dX9_drops_122 rfl ?_
        refine ex_iadd dX9_drops_124 ?_
        rw [nI_add]
        refine ex_istore dX9_drops_125 (Nat.le_of_ble_eq_true rfl) ?_
        refine ex_iinc (d := 1) dX9_drops_127 rfl (by decide) ?_
        refine ex_goto (tgt := 8) dX9_drops_130 (by decide) ?_
        rw [nI_1, mo_dr, ← Nat.add_assoc, ← hy]; exact ih _ _ _ _ _ (by omega)
      by_cases e2 : r.1 = 2
      · skip
        refine ex_icmp_ne (tgt := 64) dX9_drops_33 (by decide) (fun z => absurd e2 z) (fun _ => ?_)
        skip
        refine mm_viaJ (nI (if (lo < a ∨ lo = 0) ∧ a ≤ hi then 40 else 0)) (pc' := 59) (ls' := [.ref 29, .int (nI lo), .int (nI hi), .int (nI x), .int (nI a), .int (nI i), .int (nI (rl r)), x7, x8]) (st := [.int (nI x)]) ?_ (fun k => ?_)
        · skip
          refine ex_iadd dX9_drops_59 ?_
          rw [nI_add]
          refine ex_istore_n dX9_drops_60 (Nat.le_of_ble_eq_true rfl) ?_
          refine ex_goto (tgt := 120) dX9_drops_61 (by decide) ?_
          exact hnx _ _ _ (by rw [dr_1, if_pos e2])
        · skip
          refine ex_iload_n dX9_drops_36 rfl ?_
          refine ex_iload dX9_drops_37 rfl ?_
          refine ex_iload_n dX9_drops_39 rfl ?_
          refine ex_icmp_gt (tgt := 47) dX9_drops_40 (by decide) (fun c_40 => ?_) (fun c_40 => ?_)
          · refine ex_iload dX9_drops_47 rfl ?_
            refine ex_iload_n dX9_drops_49 rfl ?_
            refine ex_icmp_gt (tgt := 58) dX9_drops_50 (by decide) (fun c_50 => ?_) (fun c_50 => ?_)
            · refine ex_iconst (v := 0) dX9_drops_58 (by decide) ?_
              exact k _ (by rw [if_neg (fun z => absurd c_50 (nI_nlt z.2 (by omega)))]; rfl)
            · refine ex_bipush (v := 40) dX9_drops_53 (by decide) ?_
              refine ex_goto (tgt := 59) dX9_drops_55 (by decide) ?_
              exact k _ (by rw [if_pos ⟨by first | exact Or.inl ((nI_ltI (by omega) (by omega)).mp c_40) | exact Or.inr ((nI_eq (by omega) (by omega)).mp (c_44.trans nI_0.symm)), (nI_leI (by omega) (by omega)).mp (Int32.not_lt.mp c_50)⟩]; rfl)
          · refine ex_iload_n dX9_drops_43 rfl ?_
            refine ex_if_ne (tgt := 58) dX9_drops_44 (by decide) (fun c_44 => ?_) (fun c_44 => ?_)
            · refine ex_iconst (v := 0) dX9_drops_58 (by decide) ?_
              exact k _ (by rw [if_neg (fun z => z.1.elim (fun y => c_40 (nI_lt y (by omega))) (fun y => c_44 (by rw [y]; rfl)))]; rfl)
            · refine ex_iload dX9_drops_47 rfl ?_
              refine ex_iload_n dX9_drops_49 rfl ?_
              refine ex_icmp_gt (tgt := 58) dX9_drops_50 (by decide) (fun c_50 => ?_) (fun c_50 => ?_)
              · refine ex_iconst (v := 0) dX9_drops_58 (by decide) ?_
                exact k _ (by rw [if_neg (fun z => absurd c_50 (nI_nlt z.2 (by omega)))]; rfl)
              · refine ex_bipush (v := 40) dX9_drops_53 (by decide) ?_
                refine ex_goto (tgt := 59) dX9_drops_55 (by decide) ?_
                exact k _ (by rw [if_pos ⟨by first | exact Or.inl ((nI_ltI (by omega) (by omega)).mp c_40) | exact Or.inr ((nI_eq (by omega) (by omega)).mp (c_44.trans nI_0.symm)), (nI_leI (by omega) (by omega)).mp (Int32.not_lt.mp c_50)⟩]; rfl)
      · skip
        refine ex_icmp_ne (tgt := 64) dX9_drops_33 (by decide) (fun _ => ?_) (fun z => absurd z e2)
        skip
        refine mm_viaJ (nI (max a lo)) (pc' := 76) (ls' := [.ref 29, .int (nI lo), .int (nI hi), .int (nI x), .int (nI a), .int (nI i), .int (nI (rl r)), x7, x8]) (st := []) ?_ (fun k => ?_)
        · skip
          refine ex_istore dX9_drops_76 (Nat.le_of_ble_eq_true rfl) ?_
          skip
          refine mm_viaJ (nI (min (a + rl r) hi)) (pc' := 96) (ls' := [.ref 29, .int (nI lo), .int (nI hi), .int (nI x), .int (nI a), .int (nI i), .int (nI (rl r)), .int (nI (max a lo)), x8]) (st := []) ?_ (fun k => ?_)
          · skip
            refine ex_istore dX9_drops_96 (Nat.le_of_ble_eq_true rfl) ?_
            skip
            refine mm_viaJ (nI (dr_1 lo hi a r)) (pc' := 118) (ls' := [.ref 29, .int (nI lo), .int (nI hi), .int (nI x), .int (nI a), .int (nI i), .int (nI (rl r)), .int (nI (max a lo)), .int (nI (min (a + rl r) hi))]) (st := [.int (nI x)]) ?_ (fun k => ?_)
            · skip
              refine ex_iadd dX9_drops_118 ?_
              rw [nI_add]
              refine ex_istore_n dX9_drops_119 (Nat.le_of_ble_eq_true rfl) ?_
              exact hnx _ _ _ rfl
            · skip
              refine ex_iload_n dX9_drops_98 rfl ?_
              refine ex_iload dX9_drops_99 rfl ?_
              refine ex_iload dX9_drops_101 rfl ?_
              refine ex_icmp_le (tgt := 117) dX9_drops_103 (by decide) (fun c_103 => ?_) (fun c_103 => ?_)
              · refine ex_iconst (v := 0) dX9_drops_117 (by decide) ?_
                exact k _ (by rw [dr_1, if_neg e2, show min (a + rl r) hi - max a lo = 0 by (have := (nI_leI (by omega) (by omega)).mp c_103); omega]; rfl)
              · refine ex_iload dX9_drops_106 rfl ?_
                refine ex_iload dX9_drops_108 rfl ?_
                refine ex_isub dX9_drops_110 ?_
                refine ex_bipush (v := 100) dX9_drops_111 (by decide) ?_
                refine ex_idiv dX9_drops_113 (by decide) ?_
                refine ex_goto (tgt := 118) dX9_drops_114 (by decide) ?_
                exact k _ (by rw [nI_sub (by (have := (nI_ltI (a := max a lo) (b := min (a + rl r) hi) (by omega) (by omega)).mp (Int32.not_le.mp c_103)); omega), show (100 : Int32) = nI 100 from rfl, pk_div (by omega) (by decide) (by decide), dr_1, if_neg e2])
          · skip
            refine ex_iload dX9_drops_78 rfl ?_
            refine ex_iload dX9_drops_80 rfl ?_
            refine ex_iadd dX9_drops_82 ?_
            rw [nI_add]
            refine ex_iload_n dX9_drops_83 rfl ?_
            refine ex_icmp_ge (tgt := 95) dX9_drops_84 (by decide) (fun c_84 => ?_) (fun c_84 => ?_)
            · refine ex_iload_n dX9_drops_95 rfl ?_
              exact k _ (by (have := (nI_leI (by omega) (by omega)).mp c_84); rw [Nat.min_eq_right (by omega)])
            · refine ex_iload dX9_drops_87 rfl ?_
              refine ex_iload dX9_drops_89 rfl ?_
              refine ex_iadd dX9_drops_91 ?_
              rw [nI_add]
              refine ex_goto (tgt := 96) dX9_drops_92 (by decide) ?_
              exact k _ (by (have := (nI_ltI (by omega) (by omega)).mp (Int32.not_le.mp c_84)); rw [Nat.min_eq_left (by omega)])
        · skip
          refine ex_iload dX9_drops_64 rfl ?_
          refine ex_iload_n dX9_drops_66 rfl ?_
          refine ex_icmp_le (tgt := 75) dX9_drops_67 (by decide) (fun c_67 => ?_) (fun c_67 => ?_)
          · refine ex_iload_n dX9_drops_75 rfl ?_
            exact k _ (by (have := (nI_leI (by omega) (by omega)).mp c_67); rw [Nat.max_eq_right (by omega)])
          · refine ex_iload dX9_drops_70 rfl ?_
            refine ex_goto (tgt := 76) dX9_drops_72 (by decide) ?_
            exact k _ (by (have := (nI_ltI (by omega) (by omega)).mp (Int32.not_le.mp c_67)); rw [Nat.max_eq_left (by omega)])
  refine mm_ct (by decide +kernel) (by decide +kernel) rfl (by simp [Value.category]) (Nat.le_of_ble_eq_true rfl) rfl ?_
  refine ex_iconst (v := 0) dX9_drops_0 (by decide) ?_
  refine ex_istore_n dX9_drops_1 (Nat.le_of_ble_eq_true rfl) ?_
  refine ex_iconst (v := 0) dX9_drops_2 (by decide) ?_
  refine ex_istore dX9_drops_3 (Nat.le_of_ble_eq_true rfl) ?_
  refine ex_iconst (v := 0) dX9_drops_5 (by decide) ?_
  refine ex_istore dX9_drops_6 (Nat.le_of_ble_eq_true rfl) ?_
  have := key 0 0 .null .null .null (by omega); rw [Nat.zero_add] at this; exact this
theorem c_X9_repeatersUpTo (p : mo_P h0 h m) (hl : r_line m T) (hw : ln_W T) (hN : ln_N T < 2 ^ 30) {q : Nat} (hq : q < 2 ^ 30) (qv : Int32) (eqv : qv = nI q) : mm_Ct l G mX9_repeatersUpTo [.ref 29, .int qv] h (mm_ri (.int (nI (mo_r0 q T 0))) h) := by
  subst eqv
  have hL := hw.1
  have key : ∀ (x a : Nat), a + ln_N T < 2 ^ 30 → mm_Ex l G mX9_repeatersUpTo (mm_ri (.int (nI (x + mo_r0 q T a))) h) 7 [.ref 29, .int (nI q), .int (nI x), .int (nI a), .int (nI 0)] [] h := by
    refine lp_fwd T (fun i R => ∀ (x a : Nat), a + ln_N R < 2 ^ 30 → mm_Ex l G mX9_repeatersUpTo (mm_ri (.int (nI (x + mo_r0 q R a))) h) 7 [.ref 29, .int (nI q), .int (nI x), .int (nI a), .int (nI i)] [] h) ?_ ?_
    · intro x a _
      refine ex_iload dX9_repeatersUpTo_7 rfl ?_
      refine ex_aload_n dX9_repeatersUpTo_9 rfl ?_
      refine ex_getfield (v := .int (nI T.length)) dX9_repeatersUpTo_10 g_X9_171 (mP_o p) (congrArg (fun z => some (Value.int z)) (hl.1)) ?_
      refine ex_icmp_ge (tgt := 55) dX9_repeatersUpTo_13 (by decide) (fun _ => ?_) (fun z => absurd (Int32.le_refl _) z)
      refine ex_iload_n dX9_repeatersUpTo_55 rfl ?_
      refine ex_ireturn dX9_repeatersUpTo_56 ⟨_, rfl, rfl⟩ ?_
      exact ⟨rfl, rfl⟩
    · intro i r R hr hR hi ih x a ha
      obtain ⟨w1, w2, w3, w4⟩ := (hw.2 i r hr).ln
      obtain ⟨d1, d2, d3, d4⟩ := hl.2 i r hr
      rw [ln_N] at ha
      refine ex_iload dX9_repeatersUpTo_7 rfl ?_
      refine ex_aload_n dX9_repeatersUpTo_9 rfl ?_
      refine ex_getfield (v := .int (nI T.length)) dX9_repeatersUpTo_10 g_X9_171 (mP_o p) (congrArg (fun z => some (Value.int z)) (hl.1)) ?_
      refine ex_icmp_ge (tgt := 55) dX9_repeatersUpTo_13 (by decide) (fun z => absurd z (nI_ge hi (by omega))) (fun _ => ?_)
      skip
      refine mm_viaJ (nI (if r.1 = 2 ∧ a ≤ q then 1 else 0)) (pc' := 38) (ls' := [.ref 29, .int (nI q), .int (nI x), .int (nI a), .int (nI i)]) (st := [.int (nI x)]) ?_ (fun k => ?_)
      · skip
        refine ex_iadd dX9_repeatersUpTo_38 ?_
        rw [nI_add]
        refine ex_istore_n dX9_repeatersUpTo_39 (Nat.le_of_ble_eq_true rfl) ?_
        refine ex_iload_n dX9_repeatersUpTo_40 rfl ?_
        refine ex_aload_n dX9_repeatersUpTo_41 rfl ?_
        refine ex_iload dX9_repeatersUpTo_42 rfl ?_
        refine cV_f dX9_repeatersUpTo_44 (mm_kv i_X9_lengthOf l_X9_174) ⟨(Nat.le_of_ble_eq_true rfl), (Nat.le_of_ble_eq_true rfl)⟩ (c_X9_lengthOf p hl hw hr _ rfl) rfl rfl (mP_o p) (Nat.le_of_ble_eq_true rfl) rfl ?_
        refine ex_iadd dX9_repeatersUpTo_47 ?_
        rw [w1, nI_add]
        refine ex_istore_n dX9_repeatersUpTo_48 (Nat.le_of_ble_eq_true rfl) ?_
        refine ex_iinc (d := 1) dX9_repeatersUpTo_49 rfl (by decide) ?_
        refine ex_goto (tgt := 7) dX9_repeatersUpTo_52 (by decide) ?_
        rw [nI_1, mo_r0, ← Nat.add_assoc]; exact ih _ _ (by omega)
      · skip
        refine ex_iload_n dX9_repeatersUpTo_16 rfl ?_
        refine ex_aload_n dX9_repeatersUpTo_17 rfl ?_
        refine ex_getfield dX9_repeatersUpTo_18 g_X9_50 (mP_o p) rfl ?_
        refine ex_iload dX9_repeatersUpTo_21 rfl ?_
        refine ex_ialoadv (v := r.1) dX9_repeatersUpTo_23 (mA_22 p) (by first | assumption | exact vp_in_nI (by omega) (by decide)) (mo_av d1 rfl (by omega)) ?_
        refine ex_iconst (v := 2) dX9_repeatersUpTo_24 (by decide) ?_
        refine ex_icmp_ne (tgt := 37) dX9_repeatersUpTo_25 (by decide) (fun c_25 => ?_) (fun c_25 => ?_)
        · refine ex_iconst (v := 0) dX9_repeatersUpTo_37 (by decide) ?_
          exact k _ (by rw [if_neg (fun z => c_25 z.1)]; rfl)
        · refine ex_iload_n dX9_repeatersUpTo_28 rfl ?_
          refine ex_iload_n dX9_repeatersUpTo_29 rfl ?_
          refine ex_icmp_gt (tgt := 37) dX9_repeatersUpTo_30 (by decide) (fun c_30 => ?_) (fun c_30 => ?_)
          · refine ex_iconst (v := 0) dX9_repeatersUpTo_37 (by decide) ?_
            exact k _ (by rw [if_neg (fun z => absurd c_30 (nI_nlt z.2 (by omega)))]; rfl)
          · refine ex_iconst (v := 1) dX9_repeatersUpTo_33 (by decide) ?_
            refine ex_goto (tgt := 38) dX9_repeatersUpTo_34 (by decide) ?_
            exact k _ (by rw [if_pos ⟨c_25, (nI_leI (by omega) (by omega)).mp (Int32.not_lt.mp c_30)⟩]; rfl)
  refine mm_ct (by decide +kernel) (by decide +kernel) rfl (by simp [Value.category]) (Nat.le_of_ble_eq_true rfl) rfl ?_
  refine ex_iconst (v := 0) dX9_repeatersUpTo_0 (by decide) ?_
  refine ex_istore_n dX9_repeatersUpTo_1 (Nat.le_of_ble_eq_true rfl) ?_
  refine ex_iconst (v := 0) dX9_repeatersUpTo_2 (by decide) ?_
  refine ex_istore_n dX9_repeatersUpTo_3 (Nat.le_of_ble_eq_true rfl) ?_
  refine ex_iconst (v := 0) dX9_repeatersUpTo_4 (by decide) ?_
  refine ex_istore dX9_repeatersUpTo_5 (Nat.le_of_ble_eq_true rfl) ?_
  have := key 0 0 (by omega); rw [Nat.zero_add] at this; exact this
theorem c_X9_dropsBehind (p : mo_P h0 h m) (hl : r_line m T) (hw : ln_W T) (hN : ln_N T < 2 ^ 30) {q : Nat} (hq : q < 2 ^ 30) (qv tv : Int32) (eqv : qv = nI q) (etv : tv = nI (ln_N T)) : mm_Ct l G mX9_dropsBehind [.ref 29, .int qv, .int tv] h (mm_ri (.int (nI (mo_db q T 0))) h) := by
  subst eqv etv
  have e := mo_dr_db (lo := q) (hi := ln_N T) T 0 (by omega)
  refine mm_ct (by decide +kernel) (by decide +kernel) rfl (by simp [Value.category]) (Nat.le_of_ble_eq_true rfl) rfl ?_
  refine ex_aload_n dX9_dropsBehind_0 rfl ?_
  refine ex_iload_n dX9_dropsBehind_1 rfl ?_
  refine ex_iload_n dX9_dropsBehind_2 rfl ?_
  refine cV_f dX9_dropsBehind_3 (mm_kv i_X9_drops l_X9_244) ⟨(Nat.le_of_ble_eq_true rfl), (Nat.le_of_ble_eq_true rfl)⟩ (c_X9_drops p hl hw hN hq hN _ _ rfl rfl) rfl rfl (mP_o p) (Nat.le_of_ble_eq_true rfl) rfl ?_
  refine ex_istore_n dX9_dropsBehind_6 (Nat.le_of_ble_eq_true rfl) ?_
  skip
  by_cases hz : q = 0
  · subst hz
    refine ex_iload_n dX9_dropsBehind_7 rfl ?_
    refine ex_if_ne (tgt := 22) dX9_dropsBehind_8 (by decide) (fun z => absurd rfl z) (fun _ => ?_)
    refine ex_iload_n dX9_dropsBehind_11 rfl ?_
    refine ex_aload_n dX9_dropsBehind_12 rfl ?_
    refine ex_iconst (v := 0) dX9_dropsBehind_13 (by decide) ?_
    refine cV_f dX9_dropsBehind_14 (mm_kv i_X9_repeatersUpTo l_X9_250) ⟨(Nat.le_of_ble_eq_true rfl), (Nat.le_of_ble_eq_true rfl)⟩ (c_X9_repeatersUpTo p (q := 0) hl hw hN (by decide) _ rfl) rfl rfl (mP_o p) (Nat.le_of_ble_eq_true rfl) rfl ?_
    refine ex_bipush (v := 40) dX9_dropsBehind_17 (by decide) ?_
    refine ex_imul dX9_dropsBehind_19 ?_
    refine ex_isub dX9_dropsBehind_20 ?_
    refine ex_istore_n dX9_dropsBehind_21 (Nat.le_of_ble_eq_true rfl) ?_
    refine ex_iload_n dX9_dropsBehind_22 rfl ?_
    refine ex_ireturn dX9_dropsBehind_23 ⟨_, rfl, rfl⟩ ?_
    exact mm_rq (by rw [e, if_pos rfl, show (40 : Int32) = nI 40 from rfl, pk_mul, nI_sub (by omega)]; congr 1; omega)
  · skip
    refine ex_iload_n dX9_dropsBehind_7 rfl ?_
    refine ex_if_ne (tgt := 22) dX9_dropsBehind_8 (by decide) (fun _ => ?_) (fun z => absurd z (nI_ne0 (by omega) (by omega)))
    refine ex_iload_n dX9_dropsBehind_22 rfl ?_
    refine ex_ireturn dX9_dropsBehind_23 ⟨_, rfl, rfl⟩ ?_
    exact mm_rq (by rw [e, if_neg hz]; rfl)
end MOR
