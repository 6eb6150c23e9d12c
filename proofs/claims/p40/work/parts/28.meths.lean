theorem mm_ws_in {M : mm_M} (h : Cond.code M.1 M.2.1 M.2.2.1 M.2.2.2.1 ∈ mm_W) : ∀ w ∈ mm_ws M, w ∈ mm_W := fun w hw => (List.mem_cons.mp hw).elim (fun e => by rw [e]; exact h) id
def mm_MV (M : mm_M) (ci n : Nat) : Prop := mm_wsx M = mm_ws M ∧ Cond.instanceMethod M.1 ∈ mm_W ∧ Cond.selects M.1.cls M.1 M.1 ∈ mm_W ∧ Cond.initialized M.1.cls ∈ mm_W ∧ Cond.code M.1 M.2.1 M.2.2.1 M.2.2.2.1 ∈ mm_W ∧ mm_nm M.1 n ∧ (vwCl[ci]?.map (fun q => q.1)) = some M.1.cls
theorem mm_kv {own : String} {idx ci n : Nat} {M' : mm_M} (h : mm_MV M' ci n) (hl : Cond.methodLink own idx M'.1 ∈ mm_W) : mm_LV own idx M' ci n :=
  ⟨h.1, fun w hw => by
    rcases List.mem_append.mp hw with hw | hw
    · simp only [List.mem_cons, List.not_mem_nil, or_false] at hw
      rcases hw with rfl | rfl | rfl | rfl
      · exact hl
      · exact h.2.1
      · exact h.2.2.1
      · exact h.2.2.2.1
    · exact mm_ws_in h.2.2.2.2.1 w hw, h.2.2.2.2.2.1, h.2.2.2.2.2.2⟩
def mm_MS (M : mm_M) (n : Nat) : Prop := mm_wsx M = mm_ws M ∧ Cond.static M.1 ∈ mm_W ∧ Cond.initialized M.1.cls ∈ mm_W ∧ Cond.code M.1 M.2.1 M.2.2.1 M.2.2.2.1 ∈ mm_W ∧ mm_nm M.1 n
theorem mm_ks {own : String} {idx n : Nat} {M' : mm_M} (h : mm_MS M' n) (hl : Cond.methodLink own idx M'.1 ∈ mm_W) : mm_LS own idx M' n :=
  ⟨h.1, fun w hw => by
    rcases List.mem_append.mp hw with hw | hw
    · simp only [List.mem_cons, List.not_mem_nil, or_false] at hw
      rcases hw with rfl | rfl | rfl
      · exact hl
      · exact h.2.1
      · exact h.2.2.1
    · exact mm_ws_in h.2.2.2.1 w hw, h.2.2.2.2⟩
theorem mm_ksn {own host : String} {idx n : Nat} {M' : mm_M} (h : mm_MS M' n) (hl : Cond.methodLinkNest own idx M'.1 host ∈ mm_N) : mm_LSN own idx M' host n :=
  ⟨h.1, mm_ws_in h.2.2.2.1, h.2.2.1, hl, h.2.1, h.2.2.2.2⟩
def mm_MI (M : mm_M) (n : Nat) : Prop := mm_wsx M = mm_ws M ∧ Cond.instanceMethod M.1 ∈ mm_W ∧ Cond.initialized M.1.cls ∈ mm_W ∧ Cond.code M.1 M.2.1 M.2.2.1 M.2.2.2.1 ∈ mm_W ∧ mm_nm M.1 n ∧ M.1.name = "<init>" ∧ M.2.2.2.1 = none
theorem mm_ki {own : String} {idx n : Nat} {M' : mm_M} (h : mm_MI M' n) (hl : Cond.methodLink own idx M'.1 ∈ mm_W) : mm_LI own idx M' n :=
  ⟨h.1, mm_ws_in h.2.2.2.1, h.2.2.1, hl, h.2.1, h.2.2.2.2.2.1, h.2.2.2.2.1, h.2.2.2.2.2.2⟩
theorem mm_kin {own host : String} {idx n : Nat} {M' : mm_M} (h : mm_MI M' n) (hl : Cond.methodLinkNest own idx M'.1 host ∈ mm_N) : mm_LIN own idx M' host n :=
  ⟨h.1, mm_ws_in h.2.2.2.1, h.2.2.1, hl, h.2.1, h.2.2.2.2.2.1, h.2.2.2.2.1, h.2.2.2.2.2.2⟩
def mm_MSW (M : mm_M) (n : Nat) : Prop := mm_wsx M = mm_wsH M ∧ Cond.static M.1 ∈ mm_W ∧ Cond.initialized M.1.cls ∈ mm_W ∧ Cond.codeWith M.1 M.2.1 M.2.2.1 M.2.2.2.1 M.2.2.2.2.1 ∈ mm_W ∧ mm_nm M.1 n
theorem mm_ksw {own : String} {idx n : Nat} {M' : mm_M} (h : mm_MSW M' n) (hl : Cond.methodLink own idx M'.1 ∈ mm_W) : mm_wsx M' = mm_wsH M' ∧ mm_LSW own idx M' n :=
  ⟨h.1, fun w hw => by
    rcases List.mem_append.mp hw with hw | hw
    · simp only [List.mem_cons, List.not_mem_nil, or_false] at hw
      rcases hw with rfl | rfl | rfl
      · exact hl
      · exact h.2.1
      · exact h.2.2.1
    · exact (List.mem_cons.mp hw).elim (fun e => by rw [e]; exact h.2.2.2.1) id, h.2.2.2.2⟩
theorem mm_t1 {w : Cond} {i : Nat} (h : tables_1_1[i]? = some w) : w ∈ lw_tbl := List.mem_append_right _ (show w ∈ tables_1 from (List.mem_append_left _ (List.mem_of_getElem? h)))
theorem mm_t2 {w : Cond} {i : Nat} (h : tables_1_2[i]? = some w) : w ∈ lw_tbl := List.mem_append_right _ (show w ∈ tables_1 from (List.mem_append_right _ (List.mem_append_left _ (List.mem_of_getElem? h))))
theorem mm_t3 {w : Cond} {i : Nat} (h : tables_1_3[i]? = some w) : w ∈ lw_tbl := List.mem_append_right _ (show w ∈ tables_1 from (List.mem_append_right _ (List.mem_append_right _ (List.mem_of_getElem? h))))
theorem mm_t0 {w : Cond} {i : Nat} (h : (k2_sels lw_privs)[i]? = some w) : w ∈ lw_tbl := List.mem_append_left _ (List.mem_of_getElem? h)
theorem mm_in0 {w : Cond} (i : Nat) (h : (k2_sels lw_privs)[i]? = some w) (hg : goodWord w = true) : w ∈ mm_W := List.mem_filter.mpr ⟨mm_t0 h, hg⟩
theorem mm_inN0 {w : Cond} (i : Nat) (h : (k2_sels lw_privs)[i]? = some w) (hg : mm_isN w = true) : w ∈ mm_N := List.mem_filter.mpr ⟨mm_t0 h, hg⟩
theorem mm_in1 {w : Cond} (i : Nat) (h : tables_1_1[i]? = some w) (hg : goodWord w = true) : w ∈ mm_W := List.mem_filter.mpr ⟨mm_t1 h, hg⟩
theorem mm_inN1 {w : Cond} (i : Nat) (h : tables_1_1[i]? = some w) (hg : mm_isN w = true) : w ∈ mm_N := List.mem_filter.mpr ⟨mm_t1 h, hg⟩
theorem mm_in2 {w : Cond} (i : Nat) (h : tables_1_2[i]? = some w) (hg : goodWord w = true) : w ∈ mm_W := List.mem_filter.mpr ⟨mm_t2 h, hg⟩
theorem mm_inN2 {w : Cond} (i : Nat) (h : tables_1_2[i]? = some w) (hg : mm_isN w = true) : w ∈ mm_N := List.mem_filter.mpr ⟨mm_t2 h, hg⟩
theorem mm_in3 {w : Cond} (i : Nat) (h : tables_1_3[i]? = some w) (hg : goodWord w = true) : w ∈ mm_W := List.mem_filter.mpr ⟨mm_t3 h, hg⟩
theorem mm_inN3 {w : Cond} (i : Nat) (h : tables_1_3[i]? = some w) (hg : mm_isN w = true) : w ∈ mm_N := List.mem_filter.mpr ⟨mm_t3 h, hg⟩
abbrev mX0_init : mm_M := (yX0_init, cX0_init, 1, none, [], 1, 14)
theorem i_X0_init : mm_MI mX0_init 0 := ⟨rfl, (mm_in1 54 (by decide +kernel) rfl), (mm_in1 4 (by decide +kernel) rfl), (mm_in1 55 (by decide +kernel) rfl), ⟨by decide +kernel, by decide +kernel, by decide +kernel⟩, rfl, rfl⟩
abbrev mX0_nextDay : mm_M := (yX0_nextDay, cX0_nextDay, 1, none, [], 0, 0)
theorem i_X0_nextDay : mm_MV mX0_nextDay 0 0 := ⟨rfl, (mm_in2 130 (by decide +kernel) rfl), (mm_in2 131 (by decide +kernel) rfl), (mm_in1 4 (by decide +kernel) rfl), (mm_in2 132 (by decide +kernel) rfl), ⟨by decide +kernel, by decide +kernel, by decide +kernel⟩, rfl⟩
abbrev mX0_wavesToday : mm_M := (yX0_wavesToday, cX0_wavesToday, 1, (some .int), [], 0, 0)
theorem i_X0_wavesToday : mm_MV mX0_wavesToday 0 0 := ⟨rfl, (mm_in2 118 (by decide +kernel) rfl), (mm_in2 119 (by decide +kernel) rfl), (mm_in1 4 (by decide +kernel) rfl), (mm_in2 120 (by decide +kernel) rfl), ⟨by decide +kernel, by decide +kernel, by decide +kernel⟩, rfl⟩
abbrev mX0_isForWork : mm_M := (yX0_isForWork, cX0_isForWork, 1, (some .boolean), [], 1, 20)
theorem i_X0_isForWork : mm_MV mX0_isForWork 0 0 := ⟨rfl, (mm_in2 209 (by decide +kernel) rfl), (mm_in2 210 (by decide +kernel) rfl), (mm_in1 4 (by decide +kernel) rfl), (mm_in2 211 (by decide +kernel) rfl), ⟨by decide +kernel, by decide +kernel, by decide +kernel⟩, rfl⟩
abbrev mX7_init : mm_M := (yX7_init, cX7_init, 1, none, [], 1, 14)
theorem i_X7_init : mm_MI mX7_init 0 := ⟨rfl, (mm_in1 79 (by decide +kernel) rfl), (mm_in1 6 (by decide +kernel) rfl), (mm_in1 80 (by decide +kernel) rfl), ⟨by decide +kernel, by decide +kernel, by decide +kernel⟩, rfl, rfl⟩
abbrev mX1_init : mm_M := (yX1_init, cX1_init, 1, none, [], 2, 34)
theorem i_X1_init : mm_MI mX1_init 0 := ⟨rfl, (mm_in1 124 (by decide +kernel) rfl), (mm_in1 8 (by decide +kernel) rfl), (mm_in1 125 (by decide +kernel) rfl), ⟨by decide +kernel, by decide +kernel, by decide +kernel⟩, rfl, rfl⟩
abbrev mJ7_copyOf_59c91 : mm_M := (yJ7_copyOf_59c91, cJ7_copyOf_59c91, 3, (some (.array .int)), [], 1, 25)
theorem i_J7_copyOf_59c91 : mm_MS mJ7_copyOf_59c91 2 := ⟨rfl, (mm_in1 182 (by decide +kernel) rfl), (mm_in1 3 (by decide +kernel) rfl), (mm_in1 183 (by decide +kernel) rfl), ⟨by decide +kernel, by decide +kernel, by decide +kernel⟩⟩
abbrev mX7_insert : mm_M := (yX7_insert, cX7_insert, 8, none, [], 2, 47)
theorem i_X7_insert : mm_MV mX7_insert 7 5 := ⟨rfl, (mm_in1 177 (by decide +kernel) rfl), (mm_in1 178 (by decide +kernel) rfl), (mm_in1 6 (by decide +kernel) rfl), (mm_in1 179 (by decide +kernel) rfl), ⟨by decide +kernel, by decide +kernel, by decide +kernel⟩, rfl⟩
abbrev mX7_add : mm_M := (yX7_add, cX7_add, 5, none, [], 3, 74)
theorem i_X7_add : mm_MV mX7_add 7 4 := ⟨rfl, (mm_in1 173 (by decide +kernel) rfl), (mm_in1 174 (by decide +kernel) rfl), (mm_in1 6 (by decide +kernel) rfl), (mm_in1 175 (by decide +kernel) rfl), ⟨by decide +kernel, by decide +kernel, by decide +kernel⟩, rfl⟩
abbrev mX1_putIn : mm_M := (yX1_putIn, cX1_putIn, 5, none, [], 4, 98)
theorem i_X1_putIn : mm_MV mX1_putIn 1 4 := ⟨rfl, (mm_in3 48 (by decide +kernel) rfl), (mm_in3 49 (by decide +kernel) rfl), (mm_in1 8 (by decide +kernel) rfl), (mm_in3 50 (by decide +kernel) rfl), ⟨by decide +kernel, by decide +kernel, by decide +kernel⟩, rfl⟩
abbrev mX1_cutOut : mm_M := (yX1_cutOut, cX1_cutOut, 3, none, [], 4, 98)
theorem i_X1_cutOut : mm_MV mX1_cutOut 1 2 := ⟨rfl, (mm_in2 148 (by decide +kernel) rfl), (mm_in2 149 (by decide +kernel) rfl), (mm_in1 8 (by decide +kernel) rfl), (mm_in2 150 (by decide +kernel) rfl), ⟨by decide +kernel, by decide +kernel, by decide +kernel⟩, rfl⟩
abbrev mX7_get : mm_M := (yX7_get, cX7_get, 4, (some .int), [], 0, 0)
theorem i_X7_get : mm_MV mX7_get 7 2 := ⟨rfl, (mm_in2 158 (by decide +kernel) rfl), (mm_in2 159 (by decide +kernel) rfl), (mm_in1 6 (by decide +kernel) rfl), (mm_in2 160 (by decide +kernel) rfl), ⟨by decide +kernel, by decide +kernel, by decide +kernel⟩, rfl⟩
abbrev mX1_metreAt : mm_M := (yX1_metreAt, cX1_metreAt, 7, (some .int), [], 1, 23)
theorem i_X1_metreAt : mm_MV mX1_metreAt 1 1 := ⟨rfl, (mm_in3 189 (by decide +kernel) rfl), (mm_in3 190 (by decide +kernel) rfl), (mm_in1 8 (by decide +kernel) rfl), (mm_in3 191 (by decide +kernel) rfl), ⟨by decide +kernel, by decide +kernel, by decide +kernel⟩, rfl⟩
abbrev mX2_init : mm_M := (yX2_init, cX2_init, 1, none, [], 2, 34)
theorem i_X2_init : mm_MI mX2_init 0 := ⟨rfl, (mm_in1 155 (by decide +kernel) rfl), (mm_in1 9 (by decide +kernel) rfl), (mm_in1 156 (by decide +kernel) rfl), ⟨by decide +kernel, by decide +kernel, by decide +kernel⟩, rfl, rfl⟩
abbrev mX7_set : mm_M := (yX7_set, cX7_set, 5, none, [], 0, 0)
theorem i_X7_set : mm_MV mX7_set 7 3 := ⟨rfl, (mm_in2 162 (by decide +kernel) rfl), (mm_in2 163 (by decide +kernel) rfl), (mm_in1 6 (by decide +kernel) rfl), (mm_in2 164 (by decide +kernel) rfl), ⟨by decide +kernel, by decide +kernel, by decide +kernel⟩, rfl⟩
abbrev mX2_beginAnew : mm_M := (yX2_beginAnew, cX2_beginAnew, 3, none, [], 1, 24)
theorem i_X2_beginAnew : mm_MV mX2_beginAnew 2 1 := ⟨rfl, (mm_in2 176 (by decide +kernel) rfl), (mm_in2 177 (by decide +kernel) rfl), (mm_in1 9 (by decide +kernel) rfl), (mm_in2 178 (by decide +kernel) rfl), ⟨by decide +kernel, by decide +kernel, by decide +kernel⟩, rfl⟩
abbrev mX7_remove : mm_M := (yX7_remove, cX7_remove, 4, none, [], 1, 25)
theorem i_X7_remove : mm_MV mX7_remove 7 1 := ⟨rfl, (mm_in2 166 (by decide +kernel) rfl), (mm_in2 167 (by decide +kernel) rfl), (mm_in1 6 (by decide +kernel) rfl), (mm_in2 168 (by decide +kernel) rfl), ⟨by decide +kernel, by decide +kernel, by decide +kernel⟩, rfl⟩
abbrev mX2_dropFrom : mm_M := (yX2_dropFrom, cX2_dropFrom, 3, none, [], 2, 48)
theorem i_X2_dropFrom : mm_MV mX2_dropFrom 2 1 := ⟨rfl, (mm_in2 170 (by decide +kernel) rfl), (mm_in2 171 (by decide +kernel) rfl), (mm_in1 9 (by decide +kernel) rfl), (mm_in2 172 (by decide +kernel) rfl), ⟨by decide +kernel, by decide +kernel, by decide +kernel⟩, rfl⟩
abbrev mX2_cutOut : mm_M := (yX2_cutOut, cX2_cutOut, 7, (some .int), [], 2, 48)
theorem i_X2_cutOut : mm_MV mX2_cutOut 2 3 := ⟨rfl, (mm_in3 217 (by decide +kernel) rfl), (mm_in3 218 (by decide +kernel) rfl), (mm_in1 9 (by decide +kernel) rfl), (mm_in3 219 (by decide +kernel) rfl), ⟨by decide +kernel, by decide +kernel, by decide +kernel⟩, rfl⟩
abbrev mX3_init : mm_M := (yX3_init, cX3_init, 1, none, [], 2, 34)
theorem i_X3_init : mm_MI mX3_init 0 := ⟨rfl, (mm_in1 73 (by decide +kernel) rfl), (mm_in1 5 (by decide +kernel) rfl), (mm_in1 74 (by decide +kernel) rfl), ⟨by decide +kernel, by decide +kernel, by decide +kernel⟩, rfl, rfl⟩
abbrev mX3_stow : mm_M := (yX3_stow, cX3_stow, 5, (some .int), [], 4, 98)
theorem i_X3_stow : mm_MV mX3_stow 3 3 := ⟨rfl, (mm_in2 192 (by decide +kernel) rfl), (mm_in2 193 (by decide +kernel) rfl), (mm_in1 5 (by decide +kernel) rfl), (mm_in2 194 (by decide +kernel) rfl), ⟨by decide +kernel, by decide +kernel, by decide +kernel⟩, rfl⟩
abbrev mX3_typeOf : mm_M := (yX3_typeOf, cX3_typeOf, 2, (some .int), [], 0, 0)
theorem i_X3_typeOf : mm_MV mX3_typeOf 3 1 := ⟨rfl, (mm_in3 5 (by decide +kernel) rfl), (mm_in3 6 (by decide +kernel) rfl), (mm_in1 5 (by decide +kernel) rfl), (mm_in3 7 (by decide +kernel) rfl), ⟨by decide +kernel, by decide +kernel, by decide +kernel⟩, rfl⟩
abbrev mX3_metresIn : mm_M := (yX3_metresIn, cX3_metresIn, 4, (some .int), [], 1, 23)
theorem i_X3_metresIn : mm_MV mX3_metresIn 3 1 := ⟨rfl, (mm_in3 123 (by decide +kernel) rfl), (mm_in3 124 (by decide +kernel) rfl), (mm_in1 5 (by decide +kernel) rfl), (mm_in3 125 (by decide +kernel) rfl), ⟨by decide +kernel, by decide +kernel, by decide +kernel⟩, rfl⟩
abbrev mX3_piecesIn : mm_M := (yX3_piecesIn, cX3_piecesIn, 4, (some .int), [], 1, 23)
theorem i_X3_piecesIn : mm_MV mX3_piecesIn 3 1 := ⟨rfl, (mm_in3 131 (by decide +kernel) rfl), (mm_in3 132 (by decide +kernel) rfl), (mm_in1 5 (by decide +kernel) rfl), (mm_in3 133 (by decide +kernel) rfl), ⟨by decide +kernel, by decide +kernel, by decide +kernel⟩, rfl⟩
abbrev mX3_top : mm_M := (yX3_top, cX3_top, 4, (some .int), [], 1, 23)
theorem i_X3_top : mm_MV mX3_top 3 2 := ⟨rfl, (mm_in3 135 (by decide +kernel) rfl), (mm_in3 136 (by decide +kernel) rfl), (mm_in1 5 (by decide +kernel) rfl), (mm_in3 137 (by decide +kernel) rfl), ⟨by decide +kernel, by decide +kernel, by decide +kernel⟩, rfl⟩
abbrev mX7_clear : mm_M := (yX7_clear, cX7_clear, 1, none, [], 0, 0)
theorem i_X7_clear : mm_MV mX7_clear 7 0 := ⟨rfl, (mm_in2 235 (by decide +kernel) rfl), (mm_in2 236 (by decide +kernel) rfl), (mm_in1 6 (by decide +kernel) rfl), (mm_in2 237 (by decide +kernel) rfl), ⟨by decide +kernel, by decide +kernel, by decide +kernel⟩, rfl⟩
abbrev mX3_gather : mm_M := (yX3_gather, cX3_gather, 6, (some .boolean), [], 4, 98)
theorem i_X3_gather : mm_MV mX3_gather 3 2 := ⟨rfl, (mm_in2 231 (by decide +kernel) rfl), (mm_in2 232 (by decide +kernel) rfl), (mm_in1 5 (by decide +kernel) rfl), (mm_in2 233 (by decide +kernel) rfl), ⟨by decide +kernel, by decide +kernel, by decide +kernel⟩, rfl⟩
abbrev mX3_sendOut : mm_M := (yX3_sendOut, cX3_sendOut, 7, none, [], 2, 48)
theorem i_X3_sendOut : mm_MV mX3_sendOut 3 2 := ⟨rfl, (mm_in3 65 (by decide +kernel) rfl), (mm_in3 66 (by decide +kernel) rfl), (mm_in1 5 (by decide +kernel) rfl), (mm_in3 67 (by decide +kernel) rfl), ⟨by decide +kernel, by decide +kernel, by decide +kernel⟩, rfl⟩
abbrev mX3_isNear : mm_M := (yX3_isNear, cX3_isNear, 2, (some .boolean), [], 1, 20)
theorem i_X3_isNear : mm_MS mX3_isNear 2 := ⟨rfl, (mm_in3 33 (by decide +kernel) rfl), (mm_in1 5 (by decide +kernel) rfl), (mm_in3 34 (by decide +kernel) rfl), ⟨by decide +kernel, by decide +kernel, by decide +kernel⟩⟩
abbrev mX3_fits : mm_M := (yX3_fits, cX3_fits, 6, (some .boolean), [], 2, 41)
theorem i_X3_fits : mm_MV mX3_fits 3 2 := ⟨rfl, (mm_in3 29 (by decide +kernel) rfl), (mm_in3 30 (by decide +kernel) rfl), (mm_in1 5 (by decide +kernel) rfl), (mm_in3 31 (by decide +kernel) rfl), ⟨by decide +kernel, by decide +kernel, by decide +kernel⟩, rfl⟩
abbrev mX3_pull : mm_M := (yX3_pull, cX3_pull, 2, (some .int), [], 0, 0)
theorem i_X3_pull : mm_MS mX3_pull 2 := ⟨rfl, (mm_in3 9 (by decide +kernel) rfl), (mm_in1 5 (by decide +kernel) rfl), (mm_in3 10 (by decide +kernel) rfl), ⟨by decide +kernel, by decide +kernel, by decide +kernel⟩⟩
abbrev mX3_mostPull : mm_M := (yX3_mostPull, cX3_mostPull, 1, (some .int), [], 0, 0)
theorem i_X3_mostPull : mm_MS mX3_mostPull 1 := ⟨rfl, (mm_in3 12 (by decide +kernel) rfl), (mm_in1 5 (by decide +kernel) rfl), (mm_in3 13 (by decide +kernel) rfl), ⟨by decide +kernel, by decide +kernel, by decide +kernel⟩⟩
abbrev mX3_holdsAt : mm_M := (yX3_holdsAt, cX3_holdsAt, 4, (some .boolean), [], 1, 23)
theorem i_X3_holdsAt : mm_MV mX3_holdsAt 3 1 := ⟨rfl, (mm_in3 1 (by decide +kernel) rfl), (mm_in3 2 (by decide +kernel) rfl), (mm_in1 5 (by decide +kernel) rfl), (mm_in3 3 (by decide +kernel) rfl), ⟨by decide +kernel, by decide +kernel, by decide +kernel⟩, rfl⟩
abbrev mX4_init : mm_M := (yX4_init, cX4_init, 1, none, [], 4, 98)
theorem i_X4_init : mm_MI mX4_init 0 := ⟨rfl, (mm_in1 167 (by decide +kernel) rfl), (mm_in1 10 (by decide +kernel) rfl), (mm_in1 168 (by decide +kernel) rfl), ⟨by decide +kernel, by decide +kernel, by decide +kernel⟩, rfl, rfl⟩
abbrev mX5_init : mm_M := (yX5_init, cX5_init, 1, none, [], 3, 54)
theorem i_X5_init : mm_MI mX5_init 0 := ⟨rfl, (mm_in1 116 (by decide +kernel) rfl), (mm_in1 7 (by decide +kernel) rfl), (mm_in1 117 (by decide +kernel) rfl), ⟨by decide +kernel, by decide +kernel, by decide +kernel⟩, rfl, rfl⟩
abbrev mX8_isIn : mm_M := (yX8_isIn, cX8_isIn, 3, (some .boolean), [], 0, 0)
theorem i_X8_isIn : mm_MS mX8_isIn 3 := ⟨rfl, (mm_in2 11 (by decide +kernel) rfl), (mm_in1 1 (by decide +kernel) rfl), (mm_in2 12 (by decide +kernel) rfl), ⟨by decide +kernel, by decide +kernel, by decide +kernel⟩⟩
abbrev mX8_isCell : mm_M := (yX8_isCell, cX8_isCell, 1, (some .boolean), [], 1, 22)
theorem i_X8_isCell : mm_MS mX8_isCell 1 := ⟨rfl, (mm_in2 8 (by decide +kernel) rfl), (mm_in1 1 (by decide +kernel) rfl), (mm_in2 9 (by decide +kernel) rfl), ⟨by decide +kernel, by decide +kernel, by decide +kernel⟩⟩
abbrev mX5_metresIn : mm_M := (yX5_metresIn, cX5_metresIn, 2, (some .int), [], 2, 42)
theorem i_X5_metresIn : mm_MV mX5_metresIn 5 1 := ⟨rfl, (mm_in3 147 (by decide +kernel) rfl), (mm_in3 148 (by decide +kernel) rfl), (mm_in1 7 (by decide +kernel) rfl), (mm_in3 149 (by decide +kernel) rfl), ⟨by decide +kernel, by decide +kernel, by decide +kernel⟩, rfl⟩
abbrev mX5_beginOf : mm_M := (yX5_beginOf, cX5_beginOf, 4, (some .int), [], 3, 63)
theorem i_X5_beginOf : mm_MV mX5_beginOf 5 1 := ⟨rfl, (mm_in3 143 (by decide +kernel) rfl), (mm_in3 144 (by decide +kernel) rfl), (mm_in1 7 (by decide +kernel) rfl), (mm_in3 145 (by decide +kernel) rfl), ⟨by decide +kernel, by decide +kernel, by decide +kernel⟩, rfl⟩
abbrev mX5_endCell : mm_M := (yX5_endCell, cX5_endCell, 2, none, [], 2, 42)
theorem i_X5_endCell : mm_MV mX5_endCell 5 1 := ⟨rfl, (mm_in3 71 (by decide +kernel) rfl), (mm_in3 72 (by decide +kernel) rfl), (mm_in1 7 (by decide +kernel) rfl), (mm_in3 73 (by decide +kernel) rfl), ⟨by decide +kernel, by decide +kernel, by decide +kernel⟩, rfl⟩
abbrev mX5_lastKind : mm_M := (yX5_lastKind, cX5_lastKind, 1, (some .int), [], 1, 23)
theorem i_X5_lastKind : mm_MV mX5_lastKind 5 0 := ⟨rfl, (mm_in3 52 (by decide +kernel) rfl), (mm_in3 53 (by decide +kernel) rfl), (mm_in1 7 (by decide +kernel) rfl), (mm_in3 54 (by decide +kernel) rfl), ⟨by decide +kernel, by decide +kernel, by decide +kernel⟩, rfl⟩
abbrev mX5_count : mm_M := (yX5_count, cX5_count, 4, (some .int), [], 1, 23)
theorem i_X5_count : mm_MV mX5_count 5 1 := ⟨rfl, (mm_in3 79 (by decide +kernel) rfl), (mm_in3 80 (by decide +kernel) rfl), (mm_in1 7 (by decide +kernel) rfl), (mm_in3 81 (by decide +kernel) rfl), ⟨by decide +kernel, by decide +kernel, by decide +kernel⟩, rfl⟩
abbrev mX5_addBare : mm_M := (yX5_addBare, cX5_addBare, 2, none, [], 4, 98)
theorem i_X5_addBare : mm_MV mX5_addBare 5 1 := ⟨rfl, (mm_in3 60 (by decide +kernel) rfl), (mm_in3 61 (by decide +kernel) rfl), (mm_in1 7 (by decide +kernel) rfl), (mm_in3 62 (by decide +kernel) rfl), ⟨by decide +kernel, by decide +kernel, by decide +kernel⟩, rfl⟩
abbrev mX5_goesOn : mm_M := (yX5_goesOn, cX5_goesOn, 4, (some .boolean), [], 1, 23)
theorem i_X5_goesOn : mm_MV mX5_goesOn 5 3 := ⟨rfl, (mm_in3 57 (by decide +kernel) rfl), (mm_in0 8 (by decide +kernel) rfl), (mm_in1 7 (by decide +kernel) rfl), (mm_in3 58 (by decide +kernel) rfl), ⟨by decide +kernel, by decide +kernel, by decide +kernel⟩, rfl⟩
abbrev mX5_append : mm_M := (yX5_append, cX5_append, 6, none, [], 5, 122)
theorem i_X5_append : mm_MV mX5_append 5 3 := ⟨rfl, (mm_in3 44 (by decide +kernel) rfl), (mm_in3 45 (by decide +kernel) rfl), (mm_in1 7 (by decide +kernel) rfl), (mm_in3 46 (by decide +kernel) rfl), ⟨by decide +kernel, by decide +kernel, by decide +kernel⟩, rfl⟩
abbrev mX5_regainEnd : mm_M := (yX5_regainEnd, cX5_regainEnd, 2, none, [], 2, 42)
theorem i_X5_regainEnd : mm_MV mX5_regainEnd 5 1 := ⟨rfl, (mm_in2 153 (by decide +kernel) rfl), (mm_in2 154 (by decide +kernel) rfl), (mm_in1 7 (by decide +kernel) rfl), (mm_in2 155 (by decide +kernel) rfl), ⟨by decide +kernel, by decide +kernel, by decide +kernel⟩, rfl⟩
abbrev mX5_loseEnd : mm_M := (yX5_loseEnd, cX5_loseEnd, 5, none, [], 5, 120)
theorem i_X5_loseEnd : mm_MV mX5_loseEnd 5 1 := ⟨rfl, (mm_in2 144 (by decide +kernel) rfl), (mm_in2 145 (by decide +kernel) rfl), (mm_in1 7 (by decide +kernel) rfl), (mm_in2 146 (by decide +kernel) rfl), ⟨by decide +kernel, by decide +kernel, by decide +kernel⟩, rfl⟩
abbrev mX5_divideAt : mm_M := (yX5_divideAt, cX5_divideAt, 7, none, [], 3, 74)
theorem i_X5_divideAt : mm_MV mX5_divideAt 5 1 := ⟨rfl, (mm_in3 213 (by decide +kernel) rfl), (mm_in0 10 (by decide +kernel) rfl), (mm_in1 7 (by decide +kernel) rfl), (mm_in3 214 (by decide +kernel) rfl), ⟨by decide +kernel, by decide +kernel, by decide +kernel⟩, rfl⟩
abbrev mX5_cutThings : mm_M := (yX5_cutThings, cX5_cutThings, 7, (some .int), [], 4, 100)
theorem i_X5_cutThings : mm_MV mX5_cutThings 5 2 := ⟨rfl, (mm_in3 209 (by decide +kernel) rfl), (mm_in0 9 (by decide +kernel) rfl), (mm_in1 7 (by decide +kernel) rfl), (mm_in3 210 (by decide +kernel) rfl), ⟨by decide +kernel, by decide +kernel, by decide +kernel⟩, rfl⟩
abbrev mX5_exchange : mm_M := (yX5_exchange, cX5_exchange, 12, none, [], 5, 126)
theorem i_X5_exchange : mm_MV mX5_exchange 5 3 := ⟨rfl, (mm_in3 203 (by decide +kernel) rfl), (mm_in3 204 (by decide +kernel) rfl), (mm_in1 7 (by decide +kernel) rfl), (mm_in3 205 (by decide +kernel) rfl), ⟨by decide +kernel, by decide +kernel, by decide +kernel⟩, rfl⟩
abbrev mX5_metreAt : mm_M := (yX5_metreAt, cX5_metreAt, 5, (some .int), [], 1, 23)
theorem i_X5_metreAt : mm_MV mX5_metreAt 5 1 := ⟨rfl, (mm_in3 23 (by decide +kernel) rfl), (mm_in3 24 (by decide +kernel) rfl), (mm_in1 7 (by decide +kernel) rfl), (mm_in3 25 (by decide +kernel) rfl), ⟨by decide +kernel, by decide +kernel, by decide +kernel⟩, rfl⟩
abbrev mX5_metreByDeeds : mm_M := (yX5_metreByDeeds, cX5_metreByDeeds, 2, (some .int), [], 2, 49)
theorem i_X5_metreByDeeds : mm_MV mX5_metreByDeeds 5 1 := ⟨rfl, (mm_in3 185 (by decide +kernel) rfl), (mm_in3 186 (by decide +kernel) rfl), (mm_in1 7 (by decide +kernel) rfl), (mm_in3 187 (by decide +kernel) rfl), ⟨by decide +kernel, by decide +kernel, by decide +kernel⟩, rfl⟩
abbrev mX5_pieceAt : mm_M := (yX5_pieceAt, cX5_pieceAt, 3, (some .int), [], 2, 47)
theorem i_X5_pieceAt : mm_MV mX5_pieceAt 5 1 := ⟨rfl, (mm_in3 19 (by decide +kernel) rfl), (mm_in3 20 (by decide +kernel) rfl), (mm_in1 7 (by decide +kernel) rfl), (mm_in3 21 (by decide +kernel) rfl), ⟨by decide +kernel, by decide +kernel, by decide +kernel⟩, rfl⟩
abbrev mJ7_fill_53178 : mm_M := (yJ7_fill_53178, cJ7_fill_53178, 4, none, [], 0, 0)
theorem i_J7_fill_53178 : mm_MS mJ7_fill_53178 2 := ⟨rfl, (mm_in1 34 (by decide +kernel) rfl), (mm_in1 3 (by decide +kernel) rfl), (mm_in1 35 (by decide +kernel) rfl), ⟨by decide +kernel, by decide +kernel, by decide +kernel⟩⟩
abbrev mX6_init : mm_M := (yX6_init, cX6_init, 1, none, [], 1, 23)
theorem i_X6_init : mm_MI mX6_init 0 := ⟨rfl, (mm_in1 30 (by decide +kernel) rfl), (mm_in1 2 (by decide +kernel) rfl), (mm_in1 31 (by decide +kernel) rfl), ⟨by decide +kernel, by decide +kernel, by decide +kernel⟩, rfl, rfl⟩
abbrev mX6_takeSounding : mm_M := (yX6_takeSounding, cX6_takeSounding, 4, none, [], 2, 42)
theorem i_X6_takeSounding : mm_MV mX6_takeSounding 6 3 := ⟨rfl, (mm_in2 104 (by decide +kernel) rfl), (mm_in2 105 (by decide +kernel) rfl), (mm_in1 2 (by decide +kernel) rfl), (mm_in2 106 (by decide +kernel) rfl), ⟨by decide +kernel, by decide +kernel, by decide +kernel⟩, rfl⟩
abbrev mX6_depthOf : mm_M := (yX6_depthOf, cX6_depthOf, 2, (some .int), [], 2, 42)
theorem i_X6_depthOf : mm_MV mX6_depthOf 6 1 := ⟨rfl, (mm_in2 109 (by decide +kernel) rfl), (mm_in2 110 (by decide +kernel) rfl), (mm_in1 2 (by decide +kernel) rfl), (mm_in2 111 (by decide +kernel) rfl), ⟨by decide +kernel, by decide +kernel, by decide +kernel⟩, rfl⟩
abbrev mX6_groundOf : mm_M := (yX6_groundOf, cX6_groundOf, 3, (some .int), [], 3, 63)
theorem i_X6_groundOf : mm_MV mX6_groundOf 6 1 := ⟨rfl, (mm_in2 226 (by decide +kernel) rfl), (mm_in2 227 (by decide +kernel) rfl), (mm_in1 2 (by decide +kernel) rfl), (mm_in2 228 (by decide +kernel) rfl), ⟨by decide +kernel, by decide +kernel, by decide +kernel⟩, rfl⟩
abbrev mX6_hasWreck : mm_M := (yX6_hasWreck, cX6_hasWreck, 2, (some .boolean), [], 2, 42)
theorem i_X6_hasWreck : mm_MV mX6_hasWreck 6 1 := ⟨rfl, (mm_in2 218 (by decide +kernel) rfl), (mm_in2 219 (by decide +kernel) rfl), (mm_in1 2 (by decide +kernel) rfl), (mm_in2 220 (by decide +kernel) rfl), ⟨by decide +kernel, by decide +kernel, by decide +kernel⟩, rfl⟩
abbrev mX6_crossingOf : mm_M := (yX6_crossingOf, cX6_crossingOf, 2, (some .int), [], 2, 42)
theorem i_X6_crossingOf : mm_MV mX6_crossingOf 6 1 := ⟨rfl, (mm_in2 222 (by decide +kernel) rfl), (mm_in2 223 (by decide +kernel) rfl), (mm_in1 2 (by decide +kernel) rfl), (mm_in2 224 (by decide +kernel) rfl), ⟨by decide +kernel, by decide +kernel, by decide +kernel⟩, rfl⟩
abbrev mX6_isOpen : mm_M := (yX6_isOpen, cX6_isOpen, 2, (some .boolean), [], 3, 63)
theorem i_X6_isOpen : mm_MV mX6_isOpen 6 1 := ⟨rfl, (mm_in2 214 (by decide +kernel) rfl), (mm_in2 215 (by decide +kernel) rfl), (mm_in1 2 (by decide +kernel) rfl), (mm_in2 216 (by decide +kernel) rfl), ⟨by decide +kernel, by decide +kernel, by decide +kernel⟩, rfl⟩
abbrev mX8_init : mm_M := (yX8_init, cX8_init, 1, none, [], 5, 118)
theorem i_X8_init : mm_MI mX8_init 0 := ⟨rfl, (mm_in1 22 (by decide +kernel) rfl), (mm_in1 1 (by decide +kernel) rfl), (mm_in1 23 (by decide +kernel) rfl), ⟨by decide +kernel, by decide +kernel, by decide +kernel⟩, rfl, rfl⟩
abbrev mX8_needArgument : mm_M := (yX8_needArgument, cX8_needArgument, 1, none, [], 6, 82)
theorem i_X8_needArgument : mm_MS mX8_needArgument 1 := ⟨rfl, (mm_in2 14 (by decide +kernel) rfl), (mm_in1 1 (by decide +kernel) rfl), (mm_in2 15 (by decide +kernel) rfl), ⟨by decide +kernel, by decide +kernel, by decide +kernel⟩⟩
abbrev mX8_needState : mm_M := (yX8_needState, cX8_needState, 1, none, [], 6, 82)
theorem i_X8_needState : mm_MS mX8_needState 1 := ⟨rfl, (mm_in2 85 (by decide +kernel) rfl), (mm_in1 1 (by decide +kernel) rfl), (mm_in2 86 (by decide +kernel) rfl), ⟨by decide +kernel, by decide +kernel, by decide +kernel⟩⟩
abbrev mX8_sound : mm_M := (yX8_sound, cX8_sound, 4, (some .int), [], 7, 102)
theorem i_X8_sound : mm_MV mX8_sound 8 3 := ⟨rfl, (mm_in2 4 (by decide +kernel) rfl), (mm_in2 5 (by decide +kernel) rfl), (mm_in1 1 (by decide +kernel) rfl), (mm_in2 6 (by decide +kernel) rfl), ⟨by decide +kernel, by decide +kernel, by decide +kernel⟩, rfl⟩
abbrev mX8_weather : mm_M := (yX8_weather, cX8_weather, 2, (some .int), [], 7, 102)
theorem i_X8_weather : mm_MV mX8_weather 8 1 := ⟨rfl, (mm_in2 113 (by decide +kernel) rfl), (mm_in2 114 (by decide +kernel) rfl), (mm_in1 1 (by decide +kernel) rfl), (mm_in2 115 (by decide +kernel) rfl), ⟨by decide +kernel, by decide +kernel, by decide +kernel⟩, rfl⟩
abbrev mX8_liesAtB : mm_M := (yX8_liesAtB, cX8_liesAtB, 1, (some .boolean), [], 0, 0)
theorem i_X8_liesAtB : mm_MV mX8_liesAtB 8 0 := ⟨rfl, (mm_in2 136 (by decide +kernel) rfl), (mm_in0 2 (by decide +kernel) rfl), (mm_in1 1 (by decide +kernel) rfl), (mm_in2 137 (by decide +kernel) rfl), ⟨by decide +kernel, by decide +kernel, by decide +kernel⟩, rfl⟩
abbrev mX8_buoy : mm_M := (yX8_buoy, cX8_buoy, 1, none, [], 6, 144)
theorem i_X8_buoy : mm_MV mX8_buoy 8 0 := ⟨rfl, (mm_in2 140 (by decide +kernel) rfl), (mm_in0 3 (by decide +kernel) rfl), (mm_in1 1 (by decide +kernel) rfl), (mm_in2 141 (by decide +kernel) rfl), ⟨by decide +kernel, by decide +kernel, by decide +kernel⟩, rfl⟩
abbrev mX8_passOneDay : mm_M := (yX8_passOneDay, cX8_passOneDay, 1, none, [], 7, 164)
theorem i_X8_passOneDay : mm_MV mX8_passOneDay 8 0 := ⟨rfl, (mm_in2 127 (by decide +kernel) rfl), (mm_in0 1 (by decide +kernel) rfl), (mm_in1 1 (by decide +kernel) rfl), (mm_in2 128 (by decide +kernel) rfl), ⟨by decide +kernel, by decide +kernel, by decide +kernel⟩, rfl⟩
abbrev mX8_pass : mm_M := (yX8_pass, cX8_pass, 3, (some .int), [], 8, 184)
theorem i_X8_pass : mm_MV mX8_pass 8 1 := ⟨rfl, (mm_in2 122 (by decide +kernel) rfl), (mm_in2 123 (by decide +kernel) rfl), (mm_in1 1 (by decide +kernel) rfl), (mm_in2 124 (by decide +kernel) rfl), ⟨by decide +kernel, by decide +kernel, by decide +kernel⟩, rfl⟩
abbrev mX8_isType : mm_M := (yX8_isType, cX8_isType, 1, (some .boolean), [], 1, 22)
theorem i_X8_isType : mm_MS mX8_isType 1 := ⟨rfl, (mm_in2 185 (by decide +kernel) rfl), (mm_in1 1 (by decide +kernel) rfl), (mm_in2 186 (by decide +kernel) rfl), ⟨by decide +kernel, by decide +kernel, by decide +kernel⟩⟩
abbrev mX8_isTank : mm_M := (yX8_isTank, cX8_isTank, 1, (some .boolean), [], 1, 22)
theorem i_X8_isTank : mm_MS mX8_isTank 1 := ⟨rfl, (mm_in2 189 (by decide +kernel) rfl), (mm_in1 1 (by decide +kernel) rfl), (mm_in2 190 (by decide +kernel) rfl), ⟨by decide +kernel, by decide +kernel, by decide +kernel⟩⟩
abbrev mX8_make : mm_M := (yX8_make, cX8_make, 4, (some .int), [], 7, 122)
theorem i_X8_make : mm_MV mX8_make 8 3 := ⟨rfl, (mm_in2 181 (by decide +kernel) rfl), (mm_in2 182 (by decide +kernel) rfl), (mm_in1 1 (by decide +kernel) rfl), (mm_in2 183 (by decide +kernel) rfl), ⟨by decide +kernel, by decide +kernel, by decide +kernel⟩, rfl⟩
abbrev mX8_mayGoOn : mm_M := (yX8_mayGoOn, cX8_mayGoOn, 1, (some .boolean), [], 2, 40)
theorem i_X8_mayGoOn : mm_MV mX8_mayGoOn 8 0 := ⟨rfl, (mm_in2 206 (by decide +kernel) rfl), (mm_in0 5 (by decide +kernel) rfl), (mm_in1 1 (by decide +kernel) rfl), (mm_in2 207 (by decide +kernel) rfl), ⟨by decide +kernel, by decide +kernel, by decide +kernel⟩, rfl⟩
abbrev mX8_typeAt : mm_M := (yX8_typeAt, cX8_typeAt, 2, (some .int), [], 3, 69)
theorem i_X8_typeAt : mm_MV mX8_typeAt 8 1 := ⟨rfl, (mm_in3 16 (by decide +kernel) rfl), (mm_in0 6 (by decide +kernel) rfl), (mm_in1 1 (by decide +kernel) rfl), (mm_in3 17 (by decide +kernel) rfl), ⟨by decide +kernel, by decide +kernel, by decide +kernel⟩, rfl⟩
abbrev mX8_putBehind : mm_M := (yX8_putBehind, cX8_putBehind, 3, none, [], 6, 147)
theorem i_X8_putBehind : mm_MV mX8_putBehind 8 0 := ⟨rfl, (mm_in3 40 (by decide +kernel) rfl), (mm_in0 7 (by decide +kernel) rfl), (mm_in1 1 (by decide +kernel) rfl), (mm_in3 41 (by decide +kernel) rfl), ⟨by decide +kernel, by decide +kernel, by decide +kernel⟩, rfl⟩
abbrev mX8_layOneCell : mm_M := (yX8_layOneCell, cX8_layOneCell, 6, (some .boolean), [], 7, 169)
theorem i_X8_layOneCell : mm_MV mX8_layOneCell 8 2 := ⟨rfl, (mm_in2 202 (by decide +kernel) rfl), (mm_in0 4 (by decide +kernel) rfl), (mm_in1 1 (by decide +kernel) rfl), (mm_in2 203 (by decide +kernel) rfl), ⟨by decide +kernel, by decide +kernel, by decide +kernel⟩, rfl⟩
abbrev mX8_lay : mm_M := (yX8_lay, cX8_lay, 5, (some .int), [], 8, 194)
theorem i_X8_lay : mm_MV mX8_lay 8 3 := ⟨rfl, (mm_in2 197 (by decide +kernel) rfl), (mm_in2 198 (by decide +kernel) rfl), (mm_in1 1 (by decide +kernel) rfl), (mm_in2 199 (by decide +kernel) rfl), ⟨by decide +kernel, by decide +kernel, by decide +kernel⟩, rfl⟩
abbrev mX8_repeater : mm_M := (yX8_repeater, cX8_repeater, 1, (some .int), [], 7, 119)
theorem i_X8_repeater : mm_MV mX8_repeater 8 0 := ⟨rfl, (mm_in3 233 (by decide +kernel) rfl), (mm_in3 234 (by decide +kernel) rfl), (mm_in1 1 (by decide +kernel) rfl), (mm_in3 235 (by decide +kernel) rfl), ⟨by decide +kernel, by decide +kernel, by decide +kernel⟩, rfl⟩
abbrev mX8_takeUp : mm_M := (yX8_takeUp, cX8_takeUp, 3, (some .int), [], 7, 169)
theorem i_X8_takeUp : mm_MV mX8_takeUp 8 1 := ⟨rfl, (mm_in3 224 (by decide +kernel) rfl), (mm_in3 225 (by decide +kernel) rfl), (mm_in1 1 (by decide +kernel) rfl), (mm_in3 226 (by decide +kernel) rfl), ⟨by decide +kernel, by decide +kernel, by decide +kernel⟩, rfl⟩
abbrev mX8_mend : mm_M := (yX8_mend, cX8_mend, 8, (some .int), [], 7, 157)
theorem i_X8_mend : mm_MV mX8_mend 8 2 := ⟨rfl, (mm_in3 199 (by decide +kernel) rfl), (mm_in3 200 (by decide +kernel) rfl), (mm_in1 1 (by decide +kernel) rfl), (mm_in3 201 (by decide +kernel) rfl), ⟨by decide +kernel, by decide +kernel, by decide +kernel⟩, rfl⟩
abbrev mX8_day : mm_M := (yX8_day, cX8_day, 1, (some .int), [], 0, 0)
theorem i_X8_day : mm_MV mX8_day 8 0 := ⟨rfl, (mm_in3 107 (by decide +kernel) rfl), (mm_in3 108 (by decide +kernel) rfl), (mm_in1 1 (by decide +kernel) rfl), (mm_in3 109 (by decide +kernel) rfl), ⟨by decide +kernel, by decide +kernel, by decide +kernel⟩, rfl⟩
abbrev mX8_waves : mm_M := (yX8_waves, cX8_waves, 1, (some .int), [], 1, 20)
theorem i_X8_waves : mm_MV mX8_waves 8 0 := ⟨rfl, (mm_in3 111 (by decide +kernel) rfl), (mm_in3 112 (by decide +kernel) rfl), (mm_in1 1 (by decide +kernel) rfl), (mm_in3 113 (by decide +kernel) rfl), ⟨by decide +kernel, by decide +kernel, by decide +kernel⟩, rfl⟩
abbrev mX8_canWork : mm_M := (yX8_canWork, cX8_canWork, 1, (some .boolean), [], 2, 40)
theorem i_X8_canWork : mm_MV mX8_canWork 8 0 := ⟨rfl, (mm_in3 115 (by decide +kernel) rfl), (mm_in3 116 (by decide +kernel) rfl), (mm_in1 1 (by decide +kernel) rfl), (mm_in3 117 (by decide +kernel) rfl), ⟨by decide +kernel, by decide +kernel, by decide +kernel⟩, rfl⟩
abbrev mX8_cell : mm_M := (yX8_cell, cX8_cell, 3, (some .int), [], 7, 102)
theorem i_X8_cell : mm_MV mX8_cell 8 2 := ⟨rfl, (mm_in3 139 (by decide +kernel) rfl), (mm_in3 140 (by decide +kernel) rfl), (mm_in1 1 (by decide +kernel) rfl), (mm_in3 141 (by decide +kernel) rfl), ⟨by decide +kernel, by decide +kernel, by decide +kernel⟩, rfl⟩
abbrev mX8_tank : mm_M := (yX8_tank, cX8_tank, 3, (some .int), [], 7, 102)
theorem i_X8_tank : mm_MV mX8_tank 8 2 := ⟨rfl, (mm_in3 127 (by decide +kernel) rfl), (mm_in3 128 (by decide +kernel) rfl), (mm_in1 1 (by decide +kernel) rfl), (mm_in3 129 (by decide +kernel) rfl), ⟨by decide +kernel, by decide +kernel, by decide +kernel⟩, rfl⟩
abbrev mX8_line : mm_M := (yX8_line, cX8_line, 2, (some .int), [], 7, 102)
theorem i_X8_line : mm_MV mX8_line 8 1 := ⟨rfl, (mm_in3 75 (by decide +kernel) rfl), (mm_in3 76 (by decide +kernel) rfl), (mm_in1 1 (by decide +kernel) rfl), (mm_in3 77 (by decide +kernel) rfl), ⟨by decide +kernel, by decide +kernel, by decide +kernel⟩, rfl⟩
abbrev mX8_needIndex : mm_M := (yX8_needIndex, cX8_needIndex, 2, none, [], 6, 82)
theorem i_X8_needIndex : mm_MS mX8_needIndex 2 := ⟨rfl, (mm_in3 156 (by decide +kernel) rfl), (mm_in1 1 (by decide +kernel) rfl), (mm_in3 157 (by decide +kernel) rfl), ⟨by decide +kernel, by decide +kernel, by decide +kernel⟩⟩
abbrev mX8_thing : mm_M := (yX8_thing, cX8_thing, 5, (some .int), [], 7, 103)
theorem i_X8_thing : mm_MV mX8_thing 8 2 := ⟨rfl, (mm_in3 152 (by decide +kernel) rfl), (mm_in3 153 (by decide +kernel) rfl), (mm_in1 1 (by decide +kernel) rfl), (mm_in3 154 (by decide +kernel) rfl), ⟨by decide +kernel, by decide +kernel, by decide +kernel⟩, rfl⟩
abbrev mX8_metre : mm_M := (yX8_metre, cX8_metre, 2, (some .int), [], 7, 103)
theorem i_X8_metre : mm_MV mX8_metre 8 1 := ⟨rfl, (mm_in3 175 (by decide +kernel) rfl), (mm_in3 176 (by decide +kernel) rfl), (mm_in1 1 (by decide +kernel) rfl), (mm_in3 177 (by decide +kernel) rfl), ⟨by decide +kernel, by decide +kernel, by decide +kernel⟩, rfl⟩
abbrev mX8_metreAnew : mm_M := (yX8_metreAnew, cX8_metreAnew, 2, (some .int), [], 7, 103)
theorem i_X8_metreAnew : mm_MV mX8_metreAnew 8 1 := ⟨rfl, (mm_in3 181 (by decide +kernel) rfl), (mm_in3 182 (by decide +kernel) rfl), (mm_in1 1 (by decide +kernel) rfl), (mm_in3 183 (by decide +kernel) rfl), ⟨by decide +kernel, by decide +kernel, by decide +kernel⟩, rfl⟩
abbrev mX8_isKept : mm_M := (yX8_isKept, cX8_isKept, 3, (some .boolean), [], 2, 46)
theorem i_X8_isKept : mm_MV mX8_isKept 8 0 := ⟨rfl, (mm_in3 119 (by decide +kernel) rfl), (mm_in3 120 (by decide +kernel) rfl), (mm_in1 1 (by decide +kernel) rfl), (mm_in3 121 (by decide +kernel) rfl), ⟨by decide +kernel, by decide +kernel, by decide +kernel⟩, rfl⟩
abbrev mJ9_abs_0f7a4 : mm_M := (yJ9_abs_0f7a4, cJ9_abs_0f7a4, 1, (some .int), [], 0, 0)
theorem i_J9_abs_0f7a4 : mm_MS mJ9_abs_0f7a4 1 := ⟨rfl, (mm_in3 36 (by decide +kernel) rfl), (mm_in1 11 (by decide +kernel) rfl), (mm_in3 37 (by decide +kernel) rfl), ⟨by decide +kernel, by decide +kernel, by decide +kernel⟩⟩
abbrev mJ9_min_7cf53 : mm_M := (yJ9_min_7cf53, cJ9_min_7cf53, 2, (some .int), [], 0, 0)
theorem i_J9_min_7cf53 : mm_MS mJ9_min_7cf53 2 := ⟨rfl, (mm_in1 192 (by decide +kernel) rfl), (mm_in1 11 (by decide +kernel) rfl), (mm_in1 193 (by decide +kernel) rfl), ⟨by decide +kernel, by decide +kernel, by decide +kernel⟩⟩
abbrev mL_cell : mm_M := (yL_cell, cL_cell, 2, (some .int), [], 0, 0)
theorem i_L_cell : mm_MS mL_cell 2 := ⟨rfl, (mm_in3 83 (by decide +kernel) rfl), (mm_in1 0 (by decide +kernel) rfl), (mm_in3 84 (by decide +kernel) rfl), ⟨by decide +kernel, by decide +kernel, by decide +kernel⟩⟩
abbrev mL_low : mm_M := (yL_low, cL_low, 2, (some .int), [], 0, 0)
theorem i_L_low : mm_MS mL_low 2 := ⟨rfl, (mm_in3 88 (by decide +kernel) rfl), (mm_in1 0 (by decide +kernel) rfl), (mm_in3 89 (by decide +kernel) rfl), ⟨by decide +kernel, by decide +kernel, by decide +kernel⟩⟩
abbrev mL_depth : mm_M := (yL_depth, cL_depth, 2, (some .int), [], 0, 0)
theorem i_L_depth : mm_MS mL_depth 2 := ⟨rfl, (mm_in3 92 (by decide +kernel) rfl), (mm_in1 0 (by decide +kernel) rfl), (mm_in3 93 (by decide +kernel) rfl), ⟨by decide +kernel, by decide +kernel, by decide +kernel⟩⟩
abbrev mL_due : mm_M := (yL_due, cL_due, 5, (some .int), [], 1, 21)
theorem i_L_due : mm_MS mL_due 3 := ⟨rfl, (mm_in3 95 (by decide +kernel) rfl), (mm_in1 0 (by decide +kernel) rfl), (mm_in3 96 (by decide +kernel) rfl), ⟨by decide +kernel, by decide +kernel, by decide +kernel⟩⟩
abbrev mL_works : mm_M := (yL_works, cL_works, 1, (some .boolean), [], 0, 0)
theorem i_L_works : mm_MS mL_works 1 := ⟨rfl, (mm_in3 98 (by decide +kernel) rfl), (mm_in1 0 (by decide +kernel) rfl), (mm_in3 99 (by decide +kernel) rfl), ⟨by decide +kernel, by decide +kernel, by decide +kernel⟩⟩
abbrev mL_line : mm_M := (yL_line, cL_line, 4, (some .int), [], 0, 0)
theorem i_L_line : mm_MS mL_line 2 := ⟨rfl, (mm_in3 101 (by decide +kernel) rfl), (mm_in1 0 (by decide +kernel) rfl), (mm_in3 102 (by decide +kernel) rfl), ⟨by decide +kernel, by decide +kernel, by decide +kernel⟩⟩
abbrev mL_right : mm_M := (yL_right, cL_right, 11, (some .boolean), [], 8, 127)
theorem i_L_right : mm_MS mL_right 4 := ⟨rfl, (mm_in3 104 (by decide +kernel) rfl), (mm_in1 0 (by decide +kernel) rfl), (mm_in3 105 (by decide +kernel) rfl), ⟨by decide +kernel, by decide +kernel, by decide +kernel⟩⟩
abbrev mL_mended : mm_M := (yL_mended, cL_mended, 4, (some .int), [(0, 6, 7, 67)], 8, 184)
theorem i_L_mended : mm_MSW mL_mended 3 := ⟨rfl, (mm_in3 195 (by decide +kernel) rfl), (mm_in1 0 (by decide +kernel) rfl), (mm_in3 196 (by decide +kernel) rfl), ⟨by decide +kernel, by decide +kernel, by decide +kernel⟩⟩
abbrev mL_taken : mm_M := (yL_taken, cL_taken, 3, (some .int), [(0, 5, 6, 67)], 8, 191)
theorem i_L_taken : mm_MSW mL_taken 2 := ⟨rfl, (mm_in3 221 (by decide +kernel) rfl), (mm_in1 0 (by decide +kernel) rfl), (mm_in3 222 (by decide +kernel) rfl), ⟨by decide +kernel, by decide +kernel, by decide +kernel⟩⟩
abbrev mL_repeated : mm_M := (yL_repeated, cL_repeated, 2, (some .int), [(0, 4, 5, 67)], 8, 139)
theorem i_L_repeated : mm_MSW mL_repeated 1 := ⟨rfl, (mm_in3 230 (by decide +kernel) rfl), (mm_in1 0 (by decide +kernel) rfl), (mm_in3 231 (by decide +kernel) rfl), ⟨by decide +kernel, by decide +kernel, by decide +kernel⟩⟩
