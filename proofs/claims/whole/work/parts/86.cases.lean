/-! ===== the law's cases ===== -/
theorem okn_feed {σ : St} (b : Int32) (h : Okn σ) : Okn (p_X7_feed σ b).1 := by
  unfold p_X7_feed
  by_cases a : b < 0
  · rw [if_pos a]; exact h
  · rw [if_neg a]
    by_cases c : b ≤ 255
    · rw [if_pos c]; exact okn_take σ b h
    · rw [if_neg c]; exact h
theorem okn_dfa (p1 : Int64) : ∀ (n : Nat) (s : St) (c x : Int32), Okn s → Okn (dfa p1 n s c x).1 := by
  intro n
  induction n with
  | zero => intro s c x h; exact h
  | succ n ih =>
    intro s c x h
    unfold dfa
    by_cases a : bD p1 x = 0
    · rw [if_pos a]; exact h
    · rw [if_neg a]; exact ih _ _ _ (okn_take s _ h)
theorem okn_feedAll {σ : St} (p1 : Int64) (h : Okn σ) : Okn (p_X7_feedAll σ p1).1 := by
  rw [fa_desk]; exact okn_dfa p1 8 σ 0 0 h
theorem lcmp0 {x y : Int64} (h : x = y) : lg_cmp x y = 0 := by
  subst h
  unfold lg_cmp
  rw [if_neg (by show ¬ x < x; rw [Int64.lt_iff_toInt_lt]; omega), if_pos rfl]
section LAW
variable {X : WX} {K : KX}
theorem wd_sld {cc : ByteArray} {nL cells slots : Nat} {own : String} {rm : Room} {wd : va_W} {lv : List (Nat × Value)} {pc : Nat} {st : List Value} (C : Cx X K cc nL own rm) {b L : Nat} {sc : Nat → Int32} (hX : va_X b L sc (xs X) (xs X).heap) (hbl : b < (xs X).heap.size) (hbA : ¬ xA X b) {i : Int32} (hin : vp_in i L) (hd : decode cc pc = .ok (.iaload, 1)) (kk : WD X K nL cells slots wd lv (pc + 1) (.int (sc i.toNatClampNeg) :: st)) : WD X K nL cells slots wd lv pc (.int i :: .ref b :: st) :=
  fun H locs ls hP hD hS hl => va_sld C.1 C.2.1 hX hbl hbA hS hin hd (kk H locs ls hP hD hS hl)
theorem wd_slen {cc : ByteArray} {nL cells slots : Nat} {own : String} {rm : Room} {wd : va_W} {lv : List (Nat × Value)} {pc : Nat} {st : List Value} (C : Cx X K cc nL own rm) {b L : Nat} {sc : Nat → Int32} (hX : va_X b L sc (xs X) (xs X).heap) (hbl : b < (xs X).heap.size) (hbA : ¬ xA X b) (hd : decode cc pc = .ok (.arraylength, 1)) (kk : WD X K nL cells slots wd lv (pc + 1) (.int (Int32.ofNat L) :: st)) : WD X K nL cells slots wd lv pc (.ref b :: st) :=
  fun H locs ls hP hD hS hl => va_slen C.1 C.2.1 hX hbl hbA hS hd (kk H locs ls hP hD hS hl)
variable {cells slots b L ao : Nat} {sc : Nat → Int32} {aD aM : Nat → Nat} {σ μ : St} {fo : Nat → Int64} {i : Int32}
/-- what holds where a turn of the loop begins -/
def LC (X : WX) (K : KX) (cells slots b L : Nat) (sc : Nat → Int32) (σ μ : St) (i : Int32) : Prop :=
  Cx X K cL_law 7 RL room_1 ∧ xWs (xs X) ∧ Zs (xA X) (xs X) (xs X).heap ∧ X.2.1.stackTraces = false ∧ va_X b L sc (xs X) (xs X).heap ∧ b < (xs X).heap.size ∧ ¬ xA X b ∧ vp_in i L ∧ vp_in (i + 1) L ∧ vp_in (i + 2) L ∧ cells + 1 ≤ room_1.cells ∧ slots + 6 ≤ room_1.slots ∧ RelD σ μ ∧ Okn σ
def lvL (b : Nat) (aD aM : Nat → Nat) (ao : Nat) (i : Int32) : List (Nat × Value) := [(4, .int i), (3, .ref ao), (2, .ref (aM 0)), (1, .ref (aD 0)), (0, .ref b)]
def KK (X : WX) (K : KX) (cells slots b : Nat) (aD aM : Nat → Nat) (ao : Nat) (i : Int32) : Prop :=
  ∀ (σ' μ' : St) (fo' : Nat → Int64), RelD σ' μ' → Okn σ' → WD X K 7 (cells + 1) (slots + 6) (wL K aD σ' aM μ' ao fo') (lvL b aD aM ao i) 598 []
set_option maxRecDepth 100000 in
theorem lc_feed (h : LC X K cells slots b L sc σ μ i) (kk : KK X K cells slots b aD aM ao i) : WD X K 7 cells slots (wL K aD σ aM μ ao fo) (lvL b aD aM ao i) 120 [] := by
  obtain ⟨C, hxw, hzs, hst, hX, hbl, hbA, in0, in1, in2, hc, hs, hR, hO⟩ := h
  refine wd_aload_n C dL_law_120 rfl 3 rfl ?_
  refine wd_aload_n C dL_law_121 rfl 4 rfl ?_
  refine wd_iload C dL_law_122 0 rfl ?_
  refine wd_iconst (v := 1) C dL_law_124 (by decide) ?_
  refine wd_iadd C dL_law_125 ?_
  refine wd_sld C hX hbl hbA in1 dL_law_126 ?_
  refine wd_callV C 1 ((c_X7_feed _ K aD σ (sc (i + 1).toNatClampNeg) hO).l7 aM μ ao fo) 0 (wL_0 K aD σ aM μ ao fo).choose_spec rfl rfl tw_304 tw_305 tw_306 tw_64 tw_307 (by decide +kernel) rfl ⟨rfl, rfl, by decide, by decide, Nat.le_trans (Nat.le_succ _) hc, Nat.le_trans (Nat.le_add_right _ 6) hs⟩ (Nat.le_of_ble_eq_true rfl) dL_law_127 _ rfl ?_
  refine wd_aload_n C dL_law_130 rfl 2 rfl ?_
  refine wd_aload_n C dL_law_131 rfl 4 rfl ?_
  refine wd_iload C dL_law_132 0 rfl ?_
  refine wd_iconst (v := 1) C dL_law_134 (by decide) ?_
  refine wd_iadd C dL_law_135 ?_
  refine wd_sld C hX hbl hbA in1 dL_law_136 ?_
  refine wd_callV C 1 ((c_X8_feed _ K aM μ (sc (i + 1).toNatClampNeg) hR.2.1).l8 aD (p_X7_feed σ (sc (i + 1).toNatClampNeg)).1 ao fo) 19 (wL_19 K aD (p_X7_feed σ (sc (i + 1).toNatClampNeg)).1 aM μ ao fo).choose_spec rfl rfl tw_945 tw_946 tw_947 tw_72 tw_948 (by decide +kernel) rfl ⟨rfl, rfl, by decide, by decide, Nat.le_trans (Nat.le_succ _) hc, Nat.le_trans (Nat.le_add_right _ 6) hs⟩ (Nat.le_of_ble_eq_true rfl) dL_law_137 _ rfl ?_
  refine wd_icmp_eq C 598 dL_law_140 (by decide) (fun _ => ?_) (fun z => absurd (congrArg b2i (rd_feed hR (sc (i + 1).toNatClampNeg)).2) z)
  exact wd_widen (Nat.le_succ _) (Nat.le_add_right _ 6) (kk _ _ _ ((rd_feed hR (sc (i + 1).toNatClampNeg)).1) (okn_feed _ hO))
set_option maxRecDepth 100000 in
theorem lc_feedAll (h : LC X K cells slots b L sc σ μ i) (kk : KK X K cells slots b aD aM ao i) : WD X K 7 cells slots (wL K aD σ aM μ ao fo) (lvL b aD aM ao i) 145 [] := by
  obtain ⟨C, hxw, hzs, hst, hX, hbl, hbA, in0, in1, in2, hc, hs, hR, hO⟩ := h
  refine wd_aload_n C dL_law_145 rfl 3 rfl ?_
  refine wd_aload_n C dL_law_146 rfl 4 rfl ?_
  refine wd_iload C dL_law_147 0 rfl ?_
  refine wd_iconst (v := 1) C dL_law_149 (by decide) ?_
  refine wd_iadd C dL_law_150 ?_
  refine wd_sld C hX hbl hbA in1 dL_law_151 ?_
  refine wd_i2l C dL_law_152 ?_
  refine wd_bipush (v := 32) C dL_law_153 (by decide) ?_
  refine wd_lshl C dL_law_155 ?_
  refine wd_aload_n C dL_law_156 rfl 4 rfl ?_
  refine wd_iload C dL_law_157 0 rfl ?_
  refine wd_iconst (v := 2) C dL_law_159 (by decide) ?_
  refine wd_iadd C dL_law_160 ?_
  refine wd_sld C hX hbl hbA in2 dL_law_161 ?_
  refine wd_i2l C dL_law_162 ?_
  refine wd_ldc2 (v := 4294967295) C tw_1140 dL_law_163 ?_
  refine wd_land C dL_law_166 ?_
  refine wd_lor C dL_law_167 ?_
  refine wd_callV C 1 ((c_X7_feedAll _ K aD σ (((sc (i + 1).toNatClampNeg).toInt64 <<< ((32 : Int32).toInt64 &&& 63)) ||| ((sc (i + 2).toNatClampNeg).toInt64 &&& 4294967295)) hO).l7 aM μ ao fo) 0 (wL_0 K aD σ aM μ ao fo).choose_spec rfl rfl tw_620 tw_621 tw_622 tw_64 tw_623 (by decide +kernel) rfl ⟨rfl, rfl, by decide, by decide, Nat.le_trans (Nat.le_succ _) hc, Nat.le_trans (Nat.le_add_right _ 6) hs⟩ (Nat.le_of_ble_eq_true rfl) dL_law_168 _ rfl ?_
  refine wd_aload_n C dL_law_171 rfl 2 rfl ?_
  refine wd_aload_n C dL_law_172 rfl 4 rfl ?_
  refine wd_iload C dL_law_173 0 rfl ?_
  refine wd_iconst (v := 1) C dL_law_175 (by decide) ?_
  refine wd_iadd C dL_law_176 ?_
  refine wd_sld C hX hbl hbA in1 dL_law_177 ?_
  refine wd_i2l C dL_law_178 ?_
  refine wd_bipush (v := 32) C dL_law_179 (by decide) ?_
  refine wd_lshl C dL_law_181 ?_
  refine wd_aload_n C dL_law_182 rfl 4 rfl ?_
  refine wd_iload C dL_law_183 0 rfl ?_
  refine wd_iconst (v := 2) C dL_law_185 (by decide) ?_
  refine wd_iadd C dL_law_186 ?_
  refine wd_sld C hX hbl hbA in2 dL_law_187 ?_
  refine wd_i2l C dL_law_188 ?_
  refine wd_ldc2 (v := 4294967295) C tw_1140 dL_law_189 ?_
  refine wd_land C dL_law_192 ?_
  refine wd_lor C dL_law_193 ?_
  refine wd_callV C 1 ((c_X8_feedAll _ K aM μ (((sc (i + 1).toNatClampNeg).toInt64 <<< ((32 : Int32).toInt64 &&& 63)) ||| ((sc (i + 2).toNatClampNeg).toInt64 &&& 4294967295)) hR.2.1).l8 aD (p_X7_feedAll σ (((sc (i + 1).toNatClampNeg).toInt64 <<< ((32 : Int32).toInt64 &&& 63)) ||| ((sc (i + 2).toNatClampNeg).toInt64 &&& 4294967295))).1 ao fo) 19 (wL_19 K aD (p_X7_feedAll σ (((sc (i + 1).toNatClampNeg).toInt64 <<< ((32 : Int32).toInt64 &&& 63)) ||| ((sc (i + 2).toNatClampNeg).toInt64 &&& 4294967295))).1 aM μ ao fo).choose_spec rfl rfl tw_1072 tw_1073 tw_1074 tw_72 tw_1075 (by decide +kernel) rfl ⟨rfl, rfl, by decide, by decide, Nat.le_trans (Nat.le_succ _) hc, Nat.le_trans (Nat.le_add_right _ 6) hs⟩ (Nat.le_of_ble_eq_true rfl) dL_law_194 _ rfl ?_
  refine wd_icmp_eq C 598 dL_law_197 (by decide) (fun _ => ?_) (fun z => absurd ((rd_feedAll hR (((sc (i + 1).toNatClampNeg).toInt64 <<< ((32 : Int32).toInt64 &&& 63)) ||| ((sc (i + 2).toNatClampNeg).toInt64 &&& 4294967295))).2) z)
  exact wd_widen (Nat.le_succ _) (Nat.le_add_right _ 6) (kk _ _ _ ((rd_feedAll hR (((sc (i + 1).toNatClampNeg).toInt64 <<< ((32 : Int32).toInt64 &&& 63)) ||| ((sc (i + 2).toNatClampNeg).toInt64 &&& 4294967295))).1) (okn_feedAll _ hO))
set_option maxRecDepth 100000 in
theorem lc_row (h : LC X K cells slots b L sc σ μ i) (kk : KK X K cells slots b aD aM ao i) : WD X K 7 cells slots (wL K aD σ aM μ ao fo) (lvL b aD aM ao i) 202 [] := by
  obtain ⟨C, hxw, hzs, hst, hX, hbl, hbA, in0, in1, in2, hc, hs, hR, hO⟩ := h
  refine wd_aload_n C dL_law_202 rfl 3 rfl ?_
  refine wd_callV C 0 ((c_X7_row _ K aD σ).l7 aM μ ao fo) 0 (wL_0 K aD σ aM μ ao fo).choose_spec rfl rfl tw_624 tw_625 tw_626 tw_64 tw_627 (by decide +kernel) rfl ⟨rfl, rfl, by decide, by decide, Nat.le_trans (Nat.le_succ _) hc, Nat.le_trans (Nat.le_add_right _ 6) hs⟩ (Nat.le_of_ble_eq_true rfl) dL_law_203 _ rfl ?_
  refine wd_aload_n C dL_law_206 rfl 2 rfl ?_
  refine wd_callV C 0 ((c_X8_row _ K aM μ).l8 aD σ ao fo) 19 (wL_19 K aD σ aM μ ao fo).choose_spec rfl rfl tw_1076 tw_1077 tw_1078 tw_72 tw_1079 (by decide +kernel) rfl ⟨rfl, rfl, by decide, by decide, Nat.le_trans (Nat.le_succ _) hc, Nat.le_trans (Nat.le_add_right _ 6) hs⟩ (Nat.le_of_ble_eq_true rfl) dL_law_207 _ rfl ?_
  refine wd_icmp_eq C 598 dL_law_210 (by decide) (fun _ => ?_) (fun z => absurd (hR.1.1.2.2.1) z)
  exact wd_widen (Nat.le_succ _) (Nat.le_add_right _ 6) (kk _ _ _ (relD_39 hR 0) (hO))
set_option maxRecDepth 100000 in
theorem lc_column (h : LC X K cells slots b L sc σ μ i) (kk : KK X K cells slots b aD aM ao i) : WD X K 7 cells slots (wL K aD σ aM μ ao fo) (lvL b aD aM ao i) 215 [] := by
  obtain ⟨C, hxw, hzs, hst, hX, hbl, hbA, in0, in1, in2, hc, hs, hR, hO⟩ := h
  refine wd_aload_n C dL_law_215 rfl 3 rfl ?_
  refine wd_callV C 0 ((c_X7_column _ K aD σ).l7 aM μ ao fo) 0 (wL_0 K aD σ aM μ ao fo).choose_spec rfl rfl tw_628 tw_629 tw_630 tw_64 tw_631 (by decide +kernel) rfl ⟨rfl, rfl, by decide, by decide, Nat.le_trans (Nat.le_succ _) hc, Nat.le_trans (Nat.le_add_right _ 6) hs⟩ (Nat.le_of_ble_eq_true rfl) dL_law_216 _ rfl ?_
  refine wd_aload_n C dL_law_219 rfl 2 rfl ?_
  refine wd_callV C 0 ((c_X8_column _ K aM μ).l8 aD σ ao fo) 19 (wL_19 K aD σ aM μ ao fo).choose_spec rfl rfl tw_1080 tw_1081 tw_1082 tw_72 tw_1083 (by decide +kernel) rfl ⟨rfl, rfl, by decide, by decide, Nat.le_trans (Nat.le_succ _) hc, Nat.le_trans (Nat.le_add_right _ 6) hs⟩ (Nat.le_of_ble_eq_true rfl) dL_law_220 _ rfl ?_
  refine wd_icmp_eq C 598 dL_law_223 (by decide) (fun _ => ?_) (fun z => absurd (hR.1.1.2.2.2.1) z)
  exact wd_widen (Nat.le_succ _) (Nat.le_add_right _ 6) (kk _ _ _ (relD_39 hR 0) (hO))
set_option maxRecDepth 100000 in
theorem lc_full (h : LC X K cells slots b L sc σ μ i) (kk : KK X K cells slots b aD aM ao i) : WD X K 7 cells slots (wL K aD σ aM μ ao fo) (lvL b aD aM ao i) 228 [] := by
  obtain ⟨C, hxw, hzs, hst, hX, hbl, hbA, in0, in1, in2, hc, hs, hR, hO⟩ := h
  refine wd_aload_n C dL_law_228 rfl 3 rfl ?_
  refine wd_callV C 0 ((c_X7_full _ K aD σ).l7 aM μ ao fo) 0 (wL_0 K aD σ aM μ ao fo).choose_spec rfl rfl tw_632 tw_633 tw_634 tw_64 tw_635 (by decide +kernel) rfl ⟨rfl, rfl, by decide, by decide, Nat.le_trans (Nat.le_succ _) hc, Nat.le_trans (Nat.le_add_right _ 6) hs⟩ (Nat.le_of_ble_eq_true rfl) dL_law_229 _ rfl ?_
  refine wd_aload_n C dL_law_232 rfl 2 rfl ?_
  refine wd_callV C 0 ((c_X8_full _ K aM μ).l8 aD σ ao fo) 19 (wL_19 K aD σ aM μ ao fo).choose_spec rfl rfl tw_1084 tw_1085 tw_1086 tw_72 tw_1087 (by decide +kernel) rfl ⟨rfl, rfl, by decide, by decide, Nat.le_trans (Nat.le_succ _) hc, Nat.le_trans (Nat.le_add_right _ 6) hs⟩ (Nat.le_of_ble_eq_true rfl) dL_law_233 _ rfl ?_
  refine wd_icmp_eq C 598 dL_law_236 (by decide) (fun _ => ?_) (fun z => absurd (congrArg b2i hR.1.1.2.2.2.2.1) z)
  exact wd_widen (Nat.le_succ _) (Nat.le_add_right _ 6) (kk _ _ _ (relD_39 hR 0) (hO))
set_option maxRecDepth 100000 in
theorem lc_pen (h : LC X K cells slots b L sc σ μ i) (kk : KK X K cells slots b aD aM ao i) : WD X K 7 cells slots (wL K aD σ aM μ ao fo) (lvL b aD aM ao i) 241 [] := by
  obtain ⟨C, hxw, hzs, hst, hX, hbl, hbA, in0, in1, in2, hc, hs, hR, hO⟩ := h
  refine wd_aload_n C dL_law_241 rfl 3 rfl ?_
  refine wd_callV C 0 ((c_X7_pen _ K aD σ).l7 aM μ ao fo) 0 (wL_0 K aD σ aM μ ao fo).choose_spec rfl rfl tw_636 tw_637 tw_638 tw_64 tw_639 (by decide +kernel) rfl ⟨rfl, rfl, by decide, by decide, Nat.le_trans (Nat.le_succ _) hc, Nat.le_trans (Nat.le_add_right _ 6) hs⟩ (Nat.le_of_ble_eq_true rfl) dL_law_242 _ rfl ?_
  refine wd_aload_n C dL_law_245 rfl 2 rfl ?_
  refine wd_callV C 0 ((c_X8_pen _ K aM μ).l8 aD σ ao fo) 19 (wL_19 K aD σ aM μ ao fo).choose_spec rfl rfl tw_1088 tw_1089 tw_1090 tw_72 tw_1091 (by decide +kernel) rfl ⟨rfl, rfl, by decide, by decide, Nat.le_trans (Nat.le_succ _) hc, Nat.le_trans (Nat.le_add_right _ 6) hs⟩ (Nat.le_of_ble_eq_true rfl) dL_law_246 _ rfl ?_
  refine wd_icmp_eq C 598 dL_law_249 (by decide) (fun _ => ?_) (fun z => absurd (hR.1.2.1.1) z)
  exact wd_widen (Nat.le_succ _) (Nat.le_add_right _ 6) (kk _ _ _ (relD_39 hR 0) (hO))
set_option maxRecDepth 100000 in
theorem lc_mode (h : LC X K cells slots b L sc σ μ i) (kk : KK X K cells slots b aD aM ao i) : WD X K 7 cells slots (wL K aD σ aM μ ao fo) (lvL b aD aM ao i) 254 [] := by
  obtain ⟨C, hxw, hzs, hst, hX, hbl, hbA, in0, in1, in2, hc, hs, hR, hO⟩ := h
  refine wd_aload_n C dL_law_254 rfl 3 rfl ?_
  refine wd_aload_n C dL_law_255 rfl 4 rfl ?_
  refine wd_iload C dL_law_256 0 rfl ?_
  refine wd_iconst (v := 1) C dL_law_258 (by decide) ?_
  refine wd_iadd C dL_law_259 ?_
  refine wd_sld C hX hbl hbA in1 dL_law_260 ?_
  refine wd_callV C 1 ((c_X7_mode _ K aD σ (sc (i + 1).toNatClampNeg)).l7 aM μ ao fo) 0 (wL_0 K aD σ aM μ ao fo).choose_spec rfl rfl tw_640 tw_641 tw_642 tw_64 tw_643 (by decide +kernel) rfl ⟨rfl, rfl, by decide, by decide, Nat.le_trans (Nat.le_succ _) hc, Nat.le_trans (Nat.le_add_right _ 6) hs⟩ (Nat.le_of_ble_eq_true rfl) dL_law_261 _ rfl ?_
  refine wd_aload_n C dL_law_264 rfl 2 rfl ?_
  refine wd_aload_n C dL_law_265 rfl 4 rfl ?_
  refine wd_iload C dL_law_266 0 rfl ?_
  refine wd_iconst (v := 1) C dL_law_268 (by decide) ?_
  refine wd_iadd C dL_law_269 ?_
  refine wd_sld C hX hbl hbA in1 dL_law_270 ?_
  refine wd_callV C 1 ((c_X8_mode _ K aM μ (sc (i + 1).toNatClampNeg)).l8 aD σ ao fo) 19 (wL_19 K aD σ aM μ ao fo).choose_spec rfl rfl tw_1092 tw_1093 tw_1094 tw_72 tw_1095 (by decide +kernel) rfl ⟨rfl, rfl, by decide, by decide, Nat.le_trans (Nat.le_succ _) hc, Nat.le_trans (Nat.le_add_right _ 6) hs⟩ (Nat.le_of_ble_eq_true rfl) dL_law_271 _ rfl ?_
  refine wd_icmp_eq C 598 dL_law_274 (by decide) (fun _ => ?_) (fun z => absurd (rd_mode hR (sc (i + 1).toNatClampNeg)) z)
  exact wd_widen (Nat.le_succ _) (Nat.le_add_right _ 6) (kk _ _ _ (relD_39 hR 0) (hO))
set_option maxRecDepth 100000 in
theorem lc_region (h : LC X K cells slots b L sc σ μ i) (kk : KK X K cells slots b aD aM ao i) : WD X K 7 cells slots (wL K aD σ aM μ ao fo) (lvL b aD aM ao i) 279 [] := by
  obtain ⟨C, hxw, hzs, hst, hX, hbl, hbA, in0, in1, in2, hc, hs, hR, hO⟩ := h
  refine wd_aload_n C dL_law_279 rfl 3 rfl ?_
  refine wd_callV C 0 ((c_X7_region _ K aD σ).l7 aM μ ao fo) 0 (wL_0 K aD σ aM μ ao fo).choose_spec rfl rfl tw_644 tw_645 tw_646 tw_64 tw_647 (by decide +kernel) rfl ⟨rfl, rfl, by decide, by decide, Nat.le_trans (Nat.le_succ _) hc, Nat.le_trans (Nat.le_add_right _ 6) hs⟩ (Nat.le_of_ble_eq_true rfl) dL_law_280 _ rfl ?_
  refine wd_aload_n C dL_law_283 rfl 2 rfl ?_
  refine wd_callV C 0 ((c_X8_region _ K aM μ).l8 aD σ ao fo) 19 (wL_19 K aD σ aM μ ao fo).choose_spec rfl rfl tw_1096 tw_1097 tw_1098 tw_72 tw_1099 (by decide +kernel) rfl ⟨rfl, rfl, by decide, by decide, Nat.le_trans (Nat.le_succ _) hc, Nat.le_trans (Nat.le_add_right _ 6) hs⟩ (Nat.le_of_ble_eq_true rfl) dL_law_284 _ rfl ?_
  refine wd_icmp_eq C 598 dL_law_287 (by decide) (fun _ => ?_) (fun z => absurd ((by show 8 * σ.1 1 + σ.1 2 = 8 * μ.1 7 + μ.1 8; rw [hR.1.1.1, hR.1.1.2.1])) z)
  exact wd_widen (Nat.le_succ _) (Nat.le_add_right _ 6) (kk _ _ _ (relD_39 hR 0) (hO))
set_option maxRecDepth 100000 in
theorem lc_tab (h : LC X K cells slots b L sc σ μ i) (kk : KK X K cells slots b aD aM ao i) : WD X K 7 cells slots (wL K aD σ aM μ ao fo) (lvL b aD aM ao i) 292 [] := by
  obtain ⟨C, hxw, hzs, hst, hX, hbl, hbA, in0, in1, in2, hc, hs, hR, hO⟩ := h
  refine wd_aload_n C dL_law_292 rfl 3 rfl ?_
  refine wd_aload_n C dL_law_293 rfl 4 rfl ?_
  refine wd_iload C dL_law_294 0 rfl ?_
  refine wd_iconst (v := 1) C dL_law_296 (by decide) ?_
  refine wd_iadd C dL_law_297 ?_
  refine wd_sld C hX hbl hbA in1 dL_law_298 ?_
  refine wd_callV C 1 ((c_X7_tab _ K aD σ (sc (i + 1).toNatClampNeg)).l7 aM μ ao fo) 0 (wL_0 K aD σ aM μ ao fo).choose_spec rfl rfl tw_648 tw_649 tw_650 tw_64 tw_651 (by decide +kernel) rfl ⟨rfl, rfl, by decide, by decide, Nat.le_trans (Nat.le_succ _) hc, Nat.le_trans (Nat.le_add_right _ 6) hs⟩ (Nat.le_of_ble_eq_true rfl) dL_law_299 _ rfl ?_
  refine wd_aload_n C dL_law_302 rfl 2 rfl ?_
  refine wd_aload_n C dL_law_303 rfl 4 rfl ?_
  refine wd_iload C dL_law_304 0 rfl ?_
  refine wd_iconst (v := 1) C dL_law_306 (by decide) ?_
  refine wd_iadd C dL_law_307 ?_
  refine wd_sld C hX hbl hbA in1 dL_law_308 ?_
  refine wd_callV C 1 ((c_X8_tab _ K aM μ (sc (i + 1).toNatClampNeg)).l8 aD σ ao fo) 19 (wL_19 K aD σ aM μ ao fo).choose_spec rfl rfl tw_1100 tw_1101 tw_1102 tw_72 tw_1103 (by decide +kernel) rfl ⟨rfl, rfl, by decide, by decide, Nat.le_trans (Nat.le_succ _) hc, Nat.le_trans (Nat.le_add_right _ 6) hs⟩ (Nat.le_of_ble_eq_true rfl) dL_law_309 _ rfl ?_
  refine wd_icmp_eq C 598 dL_law_312 (by decide) (fun _ => ?_) (fun z => absurd (congrArg b2i (rd_tab hR (sc (i + 1).toNatClampNeg))) z)
  exact wd_widen (Nat.le_succ _) (Nat.le_add_right _ 6) (kk _ _ _ (relD_39 hR 0) (hO))
set_option maxRecDepth 100000 in
theorem lc_bells (h : LC X K cells slots b L sc σ μ i) (kk : KK X K cells slots b aD aM ao i) : WD X K 7 cells slots (wL K aD σ aM μ ao fo) (lvL b aD aM ao i) 317 [] := by
  obtain ⟨C, hxw, hzs, hst, hX, hbl, hbA, in0, in1, in2, hc, hs, hR, hO⟩ := h
  refine wd_aload_n C dL_law_317 rfl 3 rfl ?_
  refine wd_callV C 0 ((c_X7_bells _ K aD σ).l7 aM μ ao fo) 0 (wL_0 K aD σ aM μ ao fo).choose_spec rfl rfl tw_653 tw_654 tw_655 tw_64 tw_656 (by decide +kernel) rfl ⟨rfl, rfl, by decide, by decide, Nat.le_trans (Nat.le_succ _) hc, Nat.le_trans (Nat.le_add_right _ 6) hs⟩ (Nat.le_of_ble_eq_true rfl) dL_law_318 _ rfl ?_
  refine wd_aload_n C dL_law_321 rfl 2 rfl ?_
  refine wd_callV C 0 ((c_X8_bells _ K aM μ).l8 aD σ ao fo) 19 (wL_19 K aD σ aM μ ao fo).choose_spec rfl rfl tw_1104 tw_1105 tw_1106 tw_72 tw_1107 (by decide +kernel) rfl ⟨rfl, rfl, by decide, by decide, Nat.le_trans (Nat.le_succ _) hc, Nat.le_trans (Nat.le_add_right _ 6) hs⟩ (Nat.le_of_ble_eq_true rfl) dL_law_322 _ rfl ?_
  refine wd_icmp_eq C 598 dL_law_325 (by decide) (fun _ => ?_) (fun z => absurd (hR.1.1.2.2.2.2.2.2.2.2.2.2.2.2.2.1) z)
  exact wd_widen (Nat.le_succ _) (Nat.le_add_right _ 6) (kk _ _ _ (relD_39 hR 0) (hO))
set_option maxRecDepth 100000 in
theorem lc_state (h : LC X K cells slots b L sc σ μ i) (kk : KK X K cells slots b aD aM ao i) : WD X K 7 cells slots (wL K aD σ aM μ ao fo) (lvL b aD aM ao i) 330 [] := by
  obtain ⟨C, hxw, hzs, hst, hX, hbl, hbA, in0, in1, in2, hc, hs, hR, hO⟩ := h
  refine wd_aload_n C dL_law_330 rfl 3 rfl ?_
  refine wd_callV C 0 ((c_X7_state _ K aD σ).l7 aM μ ao fo) 0 (wL_0 K aD σ aM μ ao fo).choose_spec rfl rfl tw_657 tw_658 tw_659 tw_64 tw_660 (by decide +kernel) rfl ⟨rfl, rfl, by decide, by decide, Nat.le_trans (Nat.le_succ _) hc, Nat.le_trans (Nat.le_add_right _ 6) hs⟩ (Nat.le_of_ble_eq_true rfl) dL_law_331 _ rfl ?_
  refine wd_aload_n C dL_law_334 rfl 2 rfl ?_
  refine wd_callV C 0 ((c_X8_state _ K aM μ).l8 aD σ ao fo) 19 (wL_19 K aD σ aM μ ao fo).choose_spec rfl rfl tw_1108 tw_1109 tw_1110 tw_72 tw_1111 (by decide +kernel) rfl ⟨rfl, rfl, by decide, by decide, Nat.le_trans (Nat.le_succ _) hc, Nat.le_trans (Nat.le_add_right _ 6) hs⟩ (Nat.le_of_ble_eq_true rfl) dL_law_335 _ rfl ?_
  refine wd_icmp_eq C 598 dL_law_338 (by decide) (fun _ => ?_) (fun z => absurd (hR.2.2.1) z)
  exact wd_widen (Nat.le_succ _) (Nat.le_add_right _ 6) (kk _ _ _ (relD_39 hR 0) (hO))
set_option maxRecDepth 100000 in
theorem lc_cells (h : LC X K cells slots b L sc σ μ i) (kk : KK X K cells slots b aD aM ao i) : WD X K 7 cells slots (wL K aD σ aM μ ao fo) (lvL b aD aM ao i) 479 [] := by
  obtain ⟨C, hxw, hzs, hst, hX, hbl, hbA, in0, in1, in2, hc, hs, hR, hO⟩ := h
  refine wd_aload_n C dL_law_479 rfl 3 rfl ?_
  refine wd_aload_n C dL_law_480 rfl 4 rfl ?_
  refine wd_iload C dL_law_481 0 rfl ?_
  refine wd_iconst (v := 1) C dL_law_483 (by decide) ?_
  refine wd_iadd C dL_law_484 ?_
  refine wd_sld C hX hbl hbA in1 dL_law_485 ?_
  refine wd_aload_n C dL_law_486 rfl 4 rfl ?_
  refine wd_iload C dL_law_487 0 rfl ?_
  refine wd_iconst (v := 2) C dL_law_489 (by decide) ?_
  refine wd_iadd C dL_law_490 ?_
  refine wd_sld C hX hbl hbA in2 dL_law_491 ?_
  refine wd_callV C 2 ((c_X7_cells _ K aD σ (sc (i + 1).toNatClampNeg) (sc (i + 2).toNatClampNeg)).l7 aM μ ao fo) 0 (wL_0 K aD σ aM μ ao fo).choose_spec rfl rfl tw_661 tw_662 tw_663 tw_64 tw_664 (by decide +kernel) rfl ⟨rfl, rfl, by decide, by decide, Nat.le_trans (Nat.le_succ _) hc, Nat.le_trans (Nat.le_add_right _ 6) hs⟩ (Nat.le_of_ble_eq_true rfl) dL_law_492 _ rfl ?_
  refine wd_aload_n C dL_law_495 rfl 2 rfl ?_
  refine wd_aload_n C dL_law_496 rfl 4 rfl ?_
  refine wd_iload C dL_law_497 0 rfl ?_
  refine wd_iconst (v := 1) C dL_law_499 (by decide) ?_
  refine wd_iadd C dL_law_500 ?_
  refine wd_sld C hX hbl hbA in1 dL_law_501 ?_
  refine wd_aload_n C dL_law_502 rfl 4 rfl ?_
  refine wd_iload C dL_law_503 0 rfl ?_
  refine wd_iconst (v := 2) C dL_law_505 (by decide) ?_
  refine wd_iadd C dL_law_506 ?_
  refine wd_sld C hX hbl hbA in2 dL_law_507 ?_
  refine wd_callV C 2 ((c_X8_cells _ K aM μ (sc (i + 1).toNatClampNeg) (sc (i + 2).toNatClampNeg) hR.2.1).l8 aD σ ao fo) 19 (wL_19 K aD σ aM μ ao fo).choose_spec rfl rfl tw_1124 tw_1125 tw_1126 tw_72 tw_1127 (by decide +kernel) rfl ⟨rfl, rfl, by decide, by decide, Nat.le_trans (Nat.le_succ _) hc, Nat.le_trans (Nat.le_add_right _ 6) hs⟩ (Nat.le_of_ble_eq_true rfl) dL_law_508 _ rfl ?_
  refine wd_icmp_eq C 598 dL_law_511 (by decide) (fun _ => ?_) (fun z => absurd (rd_cells hR (sc (i + 1).toNatClampNeg) (sc (i + 2).toNatClampNeg)) z)
  exact wd_widen (Nat.le_succ _) (Nat.le_add_right _ 6) (kk _ _ _ (relD_39 hR 0) (hO))
set_option maxRecDepth 100000 in
theorem lc_waiting (h : LC X K cells slots b L sc σ μ i) (kk : KK X K cells slots b aD aM ao i) : WD X K 7 cells slots (wL K aD σ aM μ ao fo) (lvL b aD aM ao i) 516 [] := by
  obtain ⟨C, hxw, hzs, hst, hX, hbl, hbA, in0, in1, in2, hc, hs, hR, hO⟩ := h
  refine wd_aload_n C dL_law_516 rfl 3 rfl ?_
  refine wd_callV C 0 ((c_X7_waiting _ K aD σ).l7 aM μ ao fo) 0 (wL_0 K aD σ aM μ ao fo).choose_spec rfl rfl tw_670 tw_671 tw_672 tw_64 tw_673 (by decide +kernel) rfl ⟨rfl, rfl, by decide, by decide, Nat.le_trans (Nat.le_succ _) hc, Nat.le_trans (Nat.le_add_right _ 6) hs⟩ (Nat.le_of_ble_eq_true rfl) dL_law_517 _ rfl ?_
  refine wd_aload_n C dL_law_520 rfl 2 rfl ?_
  refine wd_callV C 0 ((c_X8_waiting _ K aM μ).l8 aD σ ao fo) 19 (wL_19 K aD σ aM μ ao fo).choose_spec rfl rfl tw_1128 tw_1129 tw_1130 tw_72 tw_1131 (by decide +kernel) rfl ⟨rfl, rfl, by decide, by decide, Nat.le_trans (Nat.le_succ _) hc, Nat.le_trans (Nat.le_add_right _ 6) hs⟩ (Nat.le_of_ble_eq_true rfl) dL_law_521 _ rfl ?_
  refine wd_icmp_eq C 598 dL_law_524 (by decide) (fun _ => ?_) (fun z => absurd (hR.1.2.2.2.2.2.1) z)
  exact wd_widen (Nat.le_succ _) (Nat.le_add_right _ 6) (kk _ _ _ (relD_39 hR 0) (hO))
set_option maxRecDepth 100000 in
theorem lc_title (h : LC X K cells slots b L sc σ μ i) (kk : KK X K cells slots b aD aM ao i) : WD X K 7 cells slots (wL K aD σ aM μ ao fo) (lvL b aD aM ao i) 573 [] := by
  obtain ⟨C, hxw, hzs, hst, hX, hbl, hbA, in0, in1, in2, hc, hs, hR, hO⟩ := h
  refine wd_aload_n C dL_law_573 rfl 3 rfl ?_
  refine wd_aload_n C dL_law_574 rfl 4 rfl ?_
  refine wd_iload C dL_law_575 0 rfl ?_
  refine wd_iconst (v := 1) C dL_law_577 (by decide) ?_
  refine wd_iadd C dL_law_578 ?_
  refine wd_sld C hX hbl hbA in1 dL_law_579 ?_
  refine wd_callV C 1 ((c_X7_title _ K aD σ (sc (i + 1).toNatClampNeg)).l7 aM μ ao fo) 0 (wL_0 K aD σ aM μ ao fo).choose_spec rfl rfl tw_674 tw_675 tw_676 tw_64 tw_677 (by decide +kernel) rfl ⟨rfl, rfl, by decide, by decide, Nat.le_trans (Nat.le_succ _) hc, Nat.le_trans (Nat.le_add_right _ 6) hs⟩ (Nat.le_of_ble_eq_true rfl) dL_law_580 _ rfl ?_
  refine wd_aload_n C dL_law_583 rfl 2 rfl ?_
  refine wd_aload_n C dL_law_584 rfl 4 rfl ?_
  refine wd_iload C dL_law_585 0 rfl ?_
  refine wd_iconst (v := 1) C dL_law_587 (by decide) ?_
  refine wd_iadd C dL_law_588 ?_
  refine wd_sld C hX hbl hbA in1 dL_law_589 ?_
  refine wd_callV C 1 ((c_X8_title _ K aM μ (sc (i + 1).toNatClampNeg) hR.2.1).l8 aD σ ao fo) 19 (wL_19 K aD σ aM μ ao fo).choose_spec rfl rfl tw_1136 tw_1137 tw_1138 tw_72 tw_1139 (by decide +kernel) rfl ⟨rfl, rfl, by decide, by decide, Nat.le_trans (Nat.le_succ _) hc, Nat.le_trans (Nat.le_add_right _ 6) hs⟩ (Nat.le_of_ble_eq_true rfl) dL_law_590 _ rfl ?_
  refine wd_icmp_eq C 598 dL_law_593 (by decide) (fun _ => ?_) (fun z => absurd (rd_title hR (sc (i + 1).toNatClampNeg)) z)
  exact wd_widen (Nat.le_succ _) (Nat.le_add_right _ 6) (kk _ _ _ (relD_39 hR 0) (hO))
set_option maxRecDepth 100000 in
theorem lc_code (h : LC X K cells slots b L sc σ μ i) (kk : KK X K cells slots b aD aM ao i) : WD X K 7 cells slots (wL K aD σ aM μ ao fo) (lvL b aD aM ao i) 343 [] := by
  obtain ⟨C, hxw, hzs, hst, hX, hbl, hbA, in0, in1, in2, hc, hs, hR, hO⟩ := h
  refine wd_aload_n C dL_law_343 rfl 3 rfl ?_
  refine wd_aload_n C dL_law_344 rfl 4 rfl ?_
  refine wd_iload C dL_law_345 0 rfl ?_
  refine wd_iconst (v := 1) C dL_law_347 (by decide) ?_
  refine wd_iadd C dL_law_348 ?_
  refine wd_sld C hX hbl hbA in1 dL_law_349 ?_
  refine wd_aload_n C dL_law_350 rfl 4 rfl ?_
  refine wd_iload C dL_law_351 0 rfl ?_
  refine wd_iconst (v := 2) C dL_law_353 (by decide) ?_
  refine wd_iadd C dL_law_354 ?_
  refine wd_sld C hX hbl hbA in2 dL_law_355 ?_
  refine wd_aload_n C dL_law_356 rfl 1 rfl ?_
  generalize hv1 : sc (i + 1).toNatClampNeg = v1
  generalize hv2 : sc (i + 2).toNatClampNeg = v2
  have rest : ∀ (cl sl : Nat) (k : Int32) (fo1 : Nat → Int64), cl ≤ cells + 1 → sl ≤ slots + 6 → k = b2i (p_X8_code_t1 μ v1 v2) → (k = 0 → fo1 0 = (p_X8_code_t2 μ v1 v2).toInt64) → WD X K 7 cl sl (wL K aD σ aM μ ao fo1) (lvL b aD aM ao i) 360 [.int k] := by
    intro cl sl k fo1 hcl hsl hk hf
    refine wd_istore C _ dL_law_360 (by decide) rfl ?_
    show WD X K 7 cl sl (wL K aD σ aM μ ao fo1) ((5, .int k) :: lvL b aD aM ao i) 362 []
    refine wd_aload_n C dL_law_362 rfl 3 rfl ?_
    refine wd_aload_n C dL_law_363 rfl 5 rfl ?_
    refine wd_iload C dL_law_364 1 rfl ?_
    refine wd_iconst (v := 1) C dL_law_366 (by decide) ?_
    refine wd_iadd C dL_law_367 ?_
    refine wd_sld C hX hbl hbA in1 dL_law_368 ?_
    refine wd_aload_n C dL_law_369 rfl 5 rfl ?_
    refine wd_iload C dL_law_370 1 rfl ?_
    refine wd_iconst (v := 2) C dL_law_372 (by decide) ?_
    refine wd_iadd C dL_law_373 ?_
    refine wd_sld C hX hbl hbA in2 dL_law_374 ?_
    rw [hv1, hv2]
    refine wd_callV C 2 ((c_X8_code _ K aM μ v1 v2 hR.2.1).l8 aD σ ao fo1) 19 (wL_19 K aD σ aM μ ao fo1).choose_spec rfl rfl tw_1112 tw_1113 tw_1114 tw_72 tw_1115 (by decide +kernel) rfl ⟨rfl, rfl, by decide, by decide, Nat.le_trans hcl hc, Nat.le_trans hsl hs⟩ (Nat.le_of_ble_eq_true rfl) dL_law_375 _ rfl ?_
    refine wd_istore C _ dL_law_378 (by decide) rfl ?_
    show WD X K 7 cl sl (wL K aD σ aM (p_X8_code μ v1 v2).1 ao fo1) ((6, .int (p_X8_code_t2 μ v1 v2)) :: (5, .int k) :: lvL b aD aM ao i) 380 []
    refine wd_aload_n C dL_law_380 rfl 4 rfl ?_
    refine wd_callV C 0 ((c_X8_thrown _ K aM (p_X8_code μ v1 v2).1).l8 aD σ ao fo1) 19 (wL_19 K aD σ aM (p_X8_code μ v1 v2).1 ao fo1).choose_spec rfl rfl tw_941 tw_942 tw_943 tw_72 tw_944 (by decide +kernel) rfl ⟨rfl, rfl, by decide, by decide, Nat.le_trans hcl hc, Nat.le_trans hsl hs⟩ (Nat.le_of_ble_eq_true rfl) dL_law_381 _ rfl ?_
    refine wd_iload C dL_law_384 1 rfl ?_
    refine wd_icmp_eq C 391 dL_law_386 (by decide) (fun _ => ?_) (fun z => absurd (show p_X8_thrown (p_X8_code μ v1 v2).1 = k from hk.symm) z)
    have J : WD X K 7 cl sl (wL K aD σ aM (p_X8_code μ v1 v2).1 ao fo1) ((6, .int (p_X8_code_t2 μ v1 v2)) :: (5, .int k) :: lvL b aD aM ao i) 408 [] := wd_goto C 598 dL_law_408 (by decide) (wd_lv [2, 3, 4, 5, 6] _ rfl (wd_widen hcl hsl (kk σ (p_X8_code μ v1 v2).1 fo1 (relD_39 hR _) hO)))
    refine wd_iload C dL_law_391 1 rfl ?_
    refine wd_if_ne C 408 dL_law_393 (by decide) (fun _ => J) (fun k0 => ?_)
    refine wd_aload_n C dL_law_396 rfl 3 rfl ?_
    refine wd_iconst (v := 0) C dL_law_397 (by decide) ?_
    refine wd_lald C 29 (wL_29 K aD σ aM _ ao fo1) in01 dL_law_398 ?_
    refine wd_iload C dL_law_399 0 rfl ?_
    refine wd_i2l C dL_law_401 ?_
    refine wd_lcmp C dL_law_402 ?_
    exact wd_if_eq C 408 dL_law_403 (by decide) (fun _ => J) (fun z => absurd (lcmp0 (hf k0)) z)
  by_cases ic : p_X7_isCell σ v1 v2 = true
  · have rc := isCell_r ic
    have ic8 : p_X8_isCell μ v1 v2 = true := ic
    have t1 : p_X8_code_t1 μ v1 v2 = false := by unfold p_X8_code_t1; rw [if_pos ic8]
    have t2 : p_X8_code_t2 μ v1 v2 = μ.2.2 0 (96 * μ.1 4 + 12 * v1 + v2).toNatClampNeg := by unfold p_X8_code_t2; rw [t1, if_pos (by decide)]
    refine wd_callSW C hxw hzs 4 (k_code _ K aD σ aM μ ao fo v1 v2 rc.1 rc.2) tw_682 xw_codeS tw_63 xw_codeW (by decide +kernel) rfl ⟨rfl, rfl, by decide, by decide, Nat.le_trans (Nat.le_succ _) hc, Nat.le_trans (Nat.le_add_right _ 6) hs⟩ (Nat.le_of_ble_eq_true rfl) dL_law_357 _ rfl ?_
    refine rest _ _ 0 _ (Nat.le_succ _) (Nat.le_add_right _ 6) (by rw [t1]; rfl) (fun _ => ?_)
    rw [t2, ← (rd_at hR v1 v2 rc.1 rc.2).1]; rfl
  · have ic8 : ¬ p_X8_isCell μ v1 v2 = true := ic
    have t1 : p_X8_code_t1 μ v1 v2 = true := by unfold p_X8_code_t1; rw [if_neg ic8]
    refine wd_callSW C hxw hzs 4 (kx_code _ hst K aD σ aM μ ao fo v1 v2 ic) tw_682 xw_codeS tw_63 xw_codeW (by decide +kernel) rfl ⟨rfl, rfl, by decide, by decide, hc, hs⟩ (Nat.le_of_ble_eq_true rfl) dL_law_357 _ rfl ?_
    exact rest _ _ 1 _ (Nat.le_refl _) (Nat.le_refl _) (by rw [t1]; rfl) (fun z => absurd z (by decide))
set_option maxRecDepth 100000 in
theorem lc_look (h : LC X K cells slots b L sc σ μ i) (kk : KK X K cells slots b aD aM ao i) : WD X K 7 cells slots (wL K aD σ aM μ ao fo) (lvL b aD aM ao i) 411 [] := by
  obtain ⟨C, hxw, hzs, hst, hX, hbl, hbA, in0, in1, in2, hc, hs, hR, hO⟩ := h
  refine wd_aload_n C dL_law_411 rfl 3 rfl ?_
  refine wd_aload_n C dL_law_412 rfl 4 rfl ?_
  refine wd_iload C dL_law_413 0 rfl ?_
  refine wd_iconst (v := 1) C dL_law_415 (by decide) ?_
  refine wd_iadd C dL_law_416 ?_
  refine wd_sld C hX hbl hbA in1 dL_law_417 ?_
  refine wd_aload_n C dL_law_418 rfl 4 rfl ?_
  refine wd_iload C dL_law_419 0 rfl ?_
  refine wd_iconst (v := 2) C dL_law_421 (by decide) ?_
  refine wd_iadd C dL_law_422 ?_
  refine wd_sld C hX hbl hbA in2 dL_law_423 ?_
  refine wd_aload_n C dL_law_424 rfl 1 rfl ?_
  generalize hv1 : sc (i + 1).toNatClampNeg = v1
  generalize hv2 : sc (i + 2).toNatClampNeg = v2
  have rest : ∀ (cl sl : Nat) (k : Int32) (fo1 : Nat → Int64), cl ≤ cells + 1 → sl ≤ slots + 6 → k = b2i (p_X8_look_t1 μ v1 v2) → (k = 0 → fo1 0 = (p_X8_look_t2 μ v1 v2).toInt64) → WD X K 7 cl sl (wL K aD σ aM μ ao fo1) (lvL b aD aM ao i) 428 [.int k] := by
    intro cl sl k fo1 hcl hsl hk hf
    refine wd_istore C _ dL_law_428 (by decide) rfl ?_
    show WD X K 7 cl sl (wL K aD σ aM μ ao fo1) ((5, .int k) :: lvL b aD aM ao i) 430 []
    refine wd_aload_n C dL_law_430 rfl 3 rfl ?_
    refine wd_aload_n C dL_law_431 rfl 5 rfl ?_
    refine wd_iload C dL_law_432 1 rfl ?_
    refine wd_iconst (v := 1) C dL_law_434 (by decide) ?_
    refine wd_iadd C dL_law_435 ?_
    refine wd_sld C hX hbl hbA in1 dL_law_436 ?_
    refine wd_aload_n C dL_law_437 rfl 5 rfl ?_
    refine wd_iload C dL_law_438 1 rfl ?_
    refine wd_iconst (v := 2) C dL_law_440 (by decide) ?_
    refine wd_iadd C dL_law_441 ?_
    refine wd_sld C hX hbl hbA in2 dL_law_442 ?_
    rw [hv1, hv2]
    refine wd_callV C 2 ((c_X8_look _ K aM μ v1 v2 hR.2.1).l8 aD σ ao fo1) 19 (wL_19 K aD σ aM μ ao fo1).choose_spec rfl rfl tw_1120 tw_1121 tw_1122 tw_72 tw_1123 (by decide +kernel) rfl ⟨rfl, rfl, by decide, by decide, Nat.le_trans hcl hc, Nat.le_trans hsl hs⟩ (Nat.le_of_ble_eq_true rfl) dL_law_443 _ rfl ?_
    refine wd_istore C _ dL_law_446 (by decide) rfl ?_
    show WD X K 7 cl sl (wL K aD σ aM (p_X8_look μ v1 v2).1 ao fo1) ((6, .int (p_X8_look_t2 μ v1 v2)) :: (5, .int k) :: lvL b aD aM ao i) 448 []
    refine wd_aload_n C dL_law_448 rfl 4 rfl ?_
    refine wd_callV C 0 ((c_X8_thrown _ K aM (p_X8_look μ v1 v2).1).l8 aD σ ao fo1) 19 (wL_19 K aD σ aM (p_X8_look μ v1 v2).1 ao fo1).choose_spec rfl rfl tw_941 tw_942 tw_943 tw_72 tw_944 (by decide +kernel) rfl ⟨rfl, rfl, by decide, by decide, Nat.le_trans hcl hc, Nat.le_trans hsl hs⟩ (Nat.le_of_ble_eq_true rfl) dL_law_449 _ rfl ?_
    refine wd_iload C dL_law_452 1 rfl ?_
    refine wd_icmp_eq C 459 dL_law_454 (by decide) (fun _ => ?_) (fun z => absurd (show p_X8_thrown (p_X8_look μ v1 v2).1 = k from hk.symm) z)
    have J : WD X K 7 cl sl (wL K aD σ aM (p_X8_look μ v1 v2).1 ao fo1) ((6, .int (p_X8_look_t2 μ v1 v2)) :: (5, .int k) :: lvL b aD aM ao i) 476 [] := wd_goto C 598 dL_law_476 (by decide) (wd_lv [2, 3, 4, 5, 6] _ rfl (wd_widen hcl hsl (kk σ (p_X8_look μ v1 v2).1 fo1 (relD_39 hR _) hO)))
    refine wd_iload C dL_law_459 1 rfl ?_
    refine wd_if_ne C 476 dL_law_461 (by decide) (fun _ => J) (fun k0 => ?_)
    refine wd_aload_n C dL_law_464 rfl 3 rfl ?_
    refine wd_iconst (v := 0) C dL_law_465 (by decide) ?_
    refine wd_lald C 29 (wL_29 K aD σ aM _ ao fo1) in01 dL_law_466 ?_
    refine wd_iload C dL_law_467 0 rfl ?_
    refine wd_i2l C dL_law_469 ?_
    refine wd_lcmp C dL_law_470 ?_
    exact wd_if_eq C 476 dL_law_471 (by decide) (fun _ => J) (fun z => absurd (lcmp0 (hf k0)) z)
  by_cases ic : p_X7_isCell σ v1 v2 = true
  · have rc := isCell_r ic
    have ic8 : p_X8_isCell μ v1 v2 = true := ic
    have t1 : p_X8_look_t1 μ v1 v2 = false := by unfold p_X8_look_t1; rw [if_pos ic8]
    have t2 : p_X8_look_t2 μ v1 v2 = μ.2.2 1 (96 * μ.1 4 + 12 * v1 + v2).toNatClampNeg := by unfold p_X8_look_t2; rw [t1, if_pos (by decide)]
    refine wd_callSW C hxw hzs 4 (k_look _ K aD σ aM μ ao fo v1 v2 rc.1 rc.2) tw_755 xw_lookS tw_63 xw_lookW (by decide +kernel) rfl ⟨rfl, rfl, by decide, by decide, Nat.le_trans (Nat.le_succ _) hc, Nat.le_trans (Nat.le_add_right _ 6) hs⟩ (Nat.le_of_ble_eq_true rfl) dL_law_425 _ rfl ?_
    refine rest _ _ 0 _ (Nat.le_succ _) (Nat.le_add_right _ 6) (by rw [t1]; rfl) (fun _ => ?_)
    rw [t2, ← (rd_at hR v1 v2 rc.1 rc.2).2]; rfl
  · have ic8 : ¬ p_X8_isCell μ v1 v2 = true := ic
    have t1 : p_X8_look_t1 μ v1 v2 = true := by unfold p_X8_look_t1; rw [if_neg ic8]
    refine wd_callSW C hxw hzs 4 (kx_look _ hst K aD σ aM μ ao fo v1 v2 ic) tw_755 xw_lookS tw_63 xw_lookW (by decide +kernel) rfl ⟨rfl, rfl, by decide, by decide, hc, hs⟩ (Nat.le_of_ble_eq_true rfl) dL_law_425 _ rfl ?_
    exact rest _ _ 1 _ (Nat.le_refl _) (Nat.le_refl _) (by rw [t1]; rfl) (fun z => absurd z (by decide))
set_option maxRecDepth 100000 in
theorem lc_reply (h : LC X K cells slots b L sc σ μ i) (kk : KK X K cells slots b aD aM ao i) : WD X K 7 cells slots (wL K aD σ aM μ ao fo) (lvL b aD aM ao i) 529 [] := by
  obtain ⟨C, hxw, hzs, hst, hX, hbl, hbA, in0, in1, in2, hc, hs, hR, hO⟩ := h
  refine wd_aload_n C dL_law_529 rfl 3 rfl ?_
  refine wd_aload_n C dL_law_530 rfl 1 rfl ?_
  have rest : ∀ (cl sl : Nat) (k : Int32) (σ1 : St) (fo1 : Nat → Int64), cl ≤ cells + 1 → sl ≤ slots + 6 → k = (p_X8_reply μ).1.1 39 → (k = 0 → fo1 0 = (p_X8_reply μ).2.toInt64) → RelD σ1 (p_X8_reply μ).1 → Okn σ1 → WD X K 7 cl sl (wL K aD σ1 aM μ ao fo1) (lvL b aD aM ao i) 534 [.int k] := by
    intro cl sl k σ1 fo1 hcl hsl hk hf hR1 hO1
    refine wd_istore C _ dL_law_534 (by decide) rfl ?_
    show WD X K 7 cl sl (wL K aD σ1 aM μ ao fo1) ((5, .int k) :: lvL b aD aM ao i) 536 []
    refine wd_aload_n C dL_law_536 rfl 3 rfl ?_
    refine wd_callV C 0 ((c_X8_reply _ K aM μ hR.2.1).l8 aD σ1 ao fo1) 19 (wL_19 K aD σ1 aM μ ao fo1).choose_spec rfl rfl tw_1132 tw_1133 tw_1134 tw_72 tw_1135 (by decide +kernel) rfl ⟨rfl, rfl, by decide, by decide, Nat.le_trans hcl hc, Nat.le_trans hsl hs⟩ (Nat.le_of_ble_eq_true rfl) dL_law_537 _ rfl ?_
    generalize p_X8_reply μ = rp at *
    refine wd_istore C _ dL_law_540 (by decide) rfl ?_
    show WD X K 7 cl sl (wL K aD σ1 aM rp.1 ao fo1) ((6, .int rp.2) :: (5, .int k) :: lvL b aD aM ao i) 542 []
    refine wd_aload_n C dL_law_542 rfl 4 rfl ?_
    refine wd_callV C 0 ((c_X8_thrown _ K aM rp.1).l8 aD σ1 ao fo1) 19 (wL_19 K aD σ1 aM rp.1 ao fo1).choose_spec rfl rfl tw_941 tw_942 tw_943 tw_72 tw_944 (by decide +kernel) rfl ⟨rfl, rfl, by decide, by decide, Nat.le_trans hcl hc, Nat.le_trans hsl hs⟩ (Nat.le_of_ble_eq_true rfl) dL_law_543 _ rfl ?_
    refine wd_iload C dL_law_546 1 rfl ?_
    refine wd_icmp_eq C 553 dL_law_548 (by decide) (fun _ => ?_) (fun z => absurd (show p_X8_thrown rp.1 = k from hk.symm) z)
    have J : WD X K 7 cl sl (wL K aD σ1 aM rp.1 ao fo1) ((6, .int rp.2) :: (5, .int k) :: lvL b aD aM ao i) 570 [] := wd_goto C 598 dL_law_570 (by decide) (wd_lv [2, 3, 4, 5, 6] _ rfl (wd_widen hcl hsl (kk σ1 rp.1 fo1 hR1 hO1)))
    refine wd_iload C dL_law_553 1 rfl ?_
    refine wd_if_ne C 570 dL_law_555 (by decide) (fun _ => J) (fun k0 => ?_)
    refine wd_aload_n C dL_law_558 rfl 3 rfl ?_
    refine wd_iconst (v := 0) C dL_law_559 (by decide) ?_
    refine wd_lald C 29 (wL_29 K aD σ1 aM rp.1 ao fo1) in01 dL_law_560 ?_
    refine wd_iload C dL_law_561 0 rfl ?_
    refine wd_i2l C dL_law_563 ?_
    refine wd_lcmp C dL_law_564 ?_
    exact wd_if_eq C 570 dL_law_565 (by decide) (fun _ => J) (fun z => absurd (lcmp0 (hf k0)) z)
  have e18 : σ.1 18 = μ.1 28 := hR.1.2.2.2.2.2.1
  by_cases hw : σ.1 18 ≤ 0
  · have t1 : p_X8_reply_t1 μ = true := by unfold p_X8_reply_t1; rw [if_pos (by rw [← e18]; exact hw)]
    have er : p_X8_reply μ = (si μ 39 (b2i true), 0) := by unfold p_X8_reply; rw [t1, if_neg (by decide)]
    refine wd_callSW C hxw hzs 2 (kx_reply _ hst K aD σ aM μ ao fo hw) tw_762 xw_replyS tw_63 xw_replyW (by decide +kernel) rfl ⟨rfl, rfl, by decide, by decide, hc, hs⟩ (Nat.le_of_ble_eq_true rfl) dL_law_531 _ rfl ?_
    refine rest _ _ 1 _ _ (Nat.le_refl _) (Nat.le_refl _) (by rw [er]; rfl) (fun z => absurd z (by decide)) ?_ hO
    rw [er]; exact relD_39 hR _
  · obtain ⟨r1, r2, r3⟩ := rd_reply hR hw
    refine wd_callSW C hxw hzs 2 (k_reply _ K aD σ aM μ ao fo hw) tw_762 xw_replyS tw_63 xw_replyW (by decide +kernel) rfl ⟨rfl, rfl, by decide, by decide, Nat.le_trans (Nat.le_succ _) hc, Nat.le_trans (Nat.le_add_right _ 6) hs⟩ (Nat.le_of_ble_eq_true rfl) dL_law_531 _ rfl ?_
    have hO2 : Okn (q_X4_takeFirst_R σ).1 := by
      have e4 : (q_X4_takeFirst_R σ).1.2.2 4 = σ.2.2 4 := by unfold q_X4_takeFirst_R; generalize p_X4_takeFirst (subR σ) = T; rfl
      exact okn_of e4 hO
    generalize q_X4_takeFirst_R σ = T at *
    exact rest _ _ 0 _ _ (Nat.le_succ _) (Nat.le_add_right _ 6) r3.symm (fun _ => by rw [← r2]; rfl) r1 hO2
end LAW
