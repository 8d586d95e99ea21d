theorem min24 (x : Int32) : (if 24 < x then 24 else x : Int32).toInt ≤ 24 := by
  by_cases h : 24 < x
  · rw [if_pos h]; decide
  · rw [if_neg h]; simp only [ti_lt] at h; have z : (24 : Int32).toInt = 24 := (by decide); omega
def p_X5_reset (σ : St) : St := si (si (sb (sb (sb (si (si (si ((q_X0_reset_C9 ((q_X0_reset_C8 ((q_X3_clear_P3 (q_X3_clear_P2 σ 0 95) 0 95)))))) 1 0) 2 7) 3 272) 0 false) 1 true) 2 false) 4 0) 5 (-1)
set_option maxHeartbeats 4000000 in
set_option maxRecDepth 100000 in
theorem c_X5_reset (l : Launch) (K : KX) (ad : Nat → Nat) (σ : St) : Mt l K yX5_reset cX5_reset 1 none { frames := 2, cells := 0, slots := 0, locals := 42 } [.ref (ad 1)] (WdD K ad σ) none (WdD K ad (p_X5_reset σ)) := by
  refine Mt.v (by decide +kernel) (Nat.le_of_ble_eq_true rfl) (fun X C hret => ?_)
  show WD X K 1 0 0 (WdD K ad σ) [(0, .ref (ad 1))] 0 []
  refine wd_aload_n C dX5_reset_0 rfl 0 rfl ?_
  refine gfD_1_0 C tw_141 dX5_reset_1 ?_
  refine wd_iconst (v := 0) C dX5_reset_4 (by decide) ?_
  refine wd_bipush (v := 95) C dX5_reset_5 (by decide) ?_
  refine wd_callV C 2 (cD_X3_clear_P2 _ K ad σ 0 95) 2 (wcD_2 K ad _) rfl rfl tw_254 tw_255 tw_256 tw_66 tw_257 (by decide +kernel) rfl (by decide) (Nat.le_of_ble_eq_true rfl) dX5_reset_7 _ rfl ?_
  refine wd_aload_n C dX5_reset_10 rfl 0 rfl ?_
  refine gfD_1_1 C tw_142 dX5_reset_11 ?_
  refine wd_iconst (v := 0) C dX5_reset_14 (by decide) ?_
  refine wd_bipush (v := 95) C dX5_reset_15 (by decide) ?_
  refine wd_callV C 2 (cD_X3_clear_P3 _ K ad (q_X3_clear_P2 σ 0 95) 0 95) 3 (wcD_3 K ad _) rfl rfl tw_254 tw_255 tw_256 tw_66 tw_257 (by decide +kernel) rfl (by decide) (Nat.le_of_ble_eq_true rfl) dX5_reset_17 _ rfl ?_
  refine wd_aload_n C dX5_reset_20 rfl 0 rfl ?_
  refine gfD_1_2 C tw_143 dX5_reset_21 ?_
  refine wd_callV C 0 (cD_X0_reset_C8 _ K ad ((q_X3_clear_P3 (q_X3_clear_P2 σ 0 95) 0 95))) 8 (wcD_8 K ad _) rfl rfl tw_258 tw_259 tw_260 tw_67 tw_261 (by decide +kernel) rfl (by decide) (Nat.le_of_ble_eq_true rfl) dX5_reset_24 _ rfl ?_
  refine wd_aload_n C dX5_reset_27 rfl 0 rfl ?_
  refine gfD_1_3 C tw_145 dX5_reset_28 ?_
  refine wd_callV C 0 (cD_X0_reset_C9 _ K ad ((q_X0_reset_C8 ((q_X3_clear_P3 (q_X3_clear_P2 σ 0 95) 0 95))))) 9 (wcD_9 K ad _) rfl rfl tw_258 tw_259 tw_260 tw_67 tw_261 (by decide +kernel) rfl (by decide) (Nat.le_of_ble_eq_true rfl) dX5_reset_31 _ rfl ?_
  refine wd_aload_n C dX5_reset_34 rfl 0 rfl ?_
  refine wd_iconst (v := 0) C dX5_reset_35 (by decide) ?_
  refine pfD_1_4 C tw_146 0 dX5_reset_36 ?_
  refine wd_aload_n C dX5_reset_39 rfl 0 rfl ?_
  refine wd_bipush (v := 7) C dX5_reset_40 (by decide) ?_
  refine pfD_1_5 C tw_148 7 dX5_reset_42 ?_
  refine wd_aload_n C dX5_reset_45 rfl 0 rfl ?_
  refine wd_sipush (v := 272) C dX5_reset_46 (by decide) ?_
  refine pfD_1_6 C tw_150 272 dX5_reset_49 ?_
  refine wd_aload_n C dX5_reset_52 rfl 0 rfl ?_
  refine wd_iconst (v := 0) C dX5_reset_53 (by decide) ?_
  refine pfD_1_7 C tw_151 false dX5_reset_54 ?_
  refine wd_aload_n C dX5_reset_57 rfl 0 rfl ?_
  refine wd_iconst (v := 1) C dX5_reset_58 (by decide) ?_
  refine pfD_1_8 C tw_153 true dX5_reset_59 ?_
  refine wd_aload_n C dX5_reset_62 rfl 0 rfl ?_
  refine wd_iconst (v := 0) C dX5_reset_63 (by decide) ?_
  refine pfD_1_9 C tw_155 false dX5_reset_64 ?_
  refine wd_aload_n C dX5_reset_67 rfl 0 rfl ?_
  refine wd_iconst (v := 0) C dX5_reset_68 (by decide) ?_
  refine pfD_1_10 C tw_157 0 dX5_reset_69 ?_
  refine wd_aload_n C dX5_reset_72 rfl 0 rfl ?_
  refine wd_iconst (v := (-1)) C dX5_reset_73 (by decide) ?_
  refine pfD_1_11 C tw_159 (-1) dX5_reset_74 ?_
  have e9 : p_X5_reset σ = si (si (sb (sb (sb (si (si (si ((q_X0_reset_C9 ((q_X0_reset_C8 ((q_X3_clear_P3 (q_X3_clear_P2 σ 0 95) 0 95)))))) 1 0) 2 7) 3 272) 0 false) 1 true) 2 false) 4 0) 5 (-1) := by rfl
  exact hret _ _ _ (by rw [e9] <;> rfl) dX5_reset_77
def p_X5_save (σ : St) : St := (q_X0_copyFrom_CC98 σ)
set_option maxHeartbeats 4000000 in
set_option maxRecDepth 100000 in
theorem c_X5_save (l : Launch) (K : KX) (ad : Nat → Nat) (σ : St) : Mt l K yX5_save cX5_save 1 none { frames := 1, cells := 0, slots := 0, locals := 21 } [.ref (ad 1)] (WdD K ad σ) none (WdD K ad (p_X5_save σ)) := by
  refine Mt.v (by decide +kernel) (Nat.le_of_ble_eq_true rfl) (fun X C hret => ?_)
  show WD X K 1 0 0 (WdD K ad σ) [(0, .ref (ad 1))] 0 []
  refine wd_aload_n C dX5_save_0 rfl 0 rfl ?_
  refine gfD_1_3 C tw_145 dX5_save_1 ?_
  refine wd_aload_n C dX5_save_4 rfl 0 rfl ?_
  refine gfD_1_2 C tw_143 dX5_save_5 ?_
  refine wd_callV C 1 (cD_X0_copyFrom_CC98 _ K ad σ) 9 (wcD_9 K ad _) rfl rfl tw_423 tw_424 tw_425 tw_67 tw_426 (by decide +kernel) rfl (by decide) (Nat.le_of_ble_eq_true rfl) dX5_save_8 _ rfl ?_
  have e9 : p_X5_save σ = (q_X0_copyFrom_CC98 σ) := by rfl
  exact hret _ _ _ (by rw [e9] <;> rfl) dX5_save_11
def p_X5_restore (σ : St) : St := (q_X0_copyFrom_CC89 σ)
set_option maxHeartbeats 4000000 in
set_option maxRecDepth 100000 in
theorem c_X5_restore (l : Launch) (K : KX) (ad : Nat → Nat) (σ : St) : Mt l K yX5_restore cX5_restore 1 none { frames := 1, cells := 0, slots := 0, locals := 21 } [.ref (ad 1)] (WdD K ad σ) none (WdD K ad (p_X5_restore σ)) := by
  refine Mt.v (by decide +kernel) (Nat.le_of_ble_eq_true rfl) (fun X C hret => ?_)
  show WD X K 1 0 0 (WdD K ad σ) [(0, .ref (ad 1))] 0 []
  refine wd_aload_n C dX5_restore_0 rfl 0 rfl ?_
  refine gfD_1_2 C tw_143 dX5_restore_1 ?_
  refine wd_aload_n C dX5_restore_4 rfl 0 rfl ?_
  refine gfD_1_3 C tw_145 dX5_restore_5 ?_
  refine wd_callV C 1 (cD_X0_copyFrom_CC89 _ K ad σ) 8 (wcD_8 K ad _) rfl rfl tw_423 tw_424 tw_425 tw_67 tw_426 (by decide +kernel) rfl (by decide) (Nat.le_of_ble_eq_true rfl) dX5_restore_8 _ rfl ?_
  have e9 : p_X5_restore σ = (q_X0_copyFrom_CC89 σ) := by rfl
  exact hret _ _ _ (by rw [e9] <;> rfl) dX5_restore_11
def p_X5_regionStart (σ : St) : Int32 := (σ.1 1) * 12
set_option maxHeartbeats 4000000 in
set_option maxRecDepth 100000 in
theorem c_X5_regionStart (l : Launch) (K : KX) (ad : Nat → Nat) (σ : St) : Mt l K yX5_regionStart cX5_regionStart 1 (some .int) { frames := 0, cells := 0, slots := 0, locals := 0 } [.ref (ad 1)] (WdD K ad σ) (some (.int (p_X5_regionStart σ))) (WdD K ad σ) := by
  refine Mt.i (by decide +kernel) (Nat.le_of_ble_eq_true rfl) (fun X C hret => ?_)
  show WD X K 1 0 0 (WdD K ad σ) [(0, .ref (ad 1))] 0 []
  refine wd_aload_n C dX5_regionStart_0 rfl 0 rfl ?_
  refine gfD_1_4 (x := σ.1 1) C tw_146 rfl dX5_regionStart_1 ?_
  refine wd_bipush (v := 12) C dX5_regionStart_4 (by decide) ?_
  refine wd_imul C dX5_regionStart_6 ?_
  have e9 : p_X5_regionStart σ = (σ.1 1) * 12 := by rfl
  exact hret _ _ _ _ (by rw [e9]) rfl dX5_regionStart_7
def p_X5_regionEnd (σ : St) : Int32 := ((σ.1 2) * 12) + 11
set_option maxHeartbeats 4000000 in
set_option maxRecDepth 100000 in
theorem c_X5_regionEnd (l : Launch) (K : KX) (ad : Nat → Nat) (σ : St) : Mt l K yX5_regionEnd cX5_regionEnd 1 (some .int) { frames := 0, cells := 0, slots := 0, locals := 0 } [.ref (ad 1)] (WdD K ad σ) (some (.int (p_X5_regionEnd σ))) (WdD K ad σ) := by
  refine Mt.i (by decide +kernel) (Nat.le_of_ble_eq_true rfl) (fun X C hret => ?_)
  show WD X K 1 0 0 (WdD K ad σ) [(0, .ref (ad 1))] 0 []
  refine wd_aload_n C dX5_regionEnd_0 rfl 0 rfl ?_
  refine gfD_1_5 (x := σ.1 2) C tw_148 rfl dX5_regionEnd_1 ?_
  refine wd_bipush (v := 12) C dX5_regionEnd_4 (by decide) ?_
  refine wd_imul C dX5_regionEnd_6 ?_
  refine wd_bipush (v := 11) C dX5_regionEnd_7 (by decide) ?_
  refine wd_iadd C dX5_regionEnd_9 ?_
  have e9 : p_X5_regionEnd σ = ((σ.1 2) * 12) + 11 := by rfl
  exact hret _ _ _ _ (by rw [e9]) rfl dX5_regionEnd_10
def p_X5_rowStart (σ : St) : Int32 := (σ.1 6) * 12
set_option maxHeartbeats 4000000 in
set_option maxRecDepth 100000 in
theorem c_X5_rowStart (l : Launch) (K : KX) (ad : Nat → Nat) (σ : St) : Mt l K yX5_rowStart cX5_rowStart 1 (some .int) { frames := 0, cells := 0, slots := 0, locals := 0 } [.ref (ad 1)] (WdD K ad σ) (some (.int (p_X5_rowStart σ))) (WdD K ad σ) := by
  refine Mt.i (by decide +kernel) (Nat.le_of_ble_eq_true rfl) (fun X C hret => ?_)
  show WD X K 1 0 0 (WdD K ad σ) [(0, .ref (ad 1))] 0 []
  refine wd_aload_n C dX5_rowStart_0 rfl 0 rfl ?_
  refine gfD_1_2 C tw_143 dX5_rowStart_1 ?_
  refine gfD_8_0 (x := σ.1 6) C tw_117 rfl dX5_rowStart_4 ?_
  refine wd_bipush (v := 12) C dX5_rowStart_7 (by decide) ?_
  refine wd_imul C dX5_rowStart_9 ?_
  have e9 : p_X5_rowStart σ = (σ.1 6) * 12 := by rfl
  exact hret _ _ _ _ (by rw [e9]) rfl dX5_rowStart_10
def p_X5_cell (σ : St) : Int32 := (p_X5_rowStart σ) + (σ.1 7)
set_option maxHeartbeats 4000000 in
set_option maxRecDepth 100000 in
theorem c_X5_cell (l : Launch) (K : KX) (ad : Nat → Nat) (σ : St) : Mt l K yX5_cell cX5_cell 1 (some .int) { frames := 1, cells := 0, slots := 0, locals := 20 } [.ref (ad 1)] (WdD K ad σ) (some (.int (p_X5_cell σ))) (WdD K ad σ) := by
  refine Mt.i (by decide +kernel) (Nat.le_of_ble_eq_true rfl) (fun X C hret => ?_)
  show WD X K 1 0 0 (WdD K ad σ) [(0, .ref (ad 1))] 0 []
  refine wd_aload_n C dX5_cell_0 rfl 0 rfl ?_
  refine wd_callV C 0 (c_X5_rowStart _ K ad σ) 1 (wcD_1 K ad _) rfl rfl tw_356 tw_358 tw_6 tw_65 tw_359 (by decide +kernel) rfl (by decide) (Nat.le_of_ble_eq_true rfl) dX5_cell_1 _ rfl ?_
  refine wd_aload_n C dX5_cell_4 rfl 0 rfl ?_
  refine gfD_1_2 C tw_143 dX5_cell_5 ?_
  refine gfD_8_1 (x := σ.1 7) C tw_120 rfl dX5_cell_8 ?_
  refine wd_iadd C dX5_cell_11 ?_
  have e9 : p_X5_cell σ = (p_X5_rowStart σ) + (σ.1 7) := by rfl
  exact hret _ _ _ _ (by rw [e9]) rfl dX5_cell_12
def p_X5_rowEnd (σ : St) : Int32 := (p_X5_rowStart σ) + 11
set_option maxHeartbeats 4000000 in
set_option maxRecDepth 100000 in
theorem c_X5_rowEnd (l : Launch) (K : KX) (ad : Nat → Nat) (σ : St) : Mt l K yX5_rowEnd cX5_rowEnd 1 (some .int) { frames := 1, cells := 0, slots := 0, locals := 20 } [.ref (ad 1)] (WdD K ad σ) (some (.int (p_X5_rowEnd σ))) (WdD K ad σ) := by
  refine Mt.i (by decide +kernel) (Nat.le_of_ble_eq_true rfl) (fun X C hret => ?_)
  show WD X K 1 0 0 (WdD K ad σ) [(0, .ref (ad 1))] 0 []
  refine wd_aload_n C dX5_rowEnd_0 rfl 0 rfl ?_
  refine wd_callV C 0 (c_X5_rowStart _ K ad σ) 1 (wcD_1 K ad _) rfl rfl tw_356 tw_358 tw_6 tw_65 tw_359 (by decide +kernel) rfl (by decide) (Nat.le_of_ble_eq_true rfl) dX5_rowEnd_1 _ rfl ?_
  refine wd_bipush (v := 11) C dX5_rowEnd_4 (by decide) ?_
  refine wd_iadd C dX5_rowEnd_6 ?_
  have e9 : p_X5_rowEnd σ = (p_X5_rowStart σ) + 11 := by rfl
  exact hret _ _ _ _ (by rw [e9]) rfl dX5_rowEnd_7
def p_X5_isInRegion_t1 (σ : St) : Bool := (if σ.1 6 < σ.1 1 then false else (if σ.1 2 < σ.1 6 then false else true))
def p_X5_isInRegion (σ : St) : Bool := (p_X5_isInRegion_t1 σ)
set_option maxHeartbeats 4000000 in
set_option maxRecDepth 100000 in
theorem c_X5_isInRegion (l : Launch) (K : KX) (ad : Nat → Nat) (σ : St) : Mt l K yX5_isInRegion cX5_isInRegion 1 (some .boolean) { frames := 0, cells := 0, slots := 0, locals := 0 } [.ref (ad 1)] (WdD K ad σ) (some (.int (b2i (p_X5_isInRegion σ)))) (WdD K ad σ) := by
  refine Mt.z (by decide +kernel) (Nat.le_of_ble_eq_true rfl) (fun X C hret => ?_)
  show WD X K 1 0 0 (WdD K ad σ) [(0, .ref (ad 1))] 0 []
  refine wd_aload_n C dX5_isInRegion_0 rfl 0 rfl ?_
  refine gfD_1_2 C tw_143 dX5_isInRegion_1 ?_
  refine gfD_8_0 (x := σ.1 6) C tw_117 rfl dX5_isInRegion_4 ?_
  refine wd_aload_n C dX5_isInRegion_7 rfl 0 rfl ?_
  refine gfD_1_4 (x := σ.1 1) C tw_146 rfl dX5_isInRegion_8 ?_
  have J_11 : WD X K 1 0 0 (WdD K ad σ) [(0, .ref (ad 1))] 33 [.int (b2i (p_X5_isInRegion_t1 σ))] := by
    have e9 : p_X5_isInRegion σ = (p_X5_isInRegion_t1 σ) := by rfl
    exact hret (p_X5_isInRegion_t1 σ) _ _ _ (by rw [e9]) rfl dX5_isInRegion_33
  refine wd_icmp_lt C 32 dX5_isInRegion_11 (by decide) (fun c_11 => ?_) (fun c_11 => ?_)
  · refine wd_iconst (v := 0) C dX5_isInRegion_32 (by decide) ?_
    have ej_0 : p_X5_isInRegion_t1 σ = false := by unfold p_X5_isInRegion_t1; rw [if_pos c_11]
    rw [ej_0] at J_11
    exact wd_lv [0] _ rfl J_11
  · refine wd_aload_n C dX5_isInRegion_14 rfl 0 rfl ?_
    refine gfD_1_2 C tw_143 dX5_isInRegion_15 ?_
    refine gfD_8_0 (x := σ.1 6) C tw_117 rfl dX5_isInRegion_18 ?_
    refine wd_aload_n C dX5_isInRegion_21 rfl 0 rfl ?_
    refine gfD_1_5 (x := σ.1 2) C tw_148 rfl dX5_isInRegion_22 ?_
    refine wd_icmp_gt C 32 dX5_isInRegion_25 (by decide) (fun c_25 => ?_) (fun c_25 => ?_)
    · refine wd_iconst (v := 0) C dX5_isInRegion_32 (by decide) ?_
      have ej_0 : p_X5_isInRegion_t1 σ = false := by unfold p_X5_isInRegion_t1; rw [if_neg c_11, if_pos c_25]
      rw [ej_0] at J_11
      exact wd_lv [0] _ rfl J_11
    · refine wd_iconst (v := 1) C dX5_isInRegion_28 (by decide) ?_
      refine wd_goto C 33 dX5_isInRegion_29 (by decide) ?_
      have ej_0 : p_X5_isInRegion_t1 σ = true := by unfold p_X5_isInRegion_t1; rw [if_neg c_11, if_neg c_25]
      rw [ej_0] at J_11
      exact wd_lv [0] _ rfl J_11
def p_X5_feedRow_s1 (σ : St) : St := (if σ.1 6 = σ.1 2 then (q_X3_pull_pg σ (p_X5_regionStart σ) (p_X5_regionEnd σ) 12) else (if 7 ≤ σ.1 6 then σ else si σ 6 ((σ.1 6) + 1)))
def p_X5_feedRow (σ : St) : St := sb (p_X5_feedRow_s1 σ) 3 false
set_option maxHeartbeats 4000000 in
set_option maxRecDepth 100000 in
theorem c_X5_feedRow (l : Launch) (K : KX) (ad : Nat → Nat) (σ : St) : Mt l K yX5_feedRow cX5_feedRow 1 none { frames := 1, cells := 0, slots := 0, locals := 25 } [.ref (ad 1)] (WdD K ad σ) none (WdD K ad (p_X5_feedRow σ)) := by
  refine Mt.v (by decide +kernel) (Nat.le_of_ble_eq_true rfl) (fun X C hret => ?_)
  show WD X K 1 0 0 (WdD K ad σ) [(0, .ref (ad 1))] 0 []
  refine wd_aload_n C dX5_feedRow_0 rfl 0 rfl ?_
  refine gfD_1_2 C tw_143 dX5_feedRow_1 ?_
  refine gfD_8_0 (x := σ.1 6) C tw_117 rfl dX5_feedRow_4 ?_
  refine wd_aload_n C dX5_feedRow_7 rfl 0 rfl ?_
  refine gfD_1_5 (x := σ.1 2) C tw_148 rfl dX5_feedRow_8 ?_
  have J_11 : WD X K 1 0 0 (WdD K ad (p_X5_feedRow_s1 σ)) [(0, .ref (ad 1))] 59 [] := by
    refine wd_aload_n C dX5_feedRow_59 rfl 0 rfl ?_
    refine gfD_1_2 C tw_143 dX5_feedRow_60 ?_
    refine wd_iconst (v := 0) C dX5_feedRow_63 (by decide) ?_
    refine pfD_8_2 C tw_122 false dX5_feedRow_64 ?_
    have e9 : p_X5_feedRow σ = sb (p_X5_feedRow_s1 σ) 3 false := by rfl
    exact hret _ _ _ (by rw [e9] <;> rfl) dX5_feedRow_67
  refine wd_icmp_ne C 34 dX5_feedRow_11 (by decide) (fun c_11 => ?_) (fun c_11 => ?_)
  · refine wd_aload_n C dX5_feedRow_34 rfl 0 rfl ?_
    refine gfD_1_2 C tw_143 dX5_feedRow_35 ?_
    refine gfD_8_0 (x := σ.1 6) C tw_117 rfl dX5_feedRow_38 ?_
    refine wd_bipush (v := 7) C dX5_feedRow_41 (by decide) ?_
    refine wd_icmp_ge C 59 dX5_feedRow_43 (by decide) (fun c_43 => ?_) (fun c_43 => ?_)
    · have ej_0 : p_X5_feedRow_s1 σ = σ := by unfold p_X5_feedRow_s1; rw [if_neg c_11, if_pos c_43]
      rw [ej_0] at J_11
      exact wd_lv [0] _ rfl J_11
    · refine wd_aload_n C dX5_feedRow_46 rfl 0 rfl ?_
      refine gfD_1_2 C tw_143 dX5_feedRow_47 ?_
      refine wd_dup C dX5_feedRow_50 rfl ?_
      refine gfD_8_0 (x := σ.1 6) C tw_117 rfl dX5_feedRow_51 ?_
      refine wd_iconst (v := 1) C dX5_feedRow_54 (by decide) ?_
      refine wd_iadd C dX5_feedRow_55 ?_
      refine pfD_8_0 C tw_117 ((σ.1 6) + 1) dX5_feedRow_56 ?_
      have ej_0 : p_X5_feedRow_s1 σ = si σ 6 ((σ.1 6) + 1) := by unfold p_X5_feedRow_s1; rw [if_neg c_11, if_neg c_43]
      rw [ej_0] at J_11
      exact wd_lv [0] _ rfl J_11
  · refine wd_aload_n C dX5_feedRow_14 rfl 0 rfl ?_
    refine wd_callV C 0 (c_X5_page _ K ad σ) 1 (wcD_1 K ad _) rfl rfl tw_336 tw_337 tw_338 tw_65 tw_339 (by decide +kernel) rfl (by decide) (Nat.le_of_ble_eq_true rfl) dX5_feedRow_15 _ rfl ?_
    refine wd_aload_n C dX5_feedRow_18 rfl 0 rfl ?_
    refine wd_callV C 0 (c_X5_regionStart _ K ad σ) 1 (wcD_1 K ad _) rfl rfl tw_340 tw_342 tw_3 tw_65 tw_343 (by decide +kernel) rfl (by decide) (Nat.le_of_ble_eq_true rfl) dX5_feedRow_19 _ rfl ?_
    refine wd_aload_n C dX5_feedRow_22 rfl 0 rfl ?_
    refine wd_callV C 0 (c_X5_regionEnd _ K ad σ) 1 (wcD_1 K ad _) rfl rfl tw_344 tw_346 tw_4 tw_65 tw_347 (by decide +kernel) rfl (by decide) (Nat.le_of_ble_eq_true rfl) dX5_feedRow_23 _ rfl ?_
    refine wd_bipush (v := 12) C dX5_feedRow_26 (by decide) ?_
    refine wd_callV C 3 (cD_X3_pull_pg _ K ad σ (p_X5_regionStart σ) (p_X5_regionEnd σ) 12 (by decide)) _ (wcD_pg K ad σ) rfl rfl tw_348 tw_349 tw_350 tw_66 tw_351 (by decide +kernel) rfl (by decide) (Nat.le_of_ble_eq_true rfl) dX5_feedRow_28 _ rfl ?_
    refine wd_goto C 59 dX5_feedRow_31 (by decide) ?_
    have ej_0 : p_X5_feedRow_s1 σ = (q_X3_pull_pg σ (p_X5_regionStart σ) (p_X5_regionEnd σ) 12) := by unfold p_X5_feedRow_s1; rw [if_pos c_11]
    rw [ej_0] at J_11
    exact wd_lv [0] _ rfl J_11
def p_X5_backRow_s1 (σ : St) : St := (if σ.1 6 = σ.1 1 then (q_X3_push_pg σ (p_X5_regionStart σ) (p_X5_regionEnd σ) 12) else (if σ.1 6 ≤ 0 then σ else si σ 6 ((σ.1 6) - 1)))
def p_X5_backRow (σ : St) : St := sb (p_X5_backRow_s1 σ) 3 false
set_option maxHeartbeats 4000000 in
set_option maxRecDepth 100000 in
theorem c_X5_backRow (l : Launch) (K : KX) (ad : Nat → Nat) (σ : St) : Mt l K yX5_backRow cX5_backRow 1 none { frames := 1, cells := 0, slots := 0, locals := 25 } [.ref (ad 1)] (WdD K ad σ) none (WdD K ad (p_X5_backRow σ)) := by
  refine Mt.v (by decide +kernel) (Nat.le_of_ble_eq_true rfl) (fun X C hret => ?_)
  show WD X K 1 0 0 (WdD K ad σ) [(0, .ref (ad 1))] 0 []
  refine wd_aload_n C dX5_backRow_0 rfl 0 rfl ?_
  refine gfD_1_2 C tw_143 dX5_backRow_1 ?_
  refine gfD_8_0 (x := σ.1 6) C tw_117 rfl dX5_backRow_4 ?_
  refine wd_aload_n C dX5_backRow_7 rfl 0 rfl ?_
  refine gfD_1_4 (x := σ.1 1) C tw_146 rfl dX5_backRow_8 ?_
  have J_11 : WD X K 1 0 0 (WdD K ad (p_X5_backRow_s1 σ)) [(0, .ref (ad 1))] 57 [] := by
    refine wd_aload_n C dX5_backRow_57 rfl 0 rfl ?_
    refine gfD_1_2 C tw_143 dX5_backRow_58 ?_
    refine wd_iconst (v := 0) C dX5_backRow_61 (by decide) ?_
    refine pfD_8_2 C tw_122 false dX5_backRow_62 ?_
    have e9 : p_X5_backRow σ = sb (p_X5_backRow_s1 σ) 3 false := by rfl
    exact hret _ _ _ (by rw [e9] <;> rfl) dX5_backRow_65
  refine wd_icmp_ne C 34 dX5_backRow_11 (by decide) (fun c_11 => ?_) (fun c_11 => ?_)
  · refine wd_aload_n C dX5_backRow_34 rfl 0 rfl ?_
    refine gfD_1_2 C tw_143 dX5_backRow_35 ?_
    refine gfD_8_0 (x := σ.1 6) C tw_117 rfl dX5_backRow_38 ?_
    refine wd_if_le C 57 dX5_backRow_41 (by decide) (fun c_41 => ?_) (fun c_41 => ?_)
    · have ej_0 : p_X5_backRow_s1 σ = σ := by unfold p_X5_backRow_s1; rw [if_neg c_11, if_pos c_41]
      rw [ej_0] at J_11
      exact wd_lv [0] _ rfl J_11
    · refine wd_aload_n C dX5_backRow_44 rfl 0 rfl ?_
      refine gfD_1_2 C tw_143 dX5_backRow_45 ?_
      refine wd_dup C dX5_backRow_48 rfl ?_
      refine gfD_8_0 (x := σ.1 6) C tw_117 rfl dX5_backRow_49 ?_
      refine wd_iconst (v := 1) C dX5_backRow_52 (by decide) ?_
      refine wd_isub C dX5_backRow_53 ?_
      refine pfD_8_0 C tw_117 ((σ.1 6) - 1) dX5_backRow_54 ?_
      have ej_0 : p_X5_backRow_s1 σ = si σ 6 ((σ.1 6) - 1) := by unfold p_X5_backRow_s1; rw [if_neg c_11, if_neg c_41]
      rw [ej_0] at J_11
      exact wd_lv [0] _ rfl J_11
  · refine wd_aload_n C dX5_backRow_14 rfl 0 rfl ?_
    refine wd_callV C 0 (c_X5_page _ K ad σ) 1 (wcD_1 K ad _) rfl rfl tw_336 tw_337 tw_338 tw_65 tw_339 (by decide +kernel) rfl (by decide) (Nat.le_of_ble_eq_true rfl) dX5_backRow_15 _ rfl ?_
    refine wd_aload_n C dX5_backRow_18 rfl 0 rfl ?_
    refine wd_callV C 0 (c_X5_regionStart _ K ad σ) 1 (wcD_1 K ad _) rfl rfl tw_340 tw_342 tw_3 tw_65 tw_343 (by decide +kernel) rfl (by decide) (Nat.le_of_ble_eq_true rfl) dX5_backRow_19 _ rfl ?_
    refine wd_aload_n C dX5_backRow_22 rfl 0 rfl ?_
    refine wd_callV C 0 (c_X5_regionEnd _ K ad σ) 1 (wcD_1 K ad _) rfl rfl tw_344 tw_346 tw_4 tw_65 tw_347 (by decide +kernel) rfl (by decide) (Nat.le_of_ble_eq_true rfl) dX5_backRow_23 _ rfl ?_
    refine wd_bipush (v := 12) C dX5_backRow_26 (by decide) ?_
    refine wd_callV C 3 (cD_X3_push_pg _ K ad σ (p_X5_regionStart σ) (p_X5_regionEnd σ) 12) _ (wcD_pg K ad σ) rfl rfl tw_364 tw_365 tw_366 tw_66 tw_367 (by decide +kernel) rfl (by decide) (Nat.le_of_ble_eq_true rfl) dX5_backRow_28 _ rfl ?_
    refine wd_goto C 57 dX5_backRow_31 (by decide) ?_
    have ej_0 : p_X5_backRow_s1 σ = (q_X3_push_pg σ (p_X5_regionStart σ) (p_X5_regionEnd σ) 12) := by unfold p_X5_backRow_s1; rw [if_pos c_11]
    rw [ej_0] at J_11
    exact wd_lv [0] _ rfl J_11
def p_X5_print_s1 (σ : St) (p1 : Int32) : St := (if σ.2.1 3 = true then (p_X5_feedRow (si σ 7 0)) else σ)
def p_X5_print_s2 (σ : St) (p1 : Int32) : St := (if (p_X5_print_s1 σ p1).2.1 0 = true then (q_X3_push_pg (p_X5_print_s1 σ p1) ((p_X5_cell (p_X5_print_s1 σ p1))) ((p_X5_rowEnd (p_X5_print_s1 σ p1))) 1) else (p_X5_print_s1 σ p1))
def p_X5_print_s3 (σ : St) (p1 : Int32) : St := (if 11 ≤ (p_X5_print_s2 σ p1).1 7 then sb ((q_X3_put_pg (p_X5_print_s2 σ p1) ((p_X5_cell (p_X5_print_s2 σ p1))) p1 ((p_X5_print_s2 σ p1).1 8))) 3 ((p_X5_print_s2 σ p1).2.1 1) else si ((q_X3_put_pg (p_X5_print_s2 σ p1) ((p_X5_cell (p_X5_print_s2 σ p1))) p1 ((p_X5_print_s2 σ p1).1 8))) 7 (((p_X5_print_s2 σ p1).1 7) + 1))
def p_X5_print (σ : St) (p1 : Int32) : St := si (p_X5_print_s3 σ p1) 5 p1
set_option maxHeartbeats 4000000 in
set_option maxRecDepth 100000 in
theorem c_X5_print (l : Launch) (K : KX) (ad : Nat → Nat) (σ : St) (p1 : Int32) : Mt l K yX5_print cX5_print 2 none { frames := 2, cells := 0, slots := 0, locals := 45 } [.ref (ad 1), .int p1] (WdD K ad σ) none (WdD K ad (p_X5_print σ p1)) := by
  refine Mt.v (by decide +kernel) (Nat.le_of_ble_eq_true rfl) (fun X C hret => ?_)
  show WD X K 2 0 0 (WdD K ad σ) [(0, .ref (ad 1)), (1, .int p1)] 0 []
  refine wd_aload_n C dX5_print_0 rfl 0 rfl ?_
  refine gfD_1_2 C tw_143 dX5_print_1 ?_
  refine gfD_8_2 (x := σ.2.1 3) C tw_122 rfl dX5_print_4 ?_
  have J_7 : WD X K 2 0 0 (WdD K ad (p_X5_print_s1 σ p1)) [(0, .ref (ad 1)), (1, .int p1)] 22 [] := by
    refine wd_aload_n C dX5_print_22 rfl 0 rfl ?_
    refine gfD_1_7 (x := (p_X5_print_s1 σ p1).2.1 0) C tw_151 rfl dX5_print_23 ?_
    have J_26 : WD X K 2 0 0 (WdD K ad (p_X5_print_s2 σ p1)) [(0, .ref (ad 1)), (1, .int p1)] 45 [] := by
      refine wd_aload_n C dX5_print_45 rfl 0 rfl ?_
      refine wd_callV C 0 (c_X5_page _ K ad (p_X5_print_s2 σ p1)) 1 (wcD_1 K ad _) rfl rfl tw_336 tw_337 tw_338 tw_65 tw_339 (by decide +kernel) rfl (by decide) (Nat.le_of_ble_eq_true rfl) dX5_print_46 _ rfl ?_
      refine wd_aload_n C dX5_print_49 rfl 0 rfl ?_
      refine wd_callV C 0 (c_X5_cell _ K ad (p_X5_print_s2 σ p1)) 1 (wcD_1 K ad _) rfl rfl tw_352 tw_354 tw_5 tw_65 tw_355 (by decide +kernel) rfl (by decide) (Nat.le_of_ble_eq_true rfl) dX5_print_50 _ rfl ?_
      refine wd_iload_n C dX5_print_53 rfl 1 rfl ?_
      refine wd_aload_n C dX5_print_54 rfl 0 rfl ?_
      refine gfD_1_2 C tw_143 dX5_print_55 ?_
      refine gfD_8_3 (x := (p_X5_print_s2 σ p1).1 8) C tw_125 rfl dX5_print_58 ?_
      refine wd_callV C 3 (cD_X3_put_pg _ K ad (p_X5_print_s2 σ p1) ((p_X5_cell (p_X5_print_s2 σ p1))) p1 ((p_X5_print_s2 σ p1).1 8)) _ (wcD_pg K ad (p_X5_print_s2 σ p1)) rfl rfl tw_368 tw_369 tw_370 tw_66 tw_371 (by decide +kernel) rfl (by decide) (Nat.le_of_ble_eq_true rfl) dX5_print_61 _ rfl ?_
      refine wd_aload_n C dX5_print_64 rfl 0 rfl ?_
      refine gfD_1_2 C tw_143 dX5_print_65 ?_
      refine gfD_8_1 (x := (p_X5_print_s2 σ p1).1 7) C tw_120 rfl dX5_print_68 ?_
      refine wd_bipush (v := 11) C dX5_print_71 (by decide) ?_
      have J_73 : WD X K 2 0 0 (WdD K ad (p_X5_print_s3 σ p1)) [(0, .ref (ad 1)), (1, .int p1)] 103 [] := by
        refine wd_aload_n C dX5_print_103 rfl 0 rfl ?_
        refine wd_iload_n C dX5_print_104 rfl 1 rfl ?_
        refine pfD_1_11 C tw_159 p1 dX5_print_105 ?_
        have e9 : p_X5_print σ p1 = si (p_X5_print_s3 σ p1) 5 p1 := by rfl
        exact hret _ _ _ (by rw [e9] <;> rfl) dX5_print_108
      refine wd_icmp_ge C 92 dX5_print_73 (by decide) (fun c_73 => ?_) (fun c_73 => ?_)
      · refine wd_aload_n C dX5_print_92 rfl 0 rfl ?_
        refine gfD_1_2 C tw_143 dX5_print_93 ?_
        refine wd_aload_n C dX5_print_96 rfl 0 rfl ?_
        refine gfD_1_8 (x := (p_X5_print_s2 σ p1).2.1 1) C tw_153 rfl dX5_print_97 ?_
        refine pfD_8_2 C tw_122 ((p_X5_print_s2 σ p1).2.1 1) dX5_print_100 ?_
        have ej_0 : p_X5_print_s3 σ p1 = sb ((q_X3_put_pg (p_X5_print_s2 σ p1) ((p_X5_cell (p_X5_print_s2 σ p1))) p1 ((p_X5_print_s2 σ p1).1 8))) 3 ((p_X5_print_s2 σ p1).2.1 1) := by unfold p_X5_print_s3; rw [if_pos c_73]
        rw [ej_0] at J_73
        exact wd_lv [0, 1] _ rfl J_73
      · refine wd_aload_n C dX5_print_76 rfl 0 rfl ?_
        refine gfD_1_2 C tw_143 dX5_print_77 ?_
        refine wd_dup C dX5_print_80 rfl ?_
        refine gfD_8_1 (x := (p_X5_print_s2 σ p1).1 7) C tw_120 rfl dX5_print_81 ?_
        refine wd_iconst (v := 1) C dX5_print_84 (by decide) ?_
        refine wd_iadd C dX5_print_85 ?_
        refine pfD_8_1 C tw_120 (((p_X5_print_s2 σ p1).1 7) + 1) dX5_print_86 ?_
        refine wd_goto C 103 dX5_print_89 (by decide) ?_
        have ej_0 : p_X5_print_s3 σ p1 = si ((q_X3_put_pg (p_X5_print_s2 σ p1) ((p_X5_cell (p_X5_print_s2 σ p1))) p1 ((p_X5_print_s2 σ p1).1 8))) 7 (((p_X5_print_s2 σ p1).1 7) + 1) := by unfold p_X5_print_s3; rw [if_neg c_73]
        rw [ej_0] at J_73
        exact wd_lv [0, 1] _ rfl J_73
    refine wd_if_eqB (b := (p_X5_print_s1 σ p1).2.1 0) C 45 dX5_print_26 (by decide) (fun c_26 => ?_) (fun c_26 => ?_)
    · have ej_0 : p_X5_print_s2 σ p1 = (p_X5_print_s1 σ p1) := by unfold p_X5_print_s2; rw [if_neg c_26]
      rw [ej_0] at J_26
      exact wd_lv [0, 1] _ rfl J_26
    · refine wd_aload_n C dX5_print_29 rfl 0 rfl ?_
      refine wd_callV C 0 (c_X5_page _ K ad (p_X5_print_s1 σ p1)) 1 (wcD_1 K ad _) rfl rfl tw_336 tw_337 tw_338 tw_65 tw_339 (by decide +kernel) rfl (by decide) (Nat.le_of_ble_eq_true rfl) dX5_print_30 _ rfl ?_
      refine wd_aload_n C dX5_print_33 rfl 0 rfl ?_
      refine wd_callV C 0 (c_X5_cell _ K ad (p_X5_print_s1 σ p1)) 1 (wcD_1 K ad _) rfl rfl tw_352 tw_354 tw_5 tw_65 tw_355 (by decide +kernel) rfl (by decide) (Nat.le_of_ble_eq_true rfl) dX5_print_34 _ rfl ?_
      refine wd_aload_n C dX5_print_37 rfl 0 rfl ?_
      refine wd_callV C 0 (c_X5_rowEnd _ K ad (p_X5_print_s1 σ p1)) 1 (wcD_1 K ad _) rfl rfl tw_360 tw_362 tw_7 tw_65 tw_363 (by decide +kernel) rfl (by decide) (Nat.le_of_ble_eq_true rfl) dX5_print_38 _ rfl ?_
      refine wd_iconst (v := 1) C dX5_print_41 (by decide) ?_
      refine wd_callV C 3 (cD_X3_push_pg _ K ad (p_X5_print_s1 σ p1) ((p_X5_cell (p_X5_print_s1 σ p1))) ((p_X5_rowEnd (p_X5_print_s1 σ p1))) 1) _ (wcD_pg K ad (p_X5_print_s1 σ p1)) rfl rfl tw_364 tw_365 tw_366 tw_66 tw_367 (by decide +kernel) rfl (by decide) (Nat.le_of_ble_eq_true rfl) dX5_print_42 _ rfl ?_
      have ej_0 : p_X5_print_s2 σ p1 = (q_X3_push_pg (p_X5_print_s1 σ p1) ((p_X5_cell (p_X5_print_s1 σ p1))) ((p_X5_rowEnd (p_X5_print_s1 σ p1))) 1) := by unfold p_X5_print_s2; rw [if_pos c_26]
      rw [ej_0] at J_26
      exact wd_lv [0, 1] _ rfl J_26
  refine wd_if_eqB (b := σ.2.1 3) C 22 dX5_print_7 (by decide) (fun c_7 => ?_) (fun c_7 => ?_)
  · have ej_0 : p_X5_print_s1 σ p1 = σ := by unfold p_X5_print_s1; rw [if_neg c_7]
    rw [ej_0] at J_7
    exact wd_lv [0, 1] _ rfl J_7
  · refine wd_aload_n C dX5_print_10 rfl 0 rfl ?_
    refine gfD_1_2 C tw_143 dX5_print_11 ?_
    refine wd_iconst (v := 0) C dX5_print_14 (by decide) ?_
    refine pfD_8_1 C tw_120 0 dX5_print_15 ?_
    refine wd_aload_n C dX5_print_18 rfl 0 rfl ?_
    refine wd_callV C 0 (c_X5_feedRow _ K ad (si σ 7 0)) 1 (wcD_1 K ad _) rfl rfl tw_332 tw_333 tw_334 tw_65 tw_335 (by decide +kernel) rfl (by decide) (Nat.le_of_ble_eq_true rfl) dX5_print_19 _ rfl ?_
    have ej_0 : p_X5_print_s1 σ p1 = (p_X5_feedRow (si σ 7 0)) := by unfold p_X5_print_s1; rw [if_pos c_7]
    rw [ej_0] at J_7
    exact wd_lv [0, 1] _ rfl J_7
