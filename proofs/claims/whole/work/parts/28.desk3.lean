def p_X7_row (σ : St) : Int32 := σ.1 6
set_option maxHeartbeats 4000000 in
set_option maxRecDepth 100000 in
theorem c_X7_row (l : Launch) (K : KX) (ad : Nat → Nat) (σ : St) : Mt l K yX7_row cX7_row 1 (some .int) { frames := 0, cells := 0, slots := 0, locals := 0 } [.ref (ad 0)] (WdD K ad σ) (some (.int (p_X7_row σ))) (WdD K ad σ) := by
  refine Mt.i (by decide +kernel) (Nat.le_of_ble_eq_true rfl) (fun X C hret => ?_)
  show WD X K 1 0 0 (WdD K ad σ) [(0, .ref (ad 0))] 0 []
  refine wd_aload_n C dX7_row_0 rfl 0 rfl ?_
  refine gfD_0_0 C tw_282 dX7_row_1 ?_
  refine gfD_1_2 C tw_144 dX7_row_4 ?_
  refine gfD_8_0 (x := σ.1 6) C tw_116 rfl dX7_row_7 ?_
  have e9 : p_X7_row σ = σ.1 6 := by rfl
  exact hret _ _ _ _ (by rw [e9]) rfl dX7_row_10
def p_X7_column (σ : St) : Int32 := σ.1 7
set_option maxHeartbeats 4000000 in
set_option maxRecDepth 100000 in
theorem c_X7_column (l : Launch) (K : KX) (ad : Nat → Nat) (σ : St) : Mt l K yX7_column cX7_column 1 (some .int) { frames := 0, cells := 0, slots := 0, locals := 0 } [.ref (ad 0)] (WdD K ad σ) (some (.int (p_X7_column σ))) (WdD K ad σ) := by
  refine Mt.i (by decide +kernel) (Nat.le_of_ble_eq_true rfl) (fun X C hret => ?_)
  show WD X K 1 0 0 (WdD K ad σ) [(0, .ref (ad 0))] 0 []
  refine wd_aload_n C dX7_column_0 rfl 0 rfl ?_
  refine gfD_0_0 C tw_282 dX7_column_1 ?_
  refine gfD_1_2 C tw_144 dX7_column_4 ?_
  refine gfD_8_1 (x := σ.1 7) C tw_119 rfl dX7_column_7 ?_
  have e9 : p_X7_column σ = σ.1 7 := by rfl
  exact hret _ _ _ _ (by rw [e9]) rfl dX7_column_10
def p_X7_full (σ : St) : Bool := σ.2.1 3
set_option maxHeartbeats 4000000 in
set_option maxRecDepth 100000 in
theorem c_X7_full (l : Launch) (K : KX) (ad : Nat → Nat) (σ : St) : Mt l K yX7_full cX7_full 1 (some .boolean) { frames := 0, cells := 0, slots := 0, locals := 0 } [.ref (ad 0)] (WdD K ad σ) (some (.int (b2i (p_X7_full σ)))) (WdD K ad σ) := by
  refine Mt.z (by decide +kernel) (Nat.le_of_ble_eq_true rfl) (fun X C hret => ?_)
  show WD X K 1 0 0 (WdD K ad σ) [(0, .ref (ad 0))] 0 []
  refine wd_aload_n C dX7_full_0 rfl 0 rfl ?_
  refine gfD_0_0 C tw_282 dX7_full_1 ?_
  refine gfD_1_2 C tw_144 dX7_full_4 ?_
  refine gfD_8_2 (x := σ.2.1 3) C tw_123 rfl dX7_full_7 ?_
  have e9 : p_X7_full σ = σ.2.1 3 := by rfl
  exact hret (σ.2.1 3) _ _ _ (by rw [e9]) rfl dX7_full_10
def p_X7_pen (σ : St) : Int32 := σ.1 8
set_option maxHeartbeats 4000000 in
set_option maxRecDepth 100000 in
theorem c_X7_pen (l : Launch) (K : KX) (ad : Nat → Nat) (σ : St) : Mt l K yX7_pen cX7_pen 1 (some .int) { frames := 0, cells := 0, slots := 0, locals := 0 } [.ref (ad 0)] (WdD K ad σ) (some (.int (p_X7_pen σ))) (WdD K ad σ) := by
  refine Mt.i (by decide +kernel) (Nat.le_of_ble_eq_true rfl) (fun X C hret => ?_)
  show WD X K 1 0 0 (WdD K ad σ) [(0, .ref (ad 0))] 0 []
  refine wd_aload_n C dX7_pen_0 rfl 0 rfl ?_
  refine gfD_0_0 C tw_282 dX7_pen_1 ?_
  refine gfD_1_2 C tw_144 dX7_pen_4 ?_
  refine gfD_8_3 (x := σ.1 8) C tw_126 rfl dX7_pen_7 ?_
  have e9 : p_X7_pen σ = σ.1 8 := by rfl
  exact hret _ _ _ _ (by rw [e9]) rfl dX7_pen_10
def p_X7_mode_t1 (σ : St) (p1 : Int32) : Bool := (if σ.2.1 0 = true then true else false)
def p_X7_mode_t2 (σ : St) (p1 : Int32) : Bool := (if σ.2.1 4 = true then true else false)
def p_X7_mode_t3 (σ : St) (p1 : Int32) : Bool := (if σ.2.1 1 = true then true else false)
def p_X7_mode_t4 (σ : St) (p1 : Int32) : Bool := (if σ.2.1 2 = true then true else false)
def p_X7_mode (σ : St) (p1 : Int32) : Int32 := (if p1 = 0 then b2i (p_X7_mode_t1 σ p1) else (if p1 = 1 then b2i (p_X7_mode_t2 σ p1) else (if p1 = 2 then b2i (p_X7_mode_t3 σ p1) else (if p1 = 3 then b2i (p_X7_mode_t4 σ p1) else (-1)))))
set_option maxHeartbeats 4000000 in
set_option maxRecDepth 100000 in
theorem c_X7_mode (l : Launch) (K : KX) (ad : Nat → Nat) (σ : St) (p1 : Int32) : Mt l K yX7_mode cX7_mode 2 (some .int) { frames := 0, cells := 0, slots := 0, locals := 0 } [.ref (ad 0), .int p1] (WdD K ad σ) (some (.int (p_X7_mode σ p1))) (WdD K ad σ) := by
  refine Mt.i (by decide +kernel) (Nat.le_of_ble_eq_true rfl) (fun X C hret => ?_)
  show WD X K 2 0 0 (WdD K ad σ) [(0, .ref (ad 0)), (1, .int p1)] 0 []
  refine wd_iload_n C dX7_mode_0 rfl 1 rfl ?_
  by_cases c_1_0 : p1 = 0
  · refine wd_tsw C 32 dX7_mode_1 (by decide) (by rw [c_1_0]; decide +kernel) ?_
    refine wd_aload_n C dX7_mode_32 rfl 0 rfl ?_
    refine gfD_0_0 C tw_282 dX7_mode_33 ?_
    refine gfD_1_7 (x := σ.2.1 0) C tw_152 rfl dX7_mode_36 ?_
    have J_39 : WD X K 2 0 0 (WdD K ad σ) [(0, .ref (ad 0)), (1, .int p1)] 47 [.int (b2i (p_X7_mode_t1 σ p1))] := by
      have e9 : p_X7_mode σ p1 = b2i (p_X7_mode_t1 σ p1) := by unfold p_X7_mode; rw [if_pos c_1_0]
      exact hret _ _ _ _ (by rw [e9]) rfl dX7_mode_47
    refine wd_if_eqB (b := σ.2.1 0) C 46 dX7_mode_39 (by decide) (fun c_39 => ?_) (fun c_39 => ?_)
    · refine wd_iconst (v := 0) C dX7_mode_46 (by decide) ?_
      have ej_0 : p_X7_mode_t1 σ p1 = false := by unfold p_X7_mode_t1; rw [if_neg c_39]
      rw [ej_0] at J_39
      exact wd_lv [0, 1] _ rfl J_39
    · refine wd_iconst (v := 1) C dX7_mode_42 (by decide) ?_
      refine wd_goto C 47 dX7_mode_43 (by decide) ?_
      have ej_0 : p_X7_mode_t1 σ p1 = true := by unfold p_X7_mode_t1; rw [if_pos c_39]
      rw [ej_0] at J_39
      exact wd_lv [0, 1] _ rfl J_39
  by_cases c_1_1 : p1 = 1
  · refine wd_tsw C 48 dX7_mode_1 (by decide) (by rw [c_1_1]; decide +kernel) ?_
    refine wd_aload_n C dX7_mode_48 rfl 0 rfl ?_
    refine gfD_0_0 C tw_282 dX7_mode_49 ?_
    refine gfD_1_2 C tw_144 dX7_mode_52 ?_
    refine gfD_8_4 (x := σ.2.1 4) C tw_128 rfl dX7_mode_55 ?_
    have J_58 : WD X K 2 0 0 (WdD K ad σ) [(0, .ref (ad 0)), (1, .int p1)] 66 [.int (b2i (p_X7_mode_t2 σ p1))] := by
      have e9 : p_X7_mode σ p1 = b2i (p_X7_mode_t2 σ p1) := by unfold p_X7_mode; rw [if_neg c_1_0, if_pos c_1_1]
      exact hret _ _ _ _ (by rw [e9]) rfl dX7_mode_66
    refine wd_if_eqB (b := σ.2.1 4) C 65 dX7_mode_58 (by decide) (fun c_58 => ?_) (fun c_58 => ?_)
    · refine wd_iconst (v := 0) C dX7_mode_65 (by decide) ?_
      have ej_0 : p_X7_mode_t2 σ p1 = false := by unfold p_X7_mode_t2; rw [if_neg c_58]
      rw [ej_0] at J_58
      exact wd_lv [0, 1] _ rfl J_58
    · refine wd_iconst (v := 1) C dX7_mode_61 (by decide) ?_
      refine wd_goto C 66 dX7_mode_62 (by decide) ?_
      have ej_0 : p_X7_mode_t2 σ p1 = true := by unfold p_X7_mode_t2; rw [if_pos c_58]
      rw [ej_0] at J_58
      exact wd_lv [0, 1] _ rfl J_58
  by_cases c_1_2 : p1 = 2
  · refine wd_tsw C 67 dX7_mode_1 (by decide) (by rw [c_1_2]; decide +kernel) ?_
    refine wd_aload_n C dX7_mode_67 rfl 0 rfl ?_
    refine gfD_0_0 C tw_282 dX7_mode_68 ?_
    refine gfD_1_8 (x := σ.2.1 1) C tw_154 rfl dX7_mode_71 ?_
    have J_74 : WD X K 2 0 0 (WdD K ad σ) [(0, .ref (ad 0)), (1, .int p1)] 82 [.int (b2i (p_X7_mode_t3 σ p1))] := by
      have e9 : p_X7_mode σ p1 = b2i (p_X7_mode_t3 σ p1) := by unfold p_X7_mode; rw [if_neg c_1_0, if_neg c_1_1, if_pos c_1_2]
      exact hret _ _ _ _ (by rw [e9]) rfl dX7_mode_82
    refine wd_if_eqB (b := σ.2.1 1) C 81 dX7_mode_74 (by decide) (fun c_74 => ?_) (fun c_74 => ?_)
    · refine wd_iconst (v := 0) C dX7_mode_81 (by decide) ?_
      have ej_0 : p_X7_mode_t3 σ p1 = false := by unfold p_X7_mode_t3; rw [if_neg c_74]
      rw [ej_0] at J_74
      exact wd_lv [0, 1] _ rfl J_74
    · refine wd_iconst (v := 1) C dX7_mode_77 (by decide) ?_
      refine wd_goto C 82 dX7_mode_78 (by decide) ?_
      have ej_0 : p_X7_mode_t3 σ p1 = true := by unfold p_X7_mode_t3; rw [if_pos c_74]
      rw [ej_0] at J_74
      exact wd_lv [0, 1] _ rfl J_74
  by_cases c_1_3 : p1 = 3
  · refine wd_tsw C 83 dX7_mode_1 (by decide) (by rw [c_1_3]; decide +kernel) ?_
    refine wd_aload_n C dX7_mode_83 rfl 0 rfl ?_
    refine gfD_0_0 C tw_282 dX7_mode_84 ?_
    refine gfD_1_9 (x := σ.2.1 2) C tw_156 rfl dX7_mode_87 ?_
    have J_90 : WD X K 2 0 0 (WdD K ad σ) [(0, .ref (ad 0)), (1, .int p1)] 98 [.int (b2i (p_X7_mode_t4 σ p1))] := by
      have e9 : p_X7_mode σ p1 = b2i (p_X7_mode_t4 σ p1) := by unfold p_X7_mode; rw [if_neg c_1_0, if_neg c_1_1, if_neg c_1_2, if_pos c_1_3]
      exact hret _ _ _ _ (by rw [e9]) rfl dX7_mode_98
    refine wd_if_eqB (b := σ.2.1 2) C 97 dX7_mode_90 (by decide) (fun c_90 => ?_) (fun c_90 => ?_)
    · refine wd_iconst (v := 0) C dX7_mode_97 (by decide) ?_
      have ej_0 : p_X7_mode_t4 σ p1 = false := by unfold p_X7_mode_t4; rw [if_neg c_90]
      rw [ej_0] at J_90
      exact wd_lv [0, 1] _ rfl J_90
    · refine wd_iconst (v := 1) C dX7_mode_93 (by decide) ?_
      refine wd_goto C 98 dX7_mode_94 (by decide) ?_
      have ej_0 : p_X7_mode_t4 σ p1 = true := by unfold p_X7_mode_t4; rw [if_pos c_90]
      rw [ej_0] at J_90
      exact wd_lv [0, 1] _ rfl J_90
  refine wd_tsw C 99 dX7_mode_1 (by decide) (by rw [swT_d [0, 1, 2, 3] (List.forall_mem_cons.mpr ⟨lv_neT c_1_0 (by decide), List.forall_mem_cons.mpr ⟨lv_neT c_1_1 (by decide), List.forall_mem_cons.mpr ⟨lv_neT c_1_2 (by decide), List.forall_mem_cons.mpr ⟨lv_neT c_1_3 (by decide), fun _ h => absurd h List.not_mem_nil⟩⟩⟩⟩) (by decide +kernel)]; decide) ?_
  refine wd_iconst (v := (-1)) C dX7_mode_99 (by decide) ?_
  have e9 : p_X7_mode σ p1 = (-1) := by unfold p_X7_mode; rw [if_neg c_1_0, if_neg c_1_1, if_neg c_1_2, if_neg c_1_3]
  exact hret _ _ _ _ (by rw [e9]) rfl dX7_mode_100
def p_X7_region (σ : St) : Int32 := (8 * (σ.1 1)) + (σ.1 2)
set_option maxHeartbeats 4000000 in
set_option maxRecDepth 100000 in
theorem c_X7_region (l : Launch) (K : KX) (ad : Nat → Nat) (σ : St) : Mt l K yX7_region cX7_region 1 (some .int) { frames := 0, cells := 0, slots := 0, locals := 0 } [.ref (ad 0)] (WdD K ad σ) (some (.int (p_X7_region σ))) (WdD K ad σ) := by
  refine Mt.i (by decide +kernel) (Nat.le_of_ble_eq_true rfl) (fun X C hret => ?_)
  show WD X K 1 0 0 (WdD K ad σ) [(0, .ref (ad 0))] 0 []
  refine wd_bipush (v := 8) C dX7_region_0 (by decide) ?_
  refine wd_aload_n C dX7_region_2 rfl 0 rfl ?_
  refine gfD_0_0 C tw_282 dX7_region_3 ?_
  refine gfD_1_4 (x := σ.1 1) C tw_147 rfl dX7_region_6 ?_
  refine wd_imul C dX7_region_9 ?_
  refine wd_aload_n C dX7_region_10 rfl 0 rfl ?_
  refine gfD_0_0 C tw_282 dX7_region_11 ?_
  refine gfD_1_5 (x := σ.1 2) C tw_149 rfl dX7_region_14 ?_
  refine wd_iadd C dX7_region_17 ?_
  have e9 : p_X7_region σ = (8 * (σ.1 1)) + (σ.1 2) := by rfl
  exact hret _ _ _ _ (by rw [e9]) rfl dX7_region_18
def p_X7_tab (σ : St) (p1 : Int32) : Bool := (p_X5_hasTabStop σ p1)
set_option maxHeartbeats 4000000 in
set_option maxRecDepth 100000 in
theorem c_X7_tab (l : Launch) (K : KX) (ad : Nat → Nat) (σ : St) (p1 : Int32) : Mt l K yX7_tab cX7_tab 2 (some .boolean) { frames := 1, cells := 0, slots := 0, locals := 21 } [.ref (ad 0), .int p1] (WdD K ad σ) (some (.int (b2i (p_X7_tab σ p1)))) (WdD K ad σ) := by
  refine Mt.z (by decide +kernel) (Nat.le_of_ble_eq_true rfl) (fun X C hret => ?_)
  show WD X K 2 0 0 (WdD K ad σ) [(0, .ref (ad 0)), (1, .int p1)] 0 []
  refine wd_aload_n C dX7_tab_0 rfl 0 rfl ?_
  refine gfD_0_0 C tw_282 dX7_tab_1 ?_
  refine wd_iload_n C dX7_tab_4 rfl 1 rfl ?_
  refine wd_callV C 1 (c_X5_hasTabStop _ K ad σ p1) 1 (wcD_1 K ad _) rfl rfl tw_652 tw_397 tw_398 tw_65 tw_399 (by decide +kernel) rfl (by decide) (Nat.le_of_ble_eq_true rfl) dX7_tab_5 _ rfl ?_
  have e9 : p_X7_tab σ p1 = (p_X5_hasTabStop σ p1) := by rfl
  exact hret (p_X5_hasTabStop σ p1) _ _ _ (by rw [e9]) rfl dX7_tab_8
def p_X7_bells (σ : St) : Int32 := σ.1 4
set_option maxHeartbeats 4000000 in
set_option maxRecDepth 100000 in
theorem c_X7_bells (l : Launch) (K : KX) (ad : Nat → Nat) (σ : St) : Mt l K yX7_bells cX7_bells 1 (some .int) { frames := 0, cells := 0, slots := 0, locals := 0 } [.ref (ad 0)] (WdD K ad σ) (some (.int (p_X7_bells σ))) (WdD K ad σ) := by
  refine Mt.i (by decide +kernel) (Nat.le_of_ble_eq_true rfl) (fun X C hret => ?_)
  show WD X K 1 0 0 (WdD K ad σ) [(0, .ref (ad 0))] 0 []
  refine wd_aload_n C dX7_bells_0 rfl 0 rfl ?_
  refine gfD_0_0 C tw_282 dX7_bells_1 ?_
  refine gfD_1_10 (x := σ.1 4) C tw_158 rfl dX7_bells_4 ?_
  have e9 : p_X7_bells σ = σ.1 4 := by rfl
  exact hret _ _ _ _ (by rw [e9]) rfl dX7_bells_7
def p_X7_state (σ : St) : Int32 := σ.1 0
set_option maxHeartbeats 4000000 in
set_option maxRecDepth 100000 in
theorem c_X7_state (l : Launch) (K : KX) (ad : Nat → Nat) (σ : St) : Mt l K yX7_state cX7_state 1 (some .int) { frames := 0, cells := 0, slots := 0, locals := 0 } [.ref (ad 0)] (WdD K ad σ) (some (.int (p_X7_state σ))) (WdD K ad σ) := by
  refine Mt.i (by decide +kernel) (Nat.le_of_ble_eq_true rfl) (fun X C hret => ?_)
  show WD X K 1 0 0 (WdD K ad σ) [(0, .ref (ad 0))] 0 []
  refine wd_aload_n C dX7_state_0 rfl 0 rfl ?_
  refine gfD_0_6 (x := σ.1 0) C tw_288 rfl dX7_state_1 ?_
  have e9 : p_X7_state σ = σ.1 0 := by rfl
  exact hret _ _ _ _ (by rw [e9]) rfl dX7_state_4
def p_X7_cells (σ : St) (p1 : Int32) (p2 : Int32) : Int32 := (q_X3_count_pg σ p1 p2)
set_option maxHeartbeats 4000000 in
set_option maxRecDepth 100000 in
theorem c_X7_cells (l : Launch) (K : KX) (ad : Nat → Nat) (σ : St) (p1 : Int32) (p2 : Int32) : Mt l K yX7_cells cX7_cells 3 (some .int) { frames := 1, cells := 0, slots := 0, locals := 24 } [.ref (ad 0), .int p1, .int p2] (WdD K ad σ) (some (.int (p_X7_cells σ p1 p2))) (WdD K ad σ) := by
  refine Mt.i (by decide +kernel) (Nat.le_of_ble_eq_true rfl) (fun X C hret => ?_)
  show WD X K 3 0 0 (WdD K ad σ) [(0, .ref (ad 0)), (1, .int p1), (2, .int p2)] 0 []
  refine wd_aload_n C dX7_cells_0 rfl 0 rfl ?_
  refine gfD_0_0 C tw_282 dX7_cells_1 ?_
  refine wd_callV C 0 (c_X5_page _ K ad σ) 1 (wcD_1 K ad _) rfl rfl tw_665 tw_337 tw_338 tw_65 tw_339 (by decide +kernel) rfl (by decide) (Nat.le_of_ble_eq_true rfl) dX7_cells_4 _ rfl ?_
  refine wd_iload_n C dX7_cells_7 rfl 1 rfl ?_
  refine wd_iload_n C dX7_cells_8 rfl 2 rfl ?_
  refine wd_callV C 2 (cD_X3_count_pg _ K ad σ p1 p2) _ (wcD_pg K ad σ) rfl rfl tw_666 tw_667 tw_668 tw_66 tw_669 (by decide +kernel) rfl (by decide) (Nat.le_of_ble_eq_true rfl) dX7_cells_9 _ rfl ?_
  have e9 : p_X7_cells σ p1 p2 = (q_X3_count_pg σ p1 p2) := by rfl
  exact hret _ _ _ _ (by rw [e9]) rfl dX7_cells_12
def p_X7_waiting (σ : St) : Int32 := σ.1 18
set_option maxHeartbeats 4000000 in
set_option maxRecDepth 100000 in
theorem c_X7_waiting (l : Launch) (K : KX) (ad : Nat → Nat) (σ : St) : Mt l K yX7_waiting cX7_waiting 1 (some .int) { frames := 0, cells := 0, slots := 0, locals := 0 } [.ref (ad 0)] (WdD K ad σ) (some (.int (p_X7_waiting σ))) (WdD K ad σ) := by
  refine Mt.i (by decide +kernel) (Nat.le_of_ble_eq_true rfl) (fun X C hret => ?_)
  show WD X K 1 0 0 (WdD K ad σ) [(0, .ref (ad 0))] 0 []
  refine wd_aload_n C dX7_waiting_0 rfl 0 rfl ?_
  refine gfD_0_5 C tw_287 dX7_waiting_1 ?_
  refine gfD_17_1 (x := σ.1 18) C tw_240 rfl dX7_waiting_4 ?_
  have e9 : p_X7_waiting σ = σ.1 18 := by rfl
  exact hret _ _ _ _ (by rw [e9]) rfl dX7_waiting_7
def p_X7_title (σ : St) (p1 : Int32) : Int32 := (q_X6_characterAt_T13 σ p1)
set_option maxHeartbeats 4000000 in
set_option maxRecDepth 100000 in
theorem c_X7_title (l : Launch) (K : KX) (ad : Nat → Nat) (σ : St) (p1 : Int32) : Mt l K yX7_title cX7_title 2 (some .int) { frames := 1, cells := 0, slots := 0, locals := 21 } [.ref (ad 0), .int p1] (WdD K ad σ) (some (.int (p_X7_title σ p1))) (WdD K ad σ) := by
  refine Mt.i (by decide +kernel) (Nat.le_of_ble_eq_true rfl) (fun X C hret => ?_)
  show WD X K 2 0 0 (WdD K ad σ) [(0, .ref (ad 0)), (1, .int p1)] 0 []
  refine wd_aload_n C dX7_title_0 rfl 0 rfl ?_
  refine gfD_0_3 C tw_285 dX7_title_1 ?_
  refine wd_iload_n C dX7_title_4 rfl 1 rfl ?_
  refine wd_callV C 1 (cD_X6_characterAt_T13 _ K ad σ p1) 13 (wcD_13 K ad _) rfl rfl tw_678 tw_679 tw_680 tw_70 tw_681 (by decide +kernel) rfl (by decide) (Nat.le_of_ble_eq_true rfl) dX7_title_5 _ rfl ?_
  have e9 : p_X7_title σ p1 = (q_X6_characterAt_T13 σ p1) := by rfl
  exact hret _ _ _ _ (by rw [e9]) rfl dX7_title_8
