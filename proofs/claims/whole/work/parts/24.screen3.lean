def p_X5_moveUp_t1 (σ : St) (p1 : Int32) : Int32 := (if σ.1 6 < σ.1 1 then 0 else σ.1 1)
def p_X5_moveUp (σ : St) (p1 : Int32) : St := (q_X0_place_C8 σ ((if (p_X5_moveUp_t1 σ p1) < (σ.1 6) - p1 then (σ.1 6) - p1 else (p_X5_moveUp_t1 σ p1))) (σ.1 7))
set_option maxHeartbeats 4000000 in
set_option maxRecDepth 100000 in
theorem c_X5_moveUp (l : Launch) (K : KX) (ad : Nat → Nat) (σ : St) (p1 : Int32) : Mt l K yX5_moveUp cX5_moveUp 3 none { frames := 1, cells := 0, slots := 0, locals := 22 } [.ref (ad 1), .int p1] (WdD K ad σ) none (WdD K ad (p_X5_moveUp σ p1)) := by
  refine Mt.v (by decide +kernel) (Nat.le_of_ble_eq_true rfl) (fun X C hret => ?_)
  show WD X K 3 0 0 (WdD K ad σ) [(0, .ref (ad 1)), (1, .int p1)] 0 []
  refine wd_aload_n C dX5_moveUp_0 rfl 0 rfl ?_
  refine gfD_1_2 C tw_143 dX5_moveUp_1 ?_
  refine gfD_8_0 (x := σ.1 6) C tw_117 rfl dX5_moveUp_4 ?_
  refine wd_aload_n C dX5_moveUp_7 rfl 0 rfl ?_
  refine gfD_1_4 (x := σ.1 1) C tw_146 rfl dX5_moveUp_8 ?_
  have J_11 : WD X K 3 0 0 (WdD K ad σ) [(0, .ref (ad 1)), (1, .int p1)] 22 [.int (p_X5_moveUp_t1 σ p1)] := by
    refine wd_istore_n C [(2, .int (p_X5_moveUp_t1 σ p1)), (0, .ref (ad 1)), (1, .int p1)] dX5_moveUp_22 rfl (by decide) rfl ?_
    refine wd_aload_n C dX5_moveUp_23 rfl 1 rfl ?_
    refine gfD_1_2 C tw_143 dX5_moveUp_24 ?_
    refine wd_iload_n C dX5_moveUp_27 rfl 0 rfl ?_
    refine wd_aload_n C dX5_moveUp_28 rfl 1 rfl ?_
    refine gfD_1_2 C tw_143 dX5_moveUp_29 ?_
    refine gfD_8_0 (x := σ.1 6) C tw_117 rfl dX5_moveUp_32 ?_
    refine wd_iload_n C dX5_moveUp_35 rfl 2 rfl ?_
    refine wd_isub C dX5_moveUp_36 ?_
    refine wd_max C tw_381 (by decide) (Nat.le_of_ble_eq_true rfl) (by decide) (by decide) dX5_moveUp_37 ?_
    refine wd_aload_n C dX5_moveUp_40 rfl 1 rfl ?_
    refine gfD_1_2 C tw_143 dX5_moveUp_41 ?_
    refine gfD_8_1 (x := σ.1 7) C tw_120 rfl dX5_moveUp_44 ?_
    refine wd_callV C 2 (cD_X0_place_C8 _ K ad σ ((if (p_X5_moveUp_t1 σ p1) < (σ.1 6) - p1 then (σ.1 6) - p1 else (p_X5_moveUp_t1 σ p1))) (σ.1 7)) 8 (wcD_8 K ad _) rfl rfl tw_391 tw_263 tw_264 tw_67 tw_265 (by decide +kernel) rfl (by decide) (Nat.le_of_ble_eq_true rfl) dX5_moveUp_47 _ rfl ?_
    have e9 : p_X5_moveUp σ p1 = (q_X0_place_C8 σ ((if (p_X5_moveUp_t1 σ p1) < (σ.1 6) - p1 then (σ.1 6) - p1 else (p_X5_moveUp_t1 σ p1))) (σ.1 7)) := by rfl
    exact hret _ _ _ (by rw [e9] <;> rfl) dX5_moveUp_50
  refine wd_icmp_lt C 21 dX5_moveUp_11 (by decide) (fun c_11 => ?_) (fun c_11 => ?_)
  · refine wd_iconst (v := 0) C dX5_moveUp_21 (by decide) ?_
    have ej_0 : p_X5_moveUp_t1 σ p1 = 0 := by unfold p_X5_moveUp_t1; rw [if_pos c_11]
    rw [ej_0] at J_11
    exact wd_lv [0, 1] _ rfl J_11
  · refine wd_aload_n C dX5_moveUp_14 rfl 0 rfl ?_
    refine gfD_1_4 (x := σ.1 1) C tw_146 rfl dX5_moveUp_15 ?_
    refine wd_goto C 22 dX5_moveUp_18 (by decide) ?_
    have ej_0 : p_X5_moveUp_t1 σ p1 = σ.1 1 := by unfold p_X5_moveUp_t1; rw [if_neg c_11]
    rw [ej_0] at J_11
    exact wd_lv [0, 1] _ rfl J_11
def p_X5_moveDown_t1 (σ : St) (p1 : Int32) : Int32 := (if σ.1 2 < σ.1 6 then 7 else σ.1 2)
def p_X5_moveDown (σ : St) (p1 : Int32) : St := (q_X0_place_C8 σ ((if (σ.1 6) + p1 < (p_X5_moveDown_t1 σ p1) then (σ.1 6) + p1 else (p_X5_moveDown_t1 σ p1))) (σ.1 7))
set_option maxHeartbeats 4000000 in
set_option maxRecDepth 100000 in
theorem c_X5_moveDown (l : Launch) (K : KX) (ad : Nat → Nat) (σ : St) (p1 : Int32) : Mt l K yX5_moveDown cX5_moveDown 3 none { frames := 1, cells := 0, slots := 0, locals := 22 } [.ref (ad 1), .int p1] (WdD K ad σ) none (WdD K ad (p_X5_moveDown σ p1)) := by
  refine Mt.v (by decide +kernel) (Nat.le_of_ble_eq_true rfl) (fun X C hret => ?_)
  show WD X K 3 0 0 (WdD K ad σ) [(0, .ref (ad 1)), (1, .int p1)] 0 []
  refine wd_aload_n C dX5_moveDown_0 rfl 0 rfl ?_
  refine gfD_1_2 C tw_143 dX5_moveDown_1 ?_
  refine gfD_8_0 (x := σ.1 6) C tw_117 rfl dX5_moveDown_4 ?_
  refine wd_aload_n C dX5_moveDown_7 rfl 0 rfl ?_
  refine gfD_1_5 (x := σ.1 2) C tw_148 rfl dX5_moveDown_8 ?_
  have J_11 : WD X K 3 0 0 (WdD K ad σ) [(0, .ref (ad 1)), (1, .int p1)] 23 [.int (p_X5_moveDown_t1 σ p1)] := by
    refine wd_istore_n C [(2, .int (p_X5_moveDown_t1 σ p1)), (0, .ref (ad 1)), (1, .int p1)] dX5_moveDown_23 rfl (by decide) rfl ?_
    refine wd_aload_n C dX5_moveDown_24 rfl 1 rfl ?_
    refine gfD_1_2 C tw_143 dX5_moveDown_25 ?_
    refine wd_iload_n C dX5_moveDown_28 rfl 0 rfl ?_
    refine wd_aload_n C dX5_moveDown_29 rfl 1 rfl ?_
    refine gfD_1_2 C tw_143 dX5_moveDown_30 ?_
    refine gfD_8_0 (x := σ.1 6) C tw_117 rfl dX5_moveDown_33 ?_
    refine wd_iload_n C dX5_moveDown_36 rfl 2 rfl ?_
    refine wd_iadd C dX5_moveDown_37 ?_
    refine wd_min C tw_388 (by decide) (Nat.le_of_ble_eq_true rfl) (by decide) (by decide) dX5_moveDown_38 ?_
    refine wd_aload_n C dX5_moveDown_41 rfl 1 rfl ?_
    refine gfD_1_2 C tw_143 dX5_moveDown_42 ?_
    refine gfD_8_1 (x := σ.1 7) C tw_120 rfl dX5_moveDown_45 ?_
    refine wd_callV C 2 (cD_X0_place_C8 _ K ad σ ((if (σ.1 6) + p1 < (p_X5_moveDown_t1 σ p1) then (σ.1 6) + p1 else (p_X5_moveDown_t1 σ p1))) (σ.1 7)) 8 (wcD_8 K ad _) rfl rfl tw_391 tw_263 tw_264 tw_67 tw_265 (by decide +kernel) rfl (by decide) (Nat.le_of_ble_eq_true rfl) dX5_moveDown_48 _ rfl ?_
    have e9 : p_X5_moveDown σ p1 = (q_X0_place_C8 σ ((if (σ.1 6) + p1 < (p_X5_moveDown_t1 σ p1) then (σ.1 6) + p1 else (p_X5_moveDown_t1 σ p1))) (σ.1 7)) := by rfl
    exact hret _ _ _ (by rw [e9] <;> rfl) dX5_moveDown_51
  refine wd_icmp_gt C 21 dX5_moveDown_11 (by decide) (fun c_11 => ?_) (fun c_11 => ?_)
  · refine wd_bipush (v := 7) C dX5_moveDown_21 (by decide) ?_
    have ej_0 : p_X5_moveDown_t1 σ p1 = 7 := by unfold p_X5_moveDown_t1; rw [if_pos c_11]
    rw [ej_0] at J_11
    exact wd_lv [0, 1] _ rfl J_11
  · refine wd_aload_n C dX5_moveDown_14 rfl 0 rfl ?_
    refine gfD_1_5 (x := σ.1 2) C tw_148 rfl dX5_moveDown_15 ?_
    refine wd_goto C 23 dX5_moveDown_18 (by decide) ?_
    have ej_0 : p_X5_moveDown_t1 σ p1 = σ.1 2 := by unfold p_X5_moveDown_t1; rw [if_neg c_11]
    rw [ej_0] at J_11
    exact wd_lv [0, 1] _ rfl J_11
def p_X5_moveToColumn (σ : St) (p1 : Int32) : St := (q_X0_place_C8 σ (σ.1 6) (if p1 < 11 then p1 else 11))
set_option maxHeartbeats 4000000 in
set_option maxRecDepth 100000 in
theorem c_X5_moveToColumn (l : Launch) (K : KX) (ad : Nat → Nat) (σ : St) (p1 : Int32) : Mt l K yX5_moveToColumn cX5_moveToColumn 2 none { frames := 1, cells := 0, slots := 0, locals := 22 } [.ref (ad 1), .int p1] (WdD K ad σ) none (WdD K ad (p_X5_moveToColumn σ p1)) := by
  refine Mt.v (by decide +kernel) (Nat.le_of_ble_eq_true rfl) (fun X C hret => ?_)
  show WD X K 2 0 0 (WdD K ad σ) [(0, .ref (ad 1)), (1, .int p1)] 0 []
  refine wd_aload_n C dX5_moveToColumn_0 rfl 0 rfl ?_
  refine gfD_1_2 C tw_143 dX5_moveToColumn_1 ?_
  refine wd_aload_n C dX5_moveToColumn_4 rfl 0 rfl ?_
  refine gfD_1_2 C tw_143 dX5_moveToColumn_5 ?_
  refine gfD_8_0 (x := σ.1 6) C tw_117 rfl dX5_moveToColumn_8 ?_
  refine wd_bipush (v := 11) C dX5_moveToColumn_11 (by decide) ?_
  refine wd_iload_n C dX5_moveToColumn_13 rfl 1 rfl ?_
  refine wd_min C tw_388 (by decide) (Nat.le_of_ble_eq_true rfl) (by decide) (by decide) dX5_moveToColumn_14 ?_
  refine wd_callV C 2 (cD_X0_place_C8 _ K ad σ (σ.1 6) (if p1 < 11 then p1 else 11)) 8 (wcD_8 K ad _) rfl rfl tw_391 tw_263 tw_264 tw_67 tw_265 (by decide +kernel) rfl (by decide) (Nat.le_of_ble_eq_true rfl) dX5_moveToColumn_17 _ rfl ?_
  have e9 : p_X5_moveToColumn σ p1 = (q_X0_place_C8 σ (σ.1 6) (if p1 < 11 then p1 else 11)) := by rfl
  exact hret _ _ _ (by rw [e9] <;> rfl) dX5_moveToColumn_20
def p_X5_moveLeft (σ : St) (p1 : Int32) : St := (p_X5_moveToColumn σ ((if 0 < (σ.1 7) - p1 then (σ.1 7) - p1 else 0)))
set_option maxHeartbeats 4000000 in
set_option maxRecDepth 100000 in
theorem c_X5_moveLeft (l : Launch) (K : KX) (ad : Nat → Nat) (σ : St) (p1 : Int32) : Mt l K yX5_moveLeft cX5_moveLeft 2 none { frames := 2, cells := 0, slots := 0, locals := 43 } [.ref (ad 1), .int p1] (WdD K ad σ) none (WdD K ad (p_X5_moveLeft σ p1)) := by
  refine Mt.v (by decide +kernel) (Nat.le_of_ble_eq_true rfl) (fun X C hret => ?_)
  show WD X K 2 0 0 (WdD K ad σ) [(0, .ref (ad 1)), (1, .int p1)] 0 []
  refine wd_aload_n C dX5_moveLeft_0 rfl 0 rfl ?_
  refine wd_iconst (v := 0) C dX5_moveLeft_1 (by decide) ?_
  refine wd_aload_n C dX5_moveLeft_2 rfl 0 rfl ?_
  refine gfD_1_2 C tw_143 dX5_moveLeft_3 ?_
  refine gfD_8_1 (x := σ.1 7) C tw_120 rfl dX5_moveLeft_6 ?_
  refine wd_iload_n C dX5_moveLeft_9 rfl 1 rfl ?_
  refine wd_isub C dX5_moveLeft_10 ?_
  refine wd_max C tw_381 (by decide) (Nat.le_of_ble_eq_true rfl) (by decide) (by decide) dX5_moveLeft_11 ?_
  refine wd_callV C 1 (c_X5_moveToColumn _ K ad σ ((if 0 < (σ.1 7) - p1 then (σ.1 7) - p1 else 0))) 1 (wcD_1 K ad _) rfl rfl tw_384 tw_385 tw_386 tw_65 tw_387 (by decide +kernel) rfl (by decide) (Nat.le_of_ble_eq_true rfl) dX5_moveLeft_14 _ rfl ?_
  have e9 : p_X5_moveLeft σ p1 = (p_X5_moveToColumn σ ((if 0 < (σ.1 7) - p1 then (σ.1 7) - p1 else 0))) := by rfl
  exact hret _ _ _ (by rw [e9] <;> rfl) dX5_moveLeft_17
def p_X5_moveRight (σ : St) (p1 : Int32) : St := (p_X5_moveToColumn σ ((σ.1 7) + p1))
set_option maxHeartbeats 4000000 in
set_option maxRecDepth 100000 in
theorem c_X5_moveRight (l : Launch) (K : KX) (ad : Nat → Nat) (σ : St) (p1 : Int32) : Mt l K yX5_moveRight cX5_moveRight 2 none { frames := 2, cells := 0, slots := 0, locals := 43 } [.ref (ad 1), .int p1] (WdD K ad σ) none (WdD K ad (p_X5_moveRight σ p1)) := by
  refine Mt.v (by decide +kernel) (Nat.le_of_ble_eq_true rfl) (fun X C hret => ?_)
  show WD X K 2 0 0 (WdD K ad σ) [(0, .ref (ad 1)), (1, .int p1)] 0 []
  refine wd_aload_n C dX5_moveRight_0 rfl 0 rfl ?_
  refine wd_aload_n C dX5_moveRight_1 rfl 0 rfl ?_
  refine gfD_1_2 C tw_143 dX5_moveRight_2 ?_
  refine gfD_8_1 (x := σ.1 7) C tw_120 rfl dX5_moveRight_5 ?_
  refine wd_iload_n C dX5_moveRight_8 rfl 1 rfl ?_
  refine wd_iadd C dX5_moveRight_9 ?_
  refine wd_callV C 1 (c_X5_moveToColumn _ K ad σ ((σ.1 7) + p1)) 1 (wcD_1 K ad _) rfl rfl tw_384 tw_385 tw_386 tw_65 tw_387 (by decide +kernel) rfl (by decide) (Nat.le_of_ble_eq_true rfl) dX5_moveRight_10 _ rfl ?_
  have e9 : p_X5_moveRight σ p1 = (p_X5_moveToColumn σ ((σ.1 7) + p1)) := by rfl
  exact hret _ _ _ (by rw [e9] <;> rfl) dX5_moveRight_13
def p_X5_moveToRow (σ : St) (p1 : Int32) : St := (q_X0_place_C8 σ (if p1 < 7 then p1 else 7) (σ.1 7))
set_option maxHeartbeats 4000000 in
set_option maxRecDepth 100000 in
theorem c_X5_moveToRow (l : Launch) (K : KX) (ad : Nat → Nat) (σ : St) (p1 : Int32) : Mt l K yX5_moveToRow cX5_moveToRow 2 none { frames := 1, cells := 0, slots := 0, locals := 22 } [.ref (ad 1), .int p1] (WdD K ad σ) none (WdD K ad (p_X5_moveToRow σ p1)) := by
  refine Mt.v (by decide +kernel) (Nat.le_of_ble_eq_true rfl) (fun X C hret => ?_)
  show WD X K 2 0 0 (WdD K ad σ) [(0, .ref (ad 1)), (1, .int p1)] 0 []
  refine wd_aload_n C dX5_moveToRow_0 rfl 0 rfl ?_
  refine gfD_1_2 C tw_143 dX5_moveToRow_1 ?_
  refine wd_bipush (v := 7) C dX5_moveToRow_4 (by decide) ?_
  refine wd_iload_n C dX5_moveToRow_6 rfl 1 rfl ?_
  refine wd_min C tw_388 (by decide) (Nat.le_of_ble_eq_true rfl) (by decide) (by decide) dX5_moveToRow_7 ?_
  refine wd_aload_n C dX5_moveToRow_10 rfl 0 rfl ?_
  refine gfD_1_2 C tw_143 dX5_moveToRow_11 ?_
  refine gfD_8_1 (x := σ.1 7) C tw_120 rfl dX5_moveToRow_14 ?_
  refine wd_callV C 2 (cD_X0_place_C8 _ K ad σ (if p1 < 7 then p1 else 7) (σ.1 7)) 8 (wcD_8 K ad _) rfl rfl tw_391 tw_263 tw_264 tw_67 tw_265 (by decide +kernel) rfl (by decide) (Nat.le_of_ble_eq_true rfl) dX5_moveToRow_17 _ rfl ?_
  have e9 : p_X5_moveToRow σ p1 = (q_X0_place_C8 σ (if p1 < 7 then p1 else 7) (σ.1 7)) := by rfl
  exact hret _ _ _ (by rw [e9] <;> rfl) dX5_moveToRow_20
def p_X5_moveTo_t1 (σ : St) (p1 : Int32) (p2 : Int32) : Int32 := (if σ.2.1 4 = true then (σ.1 1) + p1 else p1)
def p_X5_moveTo_t2 (σ : St) (p1 : Int32) (p2 : Int32) : Int32 := (if σ.2.1 4 = true then σ.1 2 else 7)
def p_X5_moveTo (σ : St) (p1 : Int32) (p2 : Int32) : St := (q_X0_place_C8 σ ((if (p_X5_moveTo_t1 σ p1 p2) < (p_X5_moveTo_t2 σ p1 p2) then (p_X5_moveTo_t1 σ p1 p2) else (p_X5_moveTo_t2 σ p1 p2))) (if p2 < 11 then p2 else 11))
set_option maxHeartbeats 4000000 in
set_option maxRecDepth 100000 in
theorem c_X5_moveTo (l : Launch) (K : KX) (ad : Nat → Nat) (σ : St) (p1 : Int32) (p2 : Int32) : Mt l K yX5_moveTo cX5_moveTo 5 none { frames := 1, cells := 0, slots := 0, locals := 22 } [.ref (ad 1), .int p1, .int p2] (WdD K ad σ) none (WdD K ad (p_X5_moveTo σ p1 p2)) := by
  refine Mt.v (by decide +kernel) (Nat.le_of_ble_eq_true rfl) (fun X C hret => ?_)
  show WD X K 5 0 0 (WdD K ad σ) [(0, .ref (ad 1)), (1, .int p1), (2, .int p2)] 0 []
  refine wd_aload_n C dX5_moveTo_0 rfl 0 rfl ?_
  refine gfD_1_2 C tw_143 dX5_moveTo_1 ?_
  refine gfD_8_4 (x := σ.2.1 4) C tw_129 rfl dX5_moveTo_4 ?_
  have J_7 : WD X K 5 0 0 (WdD K ad σ) [(0, .ref (ad 1)), (1, .int p1), (2, .int p2)] 20 [.int (p_X5_moveTo_t1 σ p1 p2)] := by
    refine wd_istore_n C [(3, .int (p_X5_moveTo_t1 σ p1 p2)), (0, .ref (ad 1)), (1, .int p1), (2, .int p2)] dX5_moveTo_20 rfl (by decide) rfl ?_
    refine wd_aload_n C dX5_moveTo_21 rfl 1 rfl ?_
    refine gfD_1_2 C tw_143 dX5_moveTo_22 ?_
    refine gfD_8_4 (x := σ.2.1 4) C tw_129 rfl dX5_moveTo_25 ?_
    have J_28 : WD X K 5 0 0 (WdD K ad σ) [(0, .ref (ad 1)), (1, .int p1), (2, .int p2), (3, .int (p_X5_moveTo_t1 σ p1 p2))] 40 [.int (p_X5_moveTo_t2 σ p1 p2)] := by
      refine wd_istore C [(4, .int (p_X5_moveTo_t2 σ p1 p2)), (0, .ref (ad 1)), (1, .int p1), (2, .int p2), (3, .int (p_X5_moveTo_t1 σ p1 p2))] dX5_moveTo_40 (by decide) rfl ?_
      refine wd_aload_n C dX5_moveTo_42 rfl 1 rfl ?_
      refine gfD_1_2 C tw_143 dX5_moveTo_43 ?_
      refine wd_iload C dX5_moveTo_46 0 rfl ?_
      refine wd_iload_n C dX5_moveTo_48 rfl 4 rfl ?_
      refine wd_min C tw_388 (by decide) (Nat.le_of_ble_eq_true rfl) (by decide) (by decide) dX5_moveTo_49 ?_
      refine wd_bipush (v := 11) C dX5_moveTo_52 (by decide) ?_
      refine wd_iload_n C dX5_moveTo_54 rfl 3 rfl ?_
      refine wd_min C tw_388 (by decide) (Nat.le_of_ble_eq_true rfl) (by decide) (by decide) dX5_moveTo_55 ?_
      refine wd_callV C 2 (cD_X0_place_C8 _ K ad σ ((if (p_X5_moveTo_t1 σ p1 p2) < (p_X5_moveTo_t2 σ p1 p2) then (p_X5_moveTo_t1 σ p1 p2) else (p_X5_moveTo_t2 σ p1 p2))) (if p2 < 11 then p2 else 11)) 8 (wcD_8 K ad _) rfl rfl tw_391 tw_263 tw_264 tw_67 tw_265 (by decide +kernel) rfl (by decide) (Nat.le_of_ble_eq_true rfl) dX5_moveTo_58 _ rfl ?_
      have e9 : p_X5_moveTo σ p1 p2 = (q_X0_place_C8 σ ((if (p_X5_moveTo_t1 σ p1 p2) < (p_X5_moveTo_t2 σ p1 p2) then (p_X5_moveTo_t1 σ p1 p2) else (p_X5_moveTo_t2 σ p1 p2))) (if p2 < 11 then p2 else 11)) := by rfl
      exact hret _ _ _ (by rw [e9] <;> rfl) dX5_moveTo_61
    refine wd_if_eqB (b := σ.2.1 4) C 38 dX5_moveTo_28 (by decide) (fun c_28 => ?_) (fun c_28 => ?_)
    · refine wd_bipush (v := 7) C dX5_moveTo_38 (by decide) ?_
      have ej_0 : p_X5_moveTo_t2 σ p1 p2 = 7 := by unfold p_X5_moveTo_t2; rw [if_neg c_28]
      rw [ej_0] at J_28
      exact wd_lv [1, 2, 3, 0] _ rfl J_28
    · refine wd_aload_n C dX5_moveTo_31 rfl 1 rfl ?_
      refine gfD_1_5 (x := σ.1 2) C tw_148 rfl dX5_moveTo_32 ?_
      refine wd_goto C 40 dX5_moveTo_35 (by decide) ?_
      have ej_0 : p_X5_moveTo_t2 σ p1 p2 = σ.1 2 := by unfold p_X5_moveTo_t2; rw [if_pos c_28]
      rw [ej_0] at J_28
      exact wd_lv [1, 2, 3, 0] _ rfl J_28
  refine wd_if_eqB (b := σ.2.1 4) C 19 dX5_moveTo_7 (by decide) (fun c_7 => ?_) (fun c_7 => ?_)
  · refine wd_iload_n C dX5_moveTo_19 rfl 1 rfl ?_
    have ej_0 : p_X5_moveTo_t1 σ p1 p2 = p1 := by unfold p_X5_moveTo_t1; rw [if_neg c_7]
    rw [ej_0] at J_7
    exact wd_lv [0, 1, 2] _ rfl J_7
  · refine wd_aload_n C dX5_moveTo_10 rfl 0 rfl ?_
    refine gfD_1_4 (x := σ.1 1) C tw_146 rfl dX5_moveTo_11 ?_
    refine wd_iload_n C dX5_moveTo_14 rfl 1 rfl ?_
    refine wd_iadd C dX5_moveTo_15 ?_
    refine wd_goto C 20 dX5_moveTo_16 (by decide) ?_
    have ej_0 : p_X5_moveTo_t1 σ p1 p2 = (σ.1 1) + p1 := by unfold p_X5_moveTo_t1; rw [if_pos c_7]
    rw [ej_0] at J_7
    exact wd_lv [0, 1, 2] _ rfl J_7
def p_X5_hasTabStop_t1 (σ : St) (p1 : Int32) : Bool := (if p1 < 0 then false else (if 12 ≤ p1 then false else (if ((σ.1 3) >>> (p1 &&& 31)) &&& 1 = 1 then true else false)))
def p_X5_hasTabStop (σ : St) (p1 : Int32) : Bool := (p_X5_hasTabStop_t1 σ p1)
set_option maxHeartbeats 4000000 in
set_option maxRecDepth 100000 in
theorem c_X5_hasTabStop (l : Launch) (K : KX) (ad : Nat → Nat) (σ : St) (p1 : Int32) : Mt l K yX5_hasTabStop cX5_hasTabStop 2 (some .boolean) { frames := 0, cells := 0, slots := 0, locals := 0 } [.ref (ad 1), .int p1] (WdD K ad σ) (some (.int (b2i (p_X5_hasTabStop σ p1)))) (WdD K ad σ) := by
  refine Mt.z (by decide +kernel) (Nat.le_of_ble_eq_true rfl) (fun X C hret => ?_)
  show WD X K 2 0 0 (WdD K ad σ) [(0, .ref (ad 1)), (1, .int p1)] 0 []
  refine wd_iload_n C dX5_hasTabStop_0 rfl 1 rfl ?_
  have J_1 : WD X K 2 0 0 (WdD K ad σ) [(0, .ref (ad 1)), (1, .int p1)] 27 [.int (b2i (p_X5_hasTabStop_t1 σ p1))] := by
    have e9 : p_X5_hasTabStop σ p1 = (p_X5_hasTabStop_t1 σ p1) := by rfl
    exact hret (p_X5_hasTabStop_t1 σ p1) _ _ _ (by rw [e9]) rfl dX5_hasTabStop_27
  refine wd_if_lt C 26 dX5_hasTabStop_1 (by decide) (fun c_1 => ?_) (fun c_1 => ?_)
  · refine wd_iconst (v := 0) C dX5_hasTabStop_26 (by decide) ?_
    have ej_0 : p_X5_hasTabStop_t1 σ p1 = false := by unfold p_X5_hasTabStop_t1; rw [if_pos c_1]
    rw [ej_0] at J_1
    exact wd_lv [0, 1] _ rfl J_1
  · refine wd_iload_n C dX5_hasTabStop_4 rfl 1 rfl ?_
    refine wd_bipush (v := 12) C dX5_hasTabStop_5 (by decide) ?_
    refine wd_icmp_ge C 26 dX5_hasTabStop_7 (by decide) (fun c_7 => ?_) (fun c_7 => ?_)
    · refine wd_iconst (v := 0) C dX5_hasTabStop_26 (by decide) ?_
      have ej_0 : p_X5_hasTabStop_t1 σ p1 = false := by unfold p_X5_hasTabStop_t1; rw [if_neg c_1, if_pos c_7]
      rw [ej_0] at J_1
      exact wd_lv [0, 1] _ rfl J_1
    · refine wd_aload_n C dX5_hasTabStop_10 rfl 0 rfl ?_
      refine gfD_1_6 (x := σ.1 3) C tw_150 rfl dX5_hasTabStop_11 ?_
      refine wd_iload_n C dX5_hasTabStop_14 rfl 1 rfl ?_
      refine wd_ishr C dX5_hasTabStop_15 ?_
      refine wd_iconst (v := 1) C dX5_hasTabStop_16 (by decide) ?_
      refine wd_iand C dX5_hasTabStop_17 ?_
      refine wd_iconst (v := 1) C dX5_hasTabStop_18 (by decide) ?_
      refine wd_icmp_ne C 26 dX5_hasTabStop_19 (by decide) (fun c_19 => ?_) (fun c_19 => ?_)
      · refine wd_iconst (v := 0) C dX5_hasTabStop_26 (by decide) ?_
        have ej_0 : p_X5_hasTabStop_t1 σ p1 = false := by unfold p_X5_hasTabStop_t1; rw [if_neg c_1, if_neg c_7, if_neg c_19]
        rw [ej_0] at J_1
        exact wd_lv [0, 1] _ rfl J_1
      · refine wd_iconst (v := 1) C dX5_hasTabStop_22 (by decide) ?_
        refine wd_goto C 27 dX5_hasTabStop_23 (by decide) ?_
        have ej_0 : p_X5_hasTabStop_t1 σ p1 = true := by unfold p_X5_hasTabStop_t1; rw [if_neg c_1, if_neg c_7, if_pos c_19]
        rw [ej_0] at J_1
        exact wd_lv [0, 1] _ rfl J_1
def p_X5_moveToTabStop_l1 (σ : St) : Nat → Int32 → Int32
  | 0, x1 => x1
  | n + 1, x1 => (if 11 ≤ x1 then x1 else (if (p_X5_hasTabStop σ x1) = true then x1 else p_X5_moveToTabStop_l1 σ n (x1 + 1)))
def p_X5_moveToTabStop (σ : St) : St := (p_X5_moveToColumn σ ((p_X5_moveToTabStop_l1 σ 2147483660 ((σ.1 7) + 1))))
set_option maxHeartbeats 4000000 in
set_option maxRecDepth 100000 in
theorem c_X5_moveToTabStop (l : Launch) (K : KX) (ad : Nat → Nat) (σ : St) : Mt l K yX5_moveToTabStop cX5_moveToTabStop 2 none { frames := 2, cells := 0, slots := 0, locals := 43 } [.ref (ad 1)] (WdD K ad σ) none (WdD K ad (p_X5_moveToTabStop σ)) := by
  refine Mt.v (by decide +kernel) (Nat.le_of_ble_eq_true rfl) (fun X C hret => ?_)
  show WD X K 2 0 0 (WdD K ad σ) [(0, .ref (ad 1))] 0 []
  refine wd_aload_n C dX5_moveToTabStop_0 rfl 0 rfl ?_
  refine gfD_1_2 C tw_143 dX5_moveToTabStop_1 ?_
  refine gfD_8_1 (x := σ.1 7) C tw_120 rfl dX5_moveToTabStop_4 ?_
  refine wd_iconst (v := 1) C dX5_moveToTabStop_7 (by decide) ?_
  refine wd_iadd C dX5_moveToTabStop_8 ?_
  refine wd_istore_n C [(1, .int ((σ.1 7) + 1)), (0, .ref (ad 1))] dX5_moveToTabStop_9 rfl (by decide) rfl ?_
  have J_10 : WD X K 2 0 0 (WdD K ad σ) [(0, .ref (ad 1)), (1, .int ((p_X5_moveToTabStop_l1 σ 2147483660 ((σ.1 7) + 1))))] 30 [] := by
    refine wd_aload_n C dX5_moveToTabStop_30 rfl 0 rfl ?_
    refine wd_iload_n C dX5_moveToTabStop_31 rfl 1 rfl ?_
    refine wd_callV C 1 (c_X5_moveToColumn _ K ad σ ((p_X5_moveToTabStop_l1 σ 2147483660 ((σ.1 7) + 1)))) 1 (wcD_1 K ad _) rfl rfl tw_384 tw_385 tw_386 tw_65 tw_387 (by decide +kernel) rfl (by decide) (Nat.le_of_ble_eq_true rfl) dX5_moveToTabStop_32 _ rfl ?_
    have e9 : p_X5_moveToTabStop σ = (p_X5_moveToColumn σ ((p_X5_moveToTabStop_l1 σ 2147483660 ((σ.1 7) + 1)))) := by rfl
    exact hret _ _ _ (by rw [e9] <;> rfl) dX5_moveToTabStop_35
  have L_10 : ∀ (n : Nat) (x1 : Int32), p_X5_moveToTabStop_l1 σ n x1 = p_X5_moveToTabStop_l1 σ 2147483660 ((σ.1 7) + 1) → 11 - x1.toInt ≤ (n : Int) → WD X K 2 0 0 (WdD K ad σ) [(0, .ref (ad 1)), (1, .int x1)] 10 [] := by
    intro n
    induction n with
    | zero =>
      intro x1 hE hI
      refine wd_iload_n C dX5_moveToTabStop_10 rfl 1 rfl ?_
      refine wd_bipush (v := 11) C dX5_moveToTabStop_11 (by decide) ?_
      refine wd_icmp_ge C 30 dX5_moveToTabStop_13 (by decide) (fun c_13 => ?_) (fun c_13 => ?_)
      · have eL := hE
        rw [p_X5_moveToTabStop_l1] at eL
        rw [← eL] at J_10
        exact wd_lv [0, 1] _ rfl J_10
      · exact absurd (ti_le.mpr (by have h0 := hI; (try simp only [ti_lt, ti_le, ti_eq] at h0); have z11 : (11 : Int32).toInt = 11 := (by decide); omega)) c_13
    | succ n ih =>
      intro x1 hE hI
      refine wd_iload_n C dX5_moveToTabStop_10 rfl 1 rfl ?_
      refine wd_bipush (v := 11) C dX5_moveToTabStop_11 (by decide) ?_
      refine wd_icmp_ge C 30 dX5_moveToTabStop_13 (by decide) (fun c_13 => ?_) (fun c_13 => ?_)
      · have eL := hE
        rw [p_X5_moveToTabStop_l1, if_pos c_13] at eL
        rw [← eL] at J_10
        exact wd_lv [0, 1] _ rfl J_10
      · refine wd_aload_n C dX5_moveToTabStop_16 rfl 0 rfl ?_
        refine wd_iload_n C dX5_moveToTabStop_17 rfl 1 rfl ?_
        refine wd_callV C 1 (c_X5_hasTabStop _ K ad σ x1) 1 (wcD_1 K ad _) rfl rfl tw_396 tw_397 tw_398 tw_65 tw_399 (by decide +kernel) rfl (by decide) (Nat.le_of_ble_eq_true rfl) dX5_moveToTabStop_18 _ rfl ?_
        refine wd_if_neB (b := (p_X5_hasTabStop σ x1)) C 30 dX5_moveToTabStop_21 (by decide) (fun c_21 => ?_) (fun c_21 => ?_)
        · have eL := hE
          rw [p_X5_moveToTabStop_l1, if_neg c_13, if_pos c_21] at eL
          rw [← eL] at J_10
          exact wd_lv [0, 1] _ rfl J_10
        · refine wd_iinc (v := x1 + 1) C [(1, .int (x1 + 1)), (0, .ref (ad 1))] dX5_moveToTabStop_24 1 rfl (by rfl) (by decide) rfl ?_
          refine wd_goto C 10 dX5_moveToTabStop_27 (by decide) ?_
          have eL := hE
          rw [p_X5_moveToTabStop_l1, if_neg c_13, if_neg c_21] at eL
          exact wd_lv [1, 0] _ rfl (ih (x1 + 1) eL (by have h0 := c_13; (try simp only [ti_lt, ti_le, ti_eq] at h0); have h1 := hI; (try simp only [ti_lt, ti_le, ti_eq] at h1); have z11 : (11 : Int32).toInt = 11 := (by decide); have z1 : (1 : Int32).toInt = 1 := (by decide); have e1 := ti_add (a := x1) (b := 1) (by have := ti_rng x1; omega) (by omega); omega))
  exact wd_lv [1, 0] _ rfl (L_10 2147483660 ((σ.1 7) + 1) rfl (by have r := ti_rng (σ.1 7 + 1); omega))
def p_X5_setTabStop (σ : St) : St := si σ 3 ((σ.1 3) ||| (1 <<< ((σ.1 7) &&& 31)))
set_option maxHeartbeats 4000000 in
set_option maxRecDepth 100000 in
theorem c_X5_setTabStop (l : Launch) (K : KX) (ad : Nat → Nat) (σ : St) : Mt l K yX5_setTabStop cX5_setTabStop 1 none { frames := 0, cells := 0, slots := 0, locals := 0 } [.ref (ad 1)] (WdD K ad σ) none (WdD K ad (p_X5_setTabStop σ)) := by
  refine Mt.v (by decide +kernel) (Nat.le_of_ble_eq_true rfl) (fun X C hret => ?_)
  show WD X K 1 0 0 (WdD K ad σ) [(0, .ref (ad 1))] 0 []
  refine wd_aload_n C dX5_setTabStop_0 rfl 0 rfl ?_
  refine wd_dup C dX5_setTabStop_1 rfl ?_
  refine gfD_1_6 (x := σ.1 3) C tw_150 rfl dX5_setTabStop_2 ?_
  refine wd_iconst (v := 1) C dX5_setTabStop_5 (by decide) ?_
  refine wd_aload_n C dX5_setTabStop_6 rfl 0 rfl ?_
  refine gfD_1_2 C tw_143 dX5_setTabStop_7 ?_
  refine gfD_8_1 (x := σ.1 7) C tw_120 rfl dX5_setTabStop_10 ?_
  refine wd_ishl C dX5_setTabStop_13 ?_
  refine wd_ior C dX5_setTabStop_14 ?_
  refine pfD_1_6 C tw_150 ((σ.1 3) ||| (1 <<< ((σ.1 7) &&& 31))) dX5_setTabStop_15 ?_
  have e9 : p_X5_setTabStop σ = si σ 3 ((σ.1 3) ||| (1 <<< ((σ.1 7) &&& 31))) := by rfl
  exact hret _ _ _ (by rw [e9] <;> rfl) dX5_setTabStop_18
def p_X5_removeTabStops_s1 (σ : St) (p1 : Int32) : St := (if p1 = 0 then si σ 3 ((σ.1 3) &&& ((1 <<< ((σ.1 7) &&& 31)) ^^^ (-1))) else (if p1 = 3 then si σ 3 0 else σ))
def p_X5_removeTabStops (σ : St) (p1 : Int32) : St := (p_X5_removeTabStops_s1 σ p1)
set_option maxHeartbeats 4000000 in
set_option maxRecDepth 100000 in
theorem c_X5_removeTabStops (l : Launch) (K : KX) (ad : Nat → Nat) (σ : St) (p1 : Int32) : Mt l K yX5_removeTabStops cX5_removeTabStops 2 none { frames := 0, cells := 0, slots := 0, locals := 0 } [.ref (ad 1), .int p1] (WdD K ad σ) none (WdD K ad (p_X5_removeTabStops σ p1)) := by
  refine Mt.v (by decide +kernel) (Nat.le_of_ble_eq_true rfl) (fun X C hret => ?_)
  show WD X K 2 0 0 (WdD K ad σ) [(0, .ref (ad 1)), (1, .int p1)] 0 []
  refine wd_iload_n C dX5_removeTabStops_0 rfl 1 rfl ?_
  have J_1 : WD X K 2 0 0 (WdD K ad (p_X5_removeTabStops_s1 σ p1)) [(0, .ref (ad 1)), (1, .int p1)] 37 [] := by
    have e9 : p_X5_removeTabStops σ p1 = (p_X5_removeTabStops_s1 σ p1) := by rfl
    exact hret _ _ _ (by rw [e9] <;> rfl) dX5_removeTabStops_37
  refine wd_if_ne C 27 dX5_removeTabStops_1 (by decide) (fun c_1 => ?_) (fun c_1 => ?_)
  · refine wd_iload_n C dX5_removeTabStops_27 rfl 1 rfl ?_
    refine wd_iconst (v := 3) C dX5_removeTabStops_28 (by decide) ?_
    refine wd_icmp_ne C 37 dX5_removeTabStops_29 (by decide) (fun c_29 => ?_) (fun c_29 => ?_)
    · have ej_0 : p_X5_removeTabStops_s1 σ p1 = σ := by unfold p_X5_removeTabStops_s1; rw [if_neg c_1, if_neg c_29]
      rw [ej_0] at J_1
      exact wd_lv [0, 1] _ rfl J_1
    · refine wd_aload_n C dX5_removeTabStops_32 rfl 0 rfl ?_
      refine wd_iconst (v := 0) C dX5_removeTabStops_33 (by decide) ?_
      refine pfD_1_6 C tw_150 0 dX5_removeTabStops_34 ?_
      have ej_0 : p_X5_removeTabStops_s1 σ p1 = si σ 3 0 := by unfold p_X5_removeTabStops_s1; rw [if_neg c_1, if_pos c_29]
      rw [ej_0] at J_1
      exact wd_lv [0, 1] _ rfl J_1
  · refine wd_aload_n C dX5_removeTabStops_4 rfl 0 rfl ?_
    refine wd_dup C dX5_removeTabStops_5 rfl ?_
    refine gfD_1_6 (x := σ.1 3) C tw_150 rfl dX5_removeTabStops_6 ?_
    refine wd_iconst (v := 1) C dX5_removeTabStops_9 (by decide) ?_
    refine wd_aload_n C dX5_removeTabStops_10 rfl 0 rfl ?_
    refine gfD_1_2 C tw_143 dX5_removeTabStops_11 ?_
    refine gfD_8_1 (x := σ.1 7) C tw_120 rfl dX5_removeTabStops_14 ?_
    refine wd_ishl C dX5_removeTabStops_17 ?_
    refine wd_iconst (v := (-1)) C dX5_removeTabStops_18 (by decide) ?_
    refine wd_ixor C dX5_removeTabStops_19 ?_
    refine wd_iand C dX5_removeTabStops_20 ?_
    refine pfD_1_6 C tw_150 ((σ.1 3) &&& ((1 <<< ((σ.1 7) &&& 31)) ^^^ (-1))) dX5_removeTabStops_21 ?_
    refine wd_goto C 37 dX5_removeTabStops_24 (by decide) ?_
    have ej_0 : p_X5_removeTabStops_s1 σ p1 = si σ 3 ((σ.1 3) &&& ((1 <<< ((σ.1 7) &&& 31)) ^^^ (-1))) := by unfold p_X5_removeTabStops_s1; rw [if_pos c_1]
    rw [ej_0] at J_1
    exact wd_lv [0, 1] _ rfl J_1
def p_X5_setRegion_s1 (σ : St) (p1 : Int32) (p2 : Int32) : St := (if p2 ≤ p1 then σ else (if 7 < p2 then σ else (p_X5_moveTo (si (si σ 1 p1) 2 p2) 0 0)))
def p_X5_setRegion (σ : St) (p1 : Int32) (p2 : Int32) : St := (p_X5_setRegion_s1 σ p1 p2)
set_option maxHeartbeats 4000000 in
set_option maxRecDepth 100000 in
theorem c_X5_setRegion (l : Launch) (K : KX) (ad : Nat → Nat) (σ : St) (p1 : Int32) (p2 : Int32) : Mt l K yX5_setRegion cX5_setRegion 3 none { frames := 2, cells := 0, slots := 0, locals := 46 } [.ref (ad 1), .int p1, .int p2] (WdD K ad σ) none (WdD K ad (p_X5_setRegion σ p1 p2)) := by
  refine Mt.v (by decide +kernel) (Nat.le_of_ble_eq_true rfl) (fun X C hret => ?_)
  show WD X K 3 0 0 (WdD K ad σ) [(0, .ref (ad 1)), (1, .int p1), (2, .int p2)] 0 []
  refine wd_iload_n C dX5_setRegion_0 rfl 1 rfl ?_
  refine wd_iload_n C dX5_setRegion_1 rfl 2 rfl ?_
  have J_2 : WD X K 3 0 0 (WdD K ad (p_X5_setRegion_s1 σ p1 p2)) [(0, .ref (ad 1)), (1, .int p1), (2, .int p2)] 27 [] := by
    have e9 : p_X5_setRegion σ p1 p2 = (p_X5_setRegion_s1 σ p1 p2) := by rfl
    exact hret _ _ _ (by rw [e9] <;> rfl) dX5_setRegion_27
  refine wd_icmp_ge C 27 dX5_setRegion_2 (by decide) (fun c_2 => ?_) (fun c_2 => ?_)
  · have ej_0 : p_X5_setRegion_s1 σ p1 p2 = σ := by unfold p_X5_setRegion_s1; rw [if_pos c_2]
    rw [ej_0] at J_2
    exact wd_lv [0, 1, 2] _ rfl J_2
  · refine wd_iload_n C dX5_setRegion_5 rfl 2 rfl ?_
    refine wd_bipush (v := 7) C dX5_setRegion_6 (by decide) ?_
    refine wd_icmp_gt C 27 dX5_setRegion_8 (by decide) (fun c_8 => ?_) (fun c_8 => ?_)
    · have ej_0 : p_X5_setRegion_s1 σ p1 p2 = σ := by unfold p_X5_setRegion_s1; rw [if_neg c_2, if_pos c_8]
      rw [ej_0] at J_2
      exact wd_lv [0, 1, 2] _ rfl J_2
    · refine wd_aload_n C dX5_setRegion_11 rfl 0 rfl ?_
      refine wd_iload_n C dX5_setRegion_12 rfl 1 rfl ?_
      refine pfD_1_4 C tw_146 p1 dX5_setRegion_13 ?_
      refine wd_aload_n C dX5_setRegion_16 rfl 0 rfl ?_
      refine wd_iload_n C dX5_setRegion_17 rfl 2 rfl ?_
      refine pfD_1_5 C tw_148 p2 dX5_setRegion_18 ?_
      refine wd_aload_n C dX5_setRegion_21 rfl 0 rfl ?_
      refine wd_iconst (v := 0) C dX5_setRegion_22 (by decide) ?_
      refine wd_iconst (v := 0) C dX5_setRegion_23 (by decide) ?_
      refine wd_callV C 2 (c_X5_moveTo _ K ad (si (si σ 1 p1) 2 p2) 0 0) 1 (wcD_1 K ad _) rfl rfl tw_489 tw_490 tw_491 tw_65 tw_492 (by decide +kernel) rfl (by decide) (Nat.le_of_ble_eq_true rfl) dX5_setRegion_24 _ rfl ?_
      have ej_0 : p_X5_setRegion_s1 σ p1 p2 = (p_X5_moveTo (si (si σ 1 p1) 2 p2) 0 0) := by unfold p_X5_setRegion_s1; rw [if_neg c_2, if_neg c_8]
      rw [ej_0] at J_2
      exact wd_lv [0, 1, 2] _ rfl J_2
def p_X5_showPage_s1 (σ : St) (p1 : Bool) : St := (if p1 = true then (if σ.2.1 2 = true then σ else (q_X3_clear_P3 σ 0 95)) else σ)
def p_X5_showPage (σ : St) (p1 : Bool) : St := sb (p_X5_showPage_s1 σ p1) 2 p1
set_option maxHeartbeats 4000000 in
set_option maxRecDepth 100000 in
theorem c_X5_showPage (l : Launch) (K : KX) (ad : Nat → Nat) (σ : St) (p1 : Bool) : Mt l K yX5_showPage cX5_showPage 2 none { frames := 1, cells := 0, slots := 0, locals := 23 } [.ref (ad 1), .int (b2i p1)] (WdD K ad σ) none (WdD K ad (p_X5_showPage σ p1)) := by
  refine Mt.v (by decide +kernel) (Nat.le_of_ble_eq_true rfl) (fun X C hret => ?_)
  show WD X K 2 0 0 (WdD K ad σ) [(0, .ref (ad 1)), (1, .int (b2i p1))] 0 []
  refine wd_iload_n C dX5_showPage_0 rfl 1 rfl ?_
  have J_1 : WD X K 2 0 0 (WdD K ad (p_X5_showPage_s1 σ p1)) [(0, .ref (ad 1)), (1, .int (b2i p1))] 21 [] := by
    refine wd_aload_n C dX5_showPage_21 rfl 0 rfl ?_
    refine wd_iload_n C dX5_showPage_22 rfl 1 rfl ?_
    refine pfD_1_9 C tw_155 p1 dX5_showPage_23 ?_
    have e9 : p_X5_showPage σ p1 = sb (p_X5_showPage_s1 σ p1) 2 p1 := by rfl
    exact hret _ _ _ (by rw [e9] <;> rfl) dX5_showPage_26
  refine wd_if_eqB (b := p1) C 21 dX5_showPage_1 (by decide) (fun c_1 => ?_) (fun c_1 => ?_)
  · have ej_0 : p_X5_showPage_s1 σ p1 = σ := by unfold p_X5_showPage_s1; rw [if_neg c_1]
    rw [ej_0] at J_1
    exact wd_lv [0, 1] _ rfl J_1
  · refine wd_aload_n C dX5_showPage_4 rfl 0 rfl ?_
    refine gfD_1_9 (x := σ.2.1 2) C tw_155 rfl dX5_showPage_5 ?_
    refine wd_if_neB (b := σ.2.1 2) C 21 dX5_showPage_8 (by decide) (fun c_8 => ?_) (fun c_8 => ?_)
    · have ej_0 : p_X5_showPage_s1 σ p1 = σ := by unfold p_X5_showPage_s1; rw [if_pos c_1, if_pos c_8]
      rw [ej_0] at J_1
      exact wd_lv [0, 1] _ rfl J_1
    · refine wd_aload_n C dX5_showPage_11 rfl 0 rfl ?_
      refine gfD_1_1 C tw_142 dX5_showPage_12 ?_
      refine wd_iconst (v := 0) C dX5_showPage_15 (by decide) ?_
      refine wd_bipush (v := 95) C dX5_showPage_16 (by decide) ?_
      refine wd_callV C 2 (cD_X3_clear_P3 _ K ad σ 0 95) 3 (wcD_3 K ad _) rfl rfl tw_254 tw_255 tw_256 tw_66 tw_257 (by decide +kernel) rfl (by decide) (Nat.le_of_ble_eq_true rfl) dX5_showPage_18 _ rfl ?_
      have ej_0 : p_X5_showPage_s1 σ p1 = (q_X3_clear_P3 σ 0 95) := by unfold p_X5_showPage_s1; rw [if_pos c_1, if_neg c_8]
      rw [ej_0] at J_1
      exact wd_lv [0, 1] _ rfl J_1
def p_X5_switchPrivate_s1 (σ : St) (p1 : Int32) (p2 : Bool) : St := (if p1 = 6 then (p_X5_moveTo (sb σ 4 p2) 0 0) else (if p1 = 7 then sb σ 1 p2 else (if p1 = 47 then (p_X5_showPage σ p2) else σ)))
def p_X5_switchPrivate (σ : St) (p1 : Int32) (p2 : Bool) : St := (p_X5_switchPrivate_s1 σ p1 p2)
set_option maxHeartbeats 4000000 in
set_option maxRecDepth 100000 in
theorem c_X5_switchPrivate (l : Launch) (K : KX) (ad : Nat → Nat) (σ : St) (p1 : Int32) (p2 : Bool) : Mt l K yX5_switchPrivate cX5_switchPrivate 3 none { frames := 2, cells := 0, slots := 0, locals := 46 } [.ref (ad 1), .int p1, .int (b2i p2)] (WdD K ad σ) none (WdD K ad (p_X5_switchPrivate σ p1 p2)) := by
  refine Mt.v (by decide +kernel) (Nat.le_of_ble_eq_true rfl) (fun X C hret => ?_)
  show WD X K 3 0 0 (WdD K ad σ) [(0, .ref (ad 1)), (1, .int p1), (2, .int (b2i p2))] 0 []
  refine wd_iload_n C dX5_switchPrivate_0 rfl 1 rfl ?_
  have J_1 : WD X K 3 0 0 (WdD K ad (p_X5_switchPrivate_s1 σ p1 p2)) [(0, .ref (ad 1)), (1, .int p1), (2, .int (b2i p2))] 69 [] := by
    have e9 : p_X5_switchPrivate σ p1 p2 = (p_X5_switchPrivate_s1 σ p1 p2) := by rfl
    exact hret _ _ _ (by rw [e9] <;> rfl) dX5_switchPrivate_69
  by_cases c_1_6 : p1 = 6
  · refine wd_lsw (off := 35) C 36 dX5_switchPrivate_1 (by decide) (by rw [c_1_6]; decide +kernel) (by decide) ?_
    refine wd_aload_n C dX5_switchPrivate_36 rfl 0 rfl ?_
    refine gfD_1_2 C tw_143 dX5_switchPrivate_37 ?_
    refine wd_iload_n C dX5_switchPrivate_40 rfl 2 rfl ?_
    refine pfD_8_4 C tw_129 p2 dX5_switchPrivate_41 ?_
    refine wd_aload_n C dX5_switchPrivate_44 rfl 0 rfl ?_
    refine wd_iconst (v := 0) C dX5_switchPrivate_45 (by decide) ?_
    refine wd_iconst (v := 0) C dX5_switchPrivate_46 (by decide) ?_
    refine wd_callV C 2 (c_X5_moveTo _ K ad (sb σ 4 p2) 0 0) 1 (wcD_1 K ad _) rfl rfl tw_489 tw_490 tw_491 tw_65 tw_492 (by decide +kernel) rfl (by decide) (Nat.le_of_ble_eq_true rfl) dX5_switchPrivate_47 _ rfl ?_
    refine wd_goto C 69 dX5_switchPrivate_50 (by decide) ?_
    have ej_0 : p_X5_switchPrivate_s1 σ p1 p2 = (p_X5_moveTo (sb σ 4 p2) 0 0) := by unfold p_X5_switchPrivate_s1; rw [if_pos c_1_6]
    rw [ej_0] at J_1
    exact wd_lv [0, 1, 2] _ rfl J_1
  by_cases c_1_7 : p1 = 7
  · refine wd_lsw (off := 52) C 53 dX5_switchPrivate_1 (by decide) (by rw [c_1_7]; decide +kernel) (by decide) ?_
    refine wd_aload_n C dX5_switchPrivate_53 rfl 0 rfl ?_
    refine wd_iload_n C dX5_switchPrivate_54 rfl 2 rfl ?_
    refine pfD_1_8 C tw_153 p2 dX5_switchPrivate_55 ?_
    refine wd_goto C 69 dX5_switchPrivate_58 (by decide) ?_
    have ej_0 : p_X5_switchPrivate_s1 σ p1 p2 = sb σ 1 p2 := by unfold p_X5_switchPrivate_s1; rw [if_neg c_1_6, if_pos c_1_7]
    rw [ej_0] at J_1
    exact wd_lv [0, 1, 2] _ rfl J_1
  by_cases c_1_47 : p1 = 47
  · refine wd_lsw (off := 60) C 61 dX5_switchPrivate_1 (by decide) (by rw [c_1_47]; decide +kernel) (by decide) ?_
    refine wd_aload_n C dX5_switchPrivate_61 rfl 0 rfl ?_
    refine wd_iload_n C dX5_switchPrivate_62 rfl 2 rfl ?_
    refine wd_callV C 1 (c_X5_showPage _ K ad σ p2) 1 (wcD_1 K ad _) rfl rfl tw_493 tw_495 tw_16 tw_65 tw_496 (by decide +kernel) rfl (by decide) (Nat.le_of_ble_eq_true rfl) dX5_switchPrivate_63 _ rfl ?_
    refine wd_goto C 69 dX5_switchPrivate_66 (by decide) ?_
    have ej_0 : p_X5_switchPrivate_s1 σ p1 p2 = (p_X5_showPage σ p2) := by unfold p_X5_switchPrivate_s1; rw [if_neg c_1_6, if_neg c_1_7, if_pos c_1_47]
    rw [ej_0] at J_1
    exact wd_lv [0, 1, 2] _ rfl J_1
  refine wd_lsw (off := 68) C 69 dX5_switchPrivate_1 (by decide) (by show Op.lookupswitch.offset [(6, 35), (7, 52), (47, 60)] 68 _ = _; rw [lv_osw (a := 6) c_1_6 (by decide), lv_osw (a := 7) c_1_7 (by decide), lv_osw (a := 47) c_1_47 (by decide)]; rfl) (by decide) ?_
  have ej_0 : p_X5_switchPrivate_s1 σ p1 p2 = σ := by unfold p_X5_switchPrivate_s1; rw [if_neg c_1_6, if_neg c_1_7, if_neg c_1_47]
  rw [ej_0] at J_1
  exact wd_lv [0, 1, 2] _ rfl J_1
def p_X5_rowToTell_t1 (σ : St) : Int32 := (if σ.1 1 ≤ σ.1 6 then ((σ.1 6) - (σ.1 1)) + 1 else 0)
def p_X5_rowToTell (σ : St) : Int32 := (if σ.2.1 4 = true then (p_X5_rowToTell_t1 σ) else (σ.1 6) + 1)
set_option maxHeartbeats 4000000 in
set_option maxRecDepth 100000 in
theorem c_X5_rowToTell (l : Launch) (K : KX) (ad : Nat → Nat) (σ : St) : Mt l K yX5_rowToTell cX5_rowToTell 1 (some .int) { frames := 0, cells := 0, slots := 0, locals := 0 } [.ref (ad 1)] (WdD K ad σ) (some (.int (p_X5_rowToTell σ))) (WdD K ad σ) := by
  refine Mt.i (by decide +kernel) (Nat.le_of_ble_eq_true rfl) (fun X C hret => ?_)
  show WD X K 1 0 0 (WdD K ad σ) [(0, .ref (ad 1))] 0 []
  refine wd_aload_n C dX5_rowToTell_0 rfl 0 rfl ?_
  refine gfD_1_2 C tw_143 dX5_rowToTell_1 ?_
  refine gfD_8_4 (x := σ.2.1 4) C tw_129 rfl dX5_rowToTell_4 ?_
  refine wd_if_neB (b := σ.2.1 4) C 20 dX5_rowToTell_7 (by decide) (fun c_7 => ?_) (fun c_7 => ?_)
  · refine wd_aload_n C dX5_rowToTell_20 rfl 0 rfl ?_
    refine gfD_1_2 C tw_143 dX5_rowToTell_21 ?_
    refine gfD_8_0 (x := σ.1 6) C tw_117 rfl dX5_rowToTell_24 ?_
    refine wd_aload_n C dX5_rowToTell_27 rfl 0 rfl ?_
    refine gfD_1_4 (x := σ.1 1) C tw_146 rfl dX5_rowToTell_28 ?_
    have J_31 : WD X K 1 0 0 (WdD K ad σ) [(0, .ref (ad 1))] 52 [.int (p_X5_rowToTell_t1 σ)] := by
      have e9 : p_X5_rowToTell σ = (p_X5_rowToTell_t1 σ) := by unfold p_X5_rowToTell; rw [if_pos c_7]
      exact hret _ _ _ _ (by rw [e9]) rfl dX5_rowToTell_52
    refine wd_icmp_ge C 38 dX5_rowToTell_31 (by decide) (fun c_31 => ?_) (fun c_31 => ?_)
    · refine wd_aload_n C dX5_rowToTell_38 rfl 0 rfl ?_
      refine gfD_1_2 C tw_143 dX5_rowToTell_39 ?_
      refine gfD_8_0 (x := σ.1 6) C tw_117 rfl dX5_rowToTell_42 ?_
      refine wd_aload_n C dX5_rowToTell_45 rfl 0 rfl ?_
      refine gfD_1_4 (x := σ.1 1) C tw_146 rfl dX5_rowToTell_46 ?_
      refine wd_isub C dX5_rowToTell_49 ?_
      refine wd_iconst (v := 1) C dX5_rowToTell_50 (by decide) ?_
      refine wd_iadd C dX5_rowToTell_51 ?_
      have ej_0 : p_X5_rowToTell_t1 σ = ((σ.1 6) - (σ.1 1)) + 1 := by unfold p_X5_rowToTell_t1; rw [if_pos c_31]
      rw [ej_0] at J_31
      exact wd_lv [0] _ rfl J_31
    · refine wd_iconst (v := 0) C dX5_rowToTell_34 (by decide) ?_
      refine wd_goto C 52 dX5_rowToTell_35 (by decide) ?_
      have ej_0 : p_X5_rowToTell_t1 σ = 0 := by unfold p_X5_rowToTell_t1; rw [if_neg c_31]
      rw [ej_0] at J_31
      exact wd_lv [0] _ rfl J_31
  · refine wd_aload_n C dX5_rowToTell_10 rfl 0 rfl ?_
    refine gfD_1_2 C tw_143 dX5_rowToTell_11 ?_
    refine gfD_8_0 (x := σ.1 6) C tw_117 rfl dX5_rowToTell_14 ?_
    refine wd_iconst (v := 1) C dX5_rowToTell_17 (by decide) ?_
    refine wd_iadd C dX5_rowToTell_18 ?_
    have e9 : p_X5_rowToTell σ = (σ.1 6) + 1 := by unfold p_X5_rowToTell; rw [if_neg c_7]
    exact hret _ _ _ _ (by rw [e9]) rfl dX5_rowToTell_19
