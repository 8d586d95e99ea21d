def p_X7_isCell_t1 (σ : St) (p0 : Int32) (p1 : Int32) : Bool := (if p0 < 0 then false else (if 8 ≤ p0 then false else (if p1 < 0 then false else (if 12 ≤ p1 then false else true))))
def p_X7_isCell (σ : St) (p0 : Int32) (p1 : Int32) : Bool := (p_X7_isCell_t1 σ p0 p1)
set_option maxHeartbeats 4000000 in
set_option maxRecDepth 100000 in
theorem c_X7_isCell (l : Launch) (K : KX) (wd : va_W) (σ : St) (p0 : Int32) (p1 : Int32) : Mt l K yX7_isCell cX7_isCell 2 (some .boolean) { frames := 0, cells := 0, slots := 0, locals := 0 } [.int p0, .int p1] wd (some (.int (b2i (p_X7_isCell σ p0 p1)))) wd := by
  refine Mt.z (by decide +kernel) (Nat.le_of_ble_eq_true rfl) (fun X C hret => ?_)
  show WD X K 2 0 0 wd [(0, .int p0), (1, .int p1)] 0 []
  refine wd_iload_n C dX7_isCell_0 rfl 0 rfl ?_
  have J_1 : WD X K 2 0 0 wd [(0, .int p0), (1, .int p1)] 25 [.int (b2i (p_X7_isCell_t1 σ p0 p1))] := by
    have e9 : p_X7_isCell σ p0 p1 = (p_X7_isCell_t1 σ p0 p1) := by rfl
    exact hret (p_X7_isCell_t1 σ p0 p1) _ _ _ (by rw [e9]) rfl dX7_isCell_25
  refine wd_if_lt C 24 dX7_isCell_1 (by decide) (fun c_1 => ?_) (fun c_1 => ?_)
  · refine wd_iconst (v := 0) C dX7_isCell_24 (by decide) ?_
    have ej_0 : p_X7_isCell_t1 σ p0 p1 = false := by unfold p_X7_isCell_t1; rw [if_pos c_1]
    rw [ej_0] at J_1
    exact wd_lv [0, 1] _ rfl J_1
  · refine wd_iload_n C dX7_isCell_4 rfl 0 rfl ?_
    refine wd_bipush (v := 8) C dX7_isCell_5 (by decide) ?_
    refine wd_icmp_ge C 24 dX7_isCell_7 (by decide) (fun c_7 => ?_) (fun c_7 => ?_)
    · refine wd_iconst (v := 0) C dX7_isCell_24 (by decide) ?_
      have ej_0 : p_X7_isCell_t1 σ p0 p1 = false := by unfold p_X7_isCell_t1; rw [if_neg c_1, if_pos c_7]
      rw [ej_0] at J_1
      exact wd_lv [0, 1] _ rfl J_1
    · refine wd_iload_n C dX7_isCell_10 rfl 1 rfl ?_
      refine wd_if_lt C 24 dX7_isCell_11 (by decide) (fun c_11 => ?_) (fun c_11 => ?_)
      · refine wd_iconst (v := 0) C dX7_isCell_24 (by decide) ?_
        have ej_0 : p_X7_isCell_t1 σ p0 p1 = false := by unfold p_X7_isCell_t1; rw [if_neg c_1, if_neg c_7, if_pos c_11]
        rw [ej_0] at J_1
        exact wd_lv [0, 1] _ rfl J_1
      · refine wd_iload_n C dX7_isCell_14 rfl 1 rfl ?_
        refine wd_bipush (v := 12) C dX7_isCell_15 (by decide) ?_
        refine wd_icmp_ge C 24 dX7_isCell_17 (by decide) (fun c_17 => ?_) (fun c_17 => ?_)
        · refine wd_iconst (v := 0) C dX7_isCell_24 (by decide) ?_
          have ej_0 : p_X7_isCell_t1 σ p0 p1 = false := by unfold p_X7_isCell_t1; rw [if_neg c_1, if_neg c_7, if_neg c_11, if_pos c_17]
          rw [ej_0] at J_1
          exact wd_lv [0, 1] _ rfl J_1
        · refine wd_iconst (v := 1) C dX7_isCell_20 (by decide) ?_
          refine wd_goto C 25 dX7_isCell_21 (by decide) ?_
          have ej_0 : p_X7_isCell_t1 σ p0 p1 = true := by unfold p_X7_isCell_t1; rw [if_neg c_1, if_neg c_7, if_neg c_11, if_neg c_17]
          rw [ej_0] at J_1
          exact wd_lv [0, 1] _ rfl J_1
