def p_X5_repeat_l1 (σ : St) (p1 : Int32) : Nat → St → Int32 → St × Int32
  | 0, s, x3 => (s, x3)
  | n + 1, s, x3 => (if (if 24 < p1 then 24 else p1) ≤ x3 then (s, x3) else p_X5_repeat_l1 σ p1 n ((p_X5_print s (s.1 5))) (x3 + 1))
def p_X5_repeat (σ : St) (p1 : Int32) : St := (if σ.1 5 = (-1) then σ else (p_X5_repeat_l1 σ p1 24 σ 0).1)
set_option maxHeartbeats 4000000 in
set_option maxRecDepth 100000 in
theorem c_X5_repeat (l : Launch) (K : KX) (ad : Nat → Nat) (σ : St) (p1 : Int32) : Mt l K yX5_repeat cX5_repeat 4 none { frames := 3, cells := 0, slots := 0, locals := 66 } [.ref (ad 1), .int p1] (WdD K ad σ) none (WdD K ad (p_X5_repeat σ p1)) := by
  refine Mt.v (by decide +kernel) (Nat.le_of_ble_eq_true rfl) (fun X C hret => ?_)
  show WD X K 4 0 0 (WdD K ad σ) [(0, .ref (ad 1)), (1, .int p1)] 0 []
  refine wd_aload_n C dX5_repeat_0 rfl 0 rfl ?_
  refine gfD_1_11 (x := σ.1 5) C tw_159 rfl dX5_repeat_1 ?_
  refine wd_iconst (v := (-1)) C dX5_repeat_4 (by decide) ?_
  refine wd_icmp_ne C 9 dX5_repeat_5 (by decide) (fun c_5 => ?_) (fun c_5 => ?_)
  · refine wd_iload_n C dX5_repeat_9 rfl 1 rfl ?_
    refine wd_bipush (v := 24) C dX5_repeat_10 (by decide) ?_
    refine wd_min C tw_388 (by decide) (Nat.le_of_ble_eq_true rfl) (by decide) (by decide) dX5_repeat_12 ?_
    refine wd_istore_n C [(2, .int (if 24 < p1 then 24 else p1)), (0, .ref (ad 1)), (1, .int p1)] dX5_repeat_15 rfl (by decide) rfl ?_
    refine wd_iconst (v := 0) C dX5_repeat_16 (by decide) ?_
    refine wd_istore_n C [(3, .int 0), (2, .int (if 24 < p1 then 24 else p1)), (0, .ref (ad 1)), (1, .int p1)] dX5_repeat_17 rfl (by decide) rfl ?_
    have J_18 : WD X K 4 0 0 (WdD K ad ((p_X5_repeat_l1 σ p1 24 σ 0).1)) [(0, .ref (ad 1)), (1, .int p1), (2, .int (if 24 < p1 then 24 else p1)), (3, .int ((p_X5_repeat_l1 σ p1 24 σ 0).2))] 37 [] := by
      have e9 : p_X5_repeat σ p1 = (p_X5_repeat_l1 σ p1 24 σ 0).1 := by unfold p_X5_repeat; rw [if_neg c_5]
      exact hret _ _ _ (by rw [e9] <;> rfl) dX5_repeat_37
    have L_18 : ∀ (n : Nat) (s : St) (x3 : Int32), p_X5_repeat_l1 σ p1 n s x3 = p_X5_repeat_l1 σ p1 24 σ 0 → 0 ≤ x3.toInt ∧ (if 24 < p1 then 24 else p1 : Int32).toInt - x3.toInt ≤ (n : Int) → WD X K 4 0 0 (WdD K ad s) [(0, .ref (ad 1)), (1, .int p1), (2, .int (if 24 < p1 then 24 else p1)), (3, .int x3)] 18 [] := by
      intro n
      induction n with
      | zero =>
        intro s x3 hE hI
        refine wd_iload_n C dX5_repeat_18 rfl 3 rfl ?_
        refine wd_iload_n C dX5_repeat_19 rfl 2 rfl ?_
        refine wd_icmp_ge C 37 dX5_repeat_20 (by decide) (fun c_20 => ?_) (fun c_20 => ?_)
        · have eL := hE
          rw [p_X5_repeat_l1] at eL
          rw [← eL] at J_18
          exact wd_lv [0, 1, 2, 3] _ rfl J_18
        · exact absurd (ti_le.mpr (by have h0 := hI.2; omega)) c_20
      | succ n ih =>
        intro s x3 hE hI
        refine wd_iload_n C dX5_repeat_18 rfl 3 rfl ?_
        refine wd_iload_n C dX5_repeat_19 rfl 2 rfl ?_
        refine wd_icmp_ge C 37 dX5_repeat_20 (by decide) (fun c_20 => ?_) (fun c_20 => ?_)
        · have eL := hE
          rw [p_X5_repeat_l1, if_pos c_20] at eL
          rw [← eL] at J_18
          exact wd_lv [0, 1, 2, 3] _ rfl J_18
        · refine wd_aload_n C dX5_repeat_23 rfl 0 rfl ?_
          refine wd_aload_n C dX5_repeat_24 rfl 0 rfl ?_
          refine gfD_1_11 (x := s.1 5) C tw_159 rfl dX5_repeat_25 ?_
          refine wd_callV C 1 (c_X5_print _ K ad s (s.1 5)) 1 (wcD_1 K ad _) rfl rfl tw_562 tw_329 tw_330 tw_65 tw_331 (by decide +kernel) rfl (by decide) (Nat.le_of_ble_eq_true rfl) dX5_repeat_28 _ rfl ?_
          refine wd_iinc (v := x3 + 1) C [(3, .int (x3 + 1)), (0, .ref (ad 1)), (1, .int p1), (2, .int (if 24 < p1 then 24 else p1))] dX5_repeat_31 3 rfl (by rfl) (by decide) rfl ?_
          refine wd_goto C 18 dX5_repeat_34 (by decide) ?_
          have eL := hE
          rw [p_X5_repeat_l1, if_neg c_20] at eL
          exact wd_lv [1, 2, 3, 0] _ rfl (ih ((p_X5_print s (s.1 5))) (x3 + 1) eL (by have h0 : ¬ (if 24 < p1 then 24 else p1 : Int32).toInt ≤ x3.toInt := (fun z => c_20 (ti_le.mpr z)); have h1 := hI.1; have h2 := hI.2; have z1 : (1 : Int32).toInt = 1 := (by decide); have m := min24 p1; have e1 := ti_add (a := x3) (b := 1) (by omega) (by omega); constructor <;> omega))
    exact wd_lv [2, 3, 1, 0] _ rfl (L_18 24 σ 0 rfl (by have m := min24 p1; have z : (0 : Int32).toInt = 0 := (by decide); constructor <;> omega))
  · have e9 : p_X5_repeat σ p1 = σ := by unfold p_X5_repeat; rw [if_pos c_5]
    exact hret _ _ _ (by rw [e9] <;> rfl) dX5_repeat_8
def p_X5_scrollUp (σ : St) (p1 : Int32) : St := (q_X3_pull_pg σ (p_X5_regionStart σ) (p_X5_regionEnd σ) (p1 * 12))
set_option maxHeartbeats 4000000 in
set_option maxRecDepth 100000 in
theorem c_X5_scrollUp (l : Launch) (K : KX) (ad : Nat → Nat) (σ : St) (p1 : Int32) (hn : 0 ≤ p1.toInt ∧ p1.toInt ≤ 9999) : Mt l K yX5_scrollUp cX5_scrollUp 2 none { frames := 1, cells := 0, slots := 0, locals := 25 } [.ref (ad 1), .int p1] (WdD K ad σ) none (WdD K ad (p_X5_scrollUp σ p1)) := by
  refine Mt.v (by decide +kernel) (Nat.le_of_ble_eq_true rfl) (fun X C hret => ?_)
  show WD X K 2 0 0 (WdD K ad σ) [(0, .ref (ad 1)), (1, .int p1)] 0 []
  refine wd_aload_n C dX5_scrollUp_0 rfl 0 rfl ?_
  refine wd_callV C 0 (c_X5_page _ K ad σ) 1 (wcD_1 K ad _) rfl rfl tw_336 tw_337 tw_338 tw_65 tw_339 (by decide +kernel) rfl (by decide) (Nat.le_of_ble_eq_true rfl) dX5_scrollUp_1 _ rfl ?_
  refine wd_aload_n C dX5_scrollUp_4 rfl 0 rfl ?_
  refine wd_callV C 0 (c_X5_regionStart _ K ad σ) 1 (wcD_1 K ad _) rfl rfl tw_340 tw_342 tw_3 tw_65 tw_343 (by decide +kernel) rfl (by decide) (Nat.le_of_ble_eq_true rfl) dX5_scrollUp_5 _ rfl ?_
  refine wd_aload_n C dX5_scrollUp_8 rfl 0 rfl ?_
  refine wd_callV C 0 (c_X5_regionEnd _ K ad σ) 1 (wcD_1 K ad _) rfl rfl tw_344 tw_346 tw_4 tw_65 tw_347 (by decide +kernel) rfl (by decide) (Nat.le_of_ble_eq_true rfl) dX5_scrollUp_9 _ rfl ?_
  refine wd_iload_n C dX5_scrollUp_12 rfl 1 rfl ?_
  refine wd_bipush (v := 12) C dX5_scrollUp_13 (by decide) ?_
  refine wd_imul C dX5_scrollUp_15 ?_
  refine wd_callV C 3 (cD_X3_pull_pg _ K ad σ (p_X5_regionStart σ) (p_X5_regionEnd σ) (p1 * 12) (by have z : (12 : Int32).toInt = 12 := (by decide); have h1 := hn.1; have h2 := hn.2; rw [ti_mul (by rw [z]; omega) (by rw [z]; omega), z]; omega)) _ (wcD_pg K ad σ) rfl rfl tw_348 tw_349 tw_350 tw_66 tw_351 (by decide +kernel) rfl (by decide) (Nat.le_of_ble_eq_true rfl) dX5_scrollUp_16 _ rfl ?_
  have e9 : p_X5_scrollUp σ p1 = (q_X3_pull_pg σ (p_X5_regionStart σ) (p_X5_regionEnd σ) (p1 * 12)) := by rfl
  exact hret _ _ _ (by rw [e9] <;> rfl) dX5_scrollUp_19
def p_X5_scrollDown (σ : St) (p1 : Int32) : St := (q_X3_push_pg σ (p_X5_regionStart σ) (p_X5_regionEnd σ) (p1 * 12))
set_option maxHeartbeats 4000000 in
set_option maxRecDepth 100000 in
theorem c_X5_scrollDown (l : Launch) (K : KX) (ad : Nat → Nat) (σ : St) (p1 : Int32) : Mt l K yX5_scrollDown cX5_scrollDown 2 none { frames := 1, cells := 0, slots := 0, locals := 25 } [.ref (ad 1), .int p1] (WdD K ad σ) none (WdD K ad (p_X5_scrollDown σ p1)) := by
  refine Mt.v (by decide +kernel) (Nat.le_of_ble_eq_true rfl) (fun X C hret => ?_)
  show WD X K 2 0 0 (WdD K ad σ) [(0, .ref (ad 1)), (1, .int p1)] 0 []
  refine wd_aload_n C dX5_scrollDown_0 rfl 0 rfl ?_
  refine wd_callV C 0 (c_X5_page _ K ad σ) 1 (wcD_1 K ad _) rfl rfl tw_336 tw_337 tw_338 tw_65 tw_339 (by decide +kernel) rfl (by decide) (Nat.le_of_ble_eq_true rfl) dX5_scrollDown_1 _ rfl ?_
  refine wd_aload_n C dX5_scrollDown_4 rfl 0 rfl ?_
  refine wd_callV C 0 (c_X5_regionStart _ K ad σ) 1 (wcD_1 K ad _) rfl rfl tw_340 tw_342 tw_3 tw_65 tw_343 (by decide +kernel) rfl (by decide) (Nat.le_of_ble_eq_true rfl) dX5_scrollDown_5 _ rfl ?_
  refine wd_aload_n C dX5_scrollDown_8 rfl 0 rfl ?_
  refine wd_callV C 0 (c_X5_regionEnd _ K ad σ) 1 (wcD_1 K ad _) rfl rfl tw_344 tw_346 tw_4 tw_65 tw_347 (by decide +kernel) rfl (by decide) (Nat.le_of_ble_eq_true rfl) dX5_scrollDown_9 _ rfl ?_
  refine wd_iload_n C dX5_scrollDown_12 rfl 1 rfl ?_
  refine wd_bipush (v := 12) C dX5_scrollDown_13 (by decide) ?_
  refine wd_imul C dX5_scrollDown_15 ?_
  refine wd_callV C 3 (cD_X3_push_pg _ K ad σ (p_X5_regionStart σ) (p_X5_regionEnd σ) (p1 * 12)) _ (wcD_pg K ad σ) rfl rfl tw_364 tw_365 tw_366 tw_66 tw_367 (by decide +kernel) rfl (by decide) (Nat.le_of_ble_eq_true rfl) dX5_scrollDown_16 _ rfl ?_
  have e9 : p_X5_scrollDown σ p1 = (q_X3_push_pg σ (p_X5_regionStart σ) (p_X5_regionEnd σ) (p1 * 12)) := by rfl
  exact hret _ _ _ (by rw [e9] <;> rfl) dX5_scrollDown_19
def p_X5_putInRows_s1 (σ : St) (p1 : Int32) : St := (if (p_X5_isInRegion σ) = true then (q_X3_push_pg σ (p_X5_rowStart σ) (p_X5_regionEnd σ) (p1 * 12)) else σ)
def p_X5_putInRows (σ : St) (p1 : Int32) : St := (p_X5_putInRows_s1 σ p1)
set_option maxHeartbeats 4000000 in
set_option maxRecDepth 100000 in
theorem c_X5_putInRows (l : Launch) (K : KX) (ad : Nat → Nat) (σ : St) (p1 : Int32) : Mt l K yX5_putInRows cX5_putInRows 2 none { frames := 1, cells := 0, slots := 0, locals := 25 } [.ref (ad 1), .int p1] (WdD K ad σ) none (WdD K ad (p_X5_putInRows σ p1)) := by
  refine Mt.v (by decide +kernel) (Nat.le_of_ble_eq_true rfl) (fun X C hret => ?_)
  show WD X K 2 0 0 (WdD K ad σ) [(0, .ref (ad 1)), (1, .int p1)] 0 []
  refine wd_aload_n C dX5_putInRows_0 rfl 0 rfl ?_
  refine wd_callV C 0 (c_X5_isInRegion _ K ad σ) 1 (wcD_1 K ad _) rfl rfl tw_542 tw_544 tw_18 tw_65 tw_545 (by decide +kernel) rfl (by decide) (Nat.le_of_ble_eq_true rfl) dX5_putInRows_1 _ rfl ?_
  have J_4 : WD X K 2 0 0 (WdD K ad (p_X5_putInRows_s1 σ p1)) [(0, .ref (ad 1)), (1, .int p1)] 26 [] := by
    have e9 : p_X5_putInRows σ p1 = (p_X5_putInRows_s1 σ p1) := by rfl
    exact hret _ _ _ (by rw [e9] <;> rfl) dX5_putInRows_26
  refine wd_if_eqB (b := (p_X5_isInRegion σ)) C 26 dX5_putInRows_4 (by decide) (fun c_4 => ?_) (fun c_4 => ?_)
  · have ej_0 : p_X5_putInRows_s1 σ p1 = σ := by unfold p_X5_putInRows_s1; rw [if_neg c_4]
    rw [ej_0] at J_4
    exact wd_lv [0, 1] _ rfl J_4
  · refine wd_aload_n C dX5_putInRows_7 rfl 0 rfl ?_
    refine wd_callV C 0 (c_X5_page _ K ad σ) 1 (wcD_1 K ad _) rfl rfl tw_336 tw_337 tw_338 tw_65 tw_339 (by decide +kernel) rfl (by decide) (Nat.le_of_ble_eq_true rfl) dX5_putInRows_8 _ rfl ?_
    refine wd_aload_n C dX5_putInRows_11 rfl 0 rfl ?_
    refine wd_callV C 0 (c_X5_rowStart _ K ad σ) 1 (wcD_1 K ad _) rfl rfl tw_356 tw_358 tw_6 tw_65 tw_359 (by decide +kernel) rfl (by decide) (Nat.le_of_ble_eq_true rfl) dX5_putInRows_12 _ rfl ?_
    refine wd_aload_n C dX5_putInRows_15 rfl 0 rfl ?_
    refine wd_callV C 0 (c_X5_regionEnd _ K ad σ) 1 (wcD_1 K ad _) rfl rfl tw_344 tw_346 tw_4 tw_65 tw_347 (by decide +kernel) rfl (by decide) (Nat.le_of_ble_eq_true rfl) dX5_putInRows_16 _ rfl ?_
    refine wd_iload_n C dX5_putInRows_19 rfl 1 rfl ?_
    refine wd_bipush (v := 12) C dX5_putInRows_20 (by decide) ?_
    refine wd_imul C dX5_putInRows_22 ?_
    refine wd_callV C 3 (cD_X3_push_pg _ K ad σ (p_X5_rowStart σ) (p_X5_regionEnd σ) (p1 * 12)) _ (wcD_pg K ad σ) rfl rfl tw_364 tw_365 tw_366 tw_66 tw_367 (by decide +kernel) rfl (by decide) (Nat.le_of_ble_eq_true rfl) dX5_putInRows_23 _ rfl ?_
    have ej_0 : p_X5_putInRows_s1 σ p1 = (q_X3_push_pg σ (p_X5_rowStart σ) (p_X5_regionEnd σ) (p1 * 12)) := by unfold p_X5_putInRows_s1; rw [if_pos c_4]
    rw [ej_0] at J_4
    exact wd_lv [0, 1] _ rfl J_4
def p_X5_takeOutRows_s1 (σ : St) (p1 : Int32) : St := (if (p_X5_isInRegion σ) = true then (q_X3_pull_pg σ (p_X5_rowStart σ) (p_X5_regionEnd σ) (p1 * 12)) else σ)
def p_X5_takeOutRows (σ : St) (p1 : Int32) : St := (p_X5_takeOutRows_s1 σ p1)
set_option maxHeartbeats 4000000 in
set_option maxRecDepth 100000 in
theorem c_X5_takeOutRows (l : Launch) (K : KX) (ad : Nat → Nat) (σ : St) (p1 : Int32) (hn : 0 ≤ p1.toInt ∧ p1.toInt ≤ 9999) : Mt l K yX5_takeOutRows cX5_takeOutRows 2 none { frames := 1, cells := 0, slots := 0, locals := 25 } [.ref (ad 1), .int p1] (WdD K ad σ) none (WdD K ad (p_X5_takeOutRows σ p1)) := by
  refine Mt.v (by decide +kernel) (Nat.le_of_ble_eq_true rfl) (fun X C hret => ?_)
  show WD X K 2 0 0 (WdD K ad σ) [(0, .ref (ad 1)), (1, .int p1)] 0 []
  refine wd_aload_n C dX5_takeOutRows_0 rfl 0 rfl ?_
  refine wd_callV C 0 (c_X5_isInRegion _ K ad σ) 1 (wcD_1 K ad _) rfl rfl tw_542 tw_544 tw_18 tw_65 tw_545 (by decide +kernel) rfl (by decide) (Nat.le_of_ble_eq_true rfl) dX5_takeOutRows_1 _ rfl ?_
  have J_4 : WD X K 2 0 0 (WdD K ad (p_X5_takeOutRows_s1 σ p1)) [(0, .ref (ad 1)), (1, .int p1)] 26 [] := by
    have e9 : p_X5_takeOutRows σ p1 = (p_X5_takeOutRows_s1 σ p1) := by rfl
    exact hret _ _ _ (by rw [e9] <;> rfl) dX5_takeOutRows_26
  refine wd_if_eqB (b := (p_X5_isInRegion σ)) C 26 dX5_takeOutRows_4 (by decide) (fun c_4 => ?_) (fun c_4 => ?_)
  · have ej_0 : p_X5_takeOutRows_s1 σ p1 = σ := by unfold p_X5_takeOutRows_s1; rw [if_neg c_4]
    rw [ej_0] at J_4
    exact wd_lv [0, 1] _ rfl J_4
  · refine wd_aload_n C dX5_takeOutRows_7 rfl 0 rfl ?_
    refine wd_callV C 0 (c_X5_page _ K ad σ) 1 (wcD_1 K ad _) rfl rfl tw_336 tw_337 tw_338 tw_65 tw_339 (by decide +kernel) rfl (by decide) (Nat.le_of_ble_eq_true rfl) dX5_takeOutRows_8 _ rfl ?_
    refine wd_aload_n C dX5_takeOutRows_11 rfl 0 rfl ?_
    refine wd_callV C 0 (c_X5_rowStart _ K ad σ) 1 (wcD_1 K ad _) rfl rfl tw_356 tw_358 tw_6 tw_65 tw_359 (by decide +kernel) rfl (by decide) (Nat.le_of_ble_eq_true rfl) dX5_takeOutRows_12 _ rfl ?_
    refine wd_aload_n C dX5_takeOutRows_15 rfl 0 rfl ?_
    refine wd_callV C 0 (c_X5_regionEnd _ K ad σ) 1 (wcD_1 K ad _) rfl rfl tw_344 tw_346 tw_4 tw_65 tw_347 (by decide +kernel) rfl (by decide) (Nat.le_of_ble_eq_true rfl) dX5_takeOutRows_16 _ rfl ?_
    refine wd_iload_n C dX5_takeOutRows_19 rfl 1 rfl ?_
    refine wd_bipush (v := 12) C dX5_takeOutRows_20 (by decide) ?_
    refine wd_imul C dX5_takeOutRows_22 ?_
    refine wd_callV C 3 (cD_X3_pull_pg _ K ad σ (p_X5_rowStart σ) (p_X5_regionEnd σ) (p1 * 12) (by have z : (12 : Int32).toInt = 12 := (by decide); have h1 := hn.1; have h2 := hn.2; rw [ti_mul (by rw [z]; omega) (by rw [z]; omega), z]; omega)) _ (wcD_pg K ad σ) rfl rfl tw_348 tw_349 tw_350 tw_66 tw_351 (by decide +kernel) rfl (by decide) (Nat.le_of_ble_eq_true rfl) dX5_takeOutRows_23 _ rfl ?_
    have ej_0 : p_X5_takeOutRows_s1 σ p1 = (q_X3_pull_pg σ (p_X5_rowStart σ) (p_X5_regionEnd σ) (p1 * 12)) := by unfold p_X5_takeOutRows_s1; rw [if_pos c_4]
    rw [ej_0] at J_4
    exact wd_lv [0, 1] _ rfl J_4
def p_X5_putInCells (σ : St) (p1 : Int32) : St := (q_X3_push_pg σ (p_X5_cell σ) (p_X5_rowEnd σ) p1)
set_option maxHeartbeats 4000000 in
set_option maxRecDepth 100000 in
theorem c_X5_putInCells (l : Launch) (K : KX) (ad : Nat → Nat) (σ : St) (p1 : Int32) : Mt l K yX5_putInCells cX5_putInCells 2 none { frames := 2, cells := 0, slots := 0, locals := 40 } [.ref (ad 1), .int p1] (WdD K ad σ) none (WdD K ad (p_X5_putInCells σ p1)) := by
  refine Mt.v (by decide +kernel) (Nat.le_of_ble_eq_true rfl) (fun X C hret => ?_)
  show WD X K 2 0 0 (WdD K ad σ) [(0, .ref (ad 1)), (1, .int p1)] 0 []
  refine wd_aload_n C dX5_putInCells_0 rfl 0 rfl ?_
  refine wd_callV C 0 (c_X5_page _ K ad σ) 1 (wcD_1 K ad _) rfl rfl tw_336 tw_337 tw_338 tw_65 tw_339 (by decide +kernel) rfl (by decide) (Nat.le_of_ble_eq_true rfl) dX5_putInCells_1 _ rfl ?_
  refine wd_aload_n C dX5_putInCells_4 rfl 0 rfl ?_
  refine wd_callV C 0 (c_X5_cell _ K ad σ) 1 (wcD_1 K ad _) rfl rfl tw_352 tw_354 tw_5 tw_65 tw_355 (by decide +kernel) rfl (by decide) (Nat.le_of_ble_eq_true rfl) dX5_putInCells_5 _ rfl ?_
  refine wd_aload_n C dX5_putInCells_8 rfl 0 rfl ?_
  refine wd_callV C 0 (c_X5_rowEnd _ K ad σ) 1 (wcD_1 K ad _) rfl rfl tw_360 tw_362 tw_7 tw_65 tw_363 (by decide +kernel) rfl (by decide) (Nat.le_of_ble_eq_true rfl) dX5_putInCells_9 _ rfl ?_
  refine wd_iload_n C dX5_putInCells_12 rfl 1 rfl ?_
  refine wd_callV C 3 (cD_X3_push_pg _ K ad σ (p_X5_cell σ) (p_X5_rowEnd σ) p1) _ (wcD_pg K ad σ) rfl rfl tw_364 tw_365 tw_366 tw_66 tw_367 (by decide +kernel) rfl (by decide) (Nat.le_of_ble_eq_true rfl) dX5_putInCells_13 _ rfl ?_
  have e9 : p_X5_putInCells σ p1 = (q_X3_push_pg σ (p_X5_cell σ) (p_X5_rowEnd σ) p1) := by rfl
  exact hret _ _ _ (by rw [e9] <;> rfl) dX5_putInCells_16
def p_X5_takeOutCells (σ : St) (p1 : Int32) : St := (q_X3_pull_pg σ (p_X5_cell σ) (p_X5_rowEnd σ) p1)
set_option maxHeartbeats 4000000 in
set_option maxRecDepth 100000 in
theorem c_X5_takeOutCells (l : Launch) (K : KX) (ad : Nat → Nat) (σ : St) (p1 : Int32) (hn : 0 ≤ p1.toInt ∧ p1.toInt ≤ 9999) : Mt l K yX5_takeOutCells cX5_takeOutCells 2 none { frames := 2, cells := 0, slots := 0, locals := 40 } [.ref (ad 1), .int p1] (WdD K ad σ) none (WdD K ad (p_X5_takeOutCells σ p1)) := by
  refine Mt.v (by decide +kernel) (Nat.le_of_ble_eq_true rfl) (fun X C hret => ?_)
  show WD X K 2 0 0 (WdD K ad σ) [(0, .ref (ad 1)), (1, .int p1)] 0 []
  refine wd_aload_n C dX5_takeOutCells_0 rfl 0 rfl ?_
  refine wd_callV C 0 (c_X5_page _ K ad σ) 1 (wcD_1 K ad _) rfl rfl tw_336 tw_337 tw_338 tw_65 tw_339 (by decide +kernel) rfl (by decide) (Nat.le_of_ble_eq_true rfl) dX5_takeOutCells_1 _ rfl ?_
  refine wd_aload_n C dX5_takeOutCells_4 rfl 0 rfl ?_
  refine wd_callV C 0 (c_X5_cell _ K ad σ) 1 (wcD_1 K ad _) rfl rfl tw_352 tw_354 tw_5 tw_65 tw_355 (by decide +kernel) rfl (by decide) (Nat.le_of_ble_eq_true rfl) dX5_takeOutCells_5 _ rfl ?_
  refine wd_aload_n C dX5_takeOutCells_8 rfl 0 rfl ?_
  refine wd_callV C 0 (c_X5_rowEnd _ K ad σ) 1 (wcD_1 K ad _) rfl rfl tw_360 tw_362 tw_7 tw_65 tw_363 (by decide +kernel) rfl (by decide) (Nat.le_of_ble_eq_true rfl) dX5_takeOutCells_9 _ rfl ?_
  refine wd_iload_n C dX5_takeOutCells_12 rfl 1 rfl ?_
  refine wd_callV C 3 (cD_X3_pull_pg _ K ad σ (p_X5_cell σ) (p_X5_rowEnd σ) p1 (by have := hn.2; omega)) _ (wcD_pg K ad σ) rfl rfl tw_348 tw_349 tw_350 tw_66 tw_351 (by decide +kernel) rfl (by decide) (Nat.le_of_ble_eq_true rfl) dX5_takeOutCells_13 _ rfl ?_
  have e9 : p_X5_takeOutCells σ p1 = (q_X3_pull_pg σ (p_X5_cell σ) (p_X5_rowEnd σ) p1) := by rfl
  exact hret _ _ _ (by rw [e9] <;> rfl) dX5_takeOutCells_16
def p_X5_clearCells (σ : St) (p1 : Int32) : St := (q_X3_clear_pg σ (p_X5_cell σ) ((if (p_X5_rowEnd σ) < ((p_X5_cell σ) + p1) - 1 then (p_X5_rowEnd σ) else ((p_X5_cell σ) + p1) - 1)))
set_option maxHeartbeats 4000000 in
set_option maxRecDepth 100000 in
theorem c_X5_clearCells (l : Launch) (K : KX) (ad : Nat → Nat) (σ : St) (p1 : Int32) : Mt l K yX5_clearCells cX5_clearCells 2 none { frames := 2, cells := 0, slots := 0, locals := 40 } [.ref (ad 1), .int p1] (WdD K ad σ) none (WdD K ad (p_X5_clearCells σ p1)) := by
  refine Mt.v (by decide +kernel) (Nat.le_of_ble_eq_true rfl) (fun X C hret => ?_)
  show WD X K 2 0 0 (WdD K ad σ) [(0, .ref (ad 1)), (1, .int p1)] 0 []
  refine wd_aload_n C dX5_clearCells_0 rfl 0 rfl ?_
  refine wd_callV C 0 (c_X5_page _ K ad σ) 1 (wcD_1 K ad _) rfl rfl tw_336 tw_337 tw_338 tw_65 tw_339 (by decide +kernel) rfl (by decide) (Nat.le_of_ble_eq_true rfl) dX5_clearCells_1 _ rfl ?_
  refine wd_aload_n C dX5_clearCells_4 rfl 0 rfl ?_
  refine wd_callV C 0 (c_X5_cell _ K ad σ) 1 (wcD_1 K ad _) rfl rfl tw_352 tw_354 tw_5 tw_65 tw_355 (by decide +kernel) rfl (by decide) (Nat.le_of_ble_eq_true rfl) dX5_clearCells_5 _ rfl ?_
  refine wd_aload_n C dX5_clearCells_8 rfl 0 rfl ?_
  refine wd_callV C 0 (c_X5_cell _ K ad σ) 1 (wcD_1 K ad _) rfl rfl tw_352 tw_354 tw_5 tw_65 tw_355 (by decide +kernel) rfl (by decide) (Nat.le_of_ble_eq_true rfl) dX5_clearCells_9 _ rfl ?_
  refine wd_iload_n C dX5_clearCells_12 rfl 1 rfl ?_
  refine wd_iadd C dX5_clearCells_13 ?_
  refine wd_iconst (v := 1) C dX5_clearCells_14 (by decide) ?_
  refine wd_isub C dX5_clearCells_15 ?_
  refine wd_aload_n C dX5_clearCells_16 rfl 0 rfl ?_
  refine wd_callV C 0 (c_X5_rowEnd _ K ad σ) 1 (wcD_1 K ad _) rfl rfl tw_360 tw_362 tw_7 tw_65 tw_363 (by decide +kernel) rfl (by decide) (Nat.le_of_ble_eq_true rfl) dX5_clearCells_17 _ rfl ?_
  refine wd_min C tw_388 (by decide) (Nat.le_of_ble_eq_true rfl) (by decide) (by decide) dX5_clearCells_20 ?_
  refine wd_callV C 2 (cD_X3_clear_pg _ K ad σ (p_X5_cell σ) ((if (p_X5_rowEnd σ) < ((p_X5_cell σ) + p1) - 1 then (p_X5_rowEnd σ) else ((p_X5_cell σ) + p1) - 1))) _ (wcD_pg K ad σ) rfl rfl tw_254 tw_255 tw_256 tw_66 tw_257 (by decide +kernel) rfl (by decide) (Nat.le_of_ble_eq_true rfl) dX5_clearCells_23 _ rfl ?_
  have e9 : p_X5_clearCells σ p1 = (q_X3_clear_pg σ (p_X5_cell σ) ((if (p_X5_rowEnd σ) < ((p_X5_cell σ) + p1) - 1 then (p_X5_rowEnd σ) else ((p_X5_cell σ) + p1) - 1))) := by rfl
  exact hret _ _ _ (by rw [e9] <;> rfl) dX5_clearCells_26
def p_X5_clearWithin_s1 (σ : St) (p1 : Int32) (p2 : Int32) (p3 : Int32) : St := (if p3 = 0 then (q_X3_clear_pg σ (p_X5_cell σ) p2) else (if p3 = 1 then (q_X3_clear_pg σ p1 (p_X5_cell σ)) else (if p3 = 2 then (q_X3_clear_pg σ p1 p2) else σ)))
def p_X5_clearWithin (σ : St) (p1 : Int32) (p2 : Int32) (p3 : Int32) : St := (p_X5_clearWithin_s1 σ p1 p2 p3)
set_option maxHeartbeats 4000000 in
set_option maxRecDepth 100000 in
theorem c_X5_clearWithin (l : Launch) (K : KX) (ad : Nat → Nat) (σ : St) (p1 : Int32) (p2 : Int32) (p3 : Int32) : Mt l K yX5_clearWithin cX5_clearWithin 4 none { frames := 2, cells := 0, slots := 0, locals := 40 } [.ref (ad 1), .int p1, .int p2, .int p3] (WdD K ad σ) none (WdD K ad (p_X5_clearWithin σ p1 p2 p3)) := by
  refine Mt.v (by decide +kernel) (Nat.le_of_ble_eq_true rfl) (fun X C hret => ?_)
  show WD X K 4 0 0 (WdD K ad σ) [(0, .ref (ad 1)), (1, .int p1), (2, .int p2), (3, .int p3)] 0 []
  refine wd_iload_n C dX5_clearWithin_0 rfl 3 rfl ?_
  have J_1 : WD X K 4 0 0 (WdD K ad (p_X5_clearWithin_s1 σ p1 p2 p3)) [(0, .ref (ad 1)), (1, .int p1), (2, .int p2), (3, .int p3)] 70 [] := by
    have e9 : p_X5_clearWithin σ p1 p2 p3 = (p_X5_clearWithin_s1 σ p1 p2 p3) := by rfl
    exact hret _ _ _ (by rw [e9] <;> rfl) dX5_clearWithin_70
  by_cases c_1_0 : p3 = 0
  · refine wd_tsw C 28 dX5_clearWithin_1 (by decide) (by rw [c_1_0]; decide +kernel) ?_
    refine wd_aload_n C dX5_clearWithin_28 rfl 0 rfl ?_
    refine wd_callV C 0 (c_X5_page _ K ad σ) 1 (wcD_1 K ad _) rfl rfl tw_336 tw_337 tw_338 tw_65 tw_339 (by decide +kernel) rfl (by decide) (Nat.le_of_ble_eq_true rfl) dX5_clearWithin_29 _ rfl ?_
    refine wd_aload_n C dX5_clearWithin_32 rfl 0 rfl ?_
    refine wd_callV C 0 (c_X5_cell _ K ad σ) 1 (wcD_1 K ad _) rfl rfl tw_352 tw_354 tw_5 tw_65 tw_355 (by decide +kernel) rfl (by decide) (Nat.le_of_ble_eq_true rfl) dX5_clearWithin_33 _ rfl ?_
    refine wd_iload_n C dX5_clearWithin_36 rfl 2 rfl ?_
    refine wd_callV C 2 (cD_X3_clear_pg _ K ad σ (p_X5_cell σ) p2) _ (wcD_pg K ad σ) rfl rfl tw_254 tw_255 tw_256 tw_66 tw_257 (by decide +kernel) rfl (by decide) (Nat.le_of_ble_eq_true rfl) dX5_clearWithin_37 _ rfl ?_
    refine wd_goto C 70 dX5_clearWithin_40 (by decide) ?_
    have ej_0 : p_X5_clearWithin_s1 σ p1 p2 p3 = (q_X3_clear_pg σ (p_X5_cell σ) p2) := by unfold p_X5_clearWithin_s1; rw [if_pos c_1_0]
    rw [ej_0] at J_1
    exact wd_lv [0, 1, 2, 3] _ rfl J_1
  by_cases c_1_1 : p3 = 1
  · refine wd_tsw C 43 dX5_clearWithin_1 (by decide) (by rw [c_1_1]; decide +kernel) ?_
    refine wd_aload_n C dX5_clearWithin_43 rfl 0 rfl ?_
    refine wd_callV C 0 (c_X5_page _ K ad σ) 1 (wcD_1 K ad _) rfl rfl tw_336 tw_337 tw_338 tw_65 tw_339 (by decide +kernel) rfl (by decide) (Nat.le_of_ble_eq_true rfl) dX5_clearWithin_44 _ rfl ?_
    refine wd_iload_n C dX5_clearWithin_47 rfl 1 rfl ?_
    refine wd_aload_n C dX5_clearWithin_48 rfl 0 rfl ?_
    refine wd_callV C 0 (c_X5_cell _ K ad σ) 1 (wcD_1 K ad _) rfl rfl tw_352 tw_354 tw_5 tw_65 tw_355 (by decide +kernel) rfl (by decide) (Nat.le_of_ble_eq_true rfl) dX5_clearWithin_49 _ rfl ?_
    refine wd_callV C 2 (cD_X3_clear_pg _ K ad σ p1 (p_X5_cell σ)) _ (wcD_pg K ad σ) rfl rfl tw_254 tw_255 tw_256 tw_66 tw_257 (by decide +kernel) rfl (by decide) (Nat.le_of_ble_eq_true rfl) dX5_clearWithin_52 _ rfl ?_
    refine wd_goto C 70 dX5_clearWithin_55 (by decide) ?_
    have ej_0 : p_X5_clearWithin_s1 σ p1 p2 p3 = (q_X3_clear_pg σ p1 (p_X5_cell σ)) := by unfold p_X5_clearWithin_s1; rw [if_neg c_1_0, if_pos c_1_1]
    rw [ej_0] at J_1
    exact wd_lv [0, 1, 2, 3] _ rfl J_1
  by_cases c_1_2 : p3 = 2
  · refine wd_tsw C 58 dX5_clearWithin_1 (by decide) (by rw [c_1_2]; decide +kernel) ?_
    refine wd_aload_n C dX5_clearWithin_58 rfl 0 rfl ?_
    refine wd_callV C 0 (c_X5_page _ K ad σ) 1 (wcD_1 K ad _) rfl rfl tw_336 tw_337 tw_338 tw_65 tw_339 (by decide +kernel) rfl (by decide) (Nat.le_of_ble_eq_true rfl) dX5_clearWithin_59 _ rfl ?_
    refine wd_iload_n C dX5_clearWithin_62 rfl 1 rfl ?_
    refine wd_iload_n C dX5_clearWithin_63 rfl 2 rfl ?_
    refine wd_callV C 2 (cD_X3_clear_pg _ K ad σ p1 p2) _ (wcD_pg K ad σ) rfl rfl tw_254 tw_255 tw_256 tw_66 tw_257 (by decide +kernel) rfl (by decide) (Nat.le_of_ble_eq_true rfl) dX5_clearWithin_64 _ rfl ?_
    refine wd_goto C 70 dX5_clearWithin_67 (by decide) ?_
    have ej_0 : p_X5_clearWithin_s1 σ p1 p2 p3 = (q_X3_clear_pg σ p1 p2) := by unfold p_X5_clearWithin_s1; rw [if_neg c_1_0, if_neg c_1_1, if_pos c_1_2]
    rw [ej_0] at J_1
    exact wd_lv [0, 1, 2, 3] _ rfl J_1
  refine wd_tsw C 70 dX5_clearWithin_1 (by decide) (by rw [swT_d [0, 1, 2] (List.forall_mem_cons.mpr ⟨lv_neT c_1_0 (by decide), List.forall_mem_cons.mpr ⟨lv_neT c_1_1 (by decide), List.forall_mem_cons.mpr ⟨lv_neT c_1_2 (by decide), fun _ h => absurd h List.not_mem_nil⟩⟩⟩) (by decide +kernel)]; decide) ?_
  have ej_0 : p_X5_clearWithin_s1 σ p1 p2 p3 = σ := by unfold p_X5_clearWithin_s1; rw [if_neg c_1_0, if_neg c_1_1, if_neg c_1_2]
  rw [ej_0] at J_1
  exact wd_lv [0, 1, 2, 3] _ rfl J_1
def p_X5_clearInPage (σ : St) (p1 : Int32) : St := (p_X5_clearWithin σ 0 95 p1)
set_option maxHeartbeats 4000000 in
set_option maxRecDepth 100000 in
theorem c_X5_clearInPage (l : Launch) (K : KX) (ad : Nat → Nat) (σ : St) (p1 : Int32) : Mt l K yX5_clearInPage cX5_clearInPage 2 none { frames := 3, cells := 0, slots := 0, locals := 63 } [.ref (ad 1), .int p1] (WdD K ad σ) none (WdD K ad (p_X5_clearInPage σ p1)) := by
  refine Mt.v (by decide +kernel) (Nat.le_of_ble_eq_true rfl) (fun X C hret => ?_)
  show WD X K 2 0 0 (WdD K ad σ) [(0, .ref (ad 1)), (1, .int p1)] 0 []
  refine wd_aload_n C dX5_clearInPage_0 rfl 0 rfl ?_
  refine wd_iconst (v := 0) C dX5_clearInPage_1 (by decide) ?_
  refine wd_bipush (v := 95) C dX5_clearInPage_2 (by decide) ?_
  refine wd_iload_n C dX5_clearInPage_4 rfl 1 rfl ?_
  refine wd_callV C 3 (c_X5_clearWithin _ K ad σ 0 95 p1) 1 (wcD_1 K ad _) rfl rfl tw_518 tw_520 tw_17 tw_65 tw_521 (by decide +kernel) rfl (by decide) (Nat.le_of_ble_eq_true rfl) dX5_clearInPage_5 _ rfl ?_
  have e9 : p_X5_clearInPage σ p1 = (p_X5_clearWithin σ 0 95 p1) := by rfl
  exact hret _ _ _ (by rw [e9] <;> rfl) dX5_clearInPage_8
def p_X5_clearInRow (σ : St) (p1 : Int32) : St := (p_X5_clearWithin σ (p_X5_rowStart σ) (p_X5_rowEnd σ) p1)
set_option maxHeartbeats 4000000 in
set_option maxRecDepth 100000 in
theorem c_X5_clearInRow (l : Launch) (K : KX) (ad : Nat → Nat) (σ : St) (p1 : Int32) : Mt l K yX5_clearInRow cX5_clearInRow 2 none { frames := 3, cells := 0, slots := 0, locals := 63 } [.ref (ad 1), .int p1] (WdD K ad σ) none (WdD K ad (p_X5_clearInRow σ p1)) := by
  refine Mt.v (by decide +kernel) (Nat.le_of_ble_eq_true rfl) (fun X C hret => ?_)
  show WD X K 2 0 0 (WdD K ad σ) [(0, .ref (ad 1)), (1, .int p1)] 0 []
  refine wd_aload_n C dX5_clearInRow_0 rfl 0 rfl ?_
  refine wd_aload_n C dX5_clearInRow_1 rfl 0 rfl ?_
  refine wd_callV C 0 (c_X5_rowStart _ K ad σ) 1 (wcD_1 K ad _) rfl rfl tw_356 tw_358 tw_6 tw_65 tw_359 (by decide +kernel) rfl (by decide) (Nat.le_of_ble_eq_true rfl) dX5_clearInRow_2 _ rfl ?_
  refine wd_aload_n C dX5_clearInRow_5 rfl 0 rfl ?_
  refine wd_callV C 0 (c_X5_rowEnd _ K ad σ) 1 (wcD_1 K ad _) rfl rfl tw_360 tw_362 tw_7 tw_65 tw_363 (by decide +kernel) rfl (by decide) (Nat.le_of_ble_eq_true rfl) dX5_clearInRow_6 _ rfl ?_
  refine wd_iload_n C dX5_clearInRow_9 rfl 1 rfl ?_
  refine wd_callV C 3 (c_X5_clearWithin _ K ad σ (p_X5_rowStart σ) (p_X5_rowEnd σ) p1) 1 (wcD_1 K ad _) rfl rfl tw_518 tw_520 tw_17 tw_65 tw_521 (by decide +kernel) rfl (by decide) (Nat.le_of_ble_eq_true rfl) dX5_clearInRow_10 _ rfl ?_
  have e9 : p_X5_clearInRow σ p1 = (p_X5_clearWithin σ (p_X5_rowStart σ) (p_X5_rowEnd σ) p1) := by rfl
  exact hret _ _ _ (by rw [e9] <;> rfl) dX5_clearInRow_13
