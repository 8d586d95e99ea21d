def p_X7_doSequence_t1 (σ : St) (p1 : Int32) : Int32 := (if (q_X2_valueAt_N (si σ 0 0) 0) = 0 then 1 else (q_X2_valueAt_N (si σ 0 0) 0))
def p_X7_doSequence_t2 (σ : St) (p1 : Int32) : Int32 := (if (q_X2_valueAt_N (si σ 0 0) 1) = 0 then 0 else ((q_X2_valueAt_N (si σ 0 0) 1)) - 1)
def p_X7_doSequence_t3 (σ : St) (p1 : Int32) : Int32 := (if (q_X2_valueAt_N (si σ 0 0) 1) = 0 then 7 else ((q_X2_valueAt_N (si σ 0 0) 1)) - 1)
def p_X7_doSequence_s4 (σ : St) (p1 : Int32) : St := (if p1 = 64 then (p_X5_putInCells (si σ 0 0) (p_X7_doSequence_t1 σ p1)) else (if p1 = 65 then (p_X5_moveUp (si σ 0 0) (p_X7_doSequence_t1 σ p1)) else (if p1 = 66 then (p_X5_moveDown (si σ 0 0) (p_X7_doSequence_t1 σ p1)) else (if p1 = 67 then (p_X5_moveRight (si σ 0 0) (p_X7_doSequence_t1 σ p1)) else (if p1 = 68 then (p_X5_moveLeft (si σ 0 0) (p_X7_doSequence_t1 σ p1)) else (if p1 = 69 then (p_X5_moveToColumn ((p_X5_moveDown (si σ 0 0) (p_X7_doSequence_t1 σ p1))) 0) else (if p1 = 70 then (p_X5_moveToColumn ((p_X5_moveUp (si σ 0 0) (p_X7_doSequence_t1 σ p1))) 0) else (if p1 = 71 then (p_X5_moveToColumn (si σ 0 0) ((p_X7_doSequence_t1 σ p1) - 1)) else (if p1 = 72 then (p_X5_moveTo (si σ 0 0) ((p_X7_doSequence_t1 σ p1) - 1) (p_X7_doSequence_t2 σ p1)) else (if p1 = 74 then (p_X5_clearInPage (si σ 0 0) ((q_X2_valueAt_N (si σ 0 0) 0))) else (if p1 = 75 then (p_X5_clearInRow (si σ 0 0) ((q_X2_valueAt_N (si σ 0 0) 0))) else (if p1 = 76 then (p_X5_putInRows (si σ 0 0) (p_X7_doSequence_t1 σ p1)) else (if p1 = 77 then (p_X5_takeOutRows (si σ 0 0) (p_X7_doSequence_t1 σ p1)) else (if p1 = 80 then (p_X5_takeOutCells (si σ 0 0) (p_X7_doSequence_t1 σ p1)) else (if p1 = 83 then (p_X5_scrollUp (si σ 0 0) (p_X7_doSequence_t1 σ p1)) else (if p1 = 84 then (p_X5_scrollDown (si σ 0 0) (p_X7_doSequence_t1 σ p1)) else (if p1 = 88 then (p_X5_clearCells (si σ 0 0) (p_X7_doSequence_t1 σ p1)) else (if p1 = 98 then (p_X5_repeat (si σ 0 0) (p_X7_doSequence_t1 σ p1)) else (if p1 = 100 then (p_X5_moveToRow (si σ 0 0) ((p_X7_doSequence_t1 σ p1) - 1)) else (if p1 = 102 then (p_X5_moveTo (si σ 0 0) ((p_X7_doSequence_t1 σ p1) - 1) (p_X7_doSequence_t2 σ p1)) else (if p1 = 103 then (p_X5_removeTabStops (si σ 0 0) ((q_X2_valueAt_N (si σ 0 0) 0))) else (if p1 = 104 then (p_X7_switchInsert (si σ 0 0) true) else (if p1 = 108 then (p_X7_switchInsert (si σ 0 0) false) else (if p1 = 109 then (p_X7_paintAll (si σ 0 0)) else (if p1 = 110 then (p_X7_answer (si σ 0 0) ((q_X2_valueAt_N (si σ 0 0) 0))) else (if p1 = 114 then (p_X5_setRegion (si σ 0 0) ((p_X7_doSequence_t1 σ p1) - 1) (p_X7_doSequence_t3 σ p1)) else (if p1 = 115 then (p_X5_save (si σ 0 0)) else (if p1 = 117 then (p_X5_restore (si σ 0 0)) else si σ 0 0))))))))))))))))))))))))))))
def p_X7_doSequence (σ : St) (p1 : Int32) : St := (if σ.2.1 7 = true then (p_X7_doPrivate (si σ 0 0) p1) else (p_X7_doSequence_s4 σ p1))
theorem ds_n (σ : St) (p1 : Int32) (hO : Okn σ) : 0 ≤ (p_X7_doSequence_t1 σ p1).toInt ∧ (p_X7_doSequence_t1 σ p1).toInt ≤ 9999 := by
  unfold p_X7_doSequence_t1
  rw [val0]
  by_cases h : (si σ 0 0).2.2 4 0 = 0
  · rw [if_pos h]; decide
  · rw [if_neg h]; exact hO 0 (by decide)
set_option maxHeartbeats 4000000 in
set_option maxRecDepth 100000 in
theorem c_X7_doSequence (l : Launch) (K : KX) (ad : Nat → Nat) (σ : St) (p1 : Int32) (hO : Okn σ) : Mt l K yX7_doSequence cX7_doSequence 5 none { frames := 4, cells := 0, slots := 0, locals := 90 } [.ref (ad 0), .int p1] (WdD K ad σ) none (WdD K ad (p_X7_doSequence σ p1)) := by
  refine Mt.v (by decide +kernel) (Nat.le_of_ble_eq_true rfl) (fun X C hret => ?_)
  show WD X K 5 0 0 (WdD K ad σ) [(0, .ref (ad 0)), (1, .int p1)] 0 []
  refine wd_aload_n C dX7_doSequence_0 rfl 0 rfl ?_
  refine wd_iconst (v := 0) C dX7_doSequence_1 (by decide) ?_
  refine pfD_0_6 C tw_288 0 dX7_doSequence_2 ?_
  refine wd_aload_n C dX7_doSequence_5 rfl 0 rfl ?_
  refine gfD_0_2 C tw_284 dX7_doSequence_6 ?_
  refine gfD_11_2 (x := σ.2.1 7) C tw_211 rfl dX7_doSequence_9 ?_
  refine wd_if_eqB (b := σ.2.1 7) C 21 dX7_doSequence_12 (by decide) (fun c_12 => ?_) (fun c_12 => ?_)
  · refine wd_aload_n C dX7_doSequence_21 rfl 0 rfl ?_
    refine gfD_0_2 C tw_284 dX7_doSequence_22 ?_
    refine wd_iconst (v := 0) C dX7_doSequence_25 (by decide) ?_
    refine wd_callV C 1 (cD_X2_valueAt_N _ K ad (si σ 0 0) 0) 11 (wcD_11 K ad _) rfl rfl tw_481 tw_482 tw_483 tw_69 tw_484 (by decide +kernel) rfl (by decide) (Nat.le_of_ble_eq_true rfl) dX7_doSequence_26 _ rfl ?_
    refine wd_istore_n C [(2, .int ((q_X2_valueAt_N (si σ 0 0) 0))), (0, .ref (ad 0)), (1, .int p1)] dX7_doSequence_29 rfl (by decide) rfl ?_
    refine wd_aload_n C dX7_doSequence_30 rfl 1 rfl ?_
    refine gfD_0_2 C tw_284 dX7_doSequence_31 ?_
    refine wd_iconst (v := 1) C dX7_doSequence_34 (by decide) ?_
    refine wd_callV C 1 (cD_X2_valueAt_N _ K ad (si σ 0 0) 1) 11 (wcD_11 K ad _) rfl rfl tw_481 tw_482 tw_483 tw_69 tw_484 (by decide +kernel) rfl (by decide) (Nat.le_of_ble_eq_true rfl) dX7_doSequence_35 _ rfl ?_
    refine wd_istore_n C [(3, .int ((q_X2_valueAt_N (si σ 0 0) 1))), (2, .int ((q_X2_valueAt_N (si σ 0 0) 0))), (0, .ref (ad 0)), (1, .int p1)] dX7_doSequence_38 rfl (by decide) rfl ?_
    refine wd_iload_n C dX7_doSequence_39 rfl 1 rfl ?_
    have J_40 : WD X K 5 0 0 (WdD K ad (si σ 0 0)) [(0, .ref (ad 0)), (1, .int p1), (2, .int ((q_X2_valueAt_N (si σ 0 0) 0))), (3, .int ((q_X2_valueAt_N (si σ 0 0) 1)))] 48 [.int (p_X7_doSequence_t1 σ p1)] := by
      refine wd_istore C [(4, .int (p_X7_doSequence_t1 σ p1)), (0, .ref (ad 0)), (1, .int p1), (2, .int ((q_X2_valueAt_N (si σ 0 0) 0))), (3, .int ((q_X2_valueAt_N (si σ 0 0) 1)))] dX7_doSequence_48 (by decide) rfl ?_
      refine wd_iload_n C dX7_doSequence_50 rfl 2 rfl ?_
      have J_51 : WD X K 5 0 0 (WdD K ad (p_X7_doSequence_s4 σ p1)) [(0, .ref (ad 0)), (1, .int p1), (2, .int ((q_X2_valueAt_N (si σ 0 0) 0))), (3, .int ((q_X2_valueAt_N (si σ 0 0) 1))), (4, .int (p_X7_doSequence_t1 σ p1))] 627 [] := by
        have e9 : p_X7_doSequence σ p1 = (p_X7_doSequence_s4 σ p1) := by unfold p_X7_doSequence; rw [if_neg c_12]
        exact hret _ _ _ (by rw [e9] <;> rfl) dX7_doSequence_627
      by_cases c_51_64 : p1 = 64
      · refine wd_tsw C 455 dX7_doSequence_51 (by decide) (by rw [c_51_64]; decide +kernel) ?_
        refine wd_aload_n C dX7_doSequence_455 rfl 1 rfl ?_
        refine gfD_0_0 C tw_282 dX7_doSequence_456 ?_
        refine wd_iload C dX7_doSequence_459 0 rfl ?_
        refine wd_callV C 1 (c_X5_putInCells _ K ad (si σ 0 0) (p_X7_doSequence_t1 σ p1)) 1 (wcD_1 K ad _) rfl rfl tw_530 tw_531 tw_532 tw_65 tw_533 (by decide +kernel) rfl (by decide) (Nat.le_of_ble_eq_true rfl) dX7_doSequence_461 _ rfl ?_
        refine wd_goto C 627 dX7_doSequence_464 (by decide) ?_
        have ej_0 : p_X7_doSequence_s4 σ p1 = (p_X5_putInCells (si σ 0 0) (p_X7_doSequence_t1 σ p1)) := by unfold p_X7_doSequence_s4; rw [if_pos c_51_64]
        rw [ej_0] at J_51
        exact wd_lv [1, 2, 3, 4, 0] _ rfl J_51
      by_cases c_51_65 : p1 = 65
      · refine wd_tsw C 280 dX7_doSequence_51 (by decide) (by rw [c_51_65]; decide +kernel) ?_
        refine wd_aload_n C dX7_doSequence_280 rfl 1 rfl ?_
        refine gfD_0_0 C tw_282 dX7_doSequence_281 ?_
        refine wd_iload C dX7_doSequence_284 0 rfl ?_
        refine wd_callV C 1 (c_X5_moveUp _ K ad (si σ 0 0) (p_X7_doSequence_t1 σ p1)) 1 (wcD_1 K ad _) rfl rfl tw_497 tw_498 tw_499 tw_65 tw_500 (by decide +kernel) rfl (by decide) (Nat.le_of_ble_eq_true rfl) dX7_doSequence_286 _ rfl ?_
        refine wd_goto C 627 dX7_doSequence_289 (by decide) ?_
        have ej_0 : p_X7_doSequence_s4 σ p1 = (p_X5_moveUp (si σ 0 0) (p_X7_doSequence_t1 σ p1)) := by unfold p_X7_doSequence_s4; rw [if_neg c_51_64, if_pos c_51_65]
        rw [ej_0] at J_51
        exact wd_lv [1, 2, 3, 4, 0] _ rfl J_51
      by_cases c_51_66 : p1 = 66
      · refine wd_tsw C 292 dX7_doSequence_51 (by decide) (by rw [c_51_66]; decide +kernel) ?_
        refine wd_aload_n C dX7_doSequence_292 rfl 1 rfl ?_
        refine gfD_0_0 C tw_282 dX7_doSequence_293 ?_
        refine wd_iload C dX7_doSequence_296 0 rfl ?_
        refine wd_callV C 1 (c_X5_moveDown _ K ad (si σ 0 0) (p_X7_doSequence_t1 σ p1)) 1 (wcD_1 K ad _) rfl rfl tw_501 tw_502 tw_503 tw_65 tw_504 (by decide +kernel) rfl (by decide) (Nat.le_of_ble_eq_true rfl) dX7_doSequence_298 _ rfl ?_
        refine wd_goto C 627 dX7_doSequence_301 (by decide) ?_
        have ej_0 : p_X7_doSequence_s4 σ p1 = (p_X5_moveDown (si σ 0 0) (p_X7_doSequence_t1 σ p1)) := by unfold p_X7_doSequence_s4; rw [if_neg c_51_64, if_neg c_51_65, if_pos c_51_66]
        rw [ej_0] at J_51
        exact wd_lv [1, 2, 3, 4, 0] _ rfl J_51
      by_cases c_51_67 : p1 = 67
      · refine wd_tsw C 304 dX7_doSequence_51 (by decide) (by rw [c_51_67]; decide +kernel) ?_
        refine wd_aload_n C dX7_doSequence_304 rfl 1 rfl ?_
        refine gfD_0_0 C tw_282 dX7_doSequence_305 ?_
        refine wd_iload C dX7_doSequence_308 0 rfl ?_
        refine wd_callV C 1 (c_X5_moveRight _ K ad (si σ 0 0) (p_X7_doSequence_t1 σ p1)) 1 (wcD_1 K ad _) rfl rfl tw_505 tw_506 tw_507 tw_65 tw_508 (by decide +kernel) rfl (by decide) (Nat.le_of_ble_eq_true rfl) dX7_doSequence_310 _ rfl ?_
        refine wd_goto C 627 dX7_doSequence_313 (by decide) ?_
        have ej_0 : p_X7_doSequence_s4 σ p1 = (p_X5_moveRight (si σ 0 0) (p_X7_doSequence_t1 σ p1)) := by unfold p_X7_doSequence_s4; rw [if_neg c_51_64, if_neg c_51_65, if_neg c_51_66, if_pos c_51_67]
        rw [ej_0] at J_51
        exact wd_lv [1, 2, 3, 4, 0] _ rfl J_51
      by_cases c_51_68 : p1 = 68
      · refine wd_tsw C 316 dX7_doSequence_51 (by decide) (by rw [c_51_68]; decide +kernel) ?_
        refine wd_aload_n C dX7_doSequence_316 rfl 1 rfl ?_
        refine gfD_0_0 C tw_282 dX7_doSequence_317 ?_
        refine wd_iload C dX7_doSequence_320 0 rfl ?_
        refine wd_callV C 1 (c_X5_moveLeft _ K ad (si σ 0 0) (p_X7_doSequence_t1 σ p1)) 1 (wcD_1 K ad _) rfl rfl tw_377 tw_378 tw_379 tw_65 tw_380 (by decide +kernel) rfl (by decide) (Nat.le_of_ble_eq_true rfl) dX7_doSequence_322 _ rfl ?_
        refine wd_goto C 627 dX7_doSequence_325 (by decide) ?_
        have ej_0 : p_X7_doSequence_s4 σ p1 = (p_X5_moveLeft (si σ 0 0) (p_X7_doSequence_t1 σ p1)) := by unfold p_X7_doSequence_s4; rw [if_neg c_51_64, if_neg c_51_65, if_neg c_51_66, if_neg c_51_67, if_pos c_51_68]
        rw [ej_0] at J_51
        exact wd_lv [1, 2, 3, 4, 0] _ rfl J_51
      by_cases c_51_69 : p1 = 69
      · refine wd_tsw C 328 dX7_doSequence_51 (by decide) (by rw [c_51_69]; decide +kernel) ?_
        refine wd_aload_n C dX7_doSequence_328 rfl 1 rfl ?_
        refine gfD_0_0 C tw_282 dX7_doSequence_329 ?_
        refine wd_iload C dX7_doSequence_332 0 rfl ?_
        refine wd_callV C 1 (c_X5_moveDown _ K ad (si σ 0 0) (p_X7_doSequence_t1 σ p1)) 1 (wcD_1 K ad _) rfl rfl tw_501 tw_502 tw_503 tw_65 tw_504 (by decide +kernel) rfl (by decide) (Nat.le_of_ble_eq_true rfl) dX7_doSequence_334 _ rfl ?_
        refine wd_aload_n C dX7_doSequence_337 rfl 1 rfl ?_
        refine gfD_0_0 C tw_282 dX7_doSequence_338 ?_
        refine wd_iconst (v := 0) C dX7_doSequence_341 (by decide) ?_
        refine wd_callV C 1 (c_X5_moveToColumn _ K ad ((p_X5_moveDown (si σ 0 0) (p_X7_doSequence_t1 σ p1))) 0) 1 (wcD_1 K ad _) rfl rfl tw_401 tw_385 tw_386 tw_65 tw_387 (by decide +kernel) rfl (by decide) (Nat.le_of_ble_eq_true rfl) dX7_doSequence_342 _ rfl ?_
        refine wd_goto C 627 dX7_doSequence_345 (by decide) ?_
        have ej_0 : p_X7_doSequence_s4 σ p1 = (p_X5_moveToColumn ((p_X5_moveDown (si σ 0 0) (p_X7_doSequence_t1 σ p1))) 0) := by unfold p_X7_doSequence_s4; rw [if_neg c_51_64, if_neg c_51_65, if_neg c_51_66, if_neg c_51_67, if_neg c_51_68, if_pos c_51_69]
        rw [ej_0] at J_51
        exact wd_lv [1, 2, 3, 4, 0] _ rfl J_51
      by_cases c_51_70 : p1 = 70
      · refine wd_tsw C 348 dX7_doSequence_51 (by decide) (by rw [c_51_70]; decide +kernel) ?_
        refine wd_aload_n C dX7_doSequence_348 rfl 1 rfl ?_
        refine gfD_0_0 C tw_282 dX7_doSequence_349 ?_
        refine wd_iload C dX7_doSequence_352 0 rfl ?_
        refine wd_callV C 1 (c_X5_moveUp _ K ad (si σ 0 0) (p_X7_doSequence_t1 σ p1)) 1 (wcD_1 K ad _) rfl rfl tw_497 tw_498 tw_499 tw_65 tw_500 (by decide +kernel) rfl (by decide) (Nat.le_of_ble_eq_true rfl) dX7_doSequence_354 _ rfl ?_
        refine wd_aload_n C dX7_doSequence_357 rfl 1 rfl ?_
        refine gfD_0_0 C tw_282 dX7_doSequence_358 ?_
        refine wd_iconst (v := 0) C dX7_doSequence_361 (by decide) ?_
        refine wd_callV C 1 (c_X5_moveToColumn _ K ad ((p_X5_moveUp (si σ 0 0) (p_X7_doSequence_t1 σ p1))) 0) 1 (wcD_1 K ad _) rfl rfl tw_401 tw_385 tw_386 tw_65 tw_387 (by decide +kernel) rfl (by decide) (Nat.le_of_ble_eq_true rfl) dX7_doSequence_362 _ rfl ?_
        refine wd_goto C 627 dX7_doSequence_365 (by decide) ?_
        have ej_0 : p_X7_doSequence_s4 σ p1 = (p_X5_moveToColumn ((p_X5_moveUp (si σ 0 0) (p_X7_doSequence_t1 σ p1))) 0) := by unfold p_X7_doSequence_s4; rw [if_neg c_51_64, if_neg c_51_65, if_neg c_51_66, if_neg c_51_67, if_neg c_51_68, if_neg c_51_69, if_pos c_51_70]
        rw [ej_0] at J_51
        exact wd_lv [1, 2, 3, 4, 0] _ rfl J_51
      by_cases c_51_71 : p1 = 71
      · refine wd_tsw C 368 dX7_doSequence_51 (by decide) (by rw [c_51_71]; decide +kernel) ?_
        refine wd_aload_n C dX7_doSequence_368 rfl 1 rfl ?_
        refine gfD_0_0 C tw_282 dX7_doSequence_369 ?_
        refine wd_iload C dX7_doSequence_372 0 rfl ?_
        refine wd_iconst (v := 1) C dX7_doSequence_374 (by decide) ?_
        refine wd_isub C dX7_doSequence_375 ?_
        refine wd_callV C 1 (c_X5_moveToColumn _ K ad (si σ 0 0) ((p_X7_doSequence_t1 σ p1) - 1)) 1 (wcD_1 K ad _) rfl rfl tw_401 tw_385 tw_386 tw_65 tw_387 (by decide +kernel) rfl (by decide) (Nat.le_of_ble_eq_true rfl) dX7_doSequence_376 _ rfl ?_
        refine wd_goto C 627 dX7_doSequence_379 (by decide) ?_
        have ej_0 : p_X7_doSequence_s4 σ p1 = (p_X5_moveToColumn (si σ 0 0) ((p_X7_doSequence_t1 σ p1) - 1)) := by unfold p_X7_doSequence_s4; rw [if_neg c_51_64, if_neg c_51_65, if_neg c_51_66, if_neg c_51_67, if_neg c_51_68, if_neg c_51_69, if_neg c_51_70, if_pos c_51_71]
        rw [ej_0] at J_51
        exact wd_lv [1, 2, 3, 4, 0] _ rfl J_51
      by_cases c_51_72 : p1 = 72
      · refine wd_tsw C 396 dX7_doSequence_51 (by decide) (by rw [c_51_72]; decide +kernel) ?_
        refine wd_aload_n C dX7_doSequence_396 rfl 1 rfl ?_
        refine gfD_0_0 C tw_282 dX7_doSequence_397 ?_
        refine wd_iload C dX7_doSequence_400 0 rfl ?_
        refine wd_iconst (v := 1) C dX7_doSequence_402 (by decide) ?_
        refine wd_isub C dX7_doSequence_403 ?_
        refine wd_iload_n C dX7_doSequence_404 rfl 4 rfl ?_
        have J_405 : WD X K 5 0 0 (WdD K ad (si σ 0 0)) [(0, .ref (ad 0)), (1, .int p1), (2, .int ((q_X2_valueAt_N (si σ 0 0) 0))), (3, .int ((q_X2_valueAt_N (si σ 0 0) 1))), (4, .int (p_X7_doSequence_t1 σ p1))] 415 [.int (p_X7_doSequence_t2 σ p1), .int ((p_X7_doSequence_t1 σ p1) - 1), .ref (ad 1)] := by
          refine wd_callV C 2 (c_X5_moveTo _ K ad (si σ 0 0) ((p_X7_doSequence_t1 σ p1) - 1) (p_X7_doSequence_t2 σ p1)) 1 (wcD_1 K ad _) rfl rfl tw_513 tw_490 tw_491 tw_65 tw_492 (by decide +kernel) rfl (by decide) (Nat.le_of_ble_eq_true rfl) dX7_doSequence_415 _ rfl ?_
          refine wd_goto C 627 dX7_doSequence_418 (by decide) ?_
          have ej_0 : p_X7_doSequence_s4 σ p1 = (p_X5_moveTo (si σ 0 0) ((p_X7_doSequence_t1 σ p1) - 1) (p_X7_doSequence_t2 σ p1)) := by unfold p_X7_doSequence_s4; rw [if_neg c_51_64, if_neg c_51_65, if_neg c_51_66, if_neg c_51_67, if_neg c_51_68, if_neg c_51_69, if_neg c_51_70, if_neg c_51_71, if_pos c_51_72]
          rw [ej_0] at J_51
          exact wd_lv [0, 1, 2, 3, 4] _ rfl J_51
        refine wd_if_ne C 412 dX7_doSequence_405 (by decide) (fun c_405 => ?_) (fun c_405 => ?_)
        · refine wd_iload_n C dX7_doSequence_412 rfl 4 rfl ?_
          refine wd_iconst (v := 1) C dX7_doSequence_413 (by decide) ?_
          refine wd_isub C dX7_doSequence_414 ?_
          have ej_0 : p_X7_doSequence_t2 σ p1 = ((q_X2_valueAt_N (si σ 0 0) 1)) - 1 := by unfold p_X7_doSequence_t2; rw [if_neg c_405]
          rw [ej_0] at J_405
          exact wd_lv [1, 2, 3, 4, 0] _ rfl J_405
        · refine wd_iconst (v := 0) C dX7_doSequence_408 (by decide) ?_
          refine wd_goto C 415 dX7_doSequence_409 (by decide) ?_
          have ej_0 : p_X7_doSequence_t2 σ p1 = 0 := by unfold p_X7_doSequence_t2; rw [if_pos c_405]
          rw [ej_0] at J_405
          exact wd_lv [1, 2, 3, 4, 0] _ rfl J_405
      by_cases c_51_74 : p1 = 74
      · refine wd_tsw C 421 dX7_doSequence_51 (by decide) (by rw [c_51_74]; decide +kernel) ?_
        refine wd_aload_n C dX7_doSequence_421 rfl 1 rfl ?_
        refine gfD_0_0 C tw_282 dX7_doSequence_422 ?_
        refine wd_iload_n C dX7_doSequence_425 rfl 3 rfl ?_
        refine wd_callV C 1 (c_X5_clearInPage _ K ad (si σ 0 0) ((q_X2_valueAt_N (si σ 0 0) 0))) 1 (wcD_1 K ad _) rfl rfl tw_514 tw_515 tw_516 tw_65 tw_517 (by decide +kernel) rfl (by decide) (Nat.le_of_ble_eq_true rfl) dX7_doSequence_426 _ rfl ?_
        refine wd_goto C 627 dX7_doSequence_429 (by decide) ?_
        have ej_0 : p_X7_doSequence_s4 σ p1 = (p_X5_clearInPage (si σ 0 0) ((q_X2_valueAt_N (si σ 0 0) 0))) := by unfold p_X7_doSequence_s4; rw [if_neg c_51_64, if_neg c_51_65, if_neg c_51_66, if_neg c_51_67, if_neg c_51_68, if_neg c_51_69, if_neg c_51_70, if_neg c_51_71, if_neg c_51_72, if_pos c_51_74]
        rw [ej_0] at J_51
        exact wd_lv [1, 2, 3, 4, 0] _ rfl J_51
      by_cases c_51_75 : p1 = 75
      · refine wd_tsw C 432 dX7_doSequence_51 (by decide) (by rw [c_51_75]; decide +kernel) ?_
        refine wd_aload_n C dX7_doSequence_432 rfl 1 rfl ?_
        refine gfD_0_0 C tw_282 dX7_doSequence_433 ?_
        refine wd_iload_n C dX7_doSequence_436 rfl 3 rfl ?_
        refine wd_callV C 1 (c_X5_clearInRow _ K ad (si σ 0 0) ((q_X2_valueAt_N (si σ 0 0) 0))) 1 (wcD_1 K ad _) rfl rfl tw_522 tw_523 tw_524 tw_65 tw_525 (by decide +kernel) rfl (by decide) (Nat.le_of_ble_eq_true rfl) dX7_doSequence_437 _ rfl ?_
        refine wd_goto C 627 dX7_doSequence_440 (by decide) ?_
        have ej_0 : p_X7_doSequence_s4 σ p1 = (p_X5_clearInRow (si σ 0 0) ((q_X2_valueAt_N (si σ 0 0) 0))) := by unfold p_X7_doSequence_s4; rw [if_neg c_51_64, if_neg c_51_65, if_neg c_51_66, if_neg c_51_67, if_neg c_51_68, if_neg c_51_69, if_neg c_51_70, if_neg c_51_71, if_neg c_51_72, if_neg c_51_74, if_pos c_51_75]
        rw [ej_0] at J_51
        exact wd_lv [1, 2, 3, 4, 0] _ rfl J_51
      by_cases c_51_76 : p1 = 76
      · refine wd_tsw C 479 dX7_doSequence_51 (by decide) (by rw [c_51_76]; decide +kernel) ?_
        refine wd_aload_n C dX7_doSequence_479 rfl 1 rfl ?_
        refine gfD_0_0 C tw_282 dX7_doSequence_480 ?_
        refine wd_iload C dX7_doSequence_483 0 rfl ?_
        refine wd_callV C 1 (c_X5_putInRows _ K ad (si σ 0 0) (p_X7_doSequence_t1 σ p1)) 1 (wcD_1 K ad _) rfl rfl tw_538 tw_539 tw_540 tw_65 tw_541 (by decide +kernel) rfl (by decide) (Nat.le_of_ble_eq_true rfl) dX7_doSequence_485 _ rfl ?_
        refine wd_goto C 627 dX7_doSequence_488 (by decide) ?_
        have ej_0 : p_X7_doSequence_s4 σ p1 = (p_X5_putInRows (si σ 0 0) (p_X7_doSequence_t1 σ p1)) := by unfold p_X7_doSequence_s4; rw [if_neg c_51_64, if_neg c_51_65, if_neg c_51_66, if_neg c_51_67, if_neg c_51_68, if_neg c_51_69, if_neg c_51_70, if_neg c_51_71, if_neg c_51_72, if_neg c_51_74, if_neg c_51_75, if_pos c_51_76]
        rw [ej_0] at J_51
        exact wd_lv [1, 2, 3, 4, 0] _ rfl J_51
      by_cases c_51_77 : p1 = 77
      · refine wd_tsw C 491 dX7_doSequence_51 (by decide) (by rw [c_51_77]; decide +kernel) ?_
        refine wd_aload_n C dX7_doSequence_491 rfl 1 rfl ?_
        refine gfD_0_0 C tw_282 dX7_doSequence_492 ?_
        refine wd_iload C dX7_doSequence_495 0 rfl ?_
        refine wd_callV C 1 (c_X5_takeOutRows _ K ad (si σ 0 0) (p_X7_doSequence_t1 σ p1) (ds_n σ p1 hO)) 1 (wcD_1 K ad _) rfl rfl tw_546 tw_547 tw_548 tw_65 tw_549 (by decide +kernel) rfl (by decide) (Nat.le_of_ble_eq_true rfl) dX7_doSequence_497 _ rfl ?_
        refine wd_goto C 627 dX7_doSequence_500 (by decide) ?_
        have ej_0 : p_X7_doSequence_s4 σ p1 = (p_X5_takeOutRows (si σ 0 0) (p_X7_doSequence_t1 σ p1)) := by unfold p_X7_doSequence_s4; rw [if_neg c_51_64, if_neg c_51_65, if_neg c_51_66, if_neg c_51_67, if_neg c_51_68, if_neg c_51_69, if_neg c_51_70, if_neg c_51_71, if_neg c_51_72, if_neg c_51_74, if_neg c_51_75, if_neg c_51_76, if_pos c_51_77]
        rw [ej_0] at J_51
        exact wd_lv [1, 2, 3, 4, 0] _ rfl J_51
      by_cases c_51_80 : p1 = 80
      · refine wd_tsw C 467 dX7_doSequence_51 (by decide) (by rw [c_51_80]; decide +kernel) ?_
        refine wd_aload_n C dX7_doSequence_467 rfl 1 rfl ?_
        refine gfD_0_0 C tw_282 dX7_doSequence_468 ?_
        refine wd_iload C dX7_doSequence_471 0 rfl ?_
        refine wd_callV C 1 (c_X5_takeOutCells _ K ad (si σ 0 0) (p_X7_doSequence_t1 σ p1) (ds_n σ p1 hO)) 1 (wcD_1 K ad _) rfl rfl tw_534 tw_535 tw_536 tw_65 tw_537 (by decide +kernel) rfl (by decide) (Nat.le_of_ble_eq_true rfl) dX7_doSequence_473 _ rfl ?_
        refine wd_goto C 627 dX7_doSequence_476 (by decide) ?_
        have ej_0 : p_X7_doSequence_s4 σ p1 = (p_X5_takeOutCells (si σ 0 0) (p_X7_doSequence_t1 σ p1)) := by unfold p_X7_doSequence_s4; rw [if_neg c_51_64, if_neg c_51_65, if_neg c_51_66, if_neg c_51_67, if_neg c_51_68, if_neg c_51_69, if_neg c_51_70, if_neg c_51_71, if_neg c_51_72, if_neg c_51_74, if_neg c_51_75, if_neg c_51_76, if_neg c_51_77, if_pos c_51_80]
        rw [ej_0] at J_51
        exact wd_lv [1, 2, 3, 4, 0] _ rfl J_51
      by_cases c_51_83 : p1 = 83
      · refine wd_tsw C 503 dX7_doSequence_51 (by decide) (by rw [c_51_83]; decide +kernel) ?_
        refine wd_aload_n C dX7_doSequence_503 rfl 1 rfl ?_
        refine gfD_0_0 C tw_282 dX7_doSequence_504 ?_
        refine wd_iload C dX7_doSequence_507 0 rfl ?_
        refine wd_callV C 1 (c_X5_scrollUp _ K ad (si σ 0 0) (p_X7_doSequence_t1 σ p1) (ds_n σ p1 hO)) 1 (wcD_1 K ad _) rfl rfl tw_550 tw_551 tw_552 tw_65 tw_553 (by decide +kernel) rfl (by decide) (Nat.le_of_ble_eq_true rfl) dX7_doSequence_509 _ rfl ?_
        refine wd_goto C 627 dX7_doSequence_512 (by decide) ?_
        have ej_0 : p_X7_doSequence_s4 σ p1 = (p_X5_scrollUp (si σ 0 0) (p_X7_doSequence_t1 σ p1)) := by unfold p_X7_doSequence_s4; rw [if_neg c_51_64, if_neg c_51_65, if_neg c_51_66, if_neg c_51_67, if_neg c_51_68, if_neg c_51_69, if_neg c_51_70, if_neg c_51_71, if_neg c_51_72, if_neg c_51_74, if_neg c_51_75, if_neg c_51_76, if_neg c_51_77, if_neg c_51_80, if_pos c_51_83]
        rw [ej_0] at J_51
        exact wd_lv [1, 2, 3, 4, 0] _ rfl J_51
      by_cases c_51_84 : p1 = 84
      · refine wd_tsw C 515 dX7_doSequence_51 (by decide) (by rw [c_51_84]; decide +kernel) ?_
        refine wd_aload_n C dX7_doSequence_515 rfl 1 rfl ?_
        refine gfD_0_0 C tw_282 dX7_doSequence_516 ?_
        refine wd_iload C dX7_doSequence_519 0 rfl ?_
        refine wd_callV C 1 (c_X5_scrollDown _ K ad (si σ 0 0) (p_X7_doSequence_t1 σ p1)) 1 (wcD_1 K ad _) rfl rfl tw_554 tw_555 tw_556 tw_65 tw_557 (by decide +kernel) rfl (by decide) (Nat.le_of_ble_eq_true rfl) dX7_doSequence_521 _ rfl ?_
        refine wd_goto C 627 dX7_doSequence_524 (by decide) ?_
        have ej_0 : p_X7_doSequence_s4 σ p1 = (p_X5_scrollDown (si σ 0 0) (p_X7_doSequence_t1 σ p1)) := by unfold p_X7_doSequence_s4; rw [if_neg c_51_64, if_neg c_51_65, if_neg c_51_66, if_neg c_51_67, if_neg c_51_68, if_neg c_51_69, if_neg c_51_70, if_neg c_51_71, if_neg c_51_72, if_neg c_51_74, if_neg c_51_75, if_neg c_51_76, if_neg c_51_77, if_neg c_51_80, if_neg c_51_83, if_pos c_51_84]
        rw [ej_0] at J_51
        exact wd_lv [1, 2, 3, 4, 0] _ rfl J_51
      by_cases c_51_88 : p1 = 88
      · refine wd_tsw C 443 dX7_doSequence_51 (by decide) (by rw [c_51_88]; decide +kernel) ?_
        refine wd_aload_n C dX7_doSequence_443 rfl 1 rfl ?_
        refine gfD_0_0 C tw_282 dX7_doSequence_444 ?_
        refine wd_iload C dX7_doSequence_447 0 rfl ?_
        refine wd_callV C 1 (c_X5_clearCells _ K ad (si σ 0 0) (p_X7_doSequence_t1 σ p1)) 1 (wcD_1 K ad _) rfl rfl tw_526 tw_527 tw_528 tw_65 tw_529 (by decide +kernel) rfl (by decide) (Nat.le_of_ble_eq_true rfl) dX7_doSequence_449 _ rfl ?_
        refine wd_goto C 627 dX7_doSequence_452 (by decide) ?_
        have ej_0 : p_X7_doSequence_s4 σ p1 = (p_X5_clearCells (si σ 0 0) (p_X7_doSequence_t1 σ p1)) := by unfold p_X7_doSequence_s4; rw [if_neg c_51_64, if_neg c_51_65, if_neg c_51_66, if_neg c_51_67, if_neg c_51_68, if_neg c_51_69, if_neg c_51_70, if_neg c_51_71, if_neg c_51_72, if_neg c_51_74, if_neg c_51_75, if_neg c_51_76, if_neg c_51_77, if_neg c_51_80, if_neg c_51_83, if_neg c_51_84, if_pos c_51_88]
        rw [ej_0] at J_51
        exact wd_lv [1, 2, 3, 4, 0] _ rfl J_51
      by_cases c_51_98 : p1 = 98
      · refine wd_tsw C 527 dX7_doSequence_51 (by decide) (by rw [c_51_98]; decide +kernel) ?_
        refine wd_aload_n C dX7_doSequence_527 rfl 1 rfl ?_
        refine gfD_0_0 C tw_282 dX7_doSequence_528 ?_
        refine wd_iload C dX7_doSequence_531 0 rfl ?_
        refine wd_callV C 1 (c_X5_repeat _ K ad (si σ 0 0) (p_X7_doSequence_t1 σ p1)) 1 (wcD_1 K ad _) rfl rfl tw_558 tw_559 tw_560 tw_65 tw_561 (by decide +kernel) rfl (by decide) (Nat.le_of_ble_eq_true rfl) dX7_doSequence_533 _ rfl ?_
        refine wd_goto C 627 dX7_doSequence_536 (by decide) ?_
        have ej_0 : p_X7_doSequence_s4 σ p1 = (p_X5_repeat (si σ 0 0) (p_X7_doSequence_t1 σ p1)) := by unfold p_X7_doSequence_s4; rw [if_neg c_51_64, if_neg c_51_65, if_neg c_51_66, if_neg c_51_67, if_neg c_51_68, if_neg c_51_69, if_neg c_51_70, if_neg c_51_71, if_neg c_51_72, if_neg c_51_74, if_neg c_51_75, if_neg c_51_76, if_neg c_51_77, if_neg c_51_80, if_neg c_51_83, if_neg c_51_84, if_neg c_51_88, if_pos c_51_98]
        rw [ej_0] at J_51
        exact wd_lv [1, 2, 3, 4, 0] _ rfl J_51
      by_cases c_51_100 : p1 = 100
      · refine wd_tsw C 382 dX7_doSequence_51 (by decide) (by rw [c_51_100]; decide +kernel) ?_
        refine wd_aload_n C dX7_doSequence_382 rfl 1 rfl ?_
        refine gfD_0_0 C tw_282 dX7_doSequence_383 ?_
        refine wd_iload C dX7_doSequence_386 0 rfl ?_
        refine wd_iconst (v := 1) C dX7_doSequence_388 (by decide) ?_
        refine wd_isub C dX7_doSequence_389 ?_
        refine wd_callV C 1 (c_X5_moveToRow _ K ad (si σ 0 0) ((p_X7_doSequence_t1 σ p1) - 1)) 1 (wcD_1 K ad _) rfl rfl tw_509 tw_510 tw_511 tw_65 tw_512 (by decide +kernel) rfl (by decide) (Nat.le_of_ble_eq_true rfl) dX7_doSequence_390 _ rfl ?_
        refine wd_goto C 627 dX7_doSequence_393 (by decide) ?_
        have ej_0 : p_X7_doSequence_s4 σ p1 = (p_X5_moveToRow (si σ 0 0) ((p_X7_doSequence_t1 σ p1) - 1)) := by unfold p_X7_doSequence_s4; rw [if_neg c_51_64, if_neg c_51_65, if_neg c_51_66, if_neg c_51_67, if_neg c_51_68, if_neg c_51_69, if_neg c_51_70, if_neg c_51_71, if_neg c_51_72, if_neg c_51_74, if_neg c_51_75, if_neg c_51_76, if_neg c_51_77, if_neg c_51_80, if_neg c_51_83, if_neg c_51_84, if_neg c_51_88, if_neg c_51_98, if_pos c_51_100]
        rw [ej_0] at J_51
        exact wd_lv [1, 2, 3, 4, 0] _ rfl J_51
      by_cases c_51_102 : p1 = 102
      · refine wd_tsw C 396 dX7_doSequence_51 (by decide) (by rw [c_51_102]; decide +kernel) ?_
        refine wd_aload_n C dX7_doSequence_396 rfl 1 rfl ?_
        refine gfD_0_0 C tw_282 dX7_doSequence_397 ?_
        refine wd_iload C dX7_doSequence_400 0 rfl ?_
        refine wd_iconst (v := 1) C dX7_doSequence_402 (by decide) ?_
        refine wd_isub C dX7_doSequence_403 ?_
        refine wd_iload_n C dX7_doSequence_404 rfl 4 rfl ?_
        have J_405 : WD X K 5 0 0 (WdD K ad (si σ 0 0)) [(0, .ref (ad 0)), (1, .int p1), (2, .int ((q_X2_valueAt_N (si σ 0 0) 0))), (3, .int ((q_X2_valueAt_N (si σ 0 0) 1))), (4, .int (p_X7_doSequence_t1 σ p1))] 415 [.int (p_X7_doSequence_t2 σ p1), .int ((p_X7_doSequence_t1 σ p1) - 1), .ref (ad 1)] := by
          refine wd_callV C 2 (c_X5_moveTo _ K ad (si σ 0 0) ((p_X7_doSequence_t1 σ p1) - 1) (p_X7_doSequence_t2 σ p1)) 1 (wcD_1 K ad _) rfl rfl tw_513 tw_490 tw_491 tw_65 tw_492 (by decide +kernel) rfl (by decide) (Nat.le_of_ble_eq_true rfl) dX7_doSequence_415 _ rfl ?_
          refine wd_goto C 627 dX7_doSequence_418 (by decide) ?_
          have ej_0 : p_X7_doSequence_s4 σ p1 = (p_X5_moveTo (si σ 0 0) ((p_X7_doSequence_t1 σ p1) - 1) (p_X7_doSequence_t2 σ p1)) := by unfold p_X7_doSequence_s4; rw [if_neg c_51_64, if_neg c_51_65, if_neg c_51_66, if_neg c_51_67, if_neg c_51_68, if_neg c_51_69, if_neg c_51_70, if_neg c_51_71, if_neg c_51_72, if_neg c_51_74, if_neg c_51_75, if_neg c_51_76, if_neg c_51_77, if_neg c_51_80, if_neg c_51_83, if_neg c_51_84, if_neg c_51_88, if_neg c_51_98, if_neg c_51_100, if_pos c_51_102]
          rw [ej_0] at J_51
          exact wd_lv [0, 1, 2, 3, 4] _ rfl J_51
        refine wd_if_ne C 412 dX7_doSequence_405 (by decide) (fun c_405 => ?_) (fun c_405 => ?_)
        · refine wd_iload_n C dX7_doSequence_412 rfl 4 rfl ?_
          refine wd_iconst (v := 1) C dX7_doSequence_413 (by decide) ?_
          refine wd_isub C dX7_doSequence_414 ?_
          have ej_0 : p_X7_doSequence_t2 σ p1 = ((q_X2_valueAt_N (si σ 0 0) 1)) - 1 := by unfold p_X7_doSequence_t2; rw [if_neg c_405]
          rw [ej_0] at J_405
          exact wd_lv [1, 2, 3, 4, 0] _ rfl J_405
        · refine wd_iconst (v := 0) C dX7_doSequence_408 (by decide) ?_
          refine wd_goto C 415 dX7_doSequence_409 (by decide) ?_
          have ej_0 : p_X7_doSequence_t2 σ p1 = 0 := by unfold p_X7_doSequence_t2; rw [if_pos c_405]
          rw [ej_0] at J_405
          exact wd_lv [1, 2, 3, 4, 0] _ rfl J_405
      by_cases c_51_103 : p1 = 103
      · refine wd_tsw C 592 dX7_doSequence_51 (by decide) (by rw [c_51_103]; decide +kernel) ?_
        refine wd_aload_n C dX7_doSequence_592 rfl 1 rfl ?_
        refine gfD_0_0 C tw_282 dX7_doSequence_593 ?_
        refine wd_iload_n C dX7_doSequence_596 rfl 3 rfl ?_
        refine wd_callV C 1 (c_X5_removeTabStops _ K ad (si σ 0 0) ((q_X2_valueAt_N (si σ 0 0) 0))) 1 (wcD_1 K ad _) rfl rfl tw_588 tw_589 tw_590 tw_65 tw_591 (by decide +kernel) rfl (by decide) (Nat.le_of_ble_eq_true rfl) dX7_doSequence_597 _ rfl ?_
        refine wd_goto C 627 dX7_doSequence_600 (by decide) ?_
        have ej_0 : p_X7_doSequence_s4 σ p1 = (p_X5_removeTabStops (si σ 0 0) ((q_X2_valueAt_N (si σ 0 0) 0))) := by unfold p_X7_doSequence_s4; rw [if_neg c_51_64, if_neg c_51_65, if_neg c_51_66, if_neg c_51_67, if_neg c_51_68, if_neg c_51_69, if_neg c_51_70, if_neg c_51_71, if_neg c_51_72, if_neg c_51_74, if_neg c_51_75, if_neg c_51_76, if_neg c_51_77, if_neg c_51_80, if_neg c_51_83, if_neg c_51_84, if_neg c_51_88, if_neg c_51_98, if_neg c_51_100, if_neg c_51_102, if_pos c_51_103]
        rw [ej_0] at J_51
        exact wd_lv [1, 2, 3, 4, 0] _ rfl J_51
      by_cases c_51_104 : p1 = 104
      · refine wd_tsw C 603 dX7_doSequence_51 (by decide) (by rw [c_51_104]; decide +kernel) ?_
        refine wd_aload_n C dX7_doSequence_603 rfl 1 rfl ?_
        refine wd_iconst (v := 1) C dX7_doSequence_604 (by decide) ?_
        refine wd_callV C 1 (c_X7_switchInsert _ K ad (si σ 0 0) true) 0 (wcD_0 K ad _) rfl rfl tw_592 tw_594 tw_23 tw_64 tw_595 (by decide +kernel) rfl (by decide) (Nat.le_of_ble_eq_true rfl) dX7_doSequence_605 _ rfl ?_
        refine wd_goto C 627 dX7_doSequence_608 (by decide) ?_
        have ej_0 : p_X7_doSequence_s4 σ p1 = (p_X7_switchInsert (si σ 0 0) true) := by unfold p_X7_doSequence_s4; rw [if_neg c_51_64, if_neg c_51_65, if_neg c_51_66, if_neg c_51_67, if_neg c_51_68, if_neg c_51_69, if_neg c_51_70, if_neg c_51_71, if_neg c_51_72, if_neg c_51_74, if_neg c_51_75, if_neg c_51_76, if_neg c_51_77, if_neg c_51_80, if_neg c_51_83, if_neg c_51_84, if_neg c_51_88, if_neg c_51_98, if_neg c_51_100, if_neg c_51_102, if_neg c_51_103, if_pos c_51_104]
        rw [ej_0] at J_51
        exact wd_lv [1, 2, 3, 4, 0] _ rfl J_51
      by_cases c_51_108 : p1 = 108
      · refine wd_tsw C 611 dX7_doSequence_51 (by decide) (by rw [c_51_108]; decide +kernel) ?_
        refine wd_aload_n C dX7_doSequence_611 rfl 1 rfl ?_
        refine wd_iconst (v := 0) C dX7_doSequence_612 (by decide) ?_
        refine wd_callV C 1 (c_X7_switchInsert _ K ad (si σ 0 0) false) 0 (wcD_0 K ad _) rfl rfl tw_592 tw_594 tw_23 tw_64 tw_595 (by decide +kernel) rfl (by decide) (Nat.le_of_ble_eq_true rfl) dX7_doSequence_613 _ rfl ?_
        refine wd_goto C 627 dX7_doSequence_616 (by decide) ?_
        have ej_0 : p_X7_doSequence_s4 σ p1 = (p_X7_switchInsert (si σ 0 0) false) := by unfold p_X7_doSequence_s4; rw [if_neg c_51_64, if_neg c_51_65, if_neg c_51_66, if_neg c_51_67, if_neg c_51_68, if_neg c_51_69, if_neg c_51_70, if_neg c_51_71, if_neg c_51_72, if_neg c_51_74, if_neg c_51_75, if_neg c_51_76, if_neg c_51_77, if_neg c_51_80, if_neg c_51_83, if_neg c_51_84, if_neg c_51_88, if_neg c_51_98, if_neg c_51_100, if_neg c_51_102, if_neg c_51_103, if_neg c_51_104, if_pos c_51_108]
        rw [ej_0] at J_51
        exact wd_lv [1, 2, 3, 4, 0] _ rfl J_51
      by_cases c_51_109 : p1 = 109
      · refine wd_tsw C 539 dX7_doSequence_51 (by decide) (by rw [c_51_109]; decide +kernel) ?_
        refine wd_aload_n C dX7_doSequence_539 rfl 1 rfl ?_
        refine wd_callV C 0 (c_X7_paintAll _ K ad (si σ 0 0)) 0 (wcD_0 K ad _) rfl rfl tw_563 tw_565 tw_19 tw_64 tw_566 (by decide +kernel) rfl (by decide) (Nat.le_of_ble_eq_true rfl) dX7_doSequence_540 _ rfl ?_
        refine wd_goto C 627 dX7_doSequence_543 (by decide) ?_
        have ej_0 : p_X7_doSequence_s4 σ p1 = (p_X7_paintAll (si σ 0 0)) := by unfold p_X7_doSequence_s4; rw [if_neg c_51_64, if_neg c_51_65, if_neg c_51_66, if_neg c_51_67, if_neg c_51_68, if_neg c_51_69, if_neg c_51_70, if_neg c_51_71, if_neg c_51_72, if_neg c_51_74, if_neg c_51_75, if_neg c_51_76, if_neg c_51_77, if_neg c_51_80, if_neg c_51_83, if_neg c_51_84, if_neg c_51_88, if_neg c_51_98, if_neg c_51_100, if_neg c_51_102, if_neg c_51_103, if_neg c_51_104, if_neg c_51_108, if_pos c_51_109]
        rw [ej_0] at J_51
        exact wd_lv [1, 2, 3, 4, 0] _ rfl J_51
      by_cases c_51_110 : p1 = 110
      · refine wd_tsw C 619 dX7_doSequence_51 (by decide) (by rw [c_51_110]; decide +kernel) ?_
        refine wd_aload_n C dX7_doSequence_619 rfl 1 rfl ?_
        refine wd_iload_n C dX7_doSequence_620 rfl 3 rfl ?_
        refine wd_callV C 1 (c_X7_answer _ K ad (si σ 0 0) ((q_X2_valueAt_N (si σ 0 0) 0))) 0 (wcD_0 K ad _) rfl rfl tw_596 tw_598 tw_24 tw_64 tw_599 (by decide +kernel) rfl (by decide) (Nat.le_of_ble_eq_true rfl) dX7_doSequence_621 _ rfl ?_
        refine wd_goto C 627 dX7_doSequence_624 (by decide) ?_
        have ej_0 : p_X7_doSequence_s4 σ p1 = (p_X7_answer (si σ 0 0) ((q_X2_valueAt_N (si σ 0 0) 0))) := by unfold p_X7_doSequence_s4; rw [if_neg c_51_64, if_neg c_51_65, if_neg c_51_66, if_neg c_51_67, if_neg c_51_68, if_neg c_51_69, if_neg c_51_70, if_neg c_51_71, if_neg c_51_72, if_neg c_51_74, if_neg c_51_75, if_neg c_51_76, if_neg c_51_77, if_neg c_51_80, if_neg c_51_83, if_neg c_51_84, if_neg c_51_88, if_neg c_51_98, if_neg c_51_100, if_neg c_51_102, if_neg c_51_103, if_neg c_51_104, if_neg c_51_108, if_neg c_51_109, if_pos c_51_110]
        rw [ej_0] at J_51
        exact wd_lv [1, 2, 3, 4, 0] _ rfl J_51
      by_cases c_51_114 : p1 = 114
      · refine wd_tsw C 546 dX7_doSequence_51 (by decide) (by rw [c_51_114]; decide +kernel) ?_
        refine wd_aload_n C dX7_doSequence_546 rfl 1 rfl ?_
        refine gfD_0_0 C tw_282 dX7_doSequence_547 ?_
        refine wd_iload C dX7_doSequence_550 0 rfl ?_
        refine wd_iconst (v := 1) C dX7_doSequence_552 (by decide) ?_
        refine wd_isub C dX7_doSequence_553 ?_
        refine wd_iload_n C dX7_doSequence_554 rfl 4 rfl ?_
        have J_555 : WD X K 5 0 0 (WdD K ad (si σ 0 0)) [(0, .ref (ad 0)), (1, .int p1), (2, .int ((q_X2_valueAt_N (si σ 0 0) 0))), (3, .int ((q_X2_valueAt_N (si σ 0 0) 1))), (4, .int (p_X7_doSequence_t1 σ p1))] 566 [.int (p_X7_doSequence_t3 σ p1), .int ((p_X7_doSequence_t1 σ p1) - 1), .ref (ad 1)] := by
          refine wd_callV C 2 (c_X5_setRegion _ K ad (si σ 0 0) ((p_X7_doSequence_t1 σ p1) - 1) (p_X7_doSequence_t3 σ p1)) 1 (wcD_1 K ad _) rfl rfl tw_584 tw_585 tw_586 tw_65 tw_587 (by decide +kernel) rfl (by decide) (Nat.le_of_ble_eq_true rfl) dX7_doSequence_566 _ rfl ?_
          refine wd_goto C 627 dX7_doSequence_569 (by decide) ?_
          have ej_0 : p_X7_doSequence_s4 σ p1 = (p_X5_setRegion (si σ 0 0) ((p_X7_doSequence_t1 σ p1) - 1) (p_X7_doSequence_t3 σ p1)) := by unfold p_X7_doSequence_s4; rw [if_neg c_51_64, if_neg c_51_65, if_neg c_51_66, if_neg c_51_67, if_neg c_51_68, if_neg c_51_69, if_neg c_51_70, if_neg c_51_71, if_neg c_51_72, if_neg c_51_74, if_neg c_51_75, if_neg c_51_76, if_neg c_51_77, if_neg c_51_80, if_neg c_51_83, if_neg c_51_84, if_neg c_51_88, if_neg c_51_98, if_neg c_51_100, if_neg c_51_102, if_neg c_51_103, if_neg c_51_104, if_neg c_51_108, if_neg c_51_109, if_neg c_51_110, if_pos c_51_114]
          rw [ej_0] at J_51
          exact wd_lv [0, 1, 2, 3, 4] _ rfl J_51
        refine wd_if_ne C 563 dX7_doSequence_555 (by decide) (fun c_555 => ?_) (fun c_555 => ?_)
        · refine wd_iload_n C dX7_doSequence_563 rfl 4 rfl ?_
          refine wd_iconst (v := 1) C dX7_doSequence_564 (by decide) ?_
          refine wd_isub C dX7_doSequence_565 ?_
          have ej_0 : p_X7_doSequence_t3 σ p1 = ((q_X2_valueAt_N (si σ 0 0) 1)) - 1 := by unfold p_X7_doSequence_t3; rw [if_neg c_555]
          rw [ej_0] at J_555
          exact wd_lv [1, 2, 3, 4, 0] _ rfl J_555
        · refine wd_bipush (v := 7) C dX7_doSequence_558 (by decide) ?_
          refine wd_goto C 566 dX7_doSequence_560 (by decide) ?_
          have ej_0 : p_X7_doSequence_t3 σ p1 = 7 := by unfold p_X7_doSequence_t3; rw [if_pos c_555]
          rw [ej_0] at J_555
          exact wd_lv [1, 2, 3, 4, 0] _ rfl J_555
      by_cases c_51_115 : p1 = 115
      · refine wd_tsw C 572 dX7_doSequence_51 (by decide) (by rw [c_51_115]; decide +kernel) ?_
        refine wd_aload_n C dX7_doSequence_572 rfl 1 rfl ?_
        refine gfD_0_0 C tw_282 dX7_doSequence_573 ?_
        refine wd_callV C 0 (c_X5_save _ K ad (si σ 0 0)) 1 (wcD_1 K ad _) rfl rfl tw_419 tw_420 tw_421 tw_65 tw_422 (by decide +kernel) rfl (by decide) (Nat.le_of_ble_eq_true rfl) dX7_doSequence_576 _ rfl ?_
        refine wd_goto C 627 dX7_doSequence_579 (by decide) ?_
        have ej_0 : p_X7_doSequence_s4 σ p1 = (p_X5_save (si σ 0 0)) := by unfold p_X7_doSequence_s4; rw [if_neg c_51_64, if_neg c_51_65, if_neg c_51_66, if_neg c_51_67, if_neg c_51_68, if_neg c_51_69, if_neg c_51_70, if_neg c_51_71, if_neg c_51_72, if_neg c_51_74, if_neg c_51_75, if_neg c_51_76, if_neg c_51_77, if_neg c_51_80, if_neg c_51_83, if_neg c_51_84, if_neg c_51_88, if_neg c_51_98, if_neg c_51_100, if_neg c_51_102, if_neg c_51_103, if_neg c_51_104, if_neg c_51_108, if_neg c_51_109, if_neg c_51_110, if_neg c_51_114, if_pos c_51_115]
        rw [ej_0] at J_51
        exact wd_lv [1, 2, 3, 4, 0] _ rfl J_51
      by_cases c_51_117 : p1 = 117
      · refine wd_tsw C 582 dX7_doSequence_51 (by decide) (by rw [c_51_117]; decide +kernel) ?_
        refine wd_aload_n C dX7_doSequence_582 rfl 1 rfl ?_
        refine gfD_0_0 C tw_282 dX7_doSequence_583 ?_
        refine wd_callV C 0 (c_X5_restore _ K ad (si σ 0 0)) 1 (wcD_1 K ad _) rfl rfl tw_427 tw_428 tw_429 tw_65 tw_430 (by decide +kernel) rfl (by decide) (Nat.le_of_ble_eq_true rfl) dX7_doSequence_586 _ rfl ?_
        refine wd_goto C 627 dX7_doSequence_589 (by decide) ?_
        have ej_0 : p_X7_doSequence_s4 σ p1 = (p_X5_restore (si σ 0 0)) := by unfold p_X7_doSequence_s4; rw [if_neg c_51_64, if_neg c_51_65, if_neg c_51_66, if_neg c_51_67, if_neg c_51_68, if_neg c_51_69, if_neg c_51_70, if_neg c_51_71, if_neg c_51_72, if_neg c_51_74, if_neg c_51_75, if_neg c_51_76, if_neg c_51_77, if_neg c_51_80, if_neg c_51_83, if_neg c_51_84, if_neg c_51_88, if_neg c_51_98, if_neg c_51_100, if_neg c_51_102, if_neg c_51_103, if_neg c_51_104, if_neg c_51_108, if_neg c_51_109, if_neg c_51_110, if_neg c_51_114, if_neg c_51_115, if_pos c_51_117]
        rw [ej_0] at J_51
        exact wd_lv [1, 2, 3, 4, 0] _ rfl J_51
      refine wd_tsw C 627 dX7_doSequence_51 (by decide) (by rw [swT_d [64, 65, 66, 67, 68, 69, 70, 71, 72, 74, 75, 76, 77, 80, 83, 84, 88, 98, 100, 102, 103, 104, 108, 109, 110, 114, 115, 117] (List.forall_mem_cons.mpr ⟨lv_neT c_51_64 (by decide), List.forall_mem_cons.mpr ⟨lv_neT c_51_65 (by decide), List.forall_mem_cons.mpr ⟨lv_neT c_51_66 (by decide), List.forall_mem_cons.mpr ⟨lv_neT c_51_67 (by decide), List.forall_mem_cons.mpr ⟨lv_neT c_51_68 (by decide), List.forall_mem_cons.mpr ⟨lv_neT c_51_69 (by decide), List.forall_mem_cons.mpr ⟨lv_neT c_51_70 (by decide), List.forall_mem_cons.mpr ⟨lv_neT c_51_71 (by decide), List.forall_mem_cons.mpr ⟨lv_neT c_51_72 (by decide), List.forall_mem_cons.mpr ⟨lv_neT c_51_74 (by decide), List.forall_mem_cons.mpr ⟨lv_neT c_51_75 (by decide), List.forall_mem_cons.mpr ⟨lv_neT c_51_76 (by decide), List.forall_mem_cons.mpr ⟨lv_neT c_51_77 (by decide), List.forall_mem_cons.mpr ⟨lv_neT c_51_80 (by decide), List.forall_mem_cons.mpr ⟨lv_neT c_51_83 (by decide), List.forall_mem_cons.mpr ⟨lv_neT c_51_84 (by decide), List.forall_mem_cons.mpr ⟨lv_neT c_51_88 (by decide), List.forall_mem_cons.mpr ⟨lv_neT c_51_98 (by decide), List.forall_mem_cons.mpr ⟨lv_neT c_51_100 (by decide), List.forall_mem_cons.mpr ⟨lv_neT c_51_102 (by decide), List.forall_mem_cons.mpr ⟨lv_neT c_51_103 (by decide), List.forall_mem_cons.mpr ⟨lv_neT c_51_104 (by decide), List.forall_mem_cons.mpr ⟨lv_neT c_51_108 (by decide), List.forall_mem_cons.mpr ⟨lv_neT c_51_109 (by decide), List.forall_mem_cons.mpr ⟨lv_neT c_51_110 (by decide), List.forall_mem_cons.mpr ⟨lv_neT c_51_114 (by decide), List.forall_mem_cons.mpr ⟨lv_neT c_51_115 (by decide), List.forall_mem_cons.mpr ⟨lv_neT c_51_117 (by decide), fun _ h => absurd h List.not_mem_nil⟩⟩⟩⟩⟩⟩⟩⟩⟩⟩⟩⟩⟩⟩⟩⟩⟩⟩⟩⟩⟩⟩⟩⟩⟩⟩⟩⟩) (by decide +kernel)]; decide) ?_
      have ej_0 : p_X7_doSequence_s4 σ p1 = si σ 0 0 := by unfold p_X7_doSequence_s4; rw [if_neg c_51_64, if_neg c_51_65, if_neg c_51_66, if_neg c_51_67, if_neg c_51_68, if_neg c_51_69, if_neg c_51_70, if_neg c_51_71, if_neg c_51_72, if_neg c_51_74, if_neg c_51_75, if_neg c_51_76, if_neg c_51_77, if_neg c_51_80, if_neg c_51_83, if_neg c_51_84, if_neg c_51_88, if_neg c_51_98, if_neg c_51_100, if_neg c_51_102, if_neg c_51_103, if_neg c_51_104, if_neg c_51_108, if_neg c_51_109, if_neg c_51_110, if_neg c_51_114, if_neg c_51_115, if_neg c_51_117]
      rw [ej_0] at J_51
      exact wd_lv [1, 2, 3, 4, 0] _ rfl J_51
    refine wd_if_ne C 47 dX7_doSequence_40 (by decide) (fun c_40 => ?_) (fun c_40 => ?_)
    · refine wd_iload_n C dX7_doSequence_47 rfl 1 rfl ?_
      have ej_0 : p_X7_doSequence_t1 σ p1 = (q_X2_valueAt_N (si σ 0 0) 0) := by unfold p_X7_doSequence_t1; rw [if_neg c_40]
      rw [ej_0] at J_40
      exact wd_lv [2, 3, 1, 0] _ rfl J_40
    · refine wd_iconst (v := 1) C dX7_doSequence_43 (by decide) ?_
      refine wd_goto C 48 dX7_doSequence_44 (by decide) ?_
      have ej_0 : p_X7_doSequence_t1 σ p1 = 1 := by unfold p_X7_doSequence_t1; rw [if_pos c_40]
      rw [ej_0] at J_40
      exact wd_lv [2, 3, 1, 0] _ rfl J_40
  · refine wd_aload_n C dX7_doSequence_15 rfl 0 rfl ?_
    refine wd_iload_n C dX7_doSequence_16 rfl 1 rfl ?_
    refine wd_callV C 1 (c_X7_doPrivate _ K ad (si σ 0 0) p1) 0 (wcD_0 K ad _) rfl rfl tw_473 tw_475 tw_15 tw_64 tw_476 (by decide +kernel) rfl (by decide) (Nat.le_of_ble_eq_true rfl) dX7_doSequence_17 _ rfl ?_
    have e9 : p_X7_doSequence σ p1 = (p_X7_doPrivate (si σ 0 0) p1) := by unfold p_X7_doSequence; rw [if_pos c_12]
    exact hret _ _ _ (by rw [e9] <;> rfl) dX7_doSequence_20
