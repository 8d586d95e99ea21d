theorem kept6 (σ : St) : (q_X2_kept_N σ).toInt ≤ 6 := by
  unfold q_X2_kept_N p_X2_kept
  by_cases h : 6 < (subN σ).1 0
  · rw [if_pos h]; decide
  · rw [if_neg h]; simp only [ti_lt] at h; have z : (6 : Int32).toInt = 6 := (by decide); omega
theorem kept61 (σ : St) : (if 1 < q_X2_kept_N σ then q_X2_kept_N σ else 1 : Int32).toInt ≤ 6 := by
  by_cases h : 1 < q_X2_kept_N σ
  · rw [if_pos h]; exact kept6 σ
  · rw [if_neg h]; decide
def Okn (σ : St) : Prop := ∀ i : Nat, i < 6 → 0 ≤ (σ.2.2 4 i).toInt ∧ (σ.2.2 4 i).toInt ≤ 9999
theorem val0 (σ : St) : q_X2_valueAt_N σ 0 = σ.2.2 4 0 := by
  unfold q_X2_valueAt_N p_X2_valueAt p_X2_valueAt_t1
  rw [if_neg (by decide), if_neg (by decide)]
  rfl
def p_X7_reset (σ : St) : St := si ((q_X4_clear_R ((q_X6_clear_T15 ((q_X6_clear_T13 ((q_X2_begin_N ((q_X1_drop_L (p_X5_reset σ))))))))))) 0 0
set_option maxHeartbeats 4000000 in
set_option maxRecDepth 100000 in
theorem c_X7_reset (l : Launch) (K : KX) (ad : Nat → Nat) (σ : St) : Mt l K yX7_reset cX7_reset 1 none { frames := 3, cells := 0, slots := 0, locals := 62 } [.ref (ad 0)] (WdD K ad σ) none (WdD K ad (p_X7_reset σ)) := by
  refine Mt.v (by decide +kernel) (Nat.le_of_ble_eq_true rfl) (fun X C hret => ?_)
  show WD X K 1 0 0 (WdD K ad σ) [(0, .ref (ad 0))] 0 []
  refine wd_aload_n C dX7_reset_0 rfl 0 rfl ?_
  refine gfD_0_0 C tw_282 dX7_reset_1 ?_
  refine wd_callV C 0 (c_X5_reset _ K ad σ) 1 (wcD_1 K ad _) rfl rfl tw_250 tw_251 tw_252 tw_65 tw_253 (by decide +kernel) rfl (by decide) (Nat.le_of_ble_eq_true rfl) dX7_reset_4 _ rfl ?_
  refine wd_aload_n C dX7_reset_7 rfl 0 rfl ?_
  refine gfD_0_1 C tw_283 dX7_reset_8 ?_
  refine wd_callV C 0 (cD_X1_drop_L _ K ad (p_X5_reset σ)) 10 (wcD_10 K ad _) rfl rfl tw_266 tw_267 tw_268 tw_68 tw_269 (by decide +kernel) rfl (by decide) (Nat.le_of_ble_eq_true rfl) dX7_reset_11 _ rfl ?_
  refine wd_aload_n C dX7_reset_14 rfl 0 rfl ?_
  refine gfD_0_2 C tw_284 dX7_reset_15 ?_
  refine wd_callV C 0 (cD_X2_begin_N _ K ad ((q_X1_drop_L (p_X5_reset σ)))) 11 (wcD_11 K ad _) rfl rfl tw_270 tw_271 tw_272 tw_69 tw_273 (by decide +kernel) rfl (by decide) (Nat.le_of_ble_eq_true rfl) dX7_reset_18 _ rfl ?_
  refine wd_aload_n C dX7_reset_21 rfl 0 rfl ?_
  refine gfD_0_3 C tw_285 dX7_reset_22 ?_
  refine wd_callV C 0 (cD_X6_clear_T13 _ K ad ((q_X2_begin_N ((q_X1_drop_L (p_X5_reset σ)))))) 13 (wcD_13 K ad _) rfl rfl tw_274 tw_275 tw_276 tw_70 tw_277 (by decide +kernel) rfl (by decide) (Nat.le_of_ble_eq_true rfl) dX7_reset_25 _ rfl ?_
  refine wd_aload_n C dX7_reset_28 rfl 0 rfl ?_
  refine gfD_0_4 C tw_286 dX7_reset_29 ?_
  refine wd_callV C 0 (cD_X6_clear_T15 _ K ad ((q_X6_clear_T13 ((q_X2_begin_N ((q_X1_drop_L (p_X5_reset σ)))))))) 15 (wcD_15 K ad _) rfl rfl tw_274 tw_275 tw_276 tw_70 tw_277 (by decide +kernel) rfl (by decide) (Nat.le_of_ble_eq_true rfl) dX7_reset_32 _ rfl ?_
  refine wd_aload_n C dX7_reset_35 rfl 0 rfl ?_
  refine gfD_0_5 C tw_287 dX7_reset_36 ?_
  refine wd_callV C 0 (cD_X4_clear_R _ K ad ((q_X6_clear_T15 ((q_X6_clear_T13 ((q_X2_begin_N ((q_X1_drop_L (p_X5_reset σ)))))))))) 17 (wcD_17 K ad _) rfl rfl tw_278 tw_279 tw_280 tw_71 tw_281 (by decide +kernel) rfl (by decide) (Nat.le_of_ble_eq_true rfl) dX7_reset_39 _ rfl ?_
  refine wd_aload_n C dX7_reset_42 rfl 0 rfl ?_
  refine wd_iconst (v := 0) C dX7_reset_43 (by decide) ?_
  refine pfD_0_6 C tw_288 0 dX7_reset_44 ?_
  have e9 : p_X7_reset σ = si ((q_X4_clear_R ((q_X6_clear_T15 ((q_X6_clear_T13 ((q_X2_begin_N ((q_X1_drop_L (p_X5_reset σ))))))))))) 0 0 := by rfl
  exact hret _ _ _ (by rw [e9] <;> rfl) dX7_reset_47
def p_X7_takeFurther_s1 (σ : St) (p1 : Int32) : St := (if (q_X1_add_L σ p1).1 12 = 0 then (p_X5_print (q_X1_add_L σ p1) ((q_X1_whole_L (q_X1_add_L σ p1)))) else (q_X1_add_L σ p1))
def p_X7_takeFurther (σ : St) (p1 : Int32) : St := (p_X7_takeFurther_s1 σ p1)
set_option maxHeartbeats 4000000 in
set_option maxRecDepth 100000 in
theorem c_X7_takeFurther (l : Launch) (K : KX) (ad : Nat → Nat) (σ : St) (p1 : Int32) : Mt l K yX7_takeFurther cX7_takeFurther 2 none { frames := 3, cells := 0, slots := 0, locals := 66 } [.ref (ad 0), .int p1] (WdD K ad σ) none (WdD K ad (p_X7_takeFurther σ p1)) := by
  refine Mt.v (by decide +kernel) (Nat.le_of_ble_eq_true rfl) (fun X C hret => ?_)
  show WD X K 2 0 0 (WdD K ad σ) [(0, .ref (ad 0)), (1, .int p1)] 0 []
  refine wd_aload_n C dX7_takeFurther_0 rfl 0 rfl ?_
  refine gfD_0_1 C tw_283 dX7_takeFurther_1 ?_
  refine wd_iload_n C dX7_takeFurther_4 rfl 1 rfl ?_
  refine wd_callV C 1 (cD_X1_add_L _ K ad σ p1) 10 (wcD_10 K ad _) rfl rfl tw_316 tw_317 tw_318 tw_68 tw_319 (by decide +kernel) rfl (by decide) (Nat.le_of_ble_eq_true rfl) dX7_takeFurther_5 _ rfl ?_
  refine wd_aload_n C dX7_takeFurther_8 rfl 0 rfl ?_
  refine gfD_0_1 C tw_283 dX7_takeFurther_9 ?_
  refine gfD_10_0 (x := (q_X1_add_L σ p1).1 12) C tw_192 rfl dX7_takeFurther_12 ?_
  have J_15 : WD X K 2 0 0 (WdD K ad (p_X7_takeFurther_s1 σ p1)) [(0, .ref (ad 0)), (1, .int p1)] 32 [] := by
    have e9 : p_X7_takeFurther σ p1 = (p_X7_takeFurther_s1 σ p1) := by rfl
    exact hret _ _ _ (by rw [e9] <;> rfl) dX7_takeFurther_32
  refine wd_if_ne C 32 dX7_takeFurther_15 (by decide) (fun c_15 => ?_) (fun c_15 => ?_)
  · have ej_0 : p_X7_takeFurther_s1 σ p1 = (q_X1_add_L σ p1) := by unfold p_X7_takeFurther_s1; rw [if_neg c_15]
    rw [ej_0] at J_15
    exact wd_lv [0, 1] _ rfl J_15
  · refine wd_aload_n C dX7_takeFurther_18 rfl 0 rfl ?_
    refine gfD_0_0 C tw_282 dX7_takeFurther_19 ?_
    refine wd_aload_n C dX7_takeFurther_22 rfl 0 rfl ?_
    refine gfD_0_1 C tw_283 dX7_takeFurther_23 ?_
    refine wd_callV C 0 (cD_X1_whole_L _ K ad (q_X1_add_L σ p1)) 10 (wcD_10 K ad _) rfl rfl tw_320 tw_321 tw_322 tw_68 tw_323 (by decide +kernel) rfl (by decide) (Nat.le_of_ble_eq_true rfl) dX7_takeFurther_26 _ rfl ?_
    refine wd_callV C 1 (c_X5_print _ K ad (q_X1_add_L σ p1) ((q_X1_whole_L (q_X1_add_L σ p1)))) 1 (wcD_1 K ad _) rfl rfl tw_328 tw_329 tw_330 tw_65 tw_331 (by decide +kernel) rfl (by decide) (Nat.le_of_ble_eq_true rfl) dX7_takeFurther_29 _ rfl ?_
    have ej_0 : p_X7_takeFurther_s1 σ p1 = (p_X5_print (q_X1_add_L σ p1) ((q_X1_whole_L (q_X1_add_L σ p1)))) := by unfold p_X7_takeFurther_s1; rw [if_pos c_15]
    rw [ej_0] at J_15
    exact wd_lv [0, 1] _ rfl J_15
def p_X7_takeInGround_s1 (σ : St) (p1 : Int32) : St := (if 127 ≤ p1 then (if p1 < 194 then (if p1 ≤ 127 then σ else (p_X5_print σ 65533)) else (if 244 < p1 then (if p1 ≤ 127 then σ else (p_X5_print σ 65533)) else (q_X1_begin_L σ p1))) else (p_X5_print σ p1))
def p_X7_takeInGround (σ : St) (p1 : Int32) : St := (p_X7_takeInGround_s1 σ p1)
set_option maxHeartbeats 4000000 in
set_option maxRecDepth 100000 in
theorem c_X7_takeInGround (l : Launch) (K : KX) (ad : Nat → Nat) (σ : St) (p1 : Int32) : Mt l K yX7_takeInGround cX7_takeInGround 2 none { frames := 3, cells := 0, slots := 0, locals := 66 } [.ref (ad 0), .int p1] (WdD K ad σ) none (WdD K ad (p_X7_takeInGround σ p1)) := by
  refine Mt.v (by decide +kernel) (Nat.le_of_ble_eq_true rfl) (fun X C hret => ?_)
  show WD X K 2 0 0 (WdD K ad σ) [(0, .ref (ad 0)), (1, .int p1)] 0 []
  refine wd_iload_n C dX7_takeInGround_0 rfl 1 rfl ?_
  refine wd_bipush (v := 127) C dX7_takeInGround_1 (by decide) ?_
  have J_3 : WD X K 2 0 0 (WdD K ad (p_X7_takeInGround_s1 σ p1)) [(0, .ref (ad 0)), (1, .int p1)] 57 [] := by
    have e9 : p_X7_takeInGround σ p1 = (p_X7_takeInGround_s1 σ p1) := by rfl
    exact hret _ _ _ (by rw [e9] <;> rfl) dX7_takeInGround_57
  refine wd_icmp_ge C 17 dX7_takeInGround_3 (by decide) (fun c_3 => ?_) (fun c_3 => ?_)
  · refine wd_iload_n C dX7_takeInGround_17 rfl 1 rfl ?_
    refine wd_sipush (v := 194) C dX7_takeInGround_18 (by decide) ?_
    refine wd_icmp_lt C 42 dX7_takeInGround_21 (by decide) (fun c_21 => ?_) (fun c_21 => ?_)
    · refine wd_iload_n C dX7_takeInGround_42 rfl 1 rfl ?_
      refine wd_bipush (v := 127) C dX7_takeInGround_43 (by decide) ?_
      refine wd_icmp_le C 57 dX7_takeInGround_45 (by decide) (fun c_45 => ?_) (fun c_45 => ?_)
      · have ej_0 : p_X7_takeInGround_s1 σ p1 = σ := by unfold p_X7_takeInGround_s1; rw [if_pos c_3, if_pos c_21, if_pos c_45]
        rw [ej_0] at J_3
        exact wd_lv [0, 1] _ rfl J_3
      · refine wd_aload_n C dX7_takeInGround_48 rfl 0 rfl ?_
        refine gfD_0_0 C tw_282 dX7_takeInGround_49 ?_
        refine wd_ldc C tw_372 dX7_takeInGround_52 ?_
        refine wd_callV C 1 (c_X5_print _ K ad σ 65533) 1 (wcD_1 K ad _) rfl rfl tw_328 tw_329 tw_330 tw_65 tw_331 (by decide +kernel) rfl (by decide) (Nat.le_of_ble_eq_true rfl) dX7_takeInGround_54 _ rfl ?_
        have ej_0 : p_X7_takeInGround_s1 σ p1 = (p_X5_print σ 65533) := by unfold p_X7_takeInGround_s1; rw [if_pos c_3, if_pos c_21, if_neg c_45]
        rw [ej_0] at J_3
        exact wd_lv [0, 1] _ rfl J_3
    · refine wd_iload_n C dX7_takeInGround_24 rfl 1 rfl ?_
      refine wd_sipush (v := 244) C dX7_takeInGround_25 (by decide) ?_
      refine wd_icmp_gt C 42 dX7_takeInGround_28 (by decide) (fun c_28 => ?_) (fun c_28 => ?_)
      · refine wd_iload_n C dX7_takeInGround_42 rfl 1 rfl ?_
        refine wd_bipush (v := 127) C dX7_takeInGround_43 (by decide) ?_
        refine wd_icmp_le C 57 dX7_takeInGround_45 (by decide) (fun c_45 => ?_) (fun c_45 => ?_)
        · have ej_0 : p_X7_takeInGround_s1 σ p1 = σ := by unfold p_X7_takeInGround_s1; rw [if_pos c_3, if_neg c_21, if_pos c_28, if_pos c_45]
          rw [ej_0] at J_3
          exact wd_lv [0, 1] _ rfl J_3
        · refine wd_aload_n C dX7_takeInGround_48 rfl 0 rfl ?_
          refine gfD_0_0 C tw_282 dX7_takeInGround_49 ?_
          refine wd_ldc C tw_372 dX7_takeInGround_52 ?_
          refine wd_callV C 1 (c_X5_print _ K ad σ 65533) 1 (wcD_1 K ad _) rfl rfl tw_328 tw_329 tw_330 tw_65 tw_331 (by decide +kernel) rfl (by decide) (Nat.le_of_ble_eq_true rfl) dX7_takeInGround_54 _ rfl ?_
          have ej_0 : p_X7_takeInGround_s1 σ p1 = (p_X5_print σ 65533) := by unfold p_X7_takeInGround_s1; rw [if_pos c_3, if_neg c_21, if_pos c_28, if_neg c_45]
          rw [ej_0] at J_3
          exact wd_lv [0, 1] _ rfl J_3
      · refine wd_aload_n C dX7_takeInGround_31 rfl 0 rfl ?_
        refine gfD_0_1 C tw_283 dX7_takeInGround_32 ?_
        refine wd_iload_n C dX7_takeInGround_35 rfl 1 rfl ?_
        refine wd_callV C 1 (cD_X1_begin_L _ K ad σ p1) 10 (wcD_10 K ad _) rfl rfl tw_406 tw_407 tw_408 tw_68 tw_409 (by decide +kernel) rfl (by decide) (Nat.le_of_ble_eq_true rfl) dX7_takeInGround_36 _ rfl ?_
        refine wd_goto C 57 dX7_takeInGround_39 (by decide) ?_
        have ej_0 : p_X7_takeInGround_s1 σ p1 = (q_X1_begin_L σ p1) := by unfold p_X7_takeInGround_s1; rw [if_pos c_3, if_neg c_21, if_neg c_28]
        rw [ej_0] at J_3
        exact wd_lv [0, 1] _ rfl J_3
  · refine wd_aload_n C dX7_takeInGround_6 rfl 0 rfl ?_
    refine gfD_0_0 C tw_282 dX7_takeInGround_7 ?_
    refine wd_iload_n C dX7_takeInGround_10 rfl 1 rfl ?_
    refine wd_callV C 1 (c_X5_print _ K ad σ p1) 1 (wcD_1 K ad _) rfl rfl tw_328 tw_329 tw_330 tw_65 tw_331 (by decide +kernel) rfl (by decide) (Nat.le_of_ble_eq_true rfl) dX7_takeInGround_11 _ rfl ?_
    refine wd_goto C 57 dX7_takeInGround_14 (by decide) ?_
    have ej_0 : p_X7_takeInGround_s1 σ p1 = (p_X5_print σ p1) := by unfold p_X7_takeInGround_s1; rw [if_neg c_3]
    rw [ej_0] at J_3
    exact wd_lv [0, 1] _ rfl J_3
def p_X7_control_s1 (σ : St) (p1 : Int32) : St := (if p1 = 7 then si σ 4 ((σ.1 4) + 1) else (if p1 = 8 then (p_X5_moveLeft σ 1) else (if p1 = 9 then (p_X5_moveToTabStop σ) else (if p1 = 10 then (p_X5_feedRow σ) else (if p1 = 11 then (p_X5_feedRow σ) else (if p1 = 12 then (p_X5_feedRow σ) else (if p1 = 13 then (p_X5_moveToColumn σ 0) else σ)))))))
def p_X7_control (σ : St) (p1 : Int32) : St := (p_X7_control_s1 σ p1)
set_option maxHeartbeats 4000000 in
set_option maxRecDepth 100000 in
theorem c_X7_control (l : Launch) (K : KX) (ad : Nat → Nat) (σ : St) (p1 : Int32) : Mt l K yX7_control cX7_control 2 none { frames := 3, cells := 0, slots := 0, locals := 64 } [.ref (ad 0), .int p1] (WdD K ad σ) none (WdD K ad (p_X7_control σ p1)) := by
  refine Mt.v (by decide +kernel) (Nat.le_of_ble_eq_true rfl) (fun X C hret => ?_)
  show WD X K 2 0 0 (WdD K ad σ) [(0, .ref (ad 0)), (1, .int p1)] 0 []
  refine wd_iload_n C dX7_control_0 rfl 1 rfl ?_
  have J_1 : WD X K 2 0 0 (WdD K ad (p_X7_control_s1 σ p1)) [(0, .ref (ad 0)), (1, .int p1)] 102 [] := by
    have e9 : p_X7_control σ p1 = (p_X7_control_s1 σ p1) := by rfl
    exact hret _ _ _ (by rw [e9] <;> rfl) dX7_control_102
  by_cases c_1_7 : p1 = 7
  · refine wd_tsw C 44 dX7_control_1 (by decide) (by rw [c_1_7]; decide +kernel) ?_
    refine wd_aload_n C dX7_control_44 rfl 0 rfl ?_
    refine gfD_0_0 C tw_282 dX7_control_45 ?_
    refine wd_dup C dX7_control_48 rfl ?_
    refine gfD_1_10 (x := σ.1 4) C tw_158 rfl dX7_control_49 ?_
    refine wd_iconst (v := 1) C dX7_control_52 (by decide) ?_
    refine wd_iadd C dX7_control_53 ?_
    refine pfD_1_10 C tw_158 ((σ.1 4) + 1) dX7_control_54 ?_
    refine wd_goto C 102 dX7_control_57 (by decide) ?_
    have ej_0 : p_X7_control_s1 σ p1 = si σ 4 ((σ.1 4) + 1) := by unfold p_X7_control_s1; rw [if_pos c_1_7]
    rw [ej_0] at J_1
    exact wd_lv [0, 1] _ rfl J_1
  by_cases c_1_8 : p1 = 8
  · refine wd_tsw C 60 dX7_control_1 (by decide) (by rw [c_1_8]; decide +kernel) ?_
    refine wd_aload_n C dX7_control_60 rfl 0 rfl ?_
    refine gfD_0_0 C tw_282 dX7_control_61 ?_
    refine wd_iconst (v := 1) C dX7_control_64 (by decide) ?_
    refine wd_callV C 1 (c_X5_moveLeft _ K ad σ 1) 1 (wcD_1 K ad _) rfl rfl tw_377 tw_378 tw_379 tw_65 tw_380 (by decide +kernel) rfl (by decide) (Nat.le_of_ble_eq_true rfl) dX7_control_65 _ rfl ?_
    refine wd_goto C 102 dX7_control_68 (by decide) ?_
    have ej_0 : p_X7_control_s1 σ p1 = (p_X5_moveLeft σ 1) := by unfold p_X7_control_s1; rw [if_neg c_1_7, if_pos c_1_8]
    rw [ej_0] at J_1
    exact wd_lv [0, 1] _ rfl J_1
  by_cases c_1_9 : p1 = 9
  · refine wd_tsw C 71 dX7_control_1 (by decide) (by rw [c_1_9]; decide +kernel) ?_
    refine wd_aload_n C dX7_control_71 rfl 0 rfl ?_
    refine gfD_0_0 C tw_282 dX7_control_72 ?_
    refine wd_callV C 0 (c_X5_moveToTabStop _ K ad σ) 1 (wcD_1 K ad _) rfl rfl tw_392 tw_393 tw_394 tw_65 tw_395 (by decide +kernel) rfl (by decide) (Nat.le_of_ble_eq_true rfl) dX7_control_75 _ rfl ?_
    refine wd_goto C 102 dX7_control_78 (by decide) ?_
    have ej_0 : p_X7_control_s1 σ p1 = (p_X5_moveToTabStop σ) := by unfold p_X7_control_s1; rw [if_neg c_1_7, if_neg c_1_8, if_pos c_1_9]
    rw [ej_0] at J_1
    exact wd_lv [0, 1] _ rfl J_1
  by_cases c_1_10 : p1 = 10
  · refine wd_tsw C 81 dX7_control_1 (by decide) (by rw [c_1_10]; decide +kernel) ?_
    refine wd_aload_n C dX7_control_81 rfl 0 rfl ?_
    refine gfD_0_0 C tw_282 dX7_control_82 ?_
    refine wd_callV C 0 (c_X5_feedRow _ K ad σ) 1 (wcD_1 K ad _) rfl rfl tw_400 tw_333 tw_334 tw_65 tw_335 (by decide +kernel) rfl (by decide) (Nat.le_of_ble_eq_true rfl) dX7_control_85 _ rfl ?_
    refine wd_goto C 102 dX7_control_88 (by decide) ?_
    have ej_0 : p_X7_control_s1 σ p1 = (p_X5_feedRow σ) := by unfold p_X7_control_s1; rw [if_neg c_1_7, if_neg c_1_8, if_neg c_1_9, if_pos c_1_10]
    rw [ej_0] at J_1
    exact wd_lv [0, 1] _ rfl J_1
  by_cases c_1_11 : p1 = 11
  · refine wd_tsw C 81 dX7_control_1 (by decide) (by rw [c_1_11]; decide +kernel) ?_
    refine wd_aload_n C dX7_control_81 rfl 0 rfl ?_
    refine gfD_0_0 C tw_282 dX7_control_82 ?_
    refine wd_callV C 0 (c_X5_feedRow _ K ad σ) 1 (wcD_1 K ad _) rfl rfl tw_400 tw_333 tw_334 tw_65 tw_335 (by decide +kernel) rfl (by decide) (Nat.le_of_ble_eq_true rfl) dX7_control_85 _ rfl ?_
    refine wd_goto C 102 dX7_control_88 (by decide) ?_
    have ej_0 : p_X7_control_s1 σ p1 = (p_X5_feedRow σ) := by unfold p_X7_control_s1; rw [if_neg c_1_7, if_neg c_1_8, if_neg c_1_9, if_neg c_1_10, if_pos c_1_11]
    rw [ej_0] at J_1
    exact wd_lv [0, 1] _ rfl J_1
  by_cases c_1_12 : p1 = 12
  · refine wd_tsw C 81 dX7_control_1 (by decide) (by rw [c_1_12]; decide +kernel) ?_
    refine wd_aload_n C dX7_control_81 rfl 0 rfl ?_
    refine gfD_0_0 C tw_282 dX7_control_82 ?_
    refine wd_callV C 0 (c_X5_feedRow _ K ad σ) 1 (wcD_1 K ad _) rfl rfl tw_400 tw_333 tw_334 tw_65 tw_335 (by decide +kernel) rfl (by decide) (Nat.le_of_ble_eq_true rfl) dX7_control_85 _ rfl ?_
    refine wd_goto C 102 dX7_control_88 (by decide) ?_
    have ej_0 : p_X7_control_s1 σ p1 = (p_X5_feedRow σ) := by unfold p_X7_control_s1; rw [if_neg c_1_7, if_neg c_1_8, if_neg c_1_9, if_neg c_1_10, if_neg c_1_11, if_pos c_1_12]
    rw [ej_0] at J_1
    exact wd_lv [0, 1] _ rfl J_1
  by_cases c_1_13 : p1 = 13
  · refine wd_tsw C 91 dX7_control_1 (by decide) (by rw [c_1_13]; decide +kernel) ?_
    refine wd_aload_n C dX7_control_91 rfl 0 rfl ?_
    refine gfD_0_0 C tw_282 dX7_control_92 ?_
    refine wd_iconst (v := 0) C dX7_control_95 (by decide) ?_
    refine wd_callV C 1 (c_X5_moveToColumn _ K ad σ 0) 1 (wcD_1 K ad _) rfl rfl tw_401 tw_385 tw_386 tw_65 tw_387 (by decide +kernel) rfl (by decide) (Nat.le_of_ble_eq_true rfl) dX7_control_96 _ rfl ?_
    refine wd_goto C 102 dX7_control_99 (by decide) ?_
    have ej_0 : p_X7_control_s1 σ p1 = (p_X5_moveToColumn σ 0) := by unfold p_X7_control_s1; rw [if_neg c_1_7, if_neg c_1_8, if_neg c_1_9, if_neg c_1_10, if_neg c_1_11, if_neg c_1_12, if_pos c_1_13]
    rw [ej_0] at J_1
    exact wd_lv [0, 1] _ rfl J_1
  refine wd_tsw C 102 dX7_control_1 (by decide) (by rw [swT_d [7, 8, 9, 10, 11, 12, 13] (List.forall_mem_cons.mpr ⟨lv_neT c_1_7 (by decide), List.forall_mem_cons.mpr ⟨lv_neT c_1_8 (by decide), List.forall_mem_cons.mpr ⟨lv_neT c_1_9 (by decide), List.forall_mem_cons.mpr ⟨lv_neT c_1_10 (by decide), List.forall_mem_cons.mpr ⟨lv_neT c_1_11 (by decide), List.forall_mem_cons.mpr ⟨lv_neT c_1_12 (by decide), List.forall_mem_cons.mpr ⟨lv_neT c_1_13 (by decide), fun _ h => absurd h List.not_mem_nil⟩⟩⟩⟩⟩⟩⟩) (by decide +kernel)]; decide) ?_
  have ej_0 : p_X7_control_s1 σ p1 = σ := by unfold p_X7_control_s1; rw [if_neg c_1_7, if_neg c_1_8, if_neg c_1_9, if_neg c_1_10, if_neg c_1_11, if_neg c_1_12, if_neg c_1_13]
  rw [ej_0] at J_1
  exact wd_lv [0, 1] _ rfl J_1
def p_X7_takeInEscape_t1 (σ : St) (p1 : Int32) : Int32 := (if 48 ≤ p1 then 0 else 3)
def p_X7_takeInEscape_s2 (σ : St) (p1 : Int32) : St := (if p1 = 55 then (p_X5_save (si σ 0 (p_X7_takeInEscape_t1 σ p1))) else (if p1 = 56 then (p_X5_restore (si σ 0 (p_X7_takeInEscape_t1 σ p1))) else (if p1 = 68 then (p_X5_feedRow (si σ 0 (p_X7_takeInEscape_t1 σ p1))) else (if p1 = 69 then (p_X5_feedRow ((p_X5_moveToColumn (si σ 0 (p_X7_takeInEscape_t1 σ p1)) 0))) else (if p1 = 72 then (p_X5_setTabStop (si σ 0 (p_X7_takeInEscape_t1 σ p1))) else (if p1 = 77 then (p_X5_backRow (si σ 0 (p_X7_takeInEscape_t1 σ p1))) else (if p1 = 91 then si ((q_X2_begin_N (si σ 0 (p_X7_takeInEscape_t1 σ p1)))) 0 2 else (if p1 = 93 then si ((q_X6_clear_T15 (si σ 0 (p_X7_takeInEscape_t1 σ p1)))) 0 4 else (if p1 = 99 then (p_X7_reset (si σ 0 (p_X7_takeInEscape_t1 σ p1))) else si σ 0 (p_X7_takeInEscape_t1 σ p1))))))))))
def p_X7_takeInEscape (σ : St) (p1 : Int32) : St := (p_X7_takeInEscape_s2 σ p1)
set_option maxHeartbeats 4000000 in
set_option maxRecDepth 100000 in
theorem c_X7_takeInEscape (l : Launch) (K : KX) (ad : Nat → Nat) (σ : St) (p1 : Int32) : Mt l K yX7_takeInEscape cX7_takeInEscape 2 none { frames := 4, cells := 0, slots := 0, locals := 82 } [.ref (ad 0), .int p1] (WdD K ad σ) none (WdD K ad (p_X7_takeInEscape σ p1)) := by
  refine Mt.v (by decide +kernel) (Nat.le_of_ble_eq_true rfl) (fun X C hret => ?_)
  show WD X K 2 0 0 (WdD K ad σ) [(0, .ref (ad 0)), (1, .int p1)] 0 []
  refine wd_aload_n C dX7_takeInEscape_0 rfl 0 rfl ?_
  refine wd_iload_n C dX7_takeInEscape_1 rfl 1 rfl ?_
  refine wd_bipush (v := 48) C dX7_takeInEscape_2 (by decide) ?_
  have J_4 : WD X K 2 0 0 (WdD K ad σ) [(0, .ref (ad 0)), (1, .int p1)] 12 [.int (p_X7_takeInEscape_t1 σ p1), .ref (ad 0)] := by
    refine pfD_0_6 C tw_288 (p_X7_takeInEscape_t1 σ p1) dX7_takeInEscape_12 ?_
    refine wd_iload_n C dX7_takeInEscape_15 rfl 1 rfl ?_
    have J_16 : WD X K 2 0 0 (WdD K ad (p_X7_takeInEscape_s2 σ p1)) [(0, .ref (ad 0)), (1, .int p1)] 205 [] := by
      have e9 : p_X7_takeInEscape σ p1 = (p_X7_takeInEscape_s2 σ p1) := by rfl
      exact hret _ _ _ (by rw [e9] <;> rfl) dX7_takeInEscape_205
    by_cases c_16_55 : p1 = 55
    · refine wd_lsw (off := 114) C 130 dX7_takeInEscape_16 (by decide) (by rw [c_16_55]; decide +kernel) (by decide) ?_
      refine wd_aload_n C dX7_takeInEscape_130 rfl 0 rfl ?_
      refine gfD_0_0 C tw_282 dX7_takeInEscape_131 ?_
      refine wd_callV C 0 (c_X5_save _ K ad (si σ 0 (p_X7_takeInEscape_t1 σ p1))) 1 (wcD_1 K ad _) rfl rfl tw_419 tw_420 tw_421 tw_65 tw_422 (by decide +kernel) rfl (by decide) (Nat.le_of_ble_eq_true rfl) dX7_takeInEscape_134 _ rfl ?_
      refine wd_goto C 205 dX7_takeInEscape_137 (by decide) ?_
      have ej_0 : p_X7_takeInEscape_s2 σ p1 = (p_X5_save (si σ 0 (p_X7_takeInEscape_t1 σ p1))) := by unfold p_X7_takeInEscape_s2; rw [if_pos c_16_55]
      rw [ej_0] at J_16
      exact wd_lv [0, 1] _ rfl J_16
    by_cases c_16_56 : p1 = 56
    · refine wd_lsw (off := 124) C 140 dX7_takeInEscape_16 (by decide) (by rw [c_16_56]; decide +kernel) (by decide) ?_
      refine wd_aload_n C dX7_takeInEscape_140 rfl 0 rfl ?_
      refine gfD_0_0 C tw_282 dX7_takeInEscape_141 ?_
      refine wd_callV C 0 (c_X5_restore _ K ad (si σ 0 (p_X7_takeInEscape_t1 σ p1))) 1 (wcD_1 K ad _) rfl rfl tw_427 tw_428 tw_429 tw_65 tw_430 (by decide +kernel) rfl (by decide) (Nat.le_of_ble_eq_true rfl) dX7_takeInEscape_144 _ rfl ?_
      refine wd_goto C 205 dX7_takeInEscape_147 (by decide) ?_
      have ej_0 : p_X7_takeInEscape_s2 σ p1 = (p_X5_restore (si σ 0 (p_X7_takeInEscape_t1 σ p1))) := by unfold p_X7_takeInEscape_s2; rw [if_neg c_16_55, if_pos c_16_56]
      rw [ej_0] at J_16
      exact wd_lv [0, 1] _ rfl J_16
    by_cases c_16_68 : p1 = 68
    · refine wd_lsw (off := 134) C 150 dX7_takeInEscape_16 (by decide) (by rw [c_16_68]; decide +kernel) (by decide) ?_
      refine wd_aload_n C dX7_takeInEscape_150 rfl 0 rfl ?_
      refine gfD_0_0 C tw_282 dX7_takeInEscape_151 ?_
      refine wd_callV C 0 (c_X5_feedRow _ K ad (si σ 0 (p_X7_takeInEscape_t1 σ p1))) 1 (wcD_1 K ad _) rfl rfl tw_400 tw_333 tw_334 tw_65 tw_335 (by decide +kernel) rfl (by decide) (Nat.le_of_ble_eq_true rfl) dX7_takeInEscape_154 _ rfl ?_
      refine wd_goto C 205 dX7_takeInEscape_157 (by decide) ?_
      have ej_0 : p_X7_takeInEscape_s2 σ p1 = (p_X5_feedRow (si σ 0 (p_X7_takeInEscape_t1 σ p1))) := by unfold p_X7_takeInEscape_s2; rw [if_neg c_16_55, if_neg c_16_56, if_pos c_16_68]
      rw [ej_0] at J_16
      exact wd_lv [0, 1] _ rfl J_16
    by_cases c_16_69 : p1 = 69
    · refine wd_lsw (off := 144) C 160 dX7_takeInEscape_16 (by decide) (by rw [c_16_69]; decide +kernel) (by decide) ?_
      refine wd_aload_n C dX7_takeInEscape_160 rfl 0 rfl ?_
      refine gfD_0_0 C tw_282 dX7_takeInEscape_161 ?_
      refine wd_iconst (v := 0) C dX7_takeInEscape_164 (by decide) ?_
      refine wd_callV C 1 (c_X5_moveToColumn _ K ad (si σ 0 (p_X7_takeInEscape_t1 σ p1)) 0) 1 (wcD_1 K ad _) rfl rfl tw_401 tw_385 tw_386 tw_65 tw_387 (by decide +kernel) rfl (by decide) (Nat.le_of_ble_eq_true rfl) dX7_takeInEscape_165 _ rfl ?_
      refine wd_aload_n C dX7_takeInEscape_168 rfl 0 rfl ?_
      refine gfD_0_0 C tw_282 dX7_takeInEscape_169 ?_
      refine wd_callV C 0 (c_X5_feedRow _ K ad ((p_X5_moveToColumn (si σ 0 (p_X7_takeInEscape_t1 σ p1)) 0))) 1 (wcD_1 K ad _) rfl rfl tw_400 tw_333 tw_334 tw_65 tw_335 (by decide +kernel) rfl (by decide) (Nat.le_of_ble_eq_true rfl) dX7_takeInEscape_172 _ rfl ?_
      refine wd_goto C 205 dX7_takeInEscape_175 (by decide) ?_
      have ej_0 : p_X7_takeInEscape_s2 σ p1 = (p_X5_feedRow ((p_X5_moveToColumn (si σ 0 (p_X7_takeInEscape_t1 σ p1)) 0))) := by unfold p_X7_takeInEscape_s2; rw [if_neg c_16_55, if_neg c_16_56, if_neg c_16_68, if_pos c_16_69]
      rw [ej_0] at J_16
      exact wd_lv [0, 1] _ rfl J_16
    by_cases c_16_72 : p1 = 72
    · refine wd_lsw (off := 162) C 178 dX7_takeInEscape_16 (by decide) (by rw [c_16_72]; decide +kernel) (by decide) ?_
      refine wd_aload_n C dX7_takeInEscape_178 rfl 0 rfl ?_
      refine gfD_0_0 C tw_282 dX7_takeInEscape_179 ?_
      refine wd_callV C 0 (c_X5_setTabStop _ K ad (si σ 0 (p_X7_takeInEscape_t1 σ p1))) 1 (wcD_1 K ad _) rfl rfl tw_431 tw_432 tw_433 tw_65 tw_434 (by decide +kernel) rfl (by decide) (Nat.le_of_ble_eq_true rfl) dX7_takeInEscape_182 _ rfl ?_
      refine wd_goto C 205 dX7_takeInEscape_185 (by decide) ?_
      have ej_0 : p_X7_takeInEscape_s2 σ p1 = (p_X5_setTabStop (si σ 0 (p_X7_takeInEscape_t1 σ p1))) := by unfold p_X7_takeInEscape_s2; rw [if_neg c_16_55, if_neg c_16_56, if_neg c_16_68, if_neg c_16_69, if_pos c_16_72]
      rw [ej_0] at J_16
      exact wd_lv [0, 1] _ rfl J_16
    by_cases c_16_77 : p1 = 77
    · refine wd_lsw (off := 172) C 188 dX7_takeInEscape_16 (by decide) (by rw [c_16_77]; decide +kernel) (by decide) ?_
      refine wd_aload_n C dX7_takeInEscape_188 rfl 0 rfl ?_
      refine gfD_0_0 C tw_282 dX7_takeInEscape_189 ?_
      refine wd_callV C 0 (c_X5_backRow _ K ad (si σ 0 (p_X7_takeInEscape_t1 σ p1))) 1 (wcD_1 K ad _) rfl rfl tw_435 tw_436 tw_437 tw_65 tw_438 (by decide +kernel) rfl (by decide) (Nat.le_of_ble_eq_true rfl) dX7_takeInEscape_192 _ rfl ?_
      refine wd_goto C 205 dX7_takeInEscape_195 (by decide) ?_
      have ej_0 : p_X7_takeInEscape_s2 σ p1 = (p_X5_backRow (si σ 0 (p_X7_takeInEscape_t1 σ p1))) := by unfold p_X7_takeInEscape_s2; rw [if_neg c_16_55, if_neg c_16_56, if_neg c_16_68, if_neg c_16_69, if_neg c_16_72, if_pos c_16_77]
      rw [ej_0] at J_16
      exact wd_lv [0, 1] _ rfl J_16
    by_cases c_16_91 : p1 = 91
    · refine wd_lsw (off := 84) C 100 dX7_takeInEscape_16 (by decide) (by rw [c_16_91]; decide +kernel) (by decide) ?_
      refine wd_aload_n C dX7_takeInEscape_100 rfl 0 rfl ?_
      refine gfD_0_2 C tw_284 dX7_takeInEscape_101 ?_
      refine wd_callV C 0 (cD_X2_begin_N _ K ad (si σ 0 (p_X7_takeInEscape_t1 σ p1))) 11 (wcD_11 K ad _) rfl rfl tw_270 tw_271 tw_272 tw_69 tw_273 (by decide +kernel) rfl (by decide) (Nat.le_of_ble_eq_true rfl) dX7_takeInEscape_104 _ rfl ?_
      refine wd_aload_n C dX7_takeInEscape_107 rfl 0 rfl ?_
      refine wd_iconst (v := 2) C dX7_takeInEscape_108 (by decide) ?_
      refine pfD_0_6 C tw_288 2 dX7_takeInEscape_109 ?_
      refine wd_goto C 205 dX7_takeInEscape_112 (by decide) ?_
      have ej_0 : p_X7_takeInEscape_s2 σ p1 = si ((q_X2_begin_N (si σ 0 (p_X7_takeInEscape_t1 σ p1)))) 0 2 := by unfold p_X7_takeInEscape_s2; rw [if_neg c_16_55, if_neg c_16_56, if_neg c_16_68, if_neg c_16_69, if_neg c_16_72, if_neg c_16_77, if_pos c_16_91]
      rw [ej_0] at J_16
      exact wd_lv [0, 1] _ rfl J_16
    by_cases c_16_93 : p1 = 93
    · refine wd_lsw (off := 99) C 115 dX7_takeInEscape_16 (by decide) (by rw [c_16_93]; decide +kernel) (by decide) ?_
      refine wd_aload_n C dX7_takeInEscape_115 rfl 0 rfl ?_
      refine gfD_0_4 C tw_286 dX7_takeInEscape_116 ?_
      refine wd_callV C 0 (cD_X6_clear_T15 _ K ad (si σ 0 (p_X7_takeInEscape_t1 σ p1))) 15 (wcD_15 K ad _) rfl rfl tw_274 tw_275 tw_276 tw_70 tw_277 (by decide +kernel) rfl (by decide) (Nat.le_of_ble_eq_true rfl) dX7_takeInEscape_119 _ rfl ?_
      refine wd_aload_n C dX7_takeInEscape_122 rfl 0 rfl ?_
      refine wd_iconst (v := 4) C dX7_takeInEscape_123 (by decide) ?_
      refine pfD_0_6 C tw_288 4 dX7_takeInEscape_124 ?_
      refine wd_goto C 205 dX7_takeInEscape_127 (by decide) ?_
      have ej_0 : p_X7_takeInEscape_s2 σ p1 = si ((q_X6_clear_T15 (si σ 0 (p_X7_takeInEscape_t1 σ p1)))) 0 4 := by unfold p_X7_takeInEscape_s2; rw [if_neg c_16_55, if_neg c_16_56, if_neg c_16_68, if_neg c_16_69, if_neg c_16_72, if_neg c_16_77, if_neg c_16_91, if_pos c_16_93]
      rw [ej_0] at J_16
      exact wd_lv [0, 1] _ rfl J_16
    by_cases c_16_99 : p1 = 99
    · refine wd_lsw (off := 182) C 198 dX7_takeInEscape_16 (by decide) (by rw [c_16_99]; decide +kernel) (by decide) ?_
      refine wd_aload_n C dX7_takeInEscape_198 rfl 0 rfl ?_
      refine wd_callV C 0 (c_X7_reset _ K ad (si σ 0 (p_X7_takeInEscape_t1 σ p1))) 0 (wcD_0 K ad _) rfl rfl tw_246 tw_248 tw_0 tw_64 tw_249 (by decide +kernel) rfl (by decide) (Nat.le_of_ble_eq_true rfl) dX7_takeInEscape_199 _ rfl ?_
      refine wd_goto C 205 dX7_takeInEscape_202 (by decide) ?_
      have ej_0 : p_X7_takeInEscape_s2 σ p1 = (p_X7_reset (si σ 0 (p_X7_takeInEscape_t1 σ p1))) := by unfold p_X7_takeInEscape_s2; rw [if_neg c_16_55, if_neg c_16_56, if_neg c_16_68, if_neg c_16_69, if_neg c_16_72, if_neg c_16_77, if_neg c_16_91, if_neg c_16_93, if_pos c_16_99]
      rw [ej_0] at J_16
      exact wd_lv [0, 1] _ rfl J_16
    refine wd_lsw (off := 189) C 205 dX7_takeInEscape_16 (by decide) (by show Op.lookupswitch.offset [(55, 114), (56, 124), (68, 134), (69, 144), (72, 162), (77, 172), (91, 84), (93, 99), (99, 182)] 189 _ = _; rw [lv_osw (a := 55) c_16_55 (by decide), lv_osw (a := 56) c_16_56 (by decide), lv_osw (a := 68) c_16_68 (by decide), lv_osw (a := 69) c_16_69 (by decide), lv_osw (a := 72) c_16_72 (by decide), lv_osw (a := 77) c_16_77 (by decide), lv_osw (a := 91) c_16_91 (by decide), lv_osw (a := 93) c_16_93 (by decide), lv_osw (a := 99) c_16_99 (by decide)]; rfl) (by decide) ?_
    have ej_0 : p_X7_takeInEscape_s2 σ p1 = si σ 0 (p_X7_takeInEscape_t1 σ p1) := by unfold p_X7_takeInEscape_s2; rw [if_neg c_16_55, if_neg c_16_56, if_neg c_16_68, if_neg c_16_69, if_neg c_16_72, if_neg c_16_77, if_neg c_16_91, if_neg c_16_93, if_neg c_16_99]
    rw [ej_0] at J_16
    exact wd_lv [0, 1] _ rfl J_16
  refine wd_icmp_ge C 11 dX7_takeInEscape_4 (by decide) (fun c_4 => ?_) (fun c_4 => ?_)
  · refine wd_iconst (v := 0) C dX7_takeInEscape_11 (by decide) ?_
    have ej_0 : p_X7_takeInEscape_t1 σ p1 = 0 := by unfold p_X7_takeInEscape_t1; rw [if_pos c_4]
    rw [ej_0] at J_4
    exact wd_lv [0, 1] _ rfl J_4
  · refine wd_iconst (v := 3) C dX7_takeInEscape_7 (by decide) ?_
    refine wd_goto C 12 dX7_takeInEscape_8 (by decide) ?_
    have ej_0 : p_X7_takeInEscape_t1 σ p1 = 3 := by unfold p_X7_takeInEscape_t1; rw [if_neg c_4]
    rw [ej_0] at J_4
    exact wd_lv [0, 1] _ rfl J_4
def p_X7_takeBeforeEnd_s1 (σ : St) (p1 : Int32) : St := (if p1 < 48 then (if p1 = 59 then (q_X2_next_N σ) else (if p1 = 63 then (if (q_X2_isUntouched_N σ) = true then sb σ 7 true else si σ 0 3) else si σ 0 3)) else (if 57 < p1 then (if p1 = 59 then (q_X2_next_N σ) else (if p1 = 63 then (if (q_X2_isUntouched_N σ) = true then sb σ 7 true else si σ 0 3) else si σ 0 3)) else (q_X2_addDigit_N σ (p1 - 48))))
def p_X7_takeBeforeEnd (σ : St) (p1 : Int32) : St := (if σ.1 0 = 3 then σ else (p_X7_takeBeforeEnd_s1 σ p1))
set_option maxHeartbeats 4000000 in
set_option maxRecDepth 100000 in
theorem c_X7_takeBeforeEnd (l : Launch) (K : KX) (ad : Nat → Nat) (σ : St) (p1 : Int32) : Mt l K yX7_takeBeforeEnd cX7_takeBeforeEnd 2 none { frames := 2, cells := 0, slots := 0, locals := 43 } [.ref (ad 0), .int p1] (WdD K ad σ) none (WdD K ad (p_X7_takeBeforeEnd σ p1)) := by
  refine Mt.v (by decide +kernel) (Nat.le_of_ble_eq_true rfl) (fun X C hret => ?_)
  show WD X K 2 0 0 (WdD K ad σ) [(0, .ref (ad 0)), (1, .int p1)] 0 []
  refine wd_aload_n C dX7_takeBeforeEnd_0 rfl 0 rfl ?_
  refine gfD_0_6 (x := σ.1 0) C tw_288 rfl dX7_takeBeforeEnd_1 ?_
  refine wd_iconst (v := 3) C dX7_takeBeforeEnd_4 (by decide) ?_
  refine wd_icmp_ne C 9 dX7_takeBeforeEnd_5 (by decide) (fun c_5 => ?_) (fun c_5 => ?_)
  · refine wd_iload_n C dX7_takeBeforeEnd_9 rfl 1 rfl ?_
    refine wd_bipush (v := 48) C dX7_takeBeforeEnd_10 (by decide) ?_
    have J_12 : WD X K 2 0 0 (WdD K ad (p_X7_takeBeforeEnd_s1 σ p1)) [(0, .ref (ad 0)), (1, .int p1)] 83 [] := by
      have e9 : p_X7_takeBeforeEnd σ p1 = (p_X7_takeBeforeEnd_s1 σ p1) := by unfold p_X7_takeBeforeEnd; rw [if_neg c_5]
      exact hret _ _ _ (by rw [e9] <;> rfl) dX7_takeBeforeEnd_83
    refine wd_icmp_lt C 35 dX7_takeBeforeEnd_12 (by decide) (fun c_12 => ?_) (fun c_12 => ?_)
    · refine wd_iload_n C dX7_takeBeforeEnd_35 rfl 1 rfl ?_
      refine wd_bipush (v := 59) C dX7_takeBeforeEnd_36 (by decide) ?_
      refine wd_icmp_ne C 51 dX7_takeBeforeEnd_38 (by decide) (fun c_38 => ?_) (fun c_38 => ?_)
      · refine wd_iload_n C dX7_takeBeforeEnd_51 rfl 1 rfl ?_
        refine wd_bipush (v := 63) C dX7_takeBeforeEnd_52 (by decide) ?_
        refine wd_icmp_ne C 78 dX7_takeBeforeEnd_54 (by decide) (fun c_54 => ?_) (fun c_54 => ?_)
        · refine wd_aload_n C dX7_takeBeforeEnd_78 rfl 0 rfl ?_
          refine wd_iconst (v := 3) C dX7_takeBeforeEnd_79 (by decide) ?_
          refine pfD_0_6 C tw_288 3 dX7_takeBeforeEnd_80 ?_
          have ej_0 : p_X7_takeBeforeEnd_s1 σ p1 = si σ 0 3 := by unfold p_X7_takeBeforeEnd_s1; rw [if_pos c_12, if_neg c_38, if_neg c_54]
          rw [ej_0] at J_12
          exact wd_lv [0, 1] _ rfl J_12
        · refine wd_aload_n C dX7_takeBeforeEnd_57 rfl 0 rfl ?_
          refine gfD_0_2 C tw_284 dX7_takeBeforeEnd_58 ?_
          refine wd_callV C 0 (cD_X2_isUntouched_N _ K ad σ) 11 (wcD_11 K ad _) rfl rfl tw_465 tw_466 tw_467 tw_69 tw_468 (by decide +kernel) rfl (by decide) (Nat.le_of_ble_eq_true rfl) dX7_takeBeforeEnd_61 _ rfl ?_
          refine wd_if_eqB (b := (q_X2_isUntouched_N σ)) C 78 dX7_takeBeforeEnd_64 (by decide) (fun c_64 => ?_) (fun c_64 => ?_)
          · refine wd_aload_n C dX7_takeBeforeEnd_78 rfl 0 rfl ?_
            refine wd_iconst (v := 3) C dX7_takeBeforeEnd_79 (by decide) ?_
            refine pfD_0_6 C tw_288 3 dX7_takeBeforeEnd_80 ?_
            have ej_0 : p_X7_takeBeforeEnd_s1 σ p1 = si σ 0 3 := by unfold p_X7_takeBeforeEnd_s1; rw [if_pos c_12, if_neg c_38, if_pos c_54, if_neg c_64]
            rw [ej_0] at J_12
            exact wd_lv [0, 1] _ rfl J_12
          · refine wd_aload_n C dX7_takeBeforeEnd_67 rfl 0 rfl ?_
            refine gfD_0_2 C tw_284 dX7_takeBeforeEnd_68 ?_
            refine wd_iconst (v := 1) C dX7_takeBeforeEnd_71 (by decide) ?_
            refine pfD_11_2 C tw_211 true dX7_takeBeforeEnd_72 ?_
            refine wd_goto C 83 dX7_takeBeforeEnd_75 (by decide) ?_
            have ej_0 : p_X7_takeBeforeEnd_s1 σ p1 = sb σ 7 true := by unfold p_X7_takeBeforeEnd_s1; rw [if_pos c_12, if_neg c_38, if_pos c_54, if_pos c_64]
            rw [ej_0] at J_12
            exact wd_lv [0, 1] _ rfl J_12
      · refine wd_aload_n C dX7_takeBeforeEnd_41 rfl 0 rfl ?_
        refine gfD_0_2 C tw_284 dX7_takeBeforeEnd_42 ?_
        refine wd_callV C 0 (cD_X2_next_N _ K ad σ) 11 (wcD_11 K ad _) rfl rfl tw_461 tw_462 tw_463 tw_69 tw_464 (by decide +kernel) rfl (by decide) (Nat.le_of_ble_eq_true rfl) dX7_takeBeforeEnd_45 _ rfl ?_
        refine wd_goto C 83 dX7_takeBeforeEnd_48 (by decide) ?_
        have ej_0 : p_X7_takeBeforeEnd_s1 σ p1 = (q_X2_next_N σ) := by unfold p_X7_takeBeforeEnd_s1; rw [if_pos c_12, if_pos c_38]
        rw [ej_0] at J_12
        exact wd_lv [0, 1] _ rfl J_12
    · refine wd_iload_n C dX7_takeBeforeEnd_15 rfl 1 rfl ?_
      refine wd_bipush (v := 57) C dX7_takeBeforeEnd_16 (by decide) ?_
      refine wd_icmp_gt C 35 dX7_takeBeforeEnd_18 (by decide) (fun c_18 => ?_) (fun c_18 => ?_)
      · refine wd_iload_n C dX7_takeBeforeEnd_35 rfl 1 rfl ?_
        refine wd_bipush (v := 59) C dX7_takeBeforeEnd_36 (by decide) ?_
        refine wd_icmp_ne C 51 dX7_takeBeforeEnd_38 (by decide) (fun c_38 => ?_) (fun c_38 => ?_)
        · refine wd_iload_n C dX7_takeBeforeEnd_51 rfl 1 rfl ?_
          refine wd_bipush (v := 63) C dX7_takeBeforeEnd_52 (by decide) ?_
          refine wd_icmp_ne C 78 dX7_takeBeforeEnd_54 (by decide) (fun c_54 => ?_) (fun c_54 => ?_)
          · refine wd_aload_n C dX7_takeBeforeEnd_78 rfl 0 rfl ?_
            refine wd_iconst (v := 3) C dX7_takeBeforeEnd_79 (by decide) ?_
            refine pfD_0_6 C tw_288 3 dX7_takeBeforeEnd_80 ?_
            have ej_0 : p_X7_takeBeforeEnd_s1 σ p1 = si σ 0 3 := by unfold p_X7_takeBeforeEnd_s1; rw [if_neg c_12, if_pos c_18, if_neg c_38, if_neg c_54]
            rw [ej_0] at J_12
            exact wd_lv [0, 1] _ rfl J_12
          · refine wd_aload_n C dX7_takeBeforeEnd_57 rfl 0 rfl ?_
            refine gfD_0_2 C tw_284 dX7_takeBeforeEnd_58 ?_
            refine wd_callV C 0 (cD_X2_isUntouched_N _ K ad σ) 11 (wcD_11 K ad _) rfl rfl tw_465 tw_466 tw_467 tw_69 tw_468 (by decide +kernel) rfl (by decide) (Nat.le_of_ble_eq_true rfl) dX7_takeBeforeEnd_61 _ rfl ?_
            refine wd_if_eqB (b := (q_X2_isUntouched_N σ)) C 78 dX7_takeBeforeEnd_64 (by decide) (fun c_64 => ?_) (fun c_64 => ?_)
            · refine wd_aload_n C dX7_takeBeforeEnd_78 rfl 0 rfl ?_
              refine wd_iconst (v := 3) C dX7_takeBeforeEnd_79 (by decide) ?_
              refine pfD_0_6 C tw_288 3 dX7_takeBeforeEnd_80 ?_
              have ej_0 : p_X7_takeBeforeEnd_s1 σ p1 = si σ 0 3 := by unfold p_X7_takeBeforeEnd_s1; rw [if_neg c_12, if_pos c_18, if_neg c_38, if_pos c_54, if_neg c_64]
              rw [ej_0] at J_12
              exact wd_lv [0, 1] _ rfl J_12
            · refine wd_aload_n C dX7_takeBeforeEnd_67 rfl 0 rfl ?_
              refine gfD_0_2 C tw_284 dX7_takeBeforeEnd_68 ?_
              refine wd_iconst (v := 1) C dX7_takeBeforeEnd_71 (by decide) ?_
              refine pfD_11_2 C tw_211 true dX7_takeBeforeEnd_72 ?_
              refine wd_goto C 83 dX7_takeBeforeEnd_75 (by decide) ?_
              have ej_0 : p_X7_takeBeforeEnd_s1 σ p1 = sb σ 7 true := by unfold p_X7_takeBeforeEnd_s1; rw [if_neg c_12, if_pos c_18, if_neg c_38, if_pos c_54, if_pos c_64]
              rw [ej_0] at J_12
              exact wd_lv [0, 1] _ rfl J_12
        · refine wd_aload_n C dX7_takeBeforeEnd_41 rfl 0 rfl ?_
          refine gfD_0_2 C tw_284 dX7_takeBeforeEnd_42 ?_
          refine wd_callV C 0 (cD_X2_next_N _ K ad σ) 11 (wcD_11 K ad _) rfl rfl tw_461 tw_462 tw_463 tw_69 tw_464 (by decide +kernel) rfl (by decide) (Nat.le_of_ble_eq_true rfl) dX7_takeBeforeEnd_45 _ rfl ?_
          refine wd_goto C 83 dX7_takeBeforeEnd_48 (by decide) ?_
          have ej_0 : p_X7_takeBeforeEnd_s1 σ p1 = (q_X2_next_N σ) := by unfold p_X7_takeBeforeEnd_s1; rw [if_neg c_12, if_pos c_18, if_pos c_38]
          rw [ej_0] at J_12
          exact wd_lv [0, 1] _ rfl J_12
      · refine wd_aload_n C dX7_takeBeforeEnd_21 rfl 0 rfl ?_
        refine gfD_0_2 C tw_284 dX7_takeBeforeEnd_22 ?_
        refine wd_iload_n C dX7_takeBeforeEnd_25 rfl 1 rfl ?_
        refine wd_bipush (v := 48) C dX7_takeBeforeEnd_26 (by decide) ?_
        refine wd_isub C dX7_takeBeforeEnd_28 ?_
        refine wd_callV C 1 (cD_X2_addDigit_N _ K ad σ (p1 - 48)) 11 (wcD_11 K ad _) rfl rfl tw_455 tw_456 tw_457 tw_69 tw_458 (by decide +kernel) rfl (by decide) (Nat.le_of_ble_eq_true rfl) dX7_takeBeforeEnd_29 _ rfl ?_
        refine wd_goto C 83 dX7_takeBeforeEnd_32 (by decide) ?_
        have ej_0 : p_X7_takeBeforeEnd_s1 σ p1 = (q_X2_addDigit_N σ (p1 - 48)) := by unfold p_X7_takeBeforeEnd_s1; rw [if_neg c_12, if_neg c_18]
        rw [ej_0] at J_12
        exact wd_lv [0, 1] _ rfl J_12
  · have e9 : p_X7_takeBeforeEnd σ p1 = σ := by unfold p_X7_takeBeforeEnd; rw [if_pos c_5]
    exact hret _ _ _ (by rw [e9] <;> rfl) dX7_takeBeforeEnd_8
def p_X7_takeInTitle_s1 (σ : St) (p1 : Int32) : St := (if p1 < 32 then (if p1 = 7 then si (q_X6_copyFrom_TT σ) 0 0 else σ) else (q_X6_add_T15 σ p1))
def p_X7_takeInTitle (σ : St) (p1 : Int32) : St := (p_X7_takeInTitle_s1 σ p1)
set_option maxHeartbeats 4000000 in
set_option maxRecDepth 100000 in
theorem c_X7_takeInTitle (l : Launch) (K : KX) (ad : Nat → Nat) (σ : St) (p1 : Int32) : Mt l K yX7_takeInTitle cX7_takeInTitle 2 none { frames := 1, cells := 0, slots := 0, locals := 22 } [.ref (ad 0), .int p1] (WdD K ad σ) none (WdD K ad (p_X7_takeInTitle σ p1)) := by
  refine Mt.v (by decide +kernel) (Nat.le_of_ble_eq_true rfl) (fun X C hret => ?_)
  show WD X K 2 0 0 (WdD K ad σ) [(0, .ref (ad 0)), (1, .int p1)] 0 []
  refine wd_iload_n C dX7_takeInTitle_0 rfl 1 rfl ?_
  refine wd_bipush (v := 32) C dX7_takeInTitle_1 (by decide) ?_
  have J_3 : WD X K 2 0 0 (WdD K ad (p_X7_takeInTitle_s1 σ p1)) [(0, .ref (ad 0)), (1, .int p1)] 39 [] := by
    have e9 : p_X7_takeInTitle σ p1 = (p_X7_takeInTitle_s1 σ p1) := by rfl
    exact hret _ _ _ (by rw [e9] <;> rfl) dX7_takeInTitle_39
  refine wd_icmp_lt C 17 dX7_takeInTitle_3 (by decide) (fun c_3 => ?_) (fun c_3 => ?_)
  · refine wd_iload_n C dX7_takeInTitle_17 rfl 1 rfl ?_
    refine wd_bipush (v := 7) C dX7_takeInTitle_18 (by decide) ?_
    refine wd_icmp_ne C 39 dX7_takeInTitle_20 (by decide) (fun c_20 => ?_) (fun c_20 => ?_)
    · have ej_0 : p_X7_takeInTitle_s1 σ p1 = σ := by unfold p_X7_takeInTitle_s1; rw [if_pos c_3, if_neg c_20]
      rw [ej_0] at J_3
      exact wd_lv [0, 1] _ rfl J_3
    · refine wd_aload_n C dX7_takeInTitle_23 rfl 0 rfl ?_
      refine gfD_0_3 C tw_285 dX7_takeInTitle_24 ?_
      refine wd_aload_n C dX7_takeInTitle_27 rfl 0 rfl ?_
      refine gfD_0_4 C tw_286 dX7_takeInTitle_28 ?_
      refine wd_callV C 1 (cD_X6_copyFrom_TT _ K ad σ) 13 (wcD_13 K ad _) rfl rfl tw_447 tw_448 tw_449 tw_70 tw_450 (by decide +kernel) rfl (by decide) (Nat.le_of_ble_eq_true rfl) dX7_takeInTitle_31 _ rfl ?_
      refine wd_aload_n C dX7_takeInTitle_34 rfl 0 rfl ?_
      refine wd_iconst (v := 0) C dX7_takeInTitle_35 (by decide) ?_
      refine pfD_0_6 C tw_288 0 dX7_takeInTitle_36 ?_
      have ej_0 : p_X7_takeInTitle_s1 σ p1 = si (q_X6_copyFrom_TT σ) 0 0 := by unfold p_X7_takeInTitle_s1; rw [if_pos c_3, if_pos c_20]
      rw [ej_0] at J_3
      exact wd_lv [0, 1] _ rfl J_3
  · refine wd_aload_n C dX7_takeInTitle_6 rfl 0 rfl ?_
    refine gfD_0_4 C tw_286 dX7_takeInTitle_7 ?_
    refine wd_iload_n C dX7_takeInTitle_10 rfl 1 rfl ?_
    refine wd_callV C 1 (cD_X6_add_T15 _ K ad σ p1) 15 (wcD_15 K ad _) rfl rfl tw_443 tw_444 tw_445 tw_70 tw_446 (by decide +kernel) rfl (by decide) (Nat.le_of_ble_eq_true rfl) dX7_takeInTitle_11 _ rfl ?_
    refine wd_goto C 39 dX7_takeInTitle_14 (by decide) ?_
    have ej_0 : p_X7_takeInTitle_s1 σ p1 = (q_X6_add_T15 σ p1) := by unfold p_X7_takeInTitle_s1; rw [if_neg c_3]
    rw [ej_0] at J_3
    exact wd_lv [0, 1] _ rfl J_3
def p_X7_answer_s1 (σ : St) (p1 : Int32) : St := (if p1 = 5 then (q_X4_addWell_R σ) else (if p1 = 6 then (q_X4_addPosition_R σ (p_X5_rowToTell σ) ((σ.1 7) + 1)) else σ))
def p_X7_answer (σ : St) (p1 : Int32) : St := (p_X7_answer_s1 σ p1)
set_option maxHeartbeats 4000000 in
set_option maxRecDepth 100000 in
theorem c_X7_answer (l : Launch) (K : KX) (ad : Nat → Nat) (σ : St) (p1 : Int32) : Mt l K yX7_answer cX7_answer 2 none { frames := 2, cells := 0, slots := 0, locals := 44 } [.ref (ad 0), .int p1] (WdD K ad σ) none (WdD K ad (p_X7_answer σ p1)) := by
  refine Mt.v (by decide +kernel) (Nat.le_of_ble_eq_true rfl) (fun X C hret => ?_)
  show WD X K 2 0 0 (WdD K ad σ) [(0, .ref (ad 0)), (1, .int p1)] 0 []
  refine wd_iload_n C dX7_answer_0 rfl 1 rfl ?_
  refine wd_iconst (v := 5) C dX7_answer_1 (by decide) ?_
  have J_2 : WD X K 2 0 0 (WdD K ad (p_X7_answer_s1 σ p1)) [(0, .ref (ad 0)), (1, .int p1)] 47 [] := by
    have e9 : p_X7_answer σ p1 = (p_X7_answer_s1 σ p1) := by rfl
    exact hret _ _ _ (by rw [e9] <;> rfl) dX7_answer_47
  refine wd_icmp_ne C 15 dX7_answer_2 (by decide) (fun c_2 => ?_) (fun c_2 => ?_)
  · refine wd_iload_n C dX7_answer_15 rfl 1 rfl ?_
    refine wd_bipush (v := 6) C dX7_answer_16 (by decide) ?_
    refine wd_icmp_ne C 47 dX7_answer_18 (by decide) (fun c_18 => ?_) (fun c_18 => ?_)
    · have ej_0 : p_X7_answer_s1 σ p1 = σ := by unfold p_X7_answer_s1; rw [if_neg c_2, if_neg c_18]
      rw [ej_0] at J_2
      exact wd_lv [0, 1] _ rfl J_2
    · refine wd_aload_n C dX7_answer_21 rfl 0 rfl ?_
      refine gfD_0_5 C tw_287 dX7_answer_22 ?_
      refine wd_aload_n C dX7_answer_25 rfl 0 rfl ?_
      refine gfD_0_0 C tw_282 dX7_answer_26 ?_
      refine wd_callV C 0 (c_X5_rowToTell _ K ad σ) 1 (wcD_1 K ad _) rfl rfl tw_612 tw_613 tw_614 tw_65 tw_615 (by decide +kernel) rfl (by decide) (Nat.le_of_ble_eq_true rfl) dX7_answer_29 _ rfl ?_
      refine wd_aload_n C dX7_answer_32 rfl 0 rfl ?_
      refine gfD_0_0 C tw_282 dX7_answer_33 ?_
      refine gfD_1_2 C tw_144 dX7_answer_36 ?_
      refine gfD_8_1 (x := σ.1 7) C tw_119 rfl dX7_answer_39 ?_
      refine wd_iconst (v := 1) C dX7_answer_42 (by decide) ?_
      refine wd_iadd C dX7_answer_43 ?_
      refine wd_callV C 2 (cD_X4_addPosition_R _ K ad σ (p_X5_rowToTell σ) ((σ.1 7) + 1)) 17 (wcD_17 K ad _) rfl rfl tw_616 tw_617 tw_618 tw_71 tw_619 (by decide +kernel) rfl (by decide) (Nat.le_of_ble_eq_true rfl) dX7_answer_44 _ rfl ?_
      have ej_0 : p_X7_answer_s1 σ p1 = (q_X4_addPosition_R σ (p_X5_rowToTell σ) ((σ.1 7) + 1)) := by unfold p_X7_answer_s1; rw [if_neg c_2, if_pos c_18]
      rw [ej_0] at J_2
      exact wd_lv [0, 1] _ rfl J_2
  · refine wd_aload_n C dX7_answer_5 rfl 0 rfl ?_
    refine gfD_0_5 C tw_287 dX7_answer_6 ?_
    refine wd_callV C 0 (cD_X4_addWell_R _ K ad σ) 17 (wcD_17 K ad _) rfl rfl tw_600 tw_601 tw_602 tw_71 tw_603 (by decide +kernel) rfl (by decide) (Nat.le_of_ble_eq_true rfl) dX7_answer_9 _ rfl ?_
    refine wd_goto C 47 dX7_answer_12 (by decide) ?_
    have ej_0 : p_X7_answer_s1 σ p1 = (q_X4_addWell_R σ) := by unfold p_X7_answer_s1; rw [if_pos c_2]
    rw [ej_0] at J_2
    exact wd_lv [0, 1] _ rfl J_2
def p_X7_paintAll_l1 (σ : St) : Nat → St → Int32 → St × Int32
  | 0, s, x2 => (s, x2)
  | n + 1, s, x2 => (if (if 1 < (q_X2_kept_N σ) then (q_X2_kept_N σ) else 1) ≤ x2 then (s, x2) else p_X7_paintAll_l1 σ n ((q_X0_paint_C8 s (q_X2_valueAt_N s x2))) (x2 + 1))
def p_X7_paintAll (σ : St) : St := (p_X7_paintAll_l1 σ 6 σ 0).1
set_option maxHeartbeats 4000000 in
set_option maxRecDepth 100000 in
theorem c_X7_paintAll (l : Launch) (K : KX) (ad : Nat → Nat) (σ : St) : Mt l K yX7_paintAll cX7_paintAll 3 none { frames := 3, cells := 0, slots := 0, locals := 63 } [.ref (ad 0)] (WdD K ad σ) none (WdD K ad (p_X7_paintAll σ)) := by
  refine Mt.v (by decide +kernel) (Nat.le_of_ble_eq_true rfl) (fun X C hret => ?_)
  show WD X K 3 0 0 (WdD K ad σ) [(0, .ref (ad 0))] 0 []
  refine wd_iconst (v := 1) C dX7_paintAll_0 (by decide) ?_
  refine wd_aload_n C dX7_paintAll_1 rfl 0 rfl ?_
  refine gfD_0_2 C tw_284 dX7_paintAll_2 ?_
  refine wd_callV C 0 (cD_X2_kept_N _ K ad σ) 11 (wcD_11 K ad _) rfl rfl tw_477 tw_478 tw_479 tw_69 tw_480 (by decide +kernel) rfl (by decide) (Nat.le_of_ble_eq_true rfl) dX7_paintAll_5 _ rfl ?_
  refine wd_max C tw_567 (by decide) (Nat.le_of_ble_eq_true rfl) (by decide) (by decide) dX7_paintAll_8 ?_
  refine wd_istore_n C [(1, .int ((if 1 < (q_X2_kept_N σ) then (q_X2_kept_N σ) else 1))), (0, .ref (ad 0))] dX7_paintAll_11 rfl (by decide) rfl ?_
  refine wd_iconst (v := 0) C dX7_paintAll_12 (by decide) ?_
  refine wd_istore_n C [(2, .int 0), (1, .int ((if 1 < (q_X2_kept_N σ) then (q_X2_kept_N σ) else 1))), (0, .ref (ad 0))] dX7_paintAll_13 rfl (by decide) rfl ?_
  have J_14 : WD X K 3 0 0 (WdD K ad ((p_X7_paintAll_l1 σ 6 σ 0).1)) [(0, .ref (ad 0)), (1, .int ((if 1 < (q_X2_kept_N σ) then (q_X2_kept_N σ) else 1))), (2, .int ((p_X7_paintAll_l1 σ 6 σ 0).2))] 43 [] := by
    have e9 : p_X7_paintAll σ = (p_X7_paintAll_l1 σ 6 σ 0).1 := by rfl
    exact hret _ _ _ (by rw [e9] <;> rfl) dX7_paintAll_43
  have L_14 : ∀ (n : Nat) (s : St) (x2 : Int32), p_X7_paintAll_l1 σ n s x2 = p_X7_paintAll_l1 σ 6 σ 0 → 0 ≤ x2.toInt ∧ (if 1 < (q_X2_kept_N σ) then (q_X2_kept_N σ) else 1 : Int32).toInt - x2.toInt ≤ (n : Int) → WD X K 3 0 0 (WdD K ad s) [(0, .ref (ad 0)), (1, .int ((if 1 < (q_X2_kept_N σ) then (q_X2_kept_N σ) else 1))), (2, .int x2)] 14 [] := by
    intro n
    induction n with
    | zero =>
      intro s x2 hE hI
      refine wd_iload_n C dX7_paintAll_14 rfl 2 rfl ?_
      refine wd_iload_n C dX7_paintAll_15 rfl 1 rfl ?_
      refine wd_icmp_ge C 43 dX7_paintAll_16 (by decide) (fun c_16 => ?_) (fun c_16 => ?_)
      · have eL := hE
        rw [p_X7_paintAll_l1] at eL
        rw [← eL] at J_14
        exact wd_lv [0, 1, 2] _ rfl J_14
      · exact absurd (ti_le.mpr (by have h0 := hI.2; omega)) c_16
    | succ n ih =>
      intro s x2 hE hI
      refine wd_iload_n C dX7_paintAll_14 rfl 2 rfl ?_
      refine wd_iload_n C dX7_paintAll_15 rfl 1 rfl ?_
      refine wd_icmp_ge C 43 dX7_paintAll_16 (by decide) (fun c_16 => ?_) (fun c_16 => ?_)
      · have eL := hE
        rw [p_X7_paintAll_l1, if_pos c_16] at eL
        rw [← eL] at J_14
        exact wd_lv [0, 1, 2] _ rfl J_14
      · refine wd_aload_n C dX7_paintAll_19 rfl 0 rfl ?_
        refine gfD_0_0 C tw_282 dX7_paintAll_20 ?_
        refine gfD_1_2 C tw_144 dX7_paintAll_23 ?_
        refine wd_aload_n C dX7_paintAll_26 rfl 0 rfl ?_
        refine gfD_0_2 C tw_284 dX7_paintAll_27 ?_
        refine wd_iload_n C dX7_paintAll_30 rfl 2 rfl ?_
        refine wd_callV C 1 (cD_X2_valueAt_N _ K ad s x2) 11 (wcD_11 K ad _) rfl rfl tw_481 tw_482 tw_483 tw_69 tw_484 (by decide +kernel) rfl (by decide) (Nat.le_of_ble_eq_true rfl) dX7_paintAll_31 _ rfl ?_
        refine wd_callV C 1 (cD_X0_paint_C8 _ K ad s (q_X2_valueAt_N s x2)) 8 (wcD_8 K ad _) rfl rfl tw_568 tw_569 tw_570 tw_67 tw_571 (by decide +kernel) rfl (by decide) (Nat.le_of_ble_eq_true rfl) dX7_paintAll_34 _ rfl ?_
        refine wd_iinc (v := x2 + 1) C [(2, .int (x2 + 1)), (0, .ref (ad 0)), (1, .int ((if 1 < (q_X2_kept_N σ) then (q_X2_kept_N σ) else 1)))] dX7_paintAll_37 2 rfl (by rfl) (by decide) rfl ?_
        refine wd_goto C 14 dX7_paintAll_40 (by decide) ?_
        have eL := hE
        rw [p_X7_paintAll_l1, if_neg c_16] at eL
        exact wd_lv [1, 2, 0] _ rfl (ih ((q_X0_paint_C8 s (q_X2_valueAt_N s x2))) (x2 + 1) eL (by have h0 : ¬ (if 1 < (q_X2_kept_N σ) then (q_X2_kept_N σ) else 1 : Int32).toInt ≤ x2.toInt := (fun z => c_16 (ti_le.mpr z)); have h1 := hI.1; have h2 := hI.2; have z1 : (1 : Int32).toInt = 1 := (by decide); have m := kept61 σ; have e1 := ti_add (a := x2) (b := 1) (by omega) (by omega); constructor <;> omega))
  exact wd_lv [2, 1, 0] _ rfl (L_14 6 σ 0 rfl (by have m := kept61 σ; have z : (0 : Int32).toInt = 0 := (by decide); constructor <;> omega))
def p_X7_switchInsert_s1 (σ : St) (p1 : Bool) (s : St) (x2 : Int32) : St := (if (q_X2_valueAt_N s x2) = 4 then sb s 0 p1 else s)
def p_X7_switchInsert_l2 (σ : St) (p1 : Bool) : Nat → St → Int32 → St × Int32
  | 0, s, x2 => (s, x2)
  | n + 1, s, x2 => (if (q_X2_kept_N s) ≤ x2 then (s, x2) else p_X7_switchInsert_l2 σ p1 n (p_X7_switchInsert_s1 σ p1 s x2) (x2 + 1))
def p_X7_switchInsert (σ : St) (p1 : Bool) : St := (p_X7_switchInsert_l2 σ p1 6 σ 0).1
set_option maxHeartbeats 4000000 in
set_option maxRecDepth 100000 in
theorem c_X7_switchInsert (l : Launch) (K : KX) (ad : Nat → Nat) (σ : St) (p1 : Bool) : Mt l K yX7_switchInsert cX7_switchInsert 3 none { frames := 2, cells := 0, slots := 0, locals := 41 } [.ref (ad 0), .int (b2i p1)] (WdD K ad σ) none (WdD K ad (p_X7_switchInsert σ p1)) := by
  refine Mt.v (by decide +kernel) (Nat.le_of_ble_eq_true rfl) (fun X C hret => ?_)
  show WD X K 3 0 0 (WdD K ad σ) [(0, .ref (ad 0)), (1, .int (b2i p1))] 0 []
  refine wd_iconst (v := 0) C dX7_switchInsert_0 (by decide) ?_
  refine wd_istore_n C [(2, .int 0), (0, .ref (ad 0)), (1, .int (b2i p1))] dX7_switchInsert_1 rfl (by decide) rfl ?_
  have J_2 : WD X K 3 0 0 (WdD K ad ((p_X7_switchInsert_l2 σ p1 6 σ 0).1)) [(0, .ref (ad 0)), (1, .int (b2i p1)), (2, .int ((p_X7_switchInsert_l2 σ p1 6 σ 0).2))] 39 [] := by
    have e9 : p_X7_switchInsert σ p1 = (p_X7_switchInsert_l2 σ p1 6 σ 0).1 := by rfl
    exact hret _ _ _ (by rw [e9] <;> rfl) dX7_switchInsert_39
  have L_2 : ∀ (n : Nat) (s : St) (x2 : Int32), p_X7_switchInsert_l2 σ p1 n s x2 = p_X7_switchInsert_l2 σ p1 6 σ 0 → 0 ≤ x2.toInt ∧ 6 - x2.toInt ≤ (n : Int) → WD X K 3 0 0 (WdD K ad s) [(0, .ref (ad 0)), (1, .int (b2i p1)), (2, .int x2)] 2 [] := by
    intro n
    induction n with
    | zero =>
      intro s x2 hE hI
      refine wd_iload_n C dX7_switchInsert_2 rfl 2 rfl ?_
      refine wd_aload_n C dX7_switchInsert_3 rfl 0 rfl ?_
      refine gfD_0_2 C tw_284 dX7_switchInsert_4 ?_
      refine wd_callV C 0 (cD_X2_kept_N _ K ad s) 11 (wcD_11 K ad _) rfl rfl tw_477 tw_478 tw_479 tw_69 tw_480 (by decide +kernel) rfl (by decide) (Nat.le_of_ble_eq_true rfl) dX7_switchInsert_7 _ rfl ?_
      refine wd_icmp_ge C 39 dX7_switchInsert_10 (by decide) (fun c_10 => ?_) (fun c_10 => ?_)
      · have eL := hE
        rw [p_X7_switchInsert_l2] at eL
        rw [← eL] at J_2
        exact wd_lv [0, 1, 2] _ rfl J_2
      · exact absurd (ti_le.mpr (by have h2 := hI.2; have k6 := kept6 s; omega)) c_10
    | succ n ih =>
      intro s x2 hE hI
      refine wd_iload_n C dX7_switchInsert_2 rfl 2 rfl ?_
      refine wd_aload_n C dX7_switchInsert_3 rfl 0 rfl ?_
      refine gfD_0_2 C tw_284 dX7_switchInsert_4 ?_
      refine wd_callV C 0 (cD_X2_kept_N _ K ad s) 11 (wcD_11 K ad _) rfl rfl tw_477 tw_478 tw_479 tw_69 tw_480 (by decide +kernel) rfl (by decide) (Nat.le_of_ble_eq_true rfl) dX7_switchInsert_7 _ rfl ?_
      refine wd_icmp_ge C 39 dX7_switchInsert_10 (by decide) (fun c_10 => ?_) (fun c_10 => ?_)
      · have eL := hE
        rw [p_X7_switchInsert_l2, if_pos c_10] at eL
        rw [← eL] at J_2
        exact wd_lv [0, 1, 2] _ rfl J_2
      · refine wd_aload_n C dX7_switchInsert_13 rfl 0 rfl ?_
        refine gfD_0_2 C tw_284 dX7_switchInsert_14 ?_
        refine wd_iload_n C dX7_switchInsert_17 rfl 2 rfl ?_
        refine wd_callV C 1 (cD_X2_valueAt_N _ K ad s x2) 11 (wcD_11 K ad _) rfl rfl tw_481 tw_482 tw_483 tw_69 tw_484 (by decide +kernel) rfl (by decide) (Nat.le_of_ble_eq_true rfl) dX7_switchInsert_18 _ rfl ?_
        refine wd_iconst (v := 4) C dX7_switchInsert_21 (by decide) ?_
        have J_22 : WD X K 3 0 0 (WdD K ad (p_X7_switchInsert_s1 σ p1 s x2)) [(0, .ref (ad 0)), (1, .int (b2i p1)), (2, .int x2)] 33 [] := by
          refine wd_iinc (v := x2 + 1) C [(2, .int (x2 + 1)), (0, .ref (ad 0)), (1, .int (b2i p1))] dX7_switchInsert_33 2 rfl (by rfl) (by decide) rfl ?_
          refine wd_goto C 2 dX7_switchInsert_36 (by decide) ?_
          have eL := hE
          rw [p_X7_switchInsert_l2, if_neg c_10] at eL
          exact wd_lv [1, 2, 0] _ rfl (ih (p_X7_switchInsert_s1 σ p1 s x2) (x2 + 1) eL (by have h0 : ¬ (q_X2_kept_N s).toInt ≤ x2.toInt := (fun z => c_10 (ti_le.mpr z)); have k6 := kept6 s; have h1 := hI.1; have h2 := hI.2; have z1 : (1 : Int32).toInt = 1 := (by decide); have e1 := ti_add (a := x2) (b := 1) (by omega) (by omega); constructor <;> omega))
        refine wd_icmp_ne C 33 dX7_switchInsert_22 (by decide) (fun c_22 => ?_) (fun c_22 => ?_)
        · have ej_0 : p_X7_switchInsert_s1 σ p1 s x2 = s := by unfold p_X7_switchInsert_s1; rw [if_neg c_22]
          rw [ej_0] at J_22
          exact wd_lv [0, 1, 2] _ rfl J_22
        · refine wd_aload_n C dX7_switchInsert_25 rfl 0 rfl ?_
          refine gfD_0_0 C tw_282 dX7_switchInsert_26 ?_
          refine wd_iload_n C dX7_switchInsert_29 rfl 1 rfl ?_
          refine pfD_1_7 C tw_152 p1 dX7_switchInsert_30 ?_
          have ej_0 : p_X7_switchInsert_s1 σ p1 s x2 = sb s 0 p1 := by unfold p_X7_switchInsert_s1; rw [if_pos c_22]
          rw [ej_0] at J_22
          exact wd_lv [0, 1, 2] _ rfl J_22
  exact wd_lv [1, 2, 0] _ rfl (L_2 6 σ 0 rfl (by constructor <;> decide))
def p_X7_doPrivate_t1 (σ : St) (p1 : Int32) (s : St) (x2 : Int32) : Bool := (if p1 = 104 then true else false)
def p_X7_doPrivate_l2 (σ : St) (p1 : Int32) : Nat → St → Int32 → St × Int32
  | 0, s, x2 => (s, x2)
  | n + 1, s, x2 => (if (q_X2_kept_N s) ≤ x2 then (s, x2) else p_X7_doPrivate_l2 σ p1 n ((p_X5_switchPrivate s (q_X2_valueAt_N s x2) (p_X7_doPrivate_t1 σ p1 s x2))) (x2 + 1))
def p_X7_doPrivate_r1 (σ : St) (p1 : Int32) : St := (p_X7_doPrivate_l2 σ p1 6 σ 0).1
def p_X7_doPrivate (σ : St) (p1 : Int32) : St := (if p1 = 104 then p_X7_doPrivate_r1 σ p1 else (if p1 = 108 then p_X7_doPrivate_r1 σ p1 else σ))
set_option maxHeartbeats 4000000 in
set_option maxRecDepth 100000 in
theorem c_X7_doPrivate (l : Launch) (K : KX) (ad : Nat → Nat) (σ : St) (p1 : Int32) : Mt l K yX7_doPrivate cX7_doPrivate 3 none { frames := 3, cells := 0, slots := 0, locals := 68 } [.ref (ad 0), .int p1] (WdD K ad σ) none (WdD K ad (p_X7_doPrivate σ p1)) := by
  refine Mt.v (by decide +kernel) (Nat.le_of_ble_eq_true rfl) (fun X C hret => ?_)
  show WD X K 3 0 0 (WdD K ad σ) [(0, .ref (ad 0)), (1, .int p1)] 0 []
  refine wd_iload_n C dX7_doPrivate_0 rfl 1 rfl ?_
  refine wd_bipush (v := 104) C dX7_doPrivate_1 (by decide) ?_
  have J_3 : p_X7_doPrivate σ p1 = p_X7_doPrivate_r1 σ p1 → WD X K 3 0 0 (WdD K ad σ) [(0, .ref (ad 0)), (1, .int p1)] 13 [] := by
    intro hJ_3
    refine wd_iconst (v := 0) C dX7_doPrivate_13 (by decide) ?_
    refine wd_istore_n C [(2, .int 0), (0, .ref (ad 0)), (1, .int p1)] dX7_doPrivate_14 rfl (by decide) rfl ?_
    have J_15 : WD X K 3 0 0 (WdD K ad ((p_X7_doPrivate_l2 σ p1 6 σ 0).1)) [(0, .ref (ad 0)), (1, .int p1), (2, .int ((p_X7_doPrivate_l2 σ p1 6 σ 0).2))] 58 [] := by
      have e9 : p_X7_doPrivate σ p1 = (p_X7_doPrivate_l2 σ p1 6 σ 0).1 := by rw [hJ_3]; rfl
      exact hret _ _ _ (by rw [e9] <;> rfl) dX7_doPrivate_58
    have L_15 : ∀ (n : Nat) (s : St) (x2 : Int32), p_X7_doPrivate_l2 σ p1 n s x2 = p_X7_doPrivate_l2 σ p1 6 σ 0 → 0 ≤ x2.toInt ∧ 6 - x2.toInt ≤ (n : Int) → WD X K 3 0 0 (WdD K ad s) [(0, .ref (ad 0)), (1, .int p1), (2, .int x2)] 15 [] := by
      intro n
      induction n with
      | zero =>
        intro s x2 hE hI
        refine wd_iload_n C dX7_doPrivate_15 rfl 2 rfl ?_
        refine wd_aload_n C dX7_doPrivate_16 rfl 0 rfl ?_
        refine gfD_0_2 C tw_284 dX7_doPrivate_17 ?_
        refine wd_callV C 0 (cD_X2_kept_N _ K ad s) 11 (wcD_11 K ad _) rfl rfl tw_477 tw_478 tw_479 tw_69 tw_480 (by decide +kernel) rfl (by decide) (Nat.le_of_ble_eq_true rfl) dX7_doPrivate_20 _ rfl ?_
        refine wd_icmp_ge C 58 dX7_doPrivate_23 (by decide) (fun c_23 => ?_) (fun c_23 => ?_)
        · have eL := hE
          rw [p_X7_doPrivate_l2] at eL
          rw [← eL] at J_15
          exact wd_lv [0, 1, 2] _ rfl J_15
        · exact absurd (ti_le.mpr (by have h2 := hI.2; have k6 := kept6 s; omega)) c_23
      | succ n ih =>
        intro s x2 hE hI
        refine wd_iload_n C dX7_doPrivate_15 rfl 2 rfl ?_
        refine wd_aload_n C dX7_doPrivate_16 rfl 0 rfl ?_
        refine gfD_0_2 C tw_284 dX7_doPrivate_17 ?_
        refine wd_callV C 0 (cD_X2_kept_N _ K ad s) 11 (wcD_11 K ad _) rfl rfl tw_477 tw_478 tw_479 tw_69 tw_480 (by decide +kernel) rfl (by decide) (Nat.le_of_ble_eq_true rfl) dX7_doPrivate_20 _ rfl ?_
        refine wd_icmp_ge C 58 dX7_doPrivate_23 (by decide) (fun c_23 => ?_) (fun c_23 => ?_)
        · have eL := hE
          rw [p_X7_doPrivate_l2, if_pos c_23] at eL
          rw [← eL] at J_15
          exact wd_lv [0, 1, 2] _ rfl J_15
        · refine wd_aload_n C dX7_doPrivate_26 rfl 0 rfl ?_
          refine gfD_0_0 C tw_282 dX7_doPrivate_27 ?_
          refine wd_aload_n C dX7_doPrivate_30 rfl 0 rfl ?_
          refine gfD_0_2 C tw_284 dX7_doPrivate_31 ?_
          refine wd_iload_n C dX7_doPrivate_34 rfl 2 rfl ?_
          refine wd_callV C 1 (cD_X2_valueAt_N _ K ad s x2) 11 (wcD_11 K ad _) rfl rfl tw_481 tw_482 tw_483 tw_69 tw_484 (by decide +kernel) rfl (by decide) (Nat.le_of_ble_eq_true rfl) dX7_doPrivate_35 _ rfl ?_
          refine wd_iload_n C dX7_doPrivate_38 rfl 1 rfl ?_
          refine wd_bipush (v := 104) C dX7_doPrivate_39 (by decide) ?_
          have J_41 : WD X K 3 0 0 (WdD K ad s) [(0, .ref (ad 0)), (1, .int p1), (2, .int x2)] 49 [.int (b2i (p_X7_doPrivate_t1 σ p1 s x2)), .int (q_X2_valueAt_N s x2), .ref (ad 1)] := by
            refine wd_callV C 2 (c_X5_switchPrivate _ K ad s (q_X2_valueAt_N s x2) (p_X7_doPrivate_t1 σ p1 s x2)) 1 (wcD_1 K ad _) rfl rfl tw_485 tw_486 tw_487 tw_65 tw_488 (by decide +kernel) rfl (by decide) (Nat.le_of_ble_eq_true rfl) dX7_doPrivate_49 _ rfl ?_
            refine wd_iinc (v := x2 + 1) C [(2, .int (x2 + 1)), (0, .ref (ad 0)), (1, .int p1)] dX7_doPrivate_52 2 rfl (by rfl) (by decide) rfl ?_
            refine wd_goto C 15 dX7_doPrivate_55 (by decide) ?_
            have eL := hE
            rw [p_X7_doPrivate_l2, if_neg c_23] at eL
            exact wd_lv [1, 2, 0] _ rfl (ih ((p_X5_switchPrivate s (q_X2_valueAt_N s x2) (p_X7_doPrivate_t1 σ p1 s x2))) (x2 + 1) eL (by have h0 : ¬ (q_X2_kept_N s).toInt ≤ x2.toInt := (fun z => c_23 (ti_le.mpr z)); have k6 := kept6 s; have h1 := hI.1; have h2 := hI.2; have z1 : (1 : Int32).toInt = 1 := (by decide); have e1 := ti_add (a := x2) (b := 1) (by omega) (by omega); constructor <;> omega))
          refine wd_icmp_ne C 48 dX7_doPrivate_41 (by decide) (fun c_41 => ?_) (fun c_41 => ?_)
          · refine wd_iconst (v := 0) C dX7_doPrivate_48 (by decide) ?_
            have ej_0 : p_X7_doPrivate_t1 σ p1 s x2 = false := by unfold p_X7_doPrivate_t1; rw [if_neg c_41]
            rw [ej_0] at J_41
            exact wd_lv [0, 1, 2] _ rfl J_41
          · refine wd_iconst (v := 1) C dX7_doPrivate_44 (by decide) ?_
            refine wd_goto C 49 dX7_doPrivate_45 (by decide) ?_
            have ej_0 : p_X7_doPrivate_t1 σ p1 s x2 = true := by unfold p_X7_doPrivate_t1; rw [if_pos c_41]
            rw [ej_0] at J_41
            exact wd_lv [0, 1, 2] _ rfl J_41
    exact wd_lv [1, 2, 0] _ rfl (L_15 6 σ 0 rfl (by constructor <;> decide))
  refine wd_icmp_eq C 13 dX7_doPrivate_3 (by decide) (fun c_3 => ?_) (fun c_3 => ?_)
  · have J_3e := J_3 (by unfold p_X7_doPrivate; rw [if_pos c_3])
    exact wd_lv [0, 1] _ rfl J_3e
  · refine wd_iload_n C dX7_doPrivate_6 rfl 1 rfl ?_
    refine wd_bipush (v := 108) C dX7_doPrivate_7 (by decide) ?_
    refine wd_icmp_eq C 13 dX7_doPrivate_9 (by decide) (fun c_9 => ?_) (fun c_9 => ?_)
    · have J_3e := J_3 (by unfold p_X7_doPrivate; rw [if_neg c_3, if_pos c_9])
      exact wd_lv [0, 1] _ rfl J_3e
    · have e9 : p_X7_doPrivate σ p1 = σ := by unfold p_X7_doPrivate; rw [if_neg c_3, if_neg c_9]
      exact hret _ _ _ (by rw [e9] <;> rfl) dX7_doPrivate_12
