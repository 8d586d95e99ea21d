/-! ===== numbers ===== -/
theorem ti_add {a b : Int32} (h1 : -2147483648 ≤ a.toInt + b.toInt) (h2 : a.toInt + b.toInt ≤ 2147483647) : (a + b).toInt = a.toInt + b.toInt := by
  rw [Int32.toInt_add]
  exact Int.bmod_eq_of_le (by omega) (by omega)
theorem ti_sub {a b : Int32} (h1 : -2147483648 ≤ a.toInt - b.toInt) (h2 : a.toInt - b.toInt ≤ 2147483647) : (a - b).toInt = a.toInt - b.toInt := by
  rw [Int32.toInt_sub]
  exact Int.bmod_eq_of_le (by omega) (by omega)
theorem ti_mul {a b : Int32} (h1 : -2147483648 ≤ a.toInt * b.toInt) (h2 : a.toInt * b.toInt ≤ 2147483647) : (a * b).toInt = a.toInt * b.toInt := by
  rw [Int32.toInt_mul]
  exact Int.bmod_eq_of_le (by omega) (by omega)
theorem ti_lt {a b : Int32} : a < b ↔ a.toInt < b.toInt := Int32.lt_iff_toInt_lt
theorem ti_le {a b : Int32} : a ≤ b ↔ a.toInt ≤ b.toInt := Int32.le_iff_toInt_le
theorem ti_eq {a b : Int32} : a = b ↔ a.toInt = b.toInt := Int32.toInt_inj.symm
theorem ti_rng (a : Int32) : -2147483648 ≤ a.toInt ∧ a.toInt ≤ 2147483647 := ⟨Int32.le_toInt a, Int32.toInt_le a⟩
/-- an index that the code has looked at -/
theorem in_g {x N : Int32} {n : Nat} (h1 : ¬ x < 0) (h2 : ¬ N ≤ x) (hN : N.toInt = n) : vp_in x n := by
  rw [ti_lt] at h1; rw [ti_le] at h2
  have z : (0 : Int32).toInt = 0 := by decide
  exact vp_in_iff.mpr (by omega)
theorem in_h {x N : Int32} {n : Nat} (h1 : ¬ x < 0) (h2 : x < N) (hN : N.toInt = n) : vp_in x n := by
  rw [ti_lt] at h1 h2
  have z : (0 : Int32).toInt = 0 := by decide
  exact vp_in_iff.mpr (by omega)
theorem nb_ok {b : Int32} (h : ¬ (6 : Int32) ≤ (if 1 < b then b else 1) - 1) : vp_in ((if 1 < b then b else 1) - 1) 6 := by
  have r := ti_rng b
  have z1 : (1 : Int32).toInt = 1 := by decide
  refine in_g (N := 6) ?_ h (by decide)
  by_cases hb : 1 < b
  · rw [if_pos hb]
    rw [ti_lt] at hb ⊢
    rw [ti_sub (by omega) (by omega)]
    have z : (0 : Int32).toInt = 0 := by decide
    omega
  · rw [if_neg hb]; decide

def p_X0_place (σ : St) (p1 : Int32) (p2 : Int32) : St := sb (si (si σ 0 p1) 1 p2) 0 false
set_option maxHeartbeats 4000000 in
set_option maxRecDepth 100000 in
theorem c_X0_place (l : Launch) (K : KX) (ad : Nat → Nat) (σ : St) (p1 : Int32) (p2 : Int32) : Mt l K yX0_place cX0_place 3 none { frames := 0, cells := 0, slots := 0, locals := 0 } [.ref (ad 0), .int p1, .int p2] (WdC K ad σ) none (WdC K ad (p_X0_place σ p1 p2)) := by
  refine Mt.v (by decide +kernel) (Nat.le_of_ble_eq_true rfl) (fun X C hret => ?_)
  show WD X K 3 0 0 (WdC K ad σ) [(0, .ref (ad 0)), (1, .int p1), (2, .int p2)] 0 []
  refine wd_aload_n C dX0_place_0 rfl 0 rfl ?_
  refine wd_iload_n C dX0_place_1 rfl 1 rfl ?_
  refine pfC_0_0 C tw_115 p1 dX0_place_2 ?_
  refine wd_aload_n C dX0_place_5 rfl 0 rfl ?_
  refine wd_iload_n C dX0_place_6 rfl 2 rfl ?_
  refine pfC_0_1 C tw_118 p2 dX0_place_7 ?_
  refine wd_aload_n C dX0_place_10 rfl 0 rfl ?_
  refine wd_iconst (v := 0) C dX0_place_11 (by decide) ?_
  refine pfC_0_2 C tw_121 false dX0_place_12 ?_
  have e9 : p_X0_place σ p1 p2 = sb (si (si σ 0 p1) 1 p2) 0 false := by rfl
  exact hret _ _ _ (by rw [e9] <;> rfl) dX0_place_15
def p_X0_reset (σ : St) : St := sb (si (p_X0_place σ 0 0) 2 0) 1 false
set_option maxHeartbeats 4000000 in
set_option maxRecDepth 100000 in
theorem c_X0_reset (l : Launch) (K : KX) (ad : Nat → Nat) (σ : St) : Mt l K yX0_reset cX0_reset 1 none { frames := 1, cells := 0, slots := 0, locals := 22 } [.ref (ad 0)] (WdC K ad σ) none (WdC K ad (p_X0_reset σ)) := by
  refine Mt.v (by decide +kernel) (Nat.le_of_ble_eq_true rfl) (fun X C hret => ?_)
  show WD X K 1 0 0 (WdC K ad σ) [(0, .ref (ad 0))] 0 []
  refine wd_aload_n C dX0_reset_0 rfl 0 rfl ?_
  refine wd_iconst (v := 0) C dX0_reset_1 (by decide) ?_
  refine wd_iconst (v := 0) C dX0_reset_2 (by decide) ?_
  refine wd_callV C 2 (c_X0_place _ K ad σ 0 0) 0 (wcC_0 K ad _) rfl rfl tw_262 tw_263 tw_264 tw_67 tw_265 (by decide +kernel) rfl (by decide) (Nat.le_of_ble_eq_true rfl) dX0_reset_3 _ rfl ?_
  refine wd_aload_n C dX0_reset_6 rfl 0 rfl ?_
  refine wd_iconst (v := 0) C dX0_reset_7 (by decide) ?_
  refine pfC_0_3 C tw_124 0 dX0_reset_8 ?_
  refine wd_aload_n C dX0_reset_11 rfl 0 rfl ?_
  refine wd_iconst (v := 0) C dX0_reset_12 (by decide) ?_
  refine pfC_0_4 C tw_127 false dX0_reset_13 ?_
  have e9 : p_X0_reset σ = sb (si (p_X0_place σ 0 0) 2 0) 1 false := by rfl
  exact hret _ _ _ (by rw [e9] <;> rfl) dX0_reset_16
def p_X0_copyFrom (σ : St) : St := sb (si (sb (si (si σ 0 (σ.1 3)) 1 (σ.1 4)) 0 (σ.2.1 2)) 2 (σ.1 5)) 1 (σ.2.1 3)
set_option maxHeartbeats 4000000 in
set_option maxRecDepth 100000 in
theorem c_X0_copyFrom (l : Launch) (K : KX) (ad : Nat → Nat) (σ : St) : Mt l K yX0_copyFrom cX0_copyFrom 2 none { frames := 0, cells := 0, slots := 0, locals := 0 } [.ref (ad 0), .ref (ad 1)] (WdCC K ad σ) none (WdCC K ad (p_X0_copyFrom σ)) := by
  refine Mt.v (by decide +kernel) (Nat.le_of_ble_eq_true rfl) (fun X C hret => ?_)
  show WD X K 2 0 0 (WdCC K ad σ) [(0, .ref (ad 0)), (1, .ref (ad 1))] 0 []
  refine wd_aload_n C dX0_copyFrom_0 rfl 1 rfl ?_
  refine wd_ifnonnull C 5 dX0_copyFrom_1 (by decide) ?_
  refine wd_aload_n C dX0_copyFrom_5 rfl 0 rfl ?_
  refine wd_aload_n C dX0_copyFrom_6 rfl 1 rfl ?_
  refine gfCC_1_0 (x := σ.1 3) C tw_115 rfl dX0_copyFrom_7 ?_
  refine pfCC_0_0 C tw_115 (σ.1 3) dX0_copyFrom_10 ?_
  refine wd_aload_n C dX0_copyFrom_13 rfl 0 rfl ?_
  refine wd_aload_n C dX0_copyFrom_14 rfl 1 rfl ?_
  refine gfCC_1_1 (x := σ.1 4) C tw_118 rfl dX0_copyFrom_15 ?_
  refine pfCC_0_1 C tw_118 (σ.1 4) dX0_copyFrom_18 ?_
  refine wd_aload_n C dX0_copyFrom_21 rfl 0 rfl ?_
  refine wd_aload_n C dX0_copyFrom_22 rfl 1 rfl ?_
  refine gfCC_1_2 (x := σ.2.1 2) C tw_121 rfl dX0_copyFrom_23 ?_
  refine pfCC_0_2 C tw_121 (σ.2.1 2) dX0_copyFrom_26 ?_
  refine wd_aload_n C dX0_copyFrom_29 rfl 0 rfl ?_
  refine wd_aload_n C dX0_copyFrom_30 rfl 1 rfl ?_
  refine gfCC_1_3 (x := σ.1 5) C tw_124 rfl dX0_copyFrom_31 ?_
  refine pfCC_0_3 C tw_124 (σ.1 5) dX0_copyFrom_34 ?_
  refine wd_aload_n C dX0_copyFrom_37 rfl 0 rfl ?_
  refine wd_aload_n C dX0_copyFrom_38 rfl 1 rfl ?_
  refine gfCC_1_4 (x := σ.2.1 3) C tw_127 rfl dX0_copyFrom_39 ?_
  refine pfCC_0_4 C tw_127 (σ.2.1 3) dX0_copyFrom_42 ?_
  have e9 : p_X0_copyFrom σ = sb (si (sb (si (si σ 0 (σ.1 3)) 1 (σ.1 4)) 0 (σ.2.1 2)) 2 (σ.1 5)) 1 (σ.2.1 3) := by rfl
  exact hret _ _ _ (by rw [e9] <;> rfl) dX0_copyFrom_45
def p_X0_setColour (σ : St) (p1 : Int32) : St := si σ 2 (((σ.1 2) &&& (-121)) ||| (p1 * 8))
set_option maxHeartbeats 4000000 in
set_option maxRecDepth 100000 in
theorem c_X0_setColour (l : Launch) (K : KX) (ad : Nat → Nat) (σ : St) (p1 : Int32) : Mt l K yX0_setColour cX0_setColour 2 none { frames := 0, cells := 0, slots := 0, locals := 0 } [.ref (ad 0), .int p1] (WdC K ad σ) none (WdC K ad (p_X0_setColour σ p1)) := by
  refine Mt.v (by decide +kernel) (Nat.le_of_ble_eq_true rfl) (fun X C hret => ?_)
  show WD X K 2 0 0 (WdC K ad σ) [(0, .ref (ad 0)), (1, .int p1)] 0 []
  refine wd_aload_n C dX0_setColour_0 rfl 0 rfl ?_
  refine wd_aload_n C dX0_setColour_1 rfl 0 rfl ?_
  refine gfC_0_3 (x := σ.1 2) C tw_124 rfl dX0_setColour_2 ?_
  refine wd_bipush (v := (-121)) C dX0_setColour_5 (by decide) ?_
  refine wd_iand C dX0_setColour_7 ?_
  refine wd_iload_n C dX0_setColour_8 rfl 1 rfl ?_
  refine wd_bipush (v := 8) C dX0_setColour_9 (by decide) ?_
  refine wd_imul C dX0_setColour_11 ?_
  refine wd_ior C dX0_setColour_12 ?_
  refine pfC_0_3 C tw_124 (((σ.1 2) &&& (-121)) ||| (p1 * 8)) dX0_setColour_13 ?_
  have e9 : p_X0_setColour σ p1 = si σ 2 (((σ.1 2) &&& (-121)) ||| (p1 * 8)) := by rfl
  exact hret _ _ _ (by rw [e9] <;> rfl) dX0_setColour_16
def p_X0_setGround (σ : St) (p1 : Int32) : St := si σ 2 (((σ.1 2) &&& (-1921)) ||| (p1 * 128))
set_option maxHeartbeats 4000000 in
set_option maxRecDepth 100000 in
theorem c_X0_setGround (l : Launch) (K : KX) (ad : Nat → Nat) (σ : St) (p1 : Int32) : Mt l K yX0_setGround cX0_setGround 2 none { frames := 0, cells := 0, slots := 0, locals := 0 } [.ref (ad 0), .int p1] (WdC K ad σ) none (WdC K ad (p_X0_setGround σ p1)) := by
  refine Mt.v (by decide +kernel) (Nat.le_of_ble_eq_true rfl) (fun X C hret => ?_)
  show WD X K 2 0 0 (WdC K ad σ) [(0, .ref (ad 0)), (1, .int p1)] 0 []
  refine wd_aload_n C dX0_setGround_0 rfl 0 rfl ?_
  refine wd_aload_n C dX0_setGround_1 rfl 0 rfl ?_
  refine gfC_0_3 (x := σ.1 2) C tw_124 rfl dX0_setGround_2 ?_
  refine wd_sipush (v := (-1921)) C dX0_setGround_5 (by decide) ?_
  refine wd_iand C dX0_setGround_8 ?_
  refine wd_iload_n C dX0_setGround_9 rfl 1 rfl ?_
  refine wd_sipush (v := 128) C dX0_setGround_10 (by decide) ?_
  refine wd_imul C dX0_setGround_13 ?_
  refine wd_ior C dX0_setGround_14 ?_
  refine pfC_0_3 C tw_124 (((σ.1 2) &&& (-1921)) ||| (p1 * 128)) dX0_setGround_15 ?_
  have e9 : p_X0_setGround σ p1 = si σ 2 (((σ.1 2) &&& (-1921)) ||| (p1 * 128)) := by rfl
  exact hret _ _ _ (by rw [e9] <;> rfl) dX0_setGround_18
def p_X0_paintColour_s1 (σ : St) (p1 : Int32) : St := (if p1 < 30 then (if p1 < 40 then σ else (if 47 < p1 then σ else (p_X0_setGround σ (p1 - 39)))) else (if 37 < p1 then (if p1 < 40 then σ else (if 47 < p1 then σ else (p_X0_setGround σ (p1 - 39)))) else (p_X0_setColour σ (p1 - 29))))
def p_X0_paintColour (σ : St) (p1 : Int32) : St := (p_X0_paintColour_s1 σ p1)
set_option maxHeartbeats 4000000 in
set_option maxRecDepth 100000 in
theorem c_X0_paintColour (l : Launch) (K : KX) (ad : Nat → Nat) (σ : St) (p1 : Int32) : Mt l K yX0_paintColour cX0_paintColour 2 none { frames := 1, cells := 0, slots := 0, locals := 21 } [.ref (ad 0), .int p1] (WdC K ad σ) none (WdC K ad (p_X0_paintColour σ p1)) := by
  refine Mt.v (by decide +kernel) (Nat.le_of_ble_eq_true rfl) (fun X C hret => ?_)
  show WD X K 2 0 0 (WdC K ad σ) [(0, .ref (ad 0)), (1, .int p1)] 0 []
  refine wd_iload_n C dX0_paintColour_0 rfl 1 rfl ?_
  refine wd_bipush (v := 30) C dX0_paintColour_1 (by decide) ?_
  have J_3 : WD X K 2 0 0 (WdC K ad (p_X0_paintColour_s1 σ p1)) [(0, .ref (ad 0)), (1, .int p1)] 43 [] := by
    have e9 : p_X0_paintColour σ p1 = (p_X0_paintColour_s1 σ p1) := by rfl
    exact hret _ _ _ (by rw [e9] <;> rfl) dX0_paintColour_43
  refine wd_icmp_lt C 23 dX0_paintColour_3 (by decide) (fun c_3 => ?_) (fun c_3 => ?_)
  · refine wd_iload_n C dX0_paintColour_23 rfl 1 rfl ?_
    refine wd_bipush (v := 40) C dX0_paintColour_24 (by decide) ?_
    refine wd_icmp_lt C 43 dX0_paintColour_26 (by decide) (fun c_26 => ?_) (fun c_26 => ?_)
    · have ej_0 : p_X0_paintColour_s1 σ p1 = σ := by unfold p_X0_paintColour_s1; rw [if_pos c_3, if_pos c_26]
      rw [ej_0] at J_3
      exact wd_lv [0, 1] _ rfl J_3
    · refine wd_iload_n C dX0_paintColour_29 rfl 1 rfl ?_
      refine wd_bipush (v := 47) C dX0_paintColour_30 (by decide) ?_
      refine wd_icmp_gt C 43 dX0_paintColour_32 (by decide) (fun c_32 => ?_) (fun c_32 => ?_)
      · have ej_0 : p_X0_paintColour_s1 σ p1 = σ := by unfold p_X0_paintColour_s1; rw [if_pos c_3, if_neg c_26, if_pos c_32]
        rw [ej_0] at J_3
        exact wd_lv [0, 1] _ rfl J_3
      · refine wd_aload_n C dX0_paintColour_35 rfl 0 rfl ?_
        refine wd_iload_n C dX0_paintColour_36 rfl 1 rfl ?_
        refine wd_bipush (v := 39) C dX0_paintColour_37 (by decide) ?_
        refine wd_isub C dX0_paintColour_39 ?_
        refine wd_callV C 1 (c_X0_setGround _ K ad σ (p1 - 39)) 0 (wcC_0 K ad _) rfl rfl tw_576 tw_578 tw_21 tw_67 tw_579 (by decide +kernel) rfl (by decide) (Nat.le_of_ble_eq_true rfl) dX0_paintColour_40 _ rfl ?_
        have ej_0 : p_X0_paintColour_s1 σ p1 = (p_X0_setGround σ (p1 - 39)) := by unfold p_X0_paintColour_s1; rw [if_pos c_3, if_neg c_26, if_neg c_32]
        rw [ej_0] at J_3
        exact wd_lv [0, 1] _ rfl J_3
  · refine wd_iload_n C dX0_paintColour_6 rfl 1 rfl ?_
    refine wd_bipush (v := 37) C dX0_paintColour_7 (by decide) ?_
    refine wd_icmp_gt C 23 dX0_paintColour_9 (by decide) (fun c_9 => ?_) (fun c_9 => ?_)
    · refine wd_iload_n C dX0_paintColour_23 rfl 1 rfl ?_
      refine wd_bipush (v := 40) C dX0_paintColour_24 (by decide) ?_
      refine wd_icmp_lt C 43 dX0_paintColour_26 (by decide) (fun c_26 => ?_) (fun c_26 => ?_)
      · have ej_0 : p_X0_paintColour_s1 σ p1 = σ := by unfold p_X0_paintColour_s1; rw [if_neg c_3, if_pos c_9, if_pos c_26]
        rw [ej_0] at J_3
        exact wd_lv [0, 1] _ rfl J_3
      · refine wd_iload_n C dX0_paintColour_29 rfl 1 rfl ?_
        refine wd_bipush (v := 47) C dX0_paintColour_30 (by decide) ?_
        refine wd_icmp_gt C 43 dX0_paintColour_32 (by decide) (fun c_32 => ?_) (fun c_32 => ?_)
        · have ej_0 : p_X0_paintColour_s1 σ p1 = σ := by unfold p_X0_paintColour_s1; rw [if_neg c_3, if_pos c_9, if_neg c_26, if_pos c_32]
          rw [ej_0] at J_3
          exact wd_lv [0, 1] _ rfl J_3
        · refine wd_aload_n C dX0_paintColour_35 rfl 0 rfl ?_
          refine wd_iload_n C dX0_paintColour_36 rfl 1 rfl ?_
          refine wd_bipush (v := 39) C dX0_paintColour_37 (by decide) ?_
          refine wd_isub C dX0_paintColour_39 ?_
          refine wd_callV C 1 (c_X0_setGround _ K ad σ (p1 - 39)) 0 (wcC_0 K ad _) rfl rfl tw_576 tw_578 tw_21 tw_67 tw_579 (by decide +kernel) rfl (by decide) (Nat.le_of_ble_eq_true rfl) dX0_paintColour_40 _ rfl ?_
          have ej_0 : p_X0_paintColour_s1 σ p1 = (p_X0_setGround σ (p1 - 39)) := by unfold p_X0_paintColour_s1; rw [if_neg c_3, if_pos c_9, if_neg c_26, if_neg c_32]
          rw [ej_0] at J_3
          exact wd_lv [0, 1] _ rfl J_3
    · refine wd_aload_n C dX0_paintColour_12 rfl 0 rfl ?_
      refine wd_iload_n C dX0_paintColour_13 rfl 1 rfl ?_
      refine wd_bipush (v := 29) C dX0_paintColour_14 (by decide) ?_
      refine wd_isub C dX0_paintColour_16 ?_
      refine wd_callV C 1 (c_X0_setColour _ K ad σ (p1 - 29)) 0 (wcC_0 K ad _) rfl rfl tw_572 tw_574 tw_20 tw_67 tw_575 (by decide +kernel) rfl (by decide) (Nat.le_of_ble_eq_true rfl) dX0_paintColour_17 _ rfl ?_
      refine wd_goto C 43 dX0_paintColour_20 (by decide) ?_
      have ej_0 : p_X0_paintColour_s1 σ p1 = (p_X0_setColour σ (p1 - 29)) := by unfold p_X0_paintColour_s1; rw [if_neg c_3, if_neg c_9]
      rw [ej_0] at J_3
      exact wd_lv [0, 1] _ rfl J_3
def p_X0_paint_s1 (σ : St) (p1 : Int32) : St := (if p1 = 0 then si σ 2 0 else (if p1 = 1 then si σ 2 ((σ.1 2) ||| 1) else (if p1 = 4 then si σ 2 ((σ.1 2) ||| 2) else (if p1 = 7 then si σ 2 ((σ.1 2) ||| 4) else (if p1 = 22 then si σ 2 ((σ.1 2) &&& (-2)) else (if p1 = 24 then si σ 2 ((σ.1 2) &&& (-3)) else (if p1 = 27 then si σ 2 ((σ.1 2) &&& (-5)) else (if p1 = 39 then (p_X0_setColour σ 0) else (if p1 = 49 then (p_X0_setGround σ 0) else (p_X0_paintColour σ p1))))))))))
def p_X0_paint (σ : St) (p1 : Int32) : St := (p_X0_paint_s1 σ p1)
set_option maxHeartbeats 4000000 in
set_option maxRecDepth 100000 in
theorem c_X0_paint (l : Launch) (K : KX) (ad : Nat → Nat) (σ : St) (p1 : Int32) : Mt l K yX0_paint cX0_paint 2 none { frames := 2, cells := 0, slots := 0, locals := 42 } [.ref (ad 0), .int p1] (WdC K ad σ) none (WdC K ad (p_X0_paint σ p1)) := by
  refine Mt.v (by decide +kernel) (Nat.le_of_ble_eq_true rfl) (fun X C hret => ?_)
  show WD X K 2 0 0 (WdC K ad σ) [(0, .ref (ad 0)), (1, .int p1)] 0 []
  refine wd_iload_n C dX0_paint_0 rfl 1 rfl ?_
  have J_1 : WD X K 2 0 0 (WdC K ad (p_X0_paint_s1 σ p1)) [(0, .ref (ad 0)), (1, .int p1)] 194 [] := by
    have e9 : p_X0_paint σ p1 = (p_X0_paint_s1 σ p1) := by rfl
    exact hret _ _ _ (by rw [e9] <;> rfl) dX0_paint_194
  by_cases c_1_0 : p1 = 0
  · refine wd_lsw (off := 83) C 84 dX0_paint_1 (by decide) (by rw [c_1_0]; decide +kernel) (by decide) ?_
    refine wd_aload_n C dX0_paint_84 rfl 0 rfl ?_
    refine wd_iconst (v := 0) C dX0_paint_85 (by decide) ?_
    refine pfC_0_3 C tw_124 0 dX0_paint_86 ?_
    refine wd_goto C 194 dX0_paint_89 (by decide) ?_
    have ej_0 : p_X0_paint_s1 σ p1 = si σ 2 0 := by unfold p_X0_paint_s1; rw [if_pos c_1_0]
    rw [ej_0] at J_1
    exact wd_lv [0, 1] _ rfl J_1
  by_cases c_1_1 : p1 = 1
  · refine wd_lsw (off := 91) C 92 dX0_paint_1 (by decide) (by rw [c_1_1]; decide +kernel) (by decide) ?_
    refine wd_aload_n C dX0_paint_92 rfl 0 rfl ?_
    refine wd_dup C dX0_paint_93 rfl ?_
    refine gfC_0_3 (x := σ.1 2) C tw_124 rfl dX0_paint_94 ?_
    refine wd_iconst (v := 1) C dX0_paint_97 (by decide) ?_
    refine wd_ior C dX0_paint_98 ?_
    refine pfC_0_3 C tw_124 ((σ.1 2) ||| 1) dX0_paint_99 ?_
    refine wd_goto C 194 dX0_paint_102 (by decide) ?_
    have ej_0 : p_X0_paint_s1 σ p1 = si σ 2 ((σ.1 2) ||| 1) := by unfold p_X0_paint_s1; rw [if_neg c_1_0, if_pos c_1_1]
    rw [ej_0] at J_1
    exact wd_lv [0, 1] _ rfl J_1
  by_cases c_1_4 : p1 = 4
  · refine wd_lsw (off := 104) C 105 dX0_paint_1 (by decide) (by rw [c_1_4]; decide +kernel) (by decide) ?_
    refine wd_aload_n C dX0_paint_105 rfl 0 rfl ?_
    refine wd_dup C dX0_paint_106 rfl ?_
    refine gfC_0_3 (x := σ.1 2) C tw_124 rfl dX0_paint_107 ?_
    refine wd_iconst (v := 2) C dX0_paint_110 (by decide) ?_
    refine wd_ior C dX0_paint_111 ?_
    refine pfC_0_3 C tw_124 ((σ.1 2) ||| 2) dX0_paint_112 ?_
    refine wd_goto C 194 dX0_paint_115 (by decide) ?_
    have ej_0 : p_X0_paint_s1 σ p1 = si σ 2 ((σ.1 2) ||| 2) := by unfold p_X0_paint_s1; rw [if_neg c_1_0, if_neg c_1_1, if_pos c_1_4]
    rw [ej_0] at J_1
    exact wd_lv [0, 1] _ rfl J_1
  by_cases c_1_7 : p1 = 7
  · refine wd_lsw (off := 117) C 118 dX0_paint_1 (by decide) (by rw [c_1_7]; decide +kernel) (by decide) ?_
    refine wd_aload_n C dX0_paint_118 rfl 0 rfl ?_
    refine wd_dup C dX0_paint_119 rfl ?_
    refine gfC_0_3 (x := σ.1 2) C tw_124 rfl dX0_paint_120 ?_
    refine wd_iconst (v := 4) C dX0_paint_123 (by decide) ?_
    refine wd_ior C dX0_paint_124 ?_
    refine pfC_0_3 C tw_124 ((σ.1 2) ||| 4) dX0_paint_125 ?_
    refine wd_goto C 194 dX0_paint_128 (by decide) ?_
    have ej_0 : p_X0_paint_s1 σ p1 = si σ 2 ((σ.1 2) ||| 4) := by unfold p_X0_paint_s1; rw [if_neg c_1_0, if_neg c_1_1, if_neg c_1_4, if_pos c_1_7]
    rw [ej_0] at J_1
    exact wd_lv [0, 1] _ rfl J_1
  by_cases c_1_22 : p1 = 22
  · refine wd_lsw (off := 130) C 131 dX0_paint_1 (by decide) (by rw [c_1_22]; decide +kernel) (by decide) ?_
    refine wd_aload_n C dX0_paint_131 rfl 0 rfl ?_
    refine wd_dup C dX0_paint_132 rfl ?_
    refine gfC_0_3 (x := σ.1 2) C tw_124 rfl dX0_paint_133 ?_
    refine wd_bipush (v := (-2)) C dX0_paint_136 (by decide) ?_
    refine wd_iand C dX0_paint_138 ?_
    refine pfC_0_3 C tw_124 ((σ.1 2) &&& (-2)) dX0_paint_139 ?_
    refine wd_goto C 194 dX0_paint_142 (by decide) ?_
    have ej_0 : p_X0_paint_s1 σ p1 = si σ 2 ((σ.1 2) &&& (-2)) := by unfold p_X0_paint_s1; rw [if_neg c_1_0, if_neg c_1_1, if_neg c_1_4, if_neg c_1_7, if_pos c_1_22]
    rw [ej_0] at J_1
    exact wd_lv [0, 1] _ rfl J_1
  by_cases c_1_24 : p1 = 24
  · refine wd_lsw (off := 144) C 145 dX0_paint_1 (by decide) (by rw [c_1_24]; decide +kernel) (by decide) ?_
    refine wd_aload_n C dX0_paint_145 rfl 0 rfl ?_
    refine wd_dup C dX0_paint_146 rfl ?_
    refine gfC_0_3 (x := σ.1 2) C tw_124 rfl dX0_paint_147 ?_
    refine wd_bipush (v := (-3)) C dX0_paint_150 (by decide) ?_
    refine wd_iand C dX0_paint_152 ?_
    refine pfC_0_3 C tw_124 ((σ.1 2) &&& (-3)) dX0_paint_153 ?_
    refine wd_goto C 194 dX0_paint_156 (by decide) ?_
    have ej_0 : p_X0_paint_s1 σ p1 = si σ 2 ((σ.1 2) &&& (-3)) := by unfold p_X0_paint_s1; rw [if_neg c_1_0, if_neg c_1_1, if_neg c_1_4, if_neg c_1_7, if_neg c_1_22, if_pos c_1_24]
    rw [ej_0] at J_1
    exact wd_lv [0, 1] _ rfl J_1
  by_cases c_1_27 : p1 = 27
  · refine wd_lsw (off := 158) C 159 dX0_paint_1 (by decide) (by rw [c_1_27]; decide +kernel) (by decide) ?_
    refine wd_aload_n C dX0_paint_159 rfl 0 rfl ?_
    refine wd_dup C dX0_paint_160 rfl ?_
    refine gfC_0_3 (x := σ.1 2) C tw_124 rfl dX0_paint_161 ?_
    refine wd_bipush (v := (-5)) C dX0_paint_164 (by decide) ?_
    refine wd_iand C dX0_paint_166 ?_
    refine pfC_0_3 C tw_124 ((σ.1 2) &&& (-5)) dX0_paint_167 ?_
    refine wd_goto C 194 dX0_paint_170 (by decide) ?_
    have ej_0 : p_X0_paint_s1 σ p1 = si σ 2 ((σ.1 2) &&& (-5)) := by unfold p_X0_paint_s1; rw [if_neg c_1_0, if_neg c_1_1, if_neg c_1_4, if_neg c_1_7, if_neg c_1_22, if_neg c_1_24, if_pos c_1_27]
    rw [ej_0] at J_1
    exact wd_lv [0, 1] _ rfl J_1
  by_cases c_1_39 : p1 = 39
  · refine wd_lsw (off := 172) C 173 dX0_paint_1 (by decide) (by rw [c_1_39]; decide +kernel) (by decide) ?_
    refine wd_aload_n C dX0_paint_173 rfl 0 rfl ?_
    refine wd_iconst (v := 0) C dX0_paint_174 (by decide) ?_
    refine wd_callV C 1 (c_X0_setColour _ K ad σ 0) 0 (wcC_0 K ad _) rfl rfl tw_572 tw_574 tw_20 tw_67 tw_575 (by decide +kernel) rfl (by decide) (Nat.le_of_ble_eq_true rfl) dX0_paint_175 _ rfl ?_
    refine wd_goto C 194 dX0_paint_178 (by decide) ?_
    have ej_0 : p_X0_paint_s1 σ p1 = (p_X0_setColour σ 0) := by unfold p_X0_paint_s1; rw [if_neg c_1_0, if_neg c_1_1, if_neg c_1_4, if_neg c_1_7, if_neg c_1_22, if_neg c_1_24, if_neg c_1_27, if_pos c_1_39]
    rw [ej_0] at J_1
    exact wd_lv [0, 1] _ rfl J_1
  by_cases c_1_49 : p1 = 49
  · refine wd_lsw (off := 180) C 181 dX0_paint_1 (by decide) (by rw [c_1_49]; decide +kernel) (by decide) ?_
    refine wd_aload_n C dX0_paint_181 rfl 0 rfl ?_
    refine wd_iconst (v := 0) C dX0_paint_182 (by decide) ?_
    refine wd_callV C 1 (c_X0_setGround _ K ad σ 0) 0 (wcC_0 K ad _) rfl rfl tw_576 tw_578 tw_21 tw_67 tw_579 (by decide +kernel) rfl (by decide) (Nat.le_of_ble_eq_true rfl) dX0_paint_183 _ rfl ?_
    refine wd_goto C 194 dX0_paint_186 (by decide) ?_
    have ej_0 : p_X0_paint_s1 σ p1 = (p_X0_setGround σ 0) := by unfold p_X0_paint_s1; rw [if_neg c_1_0, if_neg c_1_1, if_neg c_1_4, if_neg c_1_7, if_neg c_1_22, if_neg c_1_24, if_neg c_1_27, if_neg c_1_39, if_pos c_1_49]
    rw [ej_0] at J_1
    exact wd_lv [0, 1] _ rfl J_1
  refine wd_lsw (off := 188) C 189 dX0_paint_1 (by decide) (by show Op.lookupswitch.offset [(0, 83), (1, 91), (4, 104), (7, 117), (22, 130), (24, 144), (27, 158), (39, 172), (49, 180)] 188 _ = _; rw [lv_osw (a := 0) c_1_0 (by decide), lv_osw (a := 1) c_1_1 (by decide), lv_osw (a := 4) c_1_4 (by decide), lv_osw (a := 7) c_1_7 (by decide), lv_osw (a := 22) c_1_22 (by decide), lv_osw (a := 24) c_1_24 (by decide), lv_osw (a := 27) c_1_27 (by decide), lv_osw (a := 39) c_1_39 (by decide), lv_osw (a := 49) c_1_49 (by decide)]; rfl) (by decide) ?_
  refine wd_aload_n C dX0_paint_189 rfl 0 rfl ?_
  refine wd_iload_n C dX0_paint_190 rfl 1 rfl ?_
  refine wd_callV C 1 (c_X0_paintColour _ K ad σ p1) 0 (wcC_0 K ad _) rfl rfl tw_580 tw_582 tw_22 tw_67 tw_583 (by decide +kernel) rfl (by decide) (Nat.le_of_ble_eq_true rfl) dX0_paint_191 _ rfl ?_
  have ej_0 : p_X0_paint_s1 σ p1 = (p_X0_paintColour σ p1) := by unfold p_X0_paint_s1; rw [if_neg c_1_0, if_neg c_1_1, if_neg c_1_4, if_neg c_1_7, if_neg c_1_22, if_neg c_1_24, if_neg c_1_27, if_neg c_1_39, if_neg c_1_49]
  rw [ej_0] at J_1
  exact wd_lv [0, 1] _ rfl J_1
