def p_X1_drop (σ : St) : St := si σ 0 0
set_option maxHeartbeats 4000000 in
set_option maxRecDepth 100000 in
theorem c_X1_drop (l : Launch) (K : KX) (ad : Nat → Nat) (σ : St) : Mt l K yX1_drop cX1_drop 1 none { frames := 0, cells := 0, slots := 0, locals := 0 } [.ref (ad 0)] (WdL K ad σ) none (WdL K ad (p_X1_drop σ)) := by
  refine Mt.v (by decide +kernel) (Nat.le_of_ble_eq_true rfl) (fun X C hret => ?_)
  show WD X K 1 0 0 (WdL K ad σ) [(0, .ref (ad 0))] 0 []
  refine wd_aload_n C dX1_drop_0 rfl 0 rfl ?_
  refine wd_iconst (v := 0) C dX1_drop_1 (by decide) ?_
  refine pfL_0_0 C tw_191 0 dX1_drop_2 ?_
  have e9 : p_X1_drop σ = si σ 0 0 := by rfl
  exact hret _ _ _ (by rw [e9] <;> rfl) dX1_drop_5
def p_X1_start (σ : St) (p1 : Int32) (p2 : Int32) (p3 : Int32) : St := si (si (si σ 0 p1) 1 p2) 2 p3
set_option maxHeartbeats 4000000 in
set_option maxRecDepth 100000 in
theorem c_X1_start (l : Launch) (K : KX) (ad : Nat → Nat) (σ : St) (p1 : Int32) (p2 : Int32) (p3 : Int32) : Mt l K yX1_start cX1_start 4 none { frames := 0, cells := 0, slots := 0, locals := 0 } [.ref (ad 0), .int p1, .int p2, .int p3] (WdL K ad σ) none (WdL K ad (p_X1_start σ p1 p2 p3)) := by
  refine Mt.v (by decide +kernel) (Nat.le_of_ble_eq_true rfl) (fun X C hret => ?_)
  show WD X K 4 0 0 (WdL K ad σ) [(0, .ref (ad 0)), (1, .int p1), (2, .int p2), (3, .int p3)] 0 []
  refine wd_aload_n C dX1_start_0 rfl 0 rfl ?_
  refine wd_iload_n C dX1_start_1 rfl 1 rfl ?_
  refine pfL_0_0 C tw_191 p1 dX1_start_2 ?_
  refine wd_aload_n C dX1_start_5 rfl 0 rfl ?_
  refine wd_iload_n C dX1_start_6 rfl 2 rfl ?_
  refine pfL_0_1 C tw_193 p2 dX1_start_7 ?_
  refine wd_aload_n C dX1_start_10 rfl 0 rfl ?_
  refine wd_iload_n C dX1_start_11 rfl 3 rfl ?_
  refine pfL_0_2 C tw_194 p3 dX1_start_12 ?_
  have e9 : p_X1_start σ p1 p2 p3 = si (si (si σ 0 p1) 1 p2) 2 p3 := by rfl
  exact hret _ _ _ (by rw [e9] <;> rfl) dX1_start_15
def p_X1_begin_s1 (σ : St) (p1 : Int32) : St := (if 224 ≤ p1 then (if 240 ≤ p1 then (p_X1_start σ 3 (p1 &&& 7) 65536) else (p_X1_start σ 2 (p1 &&& 15) 2048)) else (p_X1_start σ 1 (p1 &&& 31) 128))
def p_X1_begin (σ : St) (p1 : Int32) : St := (p_X1_begin_s1 σ p1)
set_option maxHeartbeats 4000000 in
set_option maxRecDepth 100000 in
theorem c_X1_begin (l : Launch) (K : KX) (ad : Nat → Nat) (σ : St) (p1 : Int32) : Mt l K yX1_begin cX1_begin 2 none { frames := 1, cells := 0, slots := 0, locals := 23 } [.ref (ad 0), .int p1] (WdL K ad σ) none (WdL K ad (p_X1_begin σ p1)) := by
  refine Mt.v (by decide +kernel) (Nat.le_of_ble_eq_true rfl) (fun X C hret => ?_)
  show WD X K 2 0 0 (WdL K ad σ) [(0, .ref (ad 0)), (1, .int p1)] 0 []
  refine wd_iload_n C dX1_begin_0 rfl 1 rfl ?_
  refine wd_sipush (v := 224) C dX1_begin_1 (by decide) ?_
  have J_4 : WD X K 2 0 0 (WdL K ad (p_X1_begin_s1 σ p1)) [(0, .ref (ad 0)), (1, .int p1)] 55 [] := by
    have e9 : p_X1_begin σ p1 = (p_X1_begin_s1 σ p1) := by rfl
    exact hret _ _ _ (by rw [e9] <;> rfl) dX1_begin_55
  refine wd_icmp_ge C 22 dX1_begin_4 (by decide) (fun c_4 => ?_) (fun c_4 => ?_)
  · refine wd_iload_n C dX1_begin_22 rfl 1 rfl ?_
    refine wd_sipush (v := 240) C dX1_begin_23 (by decide) ?_
    refine wd_icmp_ge C 44 dX1_begin_26 (by decide) (fun c_26 => ?_) (fun c_26 => ?_)
    · refine wd_aload_n C dX1_begin_44 rfl 0 rfl ?_
      refine wd_iconst (v := 3) C dX1_begin_45 (by decide) ?_
      refine wd_iload_n C dX1_begin_46 rfl 1 rfl ?_
      refine wd_bipush (v := 7) C dX1_begin_47 (by decide) ?_
      refine wd_iand C dX1_begin_49 ?_
      refine wd_ldc C tw_414 dX1_begin_50 ?_
      refine wd_callV C 3 (c_X1_start _ K ad σ 3 (p1 &&& 7) 65536) 0 (wcL_0 K ad _) rfl rfl tw_410 tw_412 tw_10 tw_68 tw_413 (by decide +kernel) rfl (by decide) (Nat.le_of_ble_eq_true rfl) dX1_begin_52 _ rfl ?_
      have ej_0 : p_X1_begin_s1 σ p1 = (p_X1_start σ 3 (p1 &&& 7) 65536) := by unfold p_X1_begin_s1; rw [if_pos c_4, if_pos c_26]
      rw [ej_0] at J_4
      exact wd_lv [0, 1] _ rfl J_4
    · refine wd_aload_n C dX1_begin_29 rfl 0 rfl ?_
      refine wd_iconst (v := 2) C dX1_begin_30 (by decide) ?_
      refine wd_iload_n C dX1_begin_31 rfl 1 rfl ?_
      refine wd_bipush (v := 15) C dX1_begin_32 (by decide) ?_
      refine wd_iand C dX1_begin_34 ?_
      refine wd_sipush (v := 2048) C dX1_begin_35 (by decide) ?_
      refine wd_callV C 3 (c_X1_start _ K ad σ 2 (p1 &&& 15) 2048) 0 (wcL_0 K ad _) rfl rfl tw_410 tw_412 tw_10 tw_68 tw_413 (by decide +kernel) rfl (by decide) (Nat.le_of_ble_eq_true rfl) dX1_begin_38 _ rfl ?_
      refine wd_goto C 55 dX1_begin_41 (by decide) ?_
      have ej_0 : p_X1_begin_s1 σ p1 = (p_X1_start σ 2 (p1 &&& 15) 2048) := by unfold p_X1_begin_s1; rw [if_pos c_4, if_neg c_26]
      rw [ej_0] at J_4
      exact wd_lv [0, 1] _ rfl J_4
  · refine wd_aload_n C dX1_begin_7 rfl 0 rfl ?_
    refine wd_iconst (v := 1) C dX1_begin_8 (by decide) ?_
    refine wd_iload_n C dX1_begin_9 rfl 1 rfl ?_
    refine wd_bipush (v := 31) C dX1_begin_10 (by decide) ?_
    refine wd_iand C dX1_begin_12 ?_
    refine wd_sipush (v := 128) C dX1_begin_13 (by decide) ?_
    refine wd_callV C 3 (c_X1_start _ K ad σ 1 (p1 &&& 31) 128) 0 (wcL_0 K ad _) rfl rfl tw_410 tw_412 tw_10 tw_68 tw_413 (by decide +kernel) rfl (by decide) (Nat.le_of_ble_eq_true rfl) dX1_begin_16 _ rfl ?_
    refine wd_goto C 55 dX1_begin_19 (by decide) ?_
    have ej_0 : p_X1_begin_s1 σ p1 = (p_X1_start σ 1 (p1 &&& 31) 128) := by unfold p_X1_begin_s1; rw [if_neg c_4]
    rw [ej_0] at J_4
    exact wd_lv [0, 1] _ rfl J_4
def p_X1_add (σ : St) (p1 : Int32) : St := si (si σ 1 (((σ.1 1) <<< (6 &&& 31)) ||| (p1 &&& 63))) 0 ((σ.1 0) - 1)
set_option maxHeartbeats 4000000 in
set_option maxRecDepth 100000 in
theorem c_X1_add (l : Launch) (K : KX) (ad : Nat → Nat) (σ : St) (p1 : Int32) : Mt l K yX1_add cX1_add 2 none { frames := 0, cells := 0, slots := 0, locals := 0 } [.ref (ad 0), .int p1] (WdL K ad σ) none (WdL K ad (p_X1_add σ p1)) := by
  refine Mt.v (by decide +kernel) (Nat.le_of_ble_eq_true rfl) (fun X C hret => ?_)
  show WD X K 2 0 0 (WdL K ad σ) [(0, .ref (ad 0)), (1, .int p1)] 0 []
  refine wd_aload_n C dX1_add_0 rfl 0 rfl ?_
  refine wd_aload_n C dX1_add_1 rfl 0 rfl ?_
  refine gfL_0_1 (x := σ.1 1) C tw_193 rfl dX1_add_2 ?_
  refine wd_bipush (v := 6) C dX1_add_5 (by decide) ?_
  refine wd_ishl C dX1_add_7 ?_
  refine wd_iload_n C dX1_add_8 rfl 1 rfl ?_
  refine wd_bipush (v := 63) C dX1_add_9 (by decide) ?_
  refine wd_iand C dX1_add_11 ?_
  refine wd_ior C dX1_add_12 ?_
  refine pfL_0_1 C tw_193 (((σ.1 1) <<< (6 &&& 31)) ||| (p1 &&& 63)) dX1_add_13 ?_
  refine wd_aload_n C dX1_add_16 rfl 0 rfl ?_
  refine wd_dup C dX1_add_17 rfl ?_
  refine gfL_0_0 (x := σ.1 0) C tw_191 rfl dX1_add_18 ?_
  refine wd_iconst (v := 1) C dX1_add_21 (by decide) ?_
  refine wd_isub C dX1_add_22 ?_
  refine pfL_0_0 C tw_191 ((σ.1 0) - 1) dX1_add_23 ?_
  have e9 : p_X1_add σ p1 = si (si σ 1 (((σ.1 1) <<< (6 &&& 31)) ||| (p1 &&& 63))) 0 ((σ.1 0) - 1) := by rfl
  exact hret _ _ _ (by rw [e9] <;> rfl) dX1_add_26
def p_X1_whole_t1 (σ : St) : Bool := (if σ.1 1 < 55296 then false else (if 57343 < σ.1 1 then false else true))
def p_X1_whole_t2 (σ : St) : Int32 := (if σ.1 1 < σ.1 2 then 65533 else (if (p_X1_whole_t1 σ) = true then 65533 else (if σ.1 1 ≤ 1114111 then σ.1 1 else 65533)))
def p_X1_whole (σ : St) : Int32 := (p_X1_whole_t2 σ)
set_option maxHeartbeats 4000000 in
set_option maxRecDepth 100000 in
theorem c_X1_whole (l : Launch) (K : KX) (ad : Nat → Nat) (σ : St) : Mt l K yX1_whole cX1_whole 2 (some .int) { frames := 0, cells := 0, slots := 0, locals := 0 } [.ref (ad 0)] (WdL K ad σ) (some (.int (p_X1_whole σ))) (WdL K ad σ) := by
  refine Mt.i (by decide +kernel) (Nat.le_of_ble_eq_true rfl) (fun X C hret => ?_)
  show WD X K 2 0 0 (WdL K ad σ) [(0, .ref (ad 0))] 0 []
  refine wd_aload_n C dX1_whole_0 rfl 0 rfl ?_
  refine gfL_0_1 (x := σ.1 1) C tw_193 rfl dX1_whole_1 ?_
  refine wd_ldc C tw_324 dX1_whole_4 ?_
  have J_6 : WD X K 2 0 0 (WdL K ad σ) [(0, .ref (ad 0))] 23 [.int (b2i (p_X1_whole_t1 σ))] := by
    refine wd_istore_n C [(1, .int (b2i (p_X1_whole_t1 σ))), (0, .ref (ad 0))] dX1_whole_23 rfl (by decide) rfl ?_
    refine wd_aload_n C dX1_whole_24 rfl 1 rfl ?_
    refine gfL_0_1 (x := σ.1 1) C tw_193 rfl dX1_whole_25 ?_
    refine wd_aload_n C dX1_whole_28 rfl 1 rfl ?_
    refine gfL_0_2 (x := σ.1 2) C tw_194 rfl dX1_whole_29 ?_
    have J_32 : WD X K 2 0 0 (WdL K ad σ) [(0, .ref (ad 0)), (1, .int (b2i (p_X1_whole_t1 σ)))] 57 [.int (p_X1_whole_t2 σ)] := by
      have e9 : p_X1_whole σ = (p_X1_whole_t2 σ) := by rfl
      exact hret _ _ _ _ (by rw [e9]) rfl dX1_whole_57
    refine wd_icmp_lt C 48 dX1_whole_32 (by decide) (fun c_32 => ?_) (fun c_32 => ?_)
    · refine wd_ldc C tw_327 dX1_whole_48 ?_
      refine wd_goto C 57 dX1_whole_50 (by decide) ?_
      have ej_0 : p_X1_whole_t2 σ = 65533 := by unfold p_X1_whole_t2; rw [if_pos c_32]
      rw [ej_0] at J_32
      exact wd_lv [1, 0] _ rfl J_32
    · refine wd_iload_n C dX1_whole_35 rfl 0 rfl ?_
      refine wd_if_neB (b := (p_X1_whole_t1 σ)) C 48 dX1_whole_36 (by decide) (fun c_36 => ?_) (fun c_36 => ?_)
      · refine wd_ldc C tw_327 dX1_whole_48 ?_
        refine wd_goto C 57 dX1_whole_50 (by decide) ?_
        have ej_0 : p_X1_whole_t2 σ = 65533 := by unfold p_X1_whole_t2; rw [if_neg c_32, if_pos c_36]
        rw [ej_0] at J_32
        exact wd_lv [1, 0] _ rfl J_32
      · refine wd_aload_n C dX1_whole_39 rfl 1 rfl ?_
        refine gfL_0_1 (x := σ.1 1) C tw_193 rfl dX1_whole_40 ?_
        refine wd_ldc C tw_326 dX1_whole_43 ?_
        refine wd_icmp_le C 53 dX1_whole_45 (by decide) (fun c_45 => ?_) (fun c_45 => ?_)
        · refine wd_aload_n C dX1_whole_53 rfl 1 rfl ?_
          refine gfL_0_1 (x := σ.1 1) C tw_193 rfl dX1_whole_54 ?_
          have ej_0 : p_X1_whole_t2 σ = σ.1 1 := by unfold p_X1_whole_t2; rw [if_neg c_32, if_neg c_36, if_pos c_45]
          rw [ej_0] at J_32
          exact wd_lv [1, 0] _ rfl J_32
        · refine wd_ldc C tw_327 dX1_whole_48 ?_
          refine wd_goto C 57 dX1_whole_50 (by decide) ?_
          have ej_0 : p_X1_whole_t2 σ = 65533 := by unfold p_X1_whole_t2; rw [if_neg c_32, if_neg c_36, if_neg c_45]
          rw [ej_0] at J_32
          exact wd_lv [1, 0] _ rfl J_32
  refine wd_icmp_lt C 22 dX1_whole_6 (by decide) (fun c_6 => ?_) (fun c_6 => ?_)
  · refine wd_iconst (v := 0) C dX1_whole_22 (by decide) ?_
    have ej_0 : p_X1_whole_t1 σ = false := by unfold p_X1_whole_t1; rw [if_pos c_6]
    rw [ej_0] at J_6
    exact wd_lv [0] _ rfl J_6
  · refine wd_aload_n C dX1_whole_9 rfl 0 rfl ?_
    refine gfL_0_1 (x := σ.1 1) C tw_193 rfl dX1_whole_10 ?_
    refine wd_ldc C tw_325 dX1_whole_13 ?_
    refine wd_icmp_gt C 22 dX1_whole_15 (by decide) (fun c_15 => ?_) (fun c_15 => ?_)
    · refine wd_iconst (v := 0) C dX1_whole_22 (by decide) ?_
      have ej_0 : p_X1_whole_t1 σ = false := by unfold p_X1_whole_t1; rw [if_neg c_6, if_pos c_15]
      rw [ej_0] at J_6
      exact wd_lv [0] _ rfl J_6
    · refine wd_iconst (v := 1) C dX1_whole_18 (by decide) ?_
      refine wd_goto C 23 dX1_whole_19 (by decide) ?_
      have ej_0 : p_X1_whole_t1 σ = true := by unfold p_X1_whole_t1; rw [if_neg c_6, if_neg c_15]
      rw [ej_0] at J_6
      exact wd_lv [0] _ rfl J_6
