def p_X4_clear (σ : St) : St := si σ 0 0
set_option maxHeartbeats 4000000 in
set_option maxRecDepth 100000 in
theorem c_X4_clear (l : Launch) (K : KX) (ad : Nat → Nat) (σ : St) : Mt l K yX4_clear cX4_clear 1 none { frames := 0, cells := 0, slots := 0, locals := 0 } [.ref (ad 0)] (WdR K ad σ) none (WdR K ad (p_X4_clear σ)) := by
  refine Mt.v (by decide +kernel) (Nat.le_of_ble_eq_true rfl) (fun X C hret => ?_)
  show WD X K 1 0 0 (WdR K ad σ) [(0, .ref (ad 0))] 0 []
  refine wd_aload_n C dX4_clear_0 rfl 0 rfl ?_
  refine wd_iconst (v := 0) C dX4_clear_1 (by decide) ?_
  refine pfR_0_1 C tw_239 0 dX4_clear_2 ?_
  have e9 : p_X4_clear σ = si σ 0 0 := by rfl
  exact hret _ _ _ (by rw [e9] <;> rfl) dX4_clear_5
def p_X4_hasRoom_t1 (σ : St) (p1 : Int32) : Bool := (if 64 < (σ.1 0) + p1 then false else true)
def p_X4_hasRoom (σ : St) (p1 : Int32) : Bool := (p_X4_hasRoom_t1 σ p1)
set_option maxHeartbeats 4000000 in
set_option maxRecDepth 100000 in
theorem c_X4_hasRoom (l : Launch) (K : KX) (ad : Nat → Nat) (σ : St) (p1 : Int32) : Mt l K yX4_hasRoom cX4_hasRoom 2 (some .boolean) { frames := 0, cells := 0, slots := 0, locals := 0 } [.ref (ad 0), .int p1] (WdR K ad σ) (some (.int (b2i (p_X4_hasRoom σ p1)))) (WdR K ad σ) := by
  refine Mt.z (by decide +kernel) (Nat.le_of_ble_eq_true rfl) (fun X C hret => ?_)
  show WD X K 2 0 0 (WdR K ad σ) [(0, .ref (ad 0)), (1, .int p1)] 0 []
  refine wd_aload_n C dX4_hasRoom_0 rfl 0 rfl ?_
  refine gfR_0_1 (x := σ.1 0) C tw_239 rfl dX4_hasRoom_1 ?_
  refine wd_iload_n C dX4_hasRoom_4 rfl 1 rfl ?_
  refine wd_iadd C dX4_hasRoom_5 ?_
  refine wd_bipush (v := 64) C dX4_hasRoom_6 (by decide) ?_
  have J_8 : WD X K 2 0 0 (WdR K ad σ) [(0, .ref (ad 0)), (1, .int p1)] 16 [.int (b2i (p_X4_hasRoom_t1 σ p1))] := by
    have e9 : p_X4_hasRoom σ p1 = (p_X4_hasRoom_t1 σ p1) := by rfl
    exact hret (p_X4_hasRoom_t1 σ p1) _ _ _ (by rw [e9]) rfl dX4_hasRoom_16
  refine wd_icmp_gt C 15 dX4_hasRoom_8 (by decide) (fun c_8 => ?_) (fun c_8 => ?_)
  · refine wd_iconst (v := 0) C dX4_hasRoom_15 (by decide) ?_
    have ej_0 : p_X4_hasRoom_t1 σ p1 = false := by unfold p_X4_hasRoom_t1; rw [if_pos c_8]
    rw [ej_0] at J_8
    exact wd_lv [0, 1] _ rfl J_8
  · refine wd_iconst (v := 1) C dX4_hasRoom_11 (by decide) ?_
    refine wd_goto C 16 dX4_hasRoom_12 (by decide) ?_
    have ej_0 : p_X4_hasRoom_t1 σ p1 = true := by unfold p_X4_hasRoom_t1; rw [if_neg c_8]
    rw [ej_0] at J_8
    exact wd_lv [0, 1] _ rfl J_8
def p_X4_add_s1 (σ : St) (p1 : Int32) : St := (if σ.1 0 < 0 then σ else (if 64 ≤ σ.1 0 then σ else si (sa σ 0 (upd (σ.2.2 0) (σ.1 0 : Int32).toNatClampNeg p1)) 0 ((σ.1 0) + 1)))
def p_X4_add (σ : St) (p1 : Int32) : St := (p_X4_add_s1 σ p1)
set_option maxHeartbeats 4000000 in
set_option maxRecDepth 100000 in
theorem c_X4_add (l : Launch) (K : KX) (ad : Nat → Nat) (σ : St) (p1 : Int32) : Mt l K yX4_add cX4_add 2 none { frames := 0, cells := 0, slots := 0, locals := 0 } [.ref (ad 0), .int p1] (WdR K ad σ) none (WdR K ad (p_X4_add σ p1)) := by
  refine Mt.v (by decide +kernel) (Nat.le_of_ble_eq_true rfl) (fun X C hret => ?_)
  show WD X K 2 0 0 (WdR K ad σ) [(0, .ref (ad 0)), (1, .int p1)] 0 []
  refine wd_aload_n C dX4_add_0 rfl 0 rfl ?_
  refine gfR_0_1 (x := σ.1 0) C tw_239 rfl dX4_add_1 ?_
  have J_4 : WD X K 2 0 0 (WdR K ad (p_X4_add_s1 σ p1)) [(0, .ref (ad 0)), (1, .int p1)] 36 [] := by
    have e9 : p_X4_add σ p1 = (p_X4_add_s1 σ p1) := by rfl
    exact hret _ _ _ (by rw [e9] <;> rfl) dX4_add_36
  refine wd_if_lt C 36 dX4_add_4 (by decide) (fun c_4 => ?_) (fun c_4 => ?_)
  · have ej_0 : p_X4_add_s1 σ p1 = σ := by unfold p_X4_add_s1; rw [if_pos c_4]
    rw [ej_0] at J_4
    exact wd_lv [0, 1] _ rfl J_4
  · refine wd_aload_n C dX4_add_7 rfl 0 rfl ?_
    refine gfR_0_1 (x := σ.1 0) C tw_239 rfl dX4_add_8 ?_
    refine wd_bipush (v := 64) C dX4_add_11 (by decide) ?_
    refine wd_icmp_ge C 36 dX4_add_13 (by decide) (fun c_13 => ?_) (fun c_13 => ?_)
    · have ej_0 : p_X4_add_s1 σ p1 = σ := by unfold p_X4_add_s1; rw [if_neg c_4, if_pos c_13]
      rw [ej_0] at J_4
      exact wd_lv [0, 1] _ rfl J_4
    · refine wd_aload_n C dX4_add_16 rfl 0 rfl ?_
      refine gfR_0_0 C tw_238 dX4_add_17 ?_
      refine wd_aload_n C dX4_add_20 rfl 0 rfl ?_
      refine gfR_0_1 (x := σ.1 0) C tw_239 rfl dX4_add_21 ?_
      refine wd_iload_n C dX4_add_24 rfl 1 rfl ?_
      refine asR_1 (f := σ.2.2 0) C (in_g c_4 c_13 (by decide)) rfl dX4_add_25 ?_
      refine wd_aload_n C dX4_add_26 rfl 0 rfl ?_
      refine wd_dup C dX4_add_27 rfl ?_
      refine gfR_0_1 (x := σ.1 0) C tw_239 rfl dX4_add_28 ?_
      refine wd_iconst (v := 1) C dX4_add_31 (by decide) ?_
      refine wd_iadd C dX4_add_32 ?_
      refine pfR_0_1 C tw_239 ((σ.1 0) + 1) dX4_add_33 ?_
      have ej_0 : p_X4_add_s1 σ p1 = si (sa σ 0 (upd (σ.2.2 0) (σ.1 0 : Int32).toNatClampNeg p1)) 0 ((σ.1 0) + 1) := by unfold p_X4_add_s1; rw [if_neg c_4, if_neg c_13]
      rw [ej_0] at J_4
      exact wd_lv [0, 1] _ rfl J_4
def p_X4_addWell_s1 (σ : St) : St := (if (p_X4_hasRoom σ 4) = true then (p_X4_add ((p_X4_add ((p_X4_add (p_X4_add σ 27) 91)) 48)) 110) else σ)
def p_X4_addWell (σ : St) : St := (p_X4_addWell_s1 σ)
set_option maxHeartbeats 4000000 in
set_option maxRecDepth 100000 in
theorem c_X4_addWell (l : Launch) (K : KX) (ad : Nat → Nat) (σ : St) : Mt l K yX4_addWell cX4_addWell 1 none { frames := 1, cells := 0, slots := 0, locals := 21 } [.ref (ad 0)] (WdR K ad σ) none (WdR K ad (p_X4_addWell σ)) := by
  refine Mt.v (by decide +kernel) (Nat.le_of_ble_eq_true rfl) (fun X C hret => ?_)
  show WD X K 1 0 0 (WdR K ad σ) [(0, .ref (ad 0))] 0 []
  refine wd_aload_n C dX4_addWell_0 rfl 0 rfl ?_
  refine wd_iconst (v := 4) C dX4_addWell_1 (by decide) ?_
  refine wd_callV C 1 (c_X4_hasRoom _ K ad σ 4) 0 (wcR_0 K ad _) rfl rfl tw_604 tw_606 tw_25 tw_71 tw_607 (by decide +kernel) rfl (by decide) (Nat.le_of_ble_eq_true rfl) dX4_addWell_2 _ rfl ?_
  have J_5 : WD X K 1 0 0 (WdR K ad (p_X4_addWell_s1 σ)) [(0, .ref (ad 0))] 32 [] := by
    have e9 : p_X4_addWell σ = (p_X4_addWell_s1 σ) := by rfl
    exact hret _ _ _ (by rw [e9] <;> rfl) dX4_addWell_32
  refine wd_if_eqB (b := (p_X4_hasRoom σ 4)) C 32 dX4_addWell_5 (by decide) (fun c_5 => ?_) (fun c_5 => ?_)
  · have ej_0 : p_X4_addWell_s1 σ = σ := by unfold p_X4_addWell_s1; rw [if_neg c_5]
    rw [ej_0] at J_5
    exact wd_lv [0] _ rfl J_5
  · refine wd_aload_n C dX4_addWell_8 rfl 0 rfl ?_
    refine wd_bipush (v := 27) C dX4_addWell_9 (by decide) ?_
    refine wd_callV C 1 (c_X4_add _ K ad σ 27) 0 (wcR_0 K ad _) rfl rfl tw_608 tw_610 tw_26 tw_71 tw_611 (by decide +kernel) rfl (by decide) (Nat.le_of_ble_eq_true rfl) dX4_addWell_11 _ rfl ?_
    refine wd_aload_n C dX4_addWell_14 rfl 0 rfl ?_
    refine wd_bipush (v := 91) C dX4_addWell_15 (by decide) ?_
    refine wd_callV C 1 (c_X4_add _ K ad (p_X4_add σ 27) 91) 0 (wcR_0 K ad _) rfl rfl tw_608 tw_610 tw_26 tw_71 tw_611 (by decide +kernel) rfl (by decide) (Nat.le_of_ble_eq_true rfl) dX4_addWell_17 _ rfl ?_
    refine wd_aload_n C dX4_addWell_20 rfl 0 rfl ?_
    refine wd_bipush (v := 48) C dX4_addWell_21 (by decide) ?_
    refine wd_callV C 1 (c_X4_add _ K ad ((p_X4_add (p_X4_add σ 27) 91)) 48) 0 (wcR_0 K ad _) rfl rfl tw_608 tw_610 tw_26 tw_71 tw_611 (by decide +kernel) rfl (by decide) (Nat.le_of_ble_eq_true rfl) dX4_addWell_23 _ rfl ?_
    refine wd_aload_n C dX4_addWell_26 rfl 0 rfl ?_
    refine wd_bipush (v := 110) C dX4_addWell_27 (by decide) ?_
    refine wd_callV C 1 (c_X4_add _ K ad ((p_X4_add ((p_X4_add (p_X4_add σ 27) 91)) 48)) 110) 0 (wcR_0 K ad _) rfl rfl tw_608 tw_610 tw_26 tw_71 tw_611 (by decide +kernel) rfl (by decide) (Nat.le_of_ble_eq_true rfl) dX4_addWell_29 _ rfl ?_
    have ej_0 : p_X4_addWell_s1 σ = (p_X4_add ((p_X4_add ((p_X4_add (p_X4_add σ 27) 91)) 48)) 110) := by unfold p_X4_addWell_s1; rw [if_pos c_5]
    rw [ej_0] at J_5
    exact wd_lv [0] _ rfl J_5
def p_X4_addPosition_t1 (σ : St) (p1 : Int32) (p2 : Int32) : Bool := (if p2 ≤ 9 then false else true)
def p_X4_addPosition_t2 (σ : St) (p1 : Int32) (p2 : Int32) : Int32 := (if (p_X4_addPosition_t1 σ p1 p2) = true then 7 else 6)
def p_X4_addPosition_s3 (σ : St) (p1 : Int32) (p2 : Int32) : St := (if (p_X4_addPosition_t1 σ p1 p2) = true then (p_X4_add ((p_X4_add ((p_X4_add ((p_X4_add (p_X4_add σ 27) 91)) (48 + p1))) 59)) (48 + (p2 / 10))) else (p_X4_add ((p_X4_add ((p_X4_add (p_X4_add σ 27) 91)) (48 + p1))) 59))
def p_X4_addPosition (σ : St) (p1 : Int32) (p2 : Int32) : St := (if (p_X4_hasRoom σ (p_X4_addPosition_t2 σ p1 p2)) = true then (p_X4_add ((p_X4_add (p_X4_addPosition_s3 σ p1 p2) (48 + (p2 - p2 / 10 * 10)))) 82) else σ)
set_option maxHeartbeats 4000000 in
set_option maxRecDepth 100000 in
theorem c_X4_addPosition (l : Launch) (K : KX) (ad : Nat → Nat) (σ : St) (p1 : Int32) (p2 : Int32) : Mt l K yX4_addPosition cX4_addPosition 4 none { frames := 1, cells := 0, slots := 0, locals := 21 } [.ref (ad 0), .int p1, .int p2] (WdR K ad σ) none (WdR K ad (p_X4_addPosition σ p1 p2)) := by
  refine Mt.v (by decide +kernel) (Nat.le_of_ble_eq_true rfl) (fun X C hret => ?_)
  show WD X K 4 0 0 (WdR K ad σ) [(0, .ref (ad 0)), (1, .int p1), (2, .int p2)] 0 []
  refine wd_iload_n C dX4_addPosition_0 rfl 2 rfl ?_
  refine wd_bipush (v := 9) C dX4_addPosition_1 (by decide) ?_
  have J_3 : WD X K 4 0 0 (WdR K ad σ) [(0, .ref (ad 0)), (1, .int p1), (2, .int p2)] 11 [.int (b2i (p_X4_addPosition_t1 σ p1 p2))] := by
    refine wd_istore_n C [(3, .int (b2i (p_X4_addPosition_t1 σ p1 p2))), (0, .ref (ad 0)), (1, .int p1), (2, .int p2)] dX4_addPosition_11 rfl (by decide) rfl ?_
    refine wd_aload_n C dX4_addPosition_12 rfl 1 rfl ?_
    refine wd_iload_n C dX4_addPosition_13 rfl 0 rfl ?_
    have J_14 : WD X K 4 0 0 (WdR K ad σ) [(0, .ref (ad 0)), (1, .int p1), (2, .int p2), (3, .int (b2i (p_X4_addPosition_t1 σ p1 p2)))] 24 [.int (p_X4_addPosition_t2 σ p1 p2), .ref (ad 0)] := by
      refine wd_callV C 1 (c_X4_hasRoom _ K ad σ (p_X4_addPosition_t2 σ p1 p2)) 0 (wcR_0 K ad _) rfl rfl tw_604 tw_606 tw_25 tw_71 tw_607 (by decide +kernel) rfl (by decide) (Nat.le_of_ble_eq_true rfl) dX4_addPosition_24 _ rfl ?_
      refine wd_if_neB (b := (p_X4_hasRoom σ (p_X4_addPosition_t2 σ p1 p2))) C 31 dX4_addPosition_27 (by decide) (fun c_27 => ?_) (fun c_27 => ?_)
      · refine wd_aload_n C dX4_addPosition_31 rfl 0 rfl ?_
        refine wd_bipush (v := 27) C dX4_addPosition_32 (by decide) ?_
        refine wd_callV C 1 (c_X4_add _ K ad σ 27) 0 (wcR_0 K ad _) rfl rfl tw_608 tw_610 tw_26 tw_71 tw_611 (by decide +kernel) rfl (by decide) (Nat.le_of_ble_eq_true rfl) dX4_addPosition_34 _ rfl ?_
        refine wd_aload_n C dX4_addPosition_37 rfl 0 rfl ?_
        refine wd_bipush (v := 91) C dX4_addPosition_38 (by decide) ?_
        refine wd_callV C 1 (c_X4_add _ K ad (p_X4_add σ 27) 91) 0 (wcR_0 K ad _) rfl rfl tw_608 tw_610 tw_26 tw_71 tw_611 (by decide +kernel) rfl (by decide) (Nat.le_of_ble_eq_true rfl) dX4_addPosition_40 _ rfl ?_
        refine wd_aload_n C dX4_addPosition_43 rfl 0 rfl ?_
        refine wd_bipush (v := 48) C dX4_addPosition_44 (by decide) ?_
        refine wd_iload_n C dX4_addPosition_46 rfl 1 rfl ?_
        refine wd_iadd C dX4_addPosition_47 ?_
        refine wd_callV C 1 (c_X4_add _ K ad ((p_X4_add (p_X4_add σ 27) 91)) (48 + p1)) 0 (wcR_0 K ad _) rfl rfl tw_608 tw_610 tw_26 tw_71 tw_611 (by decide +kernel) rfl (by decide) (Nat.le_of_ble_eq_true rfl) dX4_addPosition_48 _ rfl ?_
        refine wd_aload_n C dX4_addPosition_51 rfl 0 rfl ?_
        refine wd_bipush (v := 59) C dX4_addPosition_52 (by decide) ?_
        refine wd_callV C 1 (c_X4_add _ K ad ((p_X4_add ((p_X4_add (p_X4_add σ 27) 91)) (48 + p1))) 59) 0 (wcR_0 K ad _) rfl rfl tw_608 tw_610 tw_26 tw_71 tw_611 (by decide +kernel) rfl (by decide) (Nat.le_of_ble_eq_true rfl) dX4_addPosition_54 _ rfl ?_
        refine wd_iload_n C dX4_addPosition_57 rfl 3 rfl ?_
        have J_58 : WD X K 4 0 0 (WdR K ad (p_X4_addPosition_s3 σ p1 p2)) [(0, .ref (ad 0)), (1, .int p1), (2, .int p2), (3, .int (b2i (p_X4_addPosition_t1 σ p1 p2)))] 72 [] := by
          refine wd_aload_n C dX4_addPosition_72 rfl 0 rfl ?_
          refine wd_bipush (v := 48) C dX4_addPosition_73 (by decide) ?_
          refine wd_iload_n C dX4_addPosition_75 rfl 2 rfl ?_
          refine wd_bipush (v := 10) C dX4_addPosition_76 (by decide) ?_
          refine wd_irem C dX4_addPosition_78 (by decide) ?_
          refine wd_iadd C dX4_addPosition_79 ?_
          refine wd_callV C 1 (c_X4_add _ K ad (p_X4_addPosition_s3 σ p1 p2) (48 + (p2 - p2 / 10 * 10))) 0 (wcR_0 K ad _) rfl rfl tw_608 tw_610 tw_26 tw_71 tw_611 (by decide +kernel) rfl (by decide) (Nat.le_of_ble_eq_true rfl) dX4_addPosition_80 _ rfl ?_
          refine wd_aload_n C dX4_addPosition_83 rfl 0 rfl ?_
          refine wd_bipush (v := 82) C dX4_addPosition_84 (by decide) ?_
          refine wd_callV C 1 (c_X4_add _ K ad ((p_X4_add (p_X4_addPosition_s3 σ p1 p2) (48 + (p2 - p2 / 10 * 10)))) 82) 0 (wcR_0 K ad _) rfl rfl tw_608 tw_610 tw_26 tw_71 tw_611 (by decide +kernel) rfl (by decide) (Nat.le_of_ble_eq_true rfl) dX4_addPosition_86 _ rfl ?_
          have e9 : p_X4_addPosition σ p1 p2 = (p_X4_add ((p_X4_add (p_X4_addPosition_s3 σ p1 p2) (48 + (p2 - p2 / 10 * 10)))) 82) := by unfold p_X4_addPosition; rw [if_pos c_27]
          exact hret _ _ _ (by rw [e9] <;> rfl) dX4_addPosition_89
        refine wd_if_eqB (b := (p_X4_addPosition_t1 σ p1 p2)) C 72 dX4_addPosition_58 (by decide) (fun c_58 => ?_) (fun c_58 => ?_)
        · have ej_0 : p_X4_addPosition_s3 σ p1 p2 = (p_X4_add ((p_X4_add ((p_X4_add (p_X4_add σ 27) 91)) (48 + p1))) 59) := by unfold p_X4_addPosition_s3; rw [if_neg c_58]
          rw [ej_0] at J_58
          exact wd_lv [0, 1, 2, 3] _ rfl J_58
        · refine wd_aload_n C dX4_addPosition_61 rfl 0 rfl ?_
          refine wd_bipush (v := 48) C dX4_addPosition_62 (by decide) ?_
          refine wd_iload_n C dX4_addPosition_64 rfl 2 rfl ?_
          refine wd_bipush (v := 10) C dX4_addPosition_65 (by decide) ?_
          refine wd_idiv C dX4_addPosition_67 (by decide) ?_
          refine wd_iadd C dX4_addPosition_68 ?_
          refine wd_callV C 1 (c_X4_add _ K ad ((p_X4_add ((p_X4_add ((p_X4_add (p_X4_add σ 27) 91)) (48 + p1))) 59)) (48 + (p2 / 10))) 0 (wcR_0 K ad _) rfl rfl tw_608 tw_610 tw_26 tw_71 tw_611 (by decide +kernel) rfl (by decide) (Nat.le_of_ble_eq_true rfl) dX4_addPosition_69 _ rfl ?_
          have ej_0 : p_X4_addPosition_s3 σ p1 p2 = (p_X4_add ((p_X4_add ((p_X4_add ((p_X4_add (p_X4_add σ 27) 91)) (48 + p1))) 59)) (48 + (p2 / 10))) := by unfold p_X4_addPosition_s3; rw [if_pos c_58]
          rw [ej_0] at J_58
          exact wd_lv [0, 1, 2, 3] _ rfl J_58
      · have e9 : p_X4_addPosition σ p1 p2 = σ := by unfold p_X4_addPosition; rw [if_neg c_27]
        exact hret _ _ _ (by rw [e9] <;> rfl) dX4_addPosition_30
    refine wd_if_eqB (b := (p_X4_addPosition_t1 σ p1 p2)) C 22 dX4_addPosition_14 (by decide) (fun c_14 => ?_) (fun c_14 => ?_)
    · refine wd_bipush (v := 6) C dX4_addPosition_22 (by decide) ?_
      have ej_0 : p_X4_addPosition_t2 σ p1 p2 = 6 := by unfold p_X4_addPosition_t2; rw [if_neg c_14]
      rw [ej_0] at J_14
      exact wd_lv [1, 2, 3, 0] _ rfl J_14
    · refine wd_bipush (v := 7) C dX4_addPosition_17 (by decide) ?_
      refine wd_goto C 24 dX4_addPosition_19 (by decide) ?_
      have ej_0 : p_X4_addPosition_t2 σ p1 p2 = 7 := by unfold p_X4_addPosition_t2; rw [if_pos c_14]
      rw [ej_0] at J_14
      exact wd_lv [1, 2, 3, 0] _ rfl J_14
  refine wd_icmp_le C 10 dX4_addPosition_3 (by decide) (fun c_3 => ?_) (fun c_3 => ?_)
  · refine wd_iconst (v := 0) C dX4_addPosition_10 (by decide) ?_
    have ej_0 : p_X4_addPosition_t1 σ p1 p2 = false := by unfold p_X4_addPosition_t1; rw [if_pos c_3]
    rw [ej_0] at J_3
    exact wd_lv [0, 1, 2] _ rfl J_3
  · refine wd_iconst (v := 1) C dX4_addPosition_6 (by decide) ?_
    refine wd_goto C 11 dX4_addPosition_7 (by decide) ?_
    have ej_0 : p_X4_addPosition_t1 σ p1 p2 = true := by unfold p_X4_addPosition_t1; rw [if_neg c_3]
    rw [ej_0] at J_3
    exact wd_lv [0, 1, 2] _ rfl J_3
def p_X4_takeFirst_l1 (σ : St) : Nat → St → Int32 → St × Int32
  | 0, s, x2 => (s, x2)
  | n + 1, s, x2 => (if 64 ≤ x2 then (s, x2) else p_X4_takeFirst_l1 σ n (sa s 0 (upd (s.2.2 0) (x2 - 1 : Int32).toNatClampNeg (s.2.2 0 (x2 : Int32).toNatClampNeg))) (x2 + 1))
def p_X4_takeFirst (σ : St) : St × Int32 := (si ((p_X4_takeFirst_l1 σ 64 σ 1).1) 0 ((((p_X4_takeFirst_l1 σ 64 σ 1).1).1 0) - 1), σ.2.2 0 (0 : Int32).toNatClampNeg)
set_option maxHeartbeats 4000000 in
set_option maxRecDepth 100000 in
theorem c_X4_takeFirst (l : Launch) (K : KX) (ad : Nat → Nat) (σ : St) : Mt l K yX4_takeFirst cX4_takeFirst 3 (some .int) { frames := 0, cells := 0, slots := 0, locals := 0 } [.ref (ad 0)] (WdR K ad σ) (some (.int (p_X4_takeFirst σ).2)) (WdR K ad (p_X4_takeFirst σ).1) := by
  refine Mt.i (by decide +kernel) (Nat.le_of_ble_eq_true rfl) (fun X C hret => ?_)
  show WD X K 3 0 0 (WdR K ad σ) [(0, .ref (ad 0))] 0 []
  refine wd_aload_n C dX4_takeFirst_0 rfl 0 rfl ?_
  refine gfR_0_0 C tw_238 dX4_takeFirst_1 ?_
  refine wd_iconst (v := 0) C dX4_takeFirst_4 (by decide) ?_
  refine alR_1 (x := σ.2.2 0 (0 : Int32).toNatClampNeg) C (vp_in_iff.mpr (by decide)) rfl dX4_takeFirst_5 ?_
  refine wd_istore_n C [(1, .int (σ.2.2 0 (0 : Int32).toNatClampNeg)), (0, .ref (ad 0))] dX4_takeFirst_6 rfl (by decide) rfl ?_
  refine wd_iconst (v := 1) C dX4_takeFirst_7 (by decide) ?_
  refine wd_istore_n C [(2, .int 1), (1, .int (σ.2.2 0 (0 : Int32).toNatClampNeg)), (0, .ref (ad 0))] dX4_takeFirst_8 rfl (by decide) rfl ?_
  have J_9 : WD X K 3 0 0 (WdR K ad ((p_X4_takeFirst_l1 σ 64 σ 1).1)) [(0, .ref (ad 0)), (1, .int (σ.2.2 0 (0 : Int32).toNatClampNeg)), (2, .int ((p_X4_takeFirst_l1 σ 64 σ 1).2))] 35 [] := by
    refine wd_aload_n C dX4_takeFirst_35 rfl 0 rfl ?_
    refine wd_dup C dX4_takeFirst_36 rfl ?_
    refine gfR_0_1 (x := ((p_X4_takeFirst_l1 σ 64 σ 1).1).1 0) C tw_239 rfl dX4_takeFirst_37 ?_
    refine wd_iconst (v := 1) C dX4_takeFirst_40 (by decide) ?_
    refine wd_isub C dX4_takeFirst_41 ?_
    refine pfR_0_1 C tw_239 ((((p_X4_takeFirst_l1 σ 64 σ 1).1).1 0) - 1) dX4_takeFirst_42 ?_
    refine wd_iload_n C dX4_takeFirst_45 rfl 1 rfl ?_
    have e9 : p_X4_takeFirst σ = (si ((p_X4_takeFirst_l1 σ 64 σ 1).1) 0 ((((p_X4_takeFirst_l1 σ 64 σ 1).1).1 0) - 1), σ.2.2 0 (0 : Int32).toNatClampNeg) := by rfl
    exact hret _ _ _ _ (by rw [e9]) (by rw [e9]) dX4_takeFirst_46
  have L_9 : ∀ (n : Nat) (s : St) (x2 : Int32), p_X4_takeFirst_l1 σ n s x2 = p_X4_takeFirst_l1 σ 64 σ 1 → 1 ≤ x2.toInt ∧ 64 - x2.toInt ≤ (n : Int) → WD X K 3 0 0 (WdR K ad s) [(0, .ref (ad 0)), (1, .int (σ.2.2 0 (0 : Int32).toNatClampNeg)), (2, .int x2)] 9 [] := by
    intro n
    induction n with
    | zero =>
      intro s x2 hE hI
      refine wd_iload_n C dX4_takeFirst_9 rfl 2 rfl ?_
      refine wd_bipush (v := 64) C dX4_takeFirst_10 (by decide) ?_
      refine wd_icmp_ge C 35 dX4_takeFirst_12 (by decide) (fun c_12 => ?_) (fun c_12 => ?_)
      · have eL := hE
        rw [p_X4_takeFirst_l1] at eL
        rw [← eL] at J_9
        exact wd_lv [0, 1, 2] _ rfl J_9
      · exact absurd (ti_le.mpr (by have h0 := hI.2; (try simp only [ti_lt, ti_le, ti_eq] at h0); have z64 : (64 : Int32).toInt = 64 := (by decide); omega)) c_12
    | succ n ih =>
      intro s x2 hE hI
      refine wd_iload_n C dX4_takeFirst_9 rfl 2 rfl ?_
      refine wd_bipush (v := 64) C dX4_takeFirst_10 (by decide) ?_
      refine wd_icmp_ge C 35 dX4_takeFirst_12 (by decide) (fun c_12 => ?_) (fun c_12 => ?_)
      · have eL := hE
        rw [p_X4_takeFirst_l1, if_pos c_12] at eL
        rw [← eL] at J_9
        exact wd_lv [0, 1, 2] _ rfl J_9
      · refine wd_aload_n C dX4_takeFirst_15 rfl 0 rfl ?_
        refine gfR_0_0 C tw_238 dX4_takeFirst_16 ?_
        refine wd_iload_n C dX4_takeFirst_19 rfl 2 rfl ?_
        refine wd_iconst (v := 1) C dX4_takeFirst_20 (by decide) ?_
        refine wd_isub C dX4_takeFirst_21 ?_
        refine wd_aload_n C dX4_takeFirst_22 rfl 0 rfl ?_
        refine gfR_0_0 C tw_238 dX4_takeFirst_23 ?_
        refine wd_iload_n C dX4_takeFirst_26 rfl 2 rfl ?_
        refine alR_1 (x := s.2.2 0 (x2 : Int32).toNatClampNeg) C (vp_in_iff.mpr (by have h0 := c_12; (try simp only [ti_lt, ti_le, ti_eq] at h0); have h1 := hI.1; (try simp only [ti_lt, ti_le, ti_eq] at h1); have z64 : (64 : Int32).toInt = 64 := (by decide); omega)) rfl dX4_takeFirst_27 ?_
        refine asR_1 (f := s.2.2 0) C (vp_in_iff.mpr (by have h0 := c_12; (try simp only [ti_lt, ti_le, ti_eq] at h0); have h1 := hI.1; (try simp only [ti_lt, ti_le, ti_eq] at h1); have z64 : (64 : Int32).toInt = 64 := (by decide); have z1 : (1 : Int32).toInt = 1 := (by decide); have e1 := ti_sub (a := x2) (b := 1) (by omega) (by omega); omega)) rfl dX4_takeFirst_28 ?_
        refine wd_iinc (v := x2 + 1) C [(2, .int (x2 + 1)), (0, .ref (ad 0)), (1, .int (σ.2.2 0 (0 : Int32).toNatClampNeg))] dX4_takeFirst_29 2 rfl (by rfl) (by decide) rfl ?_
        refine wd_goto C 9 dX4_takeFirst_32 (by decide) ?_
        have eL := hE
        rw [p_X4_takeFirst_l1, if_neg c_12] at eL
        exact wd_lv [1, 2, 0] _ rfl (ih (sa s 0 (upd (s.2.2 0) (x2 - 1 : Int32).toNatClampNeg (s.2.2 0 (x2 : Int32).toNatClampNeg))) (x2 + 1) eL (by have h0 := c_12; (try simp only [ti_lt, ti_le, ti_eq] at h0); have h1 := hI.1; (try simp only [ti_lt, ti_le, ti_eq] at h1); have h2 := hI.2; (try simp only [ti_lt, ti_le, ti_eq] at h2); have z64 : (64 : Int32).toInt = 64 := (by decide); have z1 : (1 : Int32).toInt = 1 := (by decide); have e1 := ti_add (a := x2) (b := 1) (by omega) (by omega); constructor <;> omega))
  exact wd_lv [2, 1, 0] _ rfl (L_9 64 σ 1 rfl (by constructor <;> decide))
