def R2 (lo hi : Int) (x : Int32) : Prop := lo ≤ x.toInt ∧ x.toInt ≤ hi
theorem pgix {g x : Int32} (hg : R2 0 1 g) (h0 : 0 ≤ x.toInt) (h1 : x.toInt < 96) : vp_in (96 * g + x) 192 := by
  have z : (96 : Int32).toInt = 96 := by decide
  have e1 : (96 * g).toInt = 96 * g.toInt := by rw [ti_mul (by rw [z]; have := hg.1; have := hg.2; omega) (by rw [z]; have := hg.1; have := hg.2; omega), z]
  have a := hg.1
  have b := hg.2
  have e2 : (96 * g + x).toInt = 96 * g.toInt + x.toInt := by rw [ti_add (by omega) (by omega), e1]
  exact vp_in_iff.mpr (by omega)
theorem t12 {r c : Int32} (hr : R2 0 7 r) (hc : R2 0 11 c) : (12 * r + c).toInt = 12 * r.toInt + c.toInt := by
  have z : (12 : Int32).toInt = 12 := by decide
  have a := hr.1
  have b := hr.2
  have a2 := hc.1
  have b2 := hc.2
  have e1 : (12 * r).toInt = 12 * r.toInt := by rw [ti_mul (by rw [z]; omega) (by rw [z]; omega), z]
  rw [ti_add (by omega) (by omega), e1]

def p_X8_thrown (σ : St) : Int32 := σ.1 39
set_option maxHeartbeats 4000000 in
set_option maxRecDepth 100000 in
theorem c_X8_thrown (l : Launch) (K : KX) (ad : Nat → Nat) (σ : St) : Mt l K yX8_thrown cX8_thrown 1 (some .int) { frames := 0, cells := 0, slots := 0, locals := 0 } [.ref (ad 0)] (WdM K ad σ) (some (.int (p_X8_thrown σ))) (WdM K ad σ) := by
  refine Mt.i (by decide +kernel) (Nat.le_of_ble_eq_true rfl) (fun X C hret => ?_)
  show WD X K 1 0 0 (WdM K ad σ) [(0, .ref (ad 0))] 0 []
  refine wd_aload_n C dX8_thrown_0 rfl 0 rfl ?_
  refine gfM_0_39 (x := σ.1 39) C tw_858 rfl dX8_thrown_1 ?_
  have e9 : p_X8_thrown σ = σ.1 39 := by rfl
  exact hret _ _ _ _ (by rw [e9]) rfl dX8_thrown_4
def p_X8_blank (σ : St) (p1 : Int32) : St := sa (sa σ 0 (upd (σ.2.2 0) (p1 : Int32).toNatClampNeg 32)) 1 (upd (σ.2.2 1) (p1 : Int32).toNatClampNeg 0)
set_option maxHeartbeats 4000000 in
set_option maxRecDepth 100000 in
theorem c_X8_blank (l : Launch) (K : KX) (ad : Nat → Nat) (σ : St) (p1 : Int32) (hk : vp_in p1 192) : Mt l K yX8_blank cX8_blank 2 none { frames := 0, cells := 0, slots := 0, locals := 0 } [.ref (ad 0), .int p1] (WdM K ad σ) none (WdM K ad (p_X8_blank σ p1)) := by
  refine Mt.v (by decide +kernel) (Nat.le_of_ble_eq_true rfl) (fun X C hret => ?_)
  show WD X K 2 0 0 (WdM K ad σ) [(0, .ref (ad 0)), (1, .int p1)] 0 []
  refine wd_aload_n C dX8_blank_0 rfl 0 rfl ?_
  refine gfM_0_0 C tw_819 dX8_blank_1 ?_
  refine wd_iload_n C dX8_blank_4 rfl 1 rfl ?_
  refine wd_bipush (v := 32) C dX8_blank_5 (by decide) ?_
  refine asM_1 (f := σ.2.2 0) C (hk) rfl dX8_blank_7 ?_
  refine wd_aload_n C dX8_blank_8 rfl 0 rfl ?_
  refine gfM_0_1 C tw_820 dX8_blank_9 ?_
  refine wd_iload_n C dX8_blank_12 rfl 1 rfl ?_
  refine wd_iconst (v := 0) C dX8_blank_13 (by decide) ?_
  refine asM_2 (f := σ.2.2 1) C (hk) rfl dX8_blank_14 ?_
  have e9 : p_X8_blank σ p1 = sa (sa σ 0 (upd (σ.2.2 0) (p1 : Int32).toNatClampNeg 32)) 1 (upd (σ.2.2 1) (p1 : Int32).toNatClampNeg 0) := by rfl
  exact hret _ _ _ (by rw [e9] <;> rfl) dX8_blank_15
def p_X8_place (σ : St) (p1 : Int32) (p2 : Int32) : St := sb (si (si σ 5 p1) 6 p2) 9 false
set_option maxHeartbeats 4000000 in
set_option maxRecDepth 100000 in
theorem c_X8_place (l : Launch) (K : KX) (ad : Nat → Nat) (σ : St) (p1 : Int32) (p2 : Int32) : Mt l K yX8_place cX8_place 3 none { frames := 0, cells := 0, slots := 0, locals := 0 } [.ref (ad 0), .int p1, .int p2] (WdM K ad σ) none (WdM K ad (p_X8_place σ p1 p2)) := by
  refine Mt.v (by decide +kernel) (Nat.le_of_ble_eq_true rfl) (fun X C hret => ?_)
  show WD X K 3 0 0 (WdM K ad σ) [(0, .ref (ad 0)), (1, .int p1), (2, .int p2)] 0 []
  refine wd_aload_n C dX8_place_0 rfl 0 rfl ?_
  refine wd_iload_n C dX8_place_1 rfl 1 rfl ?_
  refine pfM_0_5 C tw_824 p1 dX8_place_2 ?_
  refine wd_aload_n C dX8_place_5 rfl 0 rfl ?_
  refine wd_iload_n C dX8_place_6 rfl 2 rfl ?_
  refine pfM_0_6 C tw_825 p2 dX8_place_7 ?_
  refine wd_aload_n C dX8_place_10 rfl 0 rfl ?_
  refine wd_iconst (v := 0) C dX8_place_11 (by decide) ?_
  refine pfM_0_9 C tw_828 false dX8_place_12 ?_
  have e9 : p_X8_place σ p1 p2 = sb (si (si σ 5 p1) 6 p2) 9 false := by rfl
  exact hret _ _ _ (by rw [e9] <;> rfl) dX8_place_15
def p_X8_penNow (σ : St) : Int32 := ((((σ.1 13) + (2 * (σ.1 14))) + (4 * (σ.1 15))) + (8 * (σ.1 16))) + (128 * (σ.1 17))
set_option maxHeartbeats 4000000 in
set_option maxRecDepth 100000 in
theorem c_X8_penNow (l : Launch) (K : KX) (ad : Nat → Nat) (σ : St) : Mt l K yX8_penNow cX8_penNow 1 (some .int) { frames := 0, cells := 0, slots := 0, locals := 0 } [.ref (ad 0)] (WdM K ad σ) (some (.int (p_X8_penNow σ))) (WdM K ad σ) := by
  refine Mt.i (by decide +kernel) (Nat.le_of_ble_eq_true rfl) (fun X C hret => ?_)
  show WD X K 1 0 0 (WdM K ad σ) [(0, .ref (ad 0))] 0 []
  refine wd_aload_n C dX8_penNow_0 rfl 0 rfl ?_
  refine gfM_0_13 (x := σ.1 13) C tw_832 rfl dX8_penNow_1 ?_
  refine wd_iconst (v := 2) C dX8_penNow_4 (by decide) ?_
  refine wd_aload_n C dX8_penNow_5 rfl 0 rfl ?_
  refine gfM_0_14 (x := σ.1 14) C tw_833 rfl dX8_penNow_6 ?_
  refine wd_imul C dX8_penNow_9 ?_
  refine wd_iadd C dX8_penNow_10 ?_
  refine wd_iconst (v := 4) C dX8_penNow_11 (by decide) ?_
  refine wd_aload_n C dX8_penNow_12 rfl 0 rfl ?_
  refine gfM_0_15 (x := σ.1 15) C tw_834 rfl dX8_penNow_13 ?_
  refine wd_imul C dX8_penNow_16 ?_
  refine wd_iadd C dX8_penNow_17 ?_
  refine wd_bipush (v := 8) C dX8_penNow_18 (by decide) ?_
  refine wd_aload_n C dX8_penNow_20 rfl 0 rfl ?_
  refine gfM_0_16 (x := σ.1 16) C tw_835 rfl dX8_penNow_21 ?_
  refine wd_imul C dX8_penNow_24 ?_
  refine wd_iadd C dX8_penNow_25 ?_
  refine wd_sipush (v := 128) C dX8_penNow_26 (by decide) ?_
  refine wd_aload_n C dX8_penNow_29 rfl 0 rfl ?_
  refine gfM_0_17 (x := σ.1 17) C tw_836 rfl dX8_penNow_30 ?_
  refine wd_imul C dX8_penNow_33 ?_
  refine wd_iadd C dX8_penNow_34 ?_
  have e9 : p_X8_penNow σ = ((((σ.1 13) + (2 * (σ.1 14))) + (4 * (σ.1 15))) + (8 * (σ.1 16))) + (128 * (σ.1 17)) := by rfl
  exact hret _ _ _ _ (by rw [e9]) rfl dX8_penNow_35
def p_X8_setPen (σ : St) (p1 : Int32) : St := si (si (si (si (si σ 13 (p1 &&& 1)) 14 ((p1 >>> (1 &&& 31)) &&& 1)) 15 ((p1 >>> (2 &&& 31)) &&& 1)) 16 ((p1 >>> (3 &&& 31)) &&& 15)) 17 (p1 >>> (7 &&& 31))
set_option maxHeartbeats 4000000 in
set_option maxRecDepth 100000 in
theorem c_X8_setPen (l : Launch) (K : KX) (ad : Nat → Nat) (σ : St) (p1 : Int32) : Mt l K yX8_setPen cX8_setPen 2 none { frames := 0, cells := 0, slots := 0, locals := 0 } [.ref (ad 0), .int p1] (WdM K ad σ) none (WdM K ad (p_X8_setPen σ p1)) := by
  refine Mt.v (by decide +kernel) (Nat.le_of_ble_eq_true rfl) (fun X C hret => ?_)
  show WD X K 2 0 0 (WdM K ad σ) [(0, .ref (ad 0)), (1, .int p1)] 0 []
  refine wd_aload_n C dX8_setPen_0 rfl 0 rfl ?_
  refine wd_iload_n C dX8_setPen_1 rfl 1 rfl ?_
  refine wd_iconst (v := 1) C dX8_setPen_2 (by decide) ?_
  refine wd_iand C dX8_setPen_3 ?_
  refine pfM_0_13 C tw_832 (p1 &&& 1) dX8_setPen_4 ?_
  refine wd_aload_n C dX8_setPen_7 rfl 0 rfl ?_
  refine wd_iload_n C dX8_setPen_8 rfl 1 rfl ?_
  refine wd_iconst (v := 1) C dX8_setPen_9 (by decide) ?_
  refine wd_ishr C dX8_setPen_10 ?_
  refine wd_iconst (v := 1) C dX8_setPen_11 (by decide) ?_
  refine wd_iand C dX8_setPen_12 ?_
  refine pfM_0_14 C tw_833 ((p1 >>> (1 &&& 31)) &&& 1) dX8_setPen_13 ?_
  refine wd_aload_n C dX8_setPen_16 rfl 0 rfl ?_
  refine wd_iload_n C dX8_setPen_17 rfl 1 rfl ?_
  refine wd_iconst (v := 2) C dX8_setPen_18 (by decide) ?_
  refine wd_ishr C dX8_setPen_19 ?_
  refine wd_iconst (v := 1) C dX8_setPen_20 (by decide) ?_
  refine wd_iand C dX8_setPen_21 ?_
  refine pfM_0_15 C tw_834 ((p1 >>> (2 &&& 31)) &&& 1) dX8_setPen_22 ?_
  refine wd_aload_n C dX8_setPen_25 rfl 0 rfl ?_
  refine wd_iload_n C dX8_setPen_26 rfl 1 rfl ?_
  refine wd_iconst (v := 3) C dX8_setPen_27 (by decide) ?_
  refine wd_ishr C dX8_setPen_28 ?_
  refine wd_bipush (v := 15) C dX8_setPen_29 (by decide) ?_
  refine wd_iand C dX8_setPen_31 ?_
  refine pfM_0_16 C tw_835 ((p1 >>> (3 &&& 31)) &&& 15) dX8_setPen_32 ?_
  refine wd_aload_n C dX8_setPen_35 rfl 0 rfl ?_
  refine wd_iload_n C dX8_setPen_36 rfl 1 rfl ?_
  refine wd_bipush (v := 7) C dX8_setPen_37 (by decide) ?_
  refine wd_ishr C dX8_setPen_39 ?_
  refine pfM_0_17 C tw_836 (p1 >>> (7 &&& 31)) dX8_setPen_40 ?_
  have e9 : p_X8_setPen σ p1 = si (si (si (si (si σ 13 (p1 &&& 1)) 14 ((p1 >>> (1 &&& 31)) &&& 1)) 15 ((p1 >>> (2 &&& 31)) &&& 1)) 16 ((p1 >>> (3 &&& 31)) &&& 15)) 17 (p1 >>> (7 &&& 31)) := by rfl
  exact hret _ _ _ (by rw [e9] <;> rfl) dX8_setPen_43
def p_X8_save (σ : St) : St := sb (si (sb (si (si σ 18 (σ.1 5)) 19 (σ.1 6)) 21 (σ.2.1 9)) 20 ((p_X8_penNow (sb (si (si σ 18 (σ.1 5)) 19 (σ.1 6)) 21 (σ.2.1 9))))) 22 (σ.2.1 11)
set_option maxHeartbeats 4000000 in
set_option maxRecDepth 100000 in
theorem c_X8_save (l : Launch) (K : KX) (ad : Nat → Nat) (σ : St) : Mt l K yX8_save cX8_save 1 none { frames := 1, cells := 0, slots := 0, locals := 20 } [.ref (ad 0)] (WdM K ad σ) none (WdM K ad (p_X8_save σ)) := by
  refine Mt.v (by decide +kernel) (Nat.le_of_ble_eq_true rfl) (fun X C hret => ?_)
  show WD X K 1 0 0 (WdM K ad σ) [(0, .ref (ad 0))] 0 []
  refine wd_aload_n C dX8_save_0 rfl 0 rfl ?_
  refine wd_aload_n C dX8_save_1 rfl 0 rfl ?_
  refine gfM_0_5 (x := σ.1 5) C tw_824 rfl dX8_save_2 ?_
  refine pfM_0_18 C tw_837 (σ.1 5) dX8_save_5 ?_
  refine wd_aload_n C dX8_save_8 rfl 0 rfl ?_
  refine wd_aload_n C dX8_save_9 rfl 0 rfl ?_
  refine gfM_0_6 (x := σ.1 6) C tw_825 rfl dX8_save_10 ?_
  refine pfM_0_19 C tw_838 (σ.1 6) dX8_save_13 ?_
  refine wd_aload_n C dX8_save_16 rfl 0 rfl ?_
  refine wd_aload_n C dX8_save_17 rfl 0 rfl ?_
  refine gfM_0_9 (x := σ.2.1 9) C tw_828 rfl dX8_save_18 ?_
  refine pfM_0_21 C tw_840 (σ.2.1 9) dX8_save_21 ?_
  refine wd_aload_n C dX8_save_24 rfl 0 rfl ?_
  refine wd_aload_n C dX8_save_25 rfl 0 rfl ?_
  refine wd_callV C 0 (c_X8_penNow _ K ad (sb (si (si σ 18 (σ.1 5)) 19 (σ.1 6)) 21 (σ.2.1 9))) 0 (wcM_0 K ad _) rfl rfl tw_815 tw_817 tw_33 tw_72 tw_818 (by decide +kernel) rfl (by decide) (Nat.le_of_ble_eq_true rfl) dX8_save_26 _ rfl ?_
  refine pfM_0_20 C tw_839 ((p_X8_penNow (sb (si (si σ 18 (σ.1 5)) 19 (σ.1 6)) 21 (σ.2.1 9)))) dX8_save_29 ?_
  refine wd_aload_n C dX8_save_32 rfl 0 rfl ?_
  refine wd_aload_n C dX8_save_33 rfl 0 rfl ?_
  refine gfM_0_11 (x := σ.2.1 11) C tw_830 rfl dX8_save_34 ?_
  refine pfM_0_22 C tw_841 (σ.2.1 11) dX8_save_37 ?_
  have e9 : p_X8_save σ = sb (si (sb (si (si σ 18 (σ.1 5)) 19 (σ.1 6)) 21 (σ.2.1 9)) 20 ((p_X8_penNow (sb (si (si σ 18 (σ.1 5)) 19 (σ.1 6)) 21 (σ.2.1 9))))) 22 (σ.2.1 11) := by rfl
  exact hret _ _ _ (by rw [e9] <;> rfl) dX8_save_40
def p_X8_bring (σ : St) : St := sb ((p_X8_setPen (sb ((p_X8_place σ (σ.1 18) (σ.1 19))) 9 (((p_X8_place σ (σ.1 18) (σ.1 19))).2.1 21)) (((p_X8_place σ (σ.1 18) (σ.1 19))).1 20))) 11 (((p_X8_setPen (sb ((p_X8_place σ (σ.1 18) (σ.1 19))) 9 (((p_X8_place σ (σ.1 18) (σ.1 19))).2.1 21)) (((p_X8_place σ (σ.1 18) (σ.1 19))).1 20))).2.1 22)
set_option maxHeartbeats 4000000 in
set_option maxRecDepth 100000 in
theorem c_X8_bring (l : Launch) (K : KX) (ad : Nat → Nat) (σ : St) : Mt l K yX8_bring cX8_bring 1 none { frames := 1, cells := 0, slots := 0, locals := 22 } [.ref (ad 0)] (WdM K ad σ) none (WdM K ad (p_X8_bring σ)) := by
  refine Mt.v (by decide +kernel) (Nat.le_of_ble_eq_true rfl) (fun X C hret => ?_)
  show WD X K 1 0 0 (WdM K ad σ) [(0, .ref (ad 0))] 0 []
  refine wd_aload_n C dX8_bring_0 rfl 0 rfl ?_
  refine wd_aload_n C dX8_bring_1 rfl 0 rfl ?_
  refine gfM_0_18 (x := σ.1 18) C tw_837 rfl dX8_bring_2 ?_
  refine wd_aload_n C dX8_bring_5 rfl 0 rfl ?_
  refine gfM_0_19 (x := σ.1 19) C tw_838 rfl dX8_bring_6 ?_
  refine wd_callV C 2 (c_X8_place _ K ad σ (σ.1 18) (σ.1 19)) 0 (wcM_0 K ad _) rfl rfl tw_803 tw_805 tw_30 tw_72 tw_806 (by decide +kernel) rfl (by decide) (Nat.le_of_ble_eq_true rfl) dX8_bring_9 _ rfl ?_
  refine wd_aload_n C dX8_bring_12 rfl 0 rfl ?_
  refine wd_aload_n C dX8_bring_13 rfl 0 rfl ?_
  refine gfM_0_21 (x := ((p_X8_place σ (σ.1 18) (σ.1 19))).2.1 21) C tw_840 rfl dX8_bring_14 ?_
  refine pfM_0_9 C tw_828 (((p_X8_place σ (σ.1 18) (σ.1 19))).2.1 21) dX8_bring_17 ?_
  refine wd_aload_n C dX8_bring_20 rfl 0 rfl ?_
  refine wd_aload_n C dX8_bring_21 rfl 0 rfl ?_
  refine gfM_0_20 (x := ((p_X8_place σ (σ.1 18) (σ.1 19))).1 20) C tw_839 rfl dX8_bring_22 ?_
  refine wd_callV C 1 (c_X8_setPen _ K ad (sb ((p_X8_place σ (σ.1 18) (σ.1 19))) 9 (((p_X8_place σ (σ.1 18) (σ.1 19))).2.1 21)) (((p_X8_place σ (σ.1 18) (σ.1 19))).1 20)) 0 (wcM_0 K ad _) rfl rfl tw_807 tw_809 tw_31 tw_72 tw_810 (by decide +kernel) rfl (by decide) (Nat.le_of_ble_eq_true rfl) dX8_bring_25 _ rfl ?_
  refine wd_aload_n C dX8_bring_28 rfl 0 rfl ?_
  refine wd_aload_n C dX8_bring_29 rfl 0 rfl ?_
  refine gfM_0_22 (x := ((p_X8_setPen (sb ((p_X8_place σ (σ.1 18) (σ.1 19))) 9 (((p_X8_place σ (σ.1 18) (σ.1 19))).2.1 21)) (((p_X8_place σ (σ.1 18) (σ.1 19))).1 20))).2.1 22) C tw_841 rfl dX8_bring_30 ?_
  refine pfM_0_11 C tw_830 (((p_X8_setPen (sb ((p_X8_place σ (σ.1 18) (σ.1 19))) 9 (((p_X8_place σ (σ.1 18) (σ.1 19))).2.1 21)) (((p_X8_place σ (σ.1 18) (σ.1 19))).1 20))).2.1 22) dX8_bring_33 ?_
  have e9 : p_X8_bring σ = sb ((p_X8_setPen (sb ((p_X8_place σ (σ.1 18) (σ.1 19))) 9 (((p_X8_place σ (σ.1 18) (σ.1 19))).2.1 21)) (((p_X8_place σ (σ.1 18) (σ.1 19))).1 20))) 11 (((p_X8_setPen (sb ((p_X8_place σ (σ.1 18) (σ.1 19))) 9 (((p_X8_place σ (σ.1 18) (σ.1 19))).2.1 21)) (((p_X8_place σ (σ.1 18) (σ.1 19))).1 20))).2.1 22) := by rfl
  exact hret _ _ _ (by rw [e9] <;> rfl) dX8_bring_36
def p_X8_atMost_t1 (σ : St) (p0 : Int32) (p1 : Int32) : Int32 := (if p1 ≤ p0 then p1 else p0)
def p_X8_atMost (σ : St) (p0 : Int32) (p1 : Int32) : Int32 := (p_X8_atMost_t1 σ p0 p1)
set_option maxHeartbeats 4000000 in
set_option maxRecDepth 100000 in
theorem c_X8_atMost (l : Launch) (K : KX) (ad : Nat → Nat) (σ : St) (p0 : Int32) (p1 : Int32) : Mt l K yX8_atMost cX8_atMost 2 (some .int) { frames := 0, cells := 0, slots := 0, locals := 0 } [.int p0, .int p1] (WdM K ad σ) (some (.int (p_X8_atMost σ p0 p1))) (WdM K ad σ) := by
  refine Mt.i (by decide +kernel) (Nat.le_of_ble_eq_true rfl) (fun X C hret => ?_)
  show WD X K 2 0 0 (WdM K ad σ) [(0, .int p0), (1, .int p1)] 0 []
  refine wd_iload_n C dX8_atMost_0 rfl 0 rfl ?_
  refine wd_iload_n C dX8_atMost_1 rfl 1 rfl ?_
  have J_2 : WD X K 2 0 0 (WdM K ad σ) [(0, .int p0), (1, .int p1)] 10 [.int (p_X8_atMost_t1 σ p0 p1)] := by
    have e9 : p_X8_atMost σ p0 p1 = (p_X8_atMost_t1 σ p0 p1) := by rfl
    exact hret _ _ _ _ (by rw [e9]) rfl dX8_atMost_10
  refine wd_icmp_ge C 9 dX8_atMost_2 (by decide) (fun c_2 => ?_) (fun c_2 => ?_)
  · refine wd_iload_n C dX8_atMost_9 rfl 1 rfl ?_
    have ej_0 : p_X8_atMost_t1 σ p0 p1 = p1 := by unfold p_X8_atMost_t1; rw [if_pos c_2]
    rw [ej_0] at J_2
    exact wd_lv [0, 1] _ rfl J_2
  · refine wd_iload_n C dX8_atMost_5 rfl 0 rfl ?_
    refine wd_goto C 10 dX8_atMost_6 (by decide) ?_
    have ej_0 : p_X8_atMost_t1 σ p0 p1 = p0 := by unfold p_X8_atMost_t1; rw [if_neg c_2]
    rw [ej_0] at J_2
    exact wd_lv [0, 1] _ rfl J_2
def p_X8_atLeast_t1 (σ : St) (p0 : Int32) (p1 : Int32) : Int32 := (if p0 ≤ p1 then p1 else p0)
def p_X8_atLeast (σ : St) (p0 : Int32) (p1 : Int32) : Int32 := (p_X8_atLeast_t1 σ p0 p1)
set_option maxHeartbeats 4000000 in
set_option maxRecDepth 100000 in
theorem c_X8_atLeast (l : Launch) (K : KX) (ad : Nat → Nat) (σ : St) (p0 : Int32) (p1 : Int32) : Mt l K yX8_atLeast cX8_atLeast 2 (some .int) { frames := 0, cells := 0, slots := 0, locals := 0 } [.int p0, .int p1] (WdM K ad σ) (some (.int (p_X8_atLeast σ p0 p1))) (WdM K ad σ) := by
  refine Mt.i (by decide +kernel) (Nat.le_of_ble_eq_true rfl) (fun X C hret => ?_)
  show WD X K 2 0 0 (WdM K ad σ) [(0, .int p0), (1, .int p1)] 0 []
  refine wd_iload_n C dX8_atLeast_0 rfl 0 rfl ?_
  refine wd_iload_n C dX8_atLeast_1 rfl 1 rfl ?_
  have J_2 : WD X K 2 0 0 (WdM K ad σ) [(0, .int p0), (1, .int p1)] 10 [.int (p_X8_atLeast_t1 σ p0 p1)] := by
    have e9 : p_X8_atLeast σ p0 p1 = (p_X8_atLeast_t1 σ p0 p1) := by rfl
    exact hret _ _ _ _ (by rw [e9]) rfl dX8_atLeast_10
  refine wd_icmp_le C 9 dX8_atLeast_2 (by decide) (fun c_2 => ?_) (fun c_2 => ?_)
  · refine wd_iload_n C dX8_atLeast_9 rfl 1 rfl ?_
    have ej_0 : p_X8_atLeast_t1 σ p0 p1 = p1 := by unfold p_X8_atLeast_t1; rw [if_pos c_2]
    rw [ej_0] at J_2
    exact wd_lv [0, 1] _ rfl J_2
  · refine wd_iload_n C dX8_atLeast_5 rfl 0 rfl ?_
    refine wd_goto C 10 dX8_atLeast_6 (by decide) ?_
    have ej_0 : p_X8_atLeast_t1 σ p0 p1 = p0 := by unfold p_X8_atLeast_t1; rw [if_neg c_2]
    rw [ej_0] at J_2
    exact wd_lv [0, 1] _ rfl J_2
def p_X8_kept_t1 (σ : St) : Int32 := (if 6 ≤ σ.1 37 then 6 else σ.1 37)
def p_X8_kept (σ : St) : Int32 := (p_X8_kept_t1 σ)
set_option maxHeartbeats 4000000 in
set_option maxRecDepth 100000 in
theorem c_X8_kept (l : Launch) (K : KX) (ad : Nat → Nat) (σ : St) : Mt l K yX8_kept cX8_kept 1 (some .int) { frames := 0, cells := 0, slots := 0, locals := 0 } [.ref (ad 0)] (WdM K ad σ) (some (.int (p_X8_kept σ))) (WdM K ad σ) := by
  refine Mt.i (by decide +kernel) (Nat.le_of_ble_eq_true rfl) (fun X C hret => ?_)
  show WD X K 1 0 0 (WdM K ad σ) [(0, .ref (ad 0))] 0 []
  refine wd_aload_n C dX8_kept_0 rfl 0 rfl ?_
  refine gfM_0_37 (x := σ.1 37) C tw_856 rfl dX8_kept_1 ?_
  refine wd_bipush (v := 6) C dX8_kept_4 (by decide) ?_
  have J_6 : WD X K 1 0 0 (WdM K ad σ) [(0, .ref (ad 0))] 18 [.int (p_X8_kept_t1 σ)] := by
    have e9 : p_X8_kept σ = (p_X8_kept_t1 σ) := by rfl
    exact hret _ _ _ _ (by rw [e9]) rfl dX8_kept_18
  refine wd_icmp_ge C 16 dX8_kept_6 (by decide) (fun c_6 => ?_) (fun c_6 => ?_)
  · refine wd_bipush (v := 6) C dX8_kept_16 (by decide) ?_
    have ej_0 : p_X8_kept_t1 σ = 6 := by unfold p_X8_kept_t1; rw [if_pos c_6]
    rw [ej_0] at J_6
    exact wd_lv [0] _ rfl J_6
  · refine wd_aload_n C dX8_kept_9 rfl 0 rfl ?_
    refine gfM_0_37 (x := σ.1 37) C tw_856 rfl dX8_kept_10 ?_
    refine wd_goto C 18 dX8_kept_13 (by decide) ?_
    have ej_0 : p_X8_kept_t1 σ = σ.1 37 := by unfold p_X8_kept_t1; rw [if_neg c_6]
    rw [ej_0] at J_6
    exact wd_lv [0] _ rfl J_6
def p_X8_isCell_t1 (σ : St) (p1 : Int32) (p2 : Int32) : Bool := (if p1 < 0 then false else (if 8 ≤ p1 then false else (if p2 < 0 then false else (if 12 ≤ p2 then false else true))))
def p_X8_isCell (σ : St) (p1 : Int32) (p2 : Int32) : Bool := (p_X8_isCell_t1 σ p1 p2)
set_option maxHeartbeats 4000000 in
set_option maxRecDepth 100000 in
theorem c_X8_isCell (l : Launch) (K : KX) (ad : Nat → Nat) (σ : St) (p1 : Int32) (p2 : Int32) : Mt l K yX8_isCell cX8_isCell 3 (some .boolean) { frames := 0, cells := 0, slots := 0, locals := 0 } [.ref (ad 0), .int p1, .int p2] (WdM K ad σ) (some (.int (b2i (p_X8_isCell σ p1 p2)))) (WdM K ad σ) := by
  refine Mt.z (by decide +kernel) (Nat.le_of_ble_eq_true rfl) (fun X C hret => ?_)
  show WD X K 3 0 0 (WdM K ad σ) [(0, .ref (ad 0)), (1, .int p1), (2, .int p2)] 0 []
  refine wd_iload_n C dX8_isCell_0 rfl 1 rfl ?_
  have J_1 : WD X K 3 0 0 (WdM K ad σ) [(0, .ref (ad 0)), (1, .int p1), (2, .int p2)] 25 [.int (b2i (p_X8_isCell_t1 σ p1 p2))] := by
    have e9 : p_X8_isCell σ p1 p2 = (p_X8_isCell_t1 σ p1 p2) := by rfl
    exact hret (p_X8_isCell_t1 σ p1 p2) _ _ _ (by rw [e9]) rfl dX8_isCell_25
  refine wd_if_lt C 24 dX8_isCell_1 (by decide) (fun c_1 => ?_) (fun c_1 => ?_)
  · refine wd_iconst (v := 0) C dX8_isCell_24 (by decide) ?_
    have ej_0 : p_X8_isCell_t1 σ p1 p2 = false := by unfold p_X8_isCell_t1; rw [if_pos c_1]
    rw [ej_0] at J_1
    exact wd_lv [0, 1, 2] _ rfl J_1
  · refine wd_iload_n C dX8_isCell_4 rfl 1 rfl ?_
    refine wd_bipush (v := 8) C dX8_isCell_5 (by decide) ?_
    refine wd_icmp_ge C 24 dX8_isCell_7 (by decide) (fun c_7 => ?_) (fun c_7 => ?_)
    · refine wd_iconst (v := 0) C dX8_isCell_24 (by decide) ?_
      have ej_0 : p_X8_isCell_t1 σ p1 p2 = false := by unfold p_X8_isCell_t1; rw [if_neg c_1, if_pos c_7]
      rw [ej_0] at J_1
      exact wd_lv [0, 1, 2] _ rfl J_1
    · refine wd_iload_n C dX8_isCell_10 rfl 2 rfl ?_
      refine wd_if_lt C 24 dX8_isCell_11 (by decide) (fun c_11 => ?_) (fun c_11 => ?_)
      · refine wd_iconst (v := 0) C dX8_isCell_24 (by decide) ?_
        have ej_0 : p_X8_isCell_t1 σ p1 p2 = false := by unfold p_X8_isCell_t1; rw [if_neg c_1, if_neg c_7, if_pos c_11]
        rw [ej_0] at J_1
        exact wd_lv [0, 1, 2] _ rfl J_1
      · refine wd_iload_n C dX8_isCell_14 rfl 2 rfl ?_
        refine wd_bipush (v := 12) C dX8_isCell_15 (by decide) ?_
        refine wd_icmp_ge C 24 dX8_isCell_17 (by decide) (fun c_17 => ?_) (fun c_17 => ?_)
        · refine wd_iconst (v := 0) C dX8_isCell_24 (by decide) ?_
          have ej_0 : p_X8_isCell_t1 σ p1 p2 = false := by unfold p_X8_isCell_t1; rw [if_neg c_1, if_neg c_7, if_neg c_11, if_pos c_17]
          rw [ej_0] at J_1
          exact wd_lv [0, 1, 2] _ rfl J_1
        · refine wd_iconst (v := 1) C dX8_isCell_20 (by decide) ?_
          refine wd_goto C 25 dX8_isCell_21 (by decide) ?_
          have ej_0 : p_X8_isCell_t1 σ p1 p2 = true := by unfold p_X8_isCell_t1; rw [if_neg c_1, if_neg c_7, if_neg c_11, if_neg c_17]
          rw [ej_0] at J_1
          exact wd_lv [0, 1, 2] _ rfl J_1
def p_X8_remember_l1 (σ : St) : Nat → St → Int32 → St × Int32
  | 0, s, x1 => (s, x1)
  | n + 1, s, x1 => (if 96 ≤ x1 then (s, x1) else p_X8_remember_l1 σ n (sa (sa s 2 (upd (s.2.2 2) (x1 : Int32).toNatClampNeg (s.2.2 0 ((96 * (s.1 4)) + x1 : Int32).toNatClampNeg))) 3 (upd (s.2.2 3) (x1 : Int32).toNatClampNeg (s.2.2 1 ((96 * (s.1 4)) + x1 : Int32).toNatClampNeg))) (x1 + 1))
def p_X8_remember (σ : St) : St := (p_X8_remember_l1 σ 96 σ 0).1
set_option maxHeartbeats 4000000 in
set_option maxRecDepth 100000 in
theorem c_X8_remember (l : Launch) (K : KX) (ad : Nat → Nat) (σ : St) (hg : R2 0 1 (σ.1 4)) : Mt l K yX8_remember cX8_remember 2 none { frames := 0, cells := 0, slots := 0, locals := 0 } [.ref (ad 0)] (WdM K ad σ) none (WdM K ad (p_X8_remember σ)) := by
  refine Mt.v (by decide +kernel) (Nat.le_of_ble_eq_true rfl) (fun X C hret => ?_)
  show WD X K 2 0 0 (WdM K ad σ) [(0, .ref (ad 0))] 0 []
  refine wd_iconst (v := 0) C dX8_remember_0 (by decide) ?_
  refine wd_istore_n C [(1, .int 0), (0, .ref (ad 0))] dX8_remember_1 rfl (by decide) rfl ?_
  have J_2 : WD X K 2 0 0 (WdM K ad ((p_X8_remember_l1 σ 96 σ 0).1)) [(0, .ref (ad 0)), (1, .int ((p_X8_remember_l1 σ 96 σ 0).2))] 54 [] := by
    have e9 : p_X8_remember σ = (p_X8_remember_l1 σ 96 σ 0).1 := by rfl
    exact hret _ _ _ (by rw [e9] <;> rfl) dX8_remember_54
  have L_2 : ∀ (n : Nat) (s : St) (x1 : Int32), p_X8_remember_l1 σ n s x1 = p_X8_remember_l1 σ 96 σ 0 → 0 ≤ x1.toInt ∧ 96 - x1.toInt ≤ (n : Int) ∧ s.1 = σ.1 → WD X K 2 0 0 (WdM K ad s) [(0, .ref (ad 0)), (1, .int x1)] 2 [] := by
    intro n
    induction n with
    | zero =>
      intro s x1 hE hI
      refine wd_iload_n C dX8_remember_2 rfl 1 rfl ?_
      refine wd_bipush (v := 96) C dX8_remember_3 (by decide) ?_
      refine wd_icmp_ge C 54 dX8_remember_5 (by decide) (fun c_5 => ?_) (fun c_5 => ?_)
      · have eL := hE
        rw [p_X8_remember_l1] at eL
        rw [← eL] at J_2
        exact wd_lv [0, 1] _ rfl J_2
      · exact absurd (ti_le.mpr (by have h0 := hI.2.1; (try simp only [ti_lt, ti_le, ti_eq] at h0); have z96 : (96 : Int32).toInt = 96 := (by decide); omega)) c_5
    | succ n ih =>
      intro s x1 hE hI
      refine wd_iload_n C dX8_remember_2 rfl 1 rfl ?_
      refine wd_bipush (v := 96) C dX8_remember_3 (by decide) ?_
      refine wd_icmp_ge C 54 dX8_remember_5 (by decide) (fun c_5 => ?_) (fun c_5 => ?_)
      · have eL := hE
        rw [p_X8_remember_l1, if_pos c_5] at eL
        rw [← eL] at J_2
        exact wd_lv [0, 1] _ rfl J_2
      · refine wd_aload_n C dX8_remember_8 rfl 0 rfl ?_
        refine gfM_0_2 C tw_821 dX8_remember_9 ?_
        refine wd_iload_n C dX8_remember_12 rfl 1 rfl ?_
        refine wd_aload_n C dX8_remember_13 rfl 0 rfl ?_
        refine gfM_0_0 C tw_819 dX8_remember_14 ?_
        refine wd_bipush (v := 96) C dX8_remember_17 (by decide) ?_
        refine wd_aload_n C dX8_remember_19 rfl 0 rfl ?_
        refine gfM_0_4 (x := s.1 4) C tw_823 rfl dX8_remember_20 ?_
        refine wd_imul C dX8_remember_23 ?_
        refine wd_iload_n C dX8_remember_24 rfl 1 rfl ?_
        refine wd_iadd C dX8_remember_25 ?_
        refine alM_1 (x := s.2.2 0 ((96 * (s.1 4)) + x1 : Int32).toNatClampNeg) C (pgix (by rw [hI.2.2]; exact hg) hI.1 (by have h0 := c_5; (try simp only [ti_lt, ti_le, ti_eq] at h0); have z96 : (96 : Int32).toInt = 96 := (by decide); omega)) rfl dX8_remember_26 ?_
        refine asM_3 (f := s.2.2 2) C (vp_in_iff.mpr (by have h0 := c_5; (try simp only [ti_lt, ti_le, ti_eq] at h0); have h1 := hI.1; (try simp only [ti_lt, ti_le, ti_eq] at h1); have z96 : (96 : Int32).toInt = 96 := (by decide); omega)) rfl dX8_remember_27 ?_
        refine wd_aload_n C dX8_remember_28 rfl 0 rfl ?_
        refine gfM_0_3 C tw_822 dX8_remember_29 ?_
        refine wd_iload_n C dX8_remember_32 rfl 1 rfl ?_
        refine wd_aload_n C dX8_remember_33 rfl 0 rfl ?_
        refine gfM_0_1 C tw_820 dX8_remember_34 ?_
        refine wd_bipush (v := 96) C dX8_remember_37 (by decide) ?_
        refine wd_aload_n C dX8_remember_39 rfl 0 rfl ?_
        refine gfM_0_4 (x := s.1 4) C tw_823 rfl dX8_remember_40 ?_
        refine wd_imul C dX8_remember_43 ?_
        refine wd_iload_n C dX8_remember_44 rfl 1 rfl ?_
        refine wd_iadd C dX8_remember_45 ?_
        refine alM_2 (x := s.2.2 1 ((96 * (s.1 4)) + x1 : Int32).toNatClampNeg) C (pgix (by rw [hI.2.2]; exact hg) hI.1 (by have h0 := c_5; (try simp only [ti_lt, ti_le, ti_eq] at h0); have z96 : (96 : Int32).toInt = 96 := (by decide); omega)) rfl dX8_remember_46 ?_
        refine asM_4 (f := s.2.2 3) C (vp_in_iff.mpr (by have h0 := c_5; (try simp only [ti_lt, ti_le, ti_eq] at h0); have h1 := hI.1; (try simp only [ti_lt, ti_le, ti_eq] at h1); have z96 : (96 : Int32).toInt = 96 := (by decide); omega)) rfl dX8_remember_47 ?_
        refine wd_iinc (v := x1 + 1) C [(1, .int (x1 + 1)), (0, .ref (ad 0))] dX8_remember_48 1 rfl (by rfl) (by decide) rfl ?_
        refine wd_goto C 2 dX8_remember_51 (by decide) ?_
        have eL := hE
        rw [p_X8_remember_l1, if_neg c_5] at eL
        exact wd_lv [1, 0] _ rfl (ih (sa (sa s 2 (upd (s.2.2 2) (x1 : Int32).toNatClampNeg (s.2.2 0 ((96 * (s.1 4)) + x1 : Int32).toNatClampNeg))) 3 (upd (s.2.2 3) (x1 : Int32).toNatClampNeg (s.2.2 1 ((96 * (s.1 4)) + x1 : Int32).toNatClampNeg))) (x1 + 1) eL (by have h0 := c_5; (try simp only [ti_lt, ti_le, ti_eq] at h0); have h1 := hI.1; (try simp only [ti_lt, ti_le, ti_eq] at h1); have h2 := hI.2.1; (try simp only [ti_lt, ti_le, ti_eq] at h2); have z96 : (96 : Int32).toInt = 96 := (by decide); have z1 : (1 : Int32).toInt = 1 := (by decide); have e1 := ti_add (a := x1) (b := 1) (by omega) (by omega); exact ⟨by omega, by omega, hI.2.2⟩))
  exact wd_lv [1, 0] _ rfl (L_2 96 σ 0 rfl (⟨by decide, by decide, rfl⟩))
def p_X8_recall_t1 (σ : St) (p1 : Int32) (p2 : Int32) : Int32 := (if 0 ≤ p2 then σ.2.2 2 (p2 : Int32).toNatClampNeg else 32)
def p_X8_recall_t2 (σ : St) (p1 : Int32) (p2 : Int32) : Int32 := (if 0 ≤ p2 then σ.2.2 3 (p2 : Int32).toNatClampNeg else 0)
def p_X8_recall (σ : St) (p1 : Int32) (p2 : Int32) : St := sa (sa σ 0 (upd (σ.2.2 0) ((96 * (σ.1 4)) + p1 : Int32).toNatClampNeg (p_X8_recall_t1 σ p1 p2))) 1 (upd (σ.2.2 1) ((96 * (σ.1 4)) + p1 : Int32).toNatClampNeg (p_X8_recall_t2 σ p1 p2))
set_option maxHeartbeats 4000000 in
set_option maxRecDepth 100000 in
theorem c_X8_recall (l : Launch) (K : KX) (ad : Nat → Nat) (σ : St) (p1 : Int32) (p2 : Int32) (hg : R2 0 1 (σ.1 4)) (hk : 0 ≤ p1.toInt ∧ p1.toInt < 96) (hf : p2.toInt < 96) : Mt l K yX8_recall cX8_recall 4 none { frames := 0, cells := 0, slots := 0, locals := 0 } [.ref (ad 0), .int p1, .int p2] (WdM K ad σ) none (WdM K ad (p_X8_recall σ p1 p2)) := by
  refine Mt.v (by decide +kernel) (Nat.le_of_ble_eq_true rfl) (fun X C hret => ?_)
  show WD X K 4 0 0 (WdM K ad σ) [(0, .ref (ad 0)), (1, .int p1), (2, .int p2)] 0 []
  refine wd_bipush (v := 96) C dX8_recall_0 (by decide) ?_
  refine wd_aload_n C dX8_recall_2 rfl 0 rfl ?_
  refine gfM_0_4 (x := σ.1 4) C tw_823 rfl dX8_recall_3 ?_
  refine wd_imul C dX8_recall_6 ?_
  refine wd_iload_n C dX8_recall_7 rfl 1 rfl ?_
  refine wd_iadd C dX8_recall_8 ?_
  refine wd_istore_n C [(3, .int ((96 * (σ.1 4)) + p1)), (0, .ref (ad 0)), (1, .int p1), (2, .int p2)] dX8_recall_9 rfl (by decide) rfl ?_
  refine wd_aload_n C dX8_recall_10 rfl 1 rfl ?_
  refine gfM_0_0 C tw_819 dX8_recall_11 ?_
  refine wd_iload_n C dX8_recall_14 rfl 0 rfl ?_
  refine wd_iload_n C dX8_recall_15 rfl 3 rfl ?_
  have J_16 : WD X K 4 0 0 (WdM K ad σ) [(0, .ref (ad 0)), (1, .int p1), (2, .int p2), (3, .int ((96 * (σ.1 4)) + p1))] 30 [.int (p_X8_recall_t1 σ p1 p2), .int ((96 * (σ.1 4)) + p1), .ref (ad 1)] := by
    refine asM_1 (f := σ.2.2 0) C (pgix hg hk.1 hk.2) rfl dX8_recall_30 ?_
    refine wd_aload_n C dX8_recall_31 rfl 0 rfl ?_
    refine gfM_0_1 C tw_820 dX8_recall_32 ?_
    refine wd_iload_n C dX8_recall_35 rfl 3 rfl ?_
    refine wd_iload_n C dX8_recall_36 rfl 2 rfl ?_
    have J_37 : WD X K 4 0 0 (WdM K ad (sa σ 0 (upd (σ.2.2 0) ((96 * (σ.1 4)) + p1 : Int32).toNatClampNeg (p_X8_recall_t1 σ p1 p2)))) [(0, .ref (ad 0)), (1, .int p1), (2, .int p2), (3, .int ((96 * (σ.1 4)) + p1))] 50 [.int (p_X8_recall_t2 σ p1 p2), .int ((96 * (σ.1 4)) + p1), .ref (ad 2)] := by
      refine asM_2 (f := σ.2.2 1) C (pgix hg hk.1 hk.2) rfl dX8_recall_50 ?_
      have e9 : p_X8_recall σ p1 p2 = sa (sa σ 0 (upd (σ.2.2 0) ((96 * (σ.1 4)) + p1 : Int32).toNatClampNeg (p_X8_recall_t1 σ p1 p2))) 1 (upd (σ.2.2 1) ((96 * (σ.1 4)) + p1 : Int32).toNatClampNeg (p_X8_recall_t2 σ p1 p2)) := by rfl
      exact hret _ _ _ (by rw [e9] <;> rfl) dX8_recall_51
    refine wd_if_ge C 44 dX8_recall_37 (by decide) (fun c_37 => ?_) (fun c_37 => ?_)
    · refine wd_aload_n C dX8_recall_44 rfl 0 rfl ?_
      refine gfM_0_3 C tw_822 dX8_recall_45 ?_
      refine wd_iload_n C dX8_recall_48 rfl 2 rfl ?_
      refine alM_4 (x := σ.2.2 3 (p2 : Int32).toNatClampNeg) C (vp_in_iff.mpr (by have h0 := c_37; (try simp only [ti_lt, ti_le, ti_eq] at h0); have h1 := hf; (try simp only [ti_lt, ti_le, ti_eq] at h1); have z0 : (0 : Int32).toInt = 0 := (by decide); omega)) rfl dX8_recall_49 ?_
      have ej_0 : p_X8_recall_t2 σ p1 p2 = σ.2.2 3 (p2 : Int32).toNatClampNeg := by unfold p_X8_recall_t2; rw [if_pos c_37]
      rw [ej_0] at J_37
      exact wd_lv [0, 1, 2, 3] _ rfl J_37
    · refine wd_iconst (v := 0) C dX8_recall_40 (by decide) ?_
      refine wd_goto C 50 dX8_recall_41 (by decide) ?_
      have ej_0 : p_X8_recall_t2 σ p1 p2 = 0 := by unfold p_X8_recall_t2; rw [if_neg c_37]
      rw [ej_0] at J_37
      exact wd_lv [0, 1, 2, 3] _ rfl J_37
  refine wd_if_ge C 24 dX8_recall_16 (by decide) (fun c_16 => ?_) (fun c_16 => ?_)
  · refine wd_aload_n C dX8_recall_24 rfl 1 rfl ?_
    refine gfM_0_2 C tw_821 dX8_recall_25 ?_
    refine wd_iload_n C dX8_recall_28 rfl 3 rfl ?_
    refine alM_3 (x := σ.2.2 2 (p2 : Int32).toNatClampNeg) C (vp_in_iff.mpr (by have h0 := c_16; (try simp only [ti_lt, ti_le, ti_eq] at h0); have h1 := hf; (try simp only [ti_lt, ti_le, ti_eq] at h1); have z0 : (0 : Int32).toInt = 0 := (by decide); omega)) rfl dX8_recall_29 ?_
    have ej_0 : p_X8_recall_t1 σ p1 p2 = σ.2.2 2 (p2 : Int32).toNatClampNeg := by unfold p_X8_recall_t1; rw [if_pos c_16]
    rw [ej_0] at J_16
    exact wd_lv [1, 2, 3, 0] _ rfl J_16
  · refine wd_bipush (v := 32) C dX8_recall_19 (by decide) ?_
    refine wd_goto C 30 dX8_recall_21 (by decide) ?_
    have ej_0 : p_X8_recall_t1 σ p1 p2 = 32 := by unfold p_X8_recall_t1; rw [if_neg c_16]
    rw [ej_0] at J_16
    exact wd_lv [1, 2, 3, 0] _ rfl J_16
