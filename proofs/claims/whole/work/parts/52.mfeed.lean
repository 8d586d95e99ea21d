theorem okm_take {σ : St} (p1 : Int32) (hM : OkM σ) : OkM (p_X8_take σ p1) := by
  have h1 := okm_tk1 p1 hM
  have hr : OkM (p_X8_take_r1 σ p1) := by
    unfold p_X8_take_r1 p_X8_take_s2
    generalize p_X8_take_s1 σ p1 = τ at h1 ⊢
    have hx : OkM (if τ.1 24 = 0 then (p_X8_letterByte τ p1) else (if 128 ≤ p1 then τ else (p_X8_sequenceByte τ p1))) := okm_ite (fun _ => okm_letterByte _ h1) fun _ => okm_ite (fun _ => h1) fun _ => okm_sequenceByte _ h1
    exact okm_ite (fun _ => okm_si _ _ (by decide) h1) fun _ => okm_ite (fun _ => okm_si _ _ (by decide) h1) fun _ => okm_ite (fun _ => okm_si _ _ (by decide) h1) fun _ => okm_ite (fun _ => h1) fun _ => okm_ite (fun _ => hx) fun _ => okm_ite (fun _ => hx) fun _ => okm_control _ h1
  unfold p_X8_take
  generalize p_X8_take_r1 σ p1 = ρ at hr ⊢
  exact okm_ite (fun _ => okm_ite (fun _ => hr) fun _ => okm_ite (fun _ => hr) fun _ => okm_ite (fun _ => hr) fun _ => okm_further _ hM) fun _ => hr
def p_X8_feed (σ : St) (p1 : Int32) : St × Bool := (if p1 < 0 then (si σ 39 0, false) else (if p1 ≤ 255 then ((p_X8_take (si σ 39 0) p1), true) else (si σ 39 0, false)))
set_option maxHeartbeats 4000000 in
set_option maxRecDepth 100000 in
theorem c_X8_feed (l : Launch) (K : KX) (ad : Nat → Nat) (σ : St) (p1 : Int32) (hM : OkM σ) : Mt l K yX8_feed cX8_feed 2 (some .boolean) { frames := 10, cells := 0, slots := 0, locals := 225 } [.ref (ad 0), .int p1] (WdM K ad σ) (some (.int (b2i (p_X8_feed σ p1).2))) (WdM K ad (p_X8_feed σ p1).1) := by
  refine Mt.z (by decide +kernel) (Nat.le_of_ble_eq_true rfl) (fun X C hret => ?_)
  show WD X K 2 0 0 (WdM K ad σ) [(0, .ref (ad 0)), (1, .int p1)] 0 []
  refine wd_aload_n C dX8_feed_0 rfl 0 rfl ?_
  refine wd_iconst (v := 0) C dX8_feed_1 (by decide) ?_
  refine pfM_0_39 C tw_858 0 dX8_feed_2 ?_
  refine wd_iload_n C dX8_feed_5 rfl 1 rfl ?_
  refine wd_if_lt C 16 dX8_feed_6 (by decide) (fun c_6 => ?_) (fun c_6 => ?_)
  · refine wd_iconst (v := 0) C dX8_feed_16 (by decide) ?_
    have e9 : p_X8_feed σ p1 = (si σ 39 0, false) := by unfold p_X8_feed; rw [if_pos c_6]
    exact hret false _ _ _ (by rw [e9]) (by rw [e9]) dX8_feed_17
  · refine wd_iload_n C dX8_feed_9 rfl 1 rfl ?_
    refine wd_sipush (v := 255) C dX8_feed_10 (by decide) ?_
    refine wd_icmp_le C 18 dX8_feed_13 (by decide) (fun c_13 => ?_) (fun c_13 => ?_)
    · refine wd_aload_n C dX8_feed_18 rfl 0 rfl ?_
      refine wd_iload_n C dX8_feed_19 rfl 1 rfl ?_
      refine wd_callV C 1 (c_X8_take _ K ad (si σ 39 0) p1 (okm_si _ _ (by decide) hM)) 0 (wcM_0 K ad _) rfl rfl tw_949 tw_951 tw_34 tw_72 tw_952 (by decide +kernel) rfl (by decide) (Nat.le_of_ble_eq_true rfl) dX8_feed_20 _ rfl ?_
      refine wd_iconst (v := 1) C dX8_feed_23 (by decide) ?_
      have e9 : p_X8_feed σ p1 = ((p_X8_take (si σ 39 0) p1), true) := by unfold p_X8_feed; rw [if_neg c_6, if_pos c_13]
      exact hret true _ _ _ (by rw [e9]) (by rw [e9]) dX8_feed_24
    · refine wd_iconst (v := 0) C dX8_feed_16 (by decide) ?_
      have e9 : p_X8_feed σ p1 = (si σ 39 0, false) := by unfold p_X8_feed; rw [if_neg c_6, if_neg c_13]
      exact hret false _ _ _ (by rw [e9]) (by rw [e9]) dX8_feed_17
def p_X8_feedAll_t1 (σ : St) (p1 : Int64) (s : St) (x3 : Int32) (x4 : Int32) (x5 : Int32) : Bool := (if x4 = 0 then false else (if ((p1 >>> ((8 * x5 : Int32).toInt64 &&& 63)).toInt32) &&& 255 = 0 then false else true))
def p_X8_feedAll_s2 (σ : St) (p1 : Int64) (s : St) (x3 : Int32) (x4 : Int32) (x5 : Int32) : St := (if (p_X8_feedAll_t1 σ p1 s x3 x4 x5) = true then (p_X8_take s (((p1 >>> ((8 * x5 : Int32).toInt64 &&& 63)).toInt32) &&& 255)) else s)
def p_X8_feedAll_x3 (σ : St) (p1 : Int64) (s : St) (x3 : Int32) (x4 : Int32) (x5 : Int32) : Int32 := (if (p_X8_feedAll_t1 σ p1 s x3 x4 x5) = true then x3 + 1 else x3)
def p_X8_feedAll_l4 (σ : St) (p1 : Int64) : Nat → St → Int32 → Int32 → Int32 → St × Int32 × Int32 × Int32
  | 0, s, x3, x4, x5 => (s, x3, x4, x5)
  | n + 1, s, x3, x4, x5 => (if 8 ≤ x5 then (s, x3, x4, x5) else p_X8_feedAll_l4 σ p1 n (p_X8_feedAll_s2 σ p1 s x3 x4 x5) (p_X8_feedAll_x3 σ p1 s x3 x4 x5) (b2i (p_X8_feedAll_t1 σ p1 s x3 x4 x5)) (x5 + 1))
def p_X8_feedAll (σ : St) (p1 : Int64) : St × Int32 := ((p_X8_feedAll_l4 σ p1 8 (si σ 39 0) 0 1 0).1, (p_X8_feedAll_l4 σ p1 8 (si σ 39 0) 0 1 0).2.1)
theorem okm_fa2 (σ : St) (p1 : Int64) {s : St} (x3 x4 x5 : Int32) (h : OkM s) : OkM (p_X8_feedAll_s2 σ p1 s x3 x4 x5) := by
  unfold p_X8_feedAll_s2
  exact okm_ite (fun _ => okm_take _ h) fun _ => h
set_option maxHeartbeats 4000000 in
set_option maxRecDepth 100000 in
theorem c_X8_feedAll (l : Launch) (K : KX) (ad : Nat → Nat) (σ : St) (p1 : Int64) (hM : OkM σ) : Mt l K yX8_feedAll cX8_feedAll 7 (some .int) { frames := 10, cells := 0, slots := 0, locals := 225 } [.ref (ad 0), .long p1] (WdM K ad σ) (some (.int (p_X8_feedAll σ p1).2)) (WdM K ad (p_X8_feedAll σ p1).1) := by
  refine Mt.i (by decide +kernel) (Nat.le_of_ble_eq_true rfl) (fun X C hret => ?_)
  show WD X K 7 0 0 (WdM K ad σ) [(0, .ref (ad 0)), (1, .long p1)] 0 []
  refine wd_aload_n C dX8_feedAll_0 rfl 0 rfl ?_
  refine wd_iconst (v := 0) C dX8_feedAll_1 (by decide) ?_
  refine pfM_0_39 C tw_858 0 dX8_feedAll_2 ?_
  refine wd_iconst (v := 0) C dX8_feedAll_5 (by decide) ?_
  refine wd_istore_n C [(3, .int 0), (0, .ref (ad 0)), (1, .long p1)] dX8_feedAll_6 rfl (by decide) rfl ?_
  refine wd_iconst (v := 1) C dX8_feedAll_7 (by decide) ?_
  refine wd_istore C [(4, .int 1), (3, .int 0), (0, .ref (ad 0)), (1, .long p1)] dX8_feedAll_8 (by decide) rfl ?_
  refine wd_iconst (v := 0) C dX8_feedAll_10 (by decide) ?_
  refine wd_istore C [(5, .int 0), (4, .int 1), (3, .int 0), (0, .ref (ad 0)), (1, .long p1)] dX8_feedAll_11 (by decide) rfl ?_
  have J_13 : WD X K 7 0 0 (WdM K ad ((p_X8_feedAll_l4 σ p1 8 (si σ 39 0) 0 1 0).1)) [(0, .ref (ad 0)), (1, .long p1), (3, .int ((p_X8_feedAll_l4 σ p1 8 (si σ 39 0) 0 1 0).2.1)), (4, .int ((p_X8_feedAll_l4 σ p1 8 (si σ 39 0) 0 1 0).2.2.1)), (5, .int ((p_X8_feedAll_l4 σ p1 8 (si σ 39 0) 0 1 0).2.2.2))] 72 [] := by
    refine wd_iload_n C dX8_feedAll_72 rfl 2 rfl ?_
    have e9 : p_X8_feedAll σ p1 = ((p_X8_feedAll_l4 σ p1 8 (si σ 39 0) 0 1 0).1, (p_X8_feedAll_l4 σ p1 8 (si σ 39 0) 0 1 0).2.1) := by rfl
    exact hret _ _ _ _ (by rw [e9]) (by rw [e9]) dX8_feedAll_73
  have L_13 : ∀ (n : Nat) (s : St) (x3 : Int32) (x4 : Int32) (x5 : Int32), p_X8_feedAll_l4 σ p1 n s x3 x4 x5 = p_X8_feedAll_l4 σ p1 8 (si σ 39 0) 0 1 0 → 0 ≤ x5.toInt ∧ 8 - x5.toInt ≤ (n : Int) ∧ OkM s → WD X K 7 0 0 (WdM K ad s) [(0, .ref (ad 0)), (1, .long p1), (3, .int x3), (4, .int x4), (5, .int x5)] 13 [] := by
    intro n
    induction n with
    | zero =>
      intro s x3 x4 x5 hE hI
      refine wd_iload C dX8_feedAll_13 4 rfl ?_
      refine wd_bipush (v := 8) C dX8_feedAll_15 (by decide) ?_
      refine wd_icmp_ge C 72 dX8_feedAll_17 (by decide) (fun c_17 => ?_) (fun c_17 => ?_)
      · have eL := hE
        rw [p_X8_feedAll_l4] at eL
        rw [← eL] at J_13
        exact wd_lv [0, 1, 2, 3, 4] _ rfl J_13
      · exact absurd (ti_le.mpr (by have h0 := hI.2.1; (try simp only [ti_lt, ti_le, ti_eq] at h0); have z8 : (8 : Int32).toInt = 8 := (by decide); omega)) c_17
    | succ n ih =>
      intro s x3 x4 x5 hE hI
      refine wd_iload C dX8_feedAll_13 4 rfl ?_
      refine wd_bipush (v := 8) C dX8_feedAll_15 (by decide) ?_
      refine wd_icmp_ge C 72 dX8_feedAll_17 (by decide) (fun c_17 => ?_) (fun c_17 => ?_)
      · have eL := hE
        rw [p_X8_feedAll_l4, if_pos c_17] at eL
        rw [← eL] at J_13
        exact wd_lv [0, 1, 2, 3, 4] _ rfl J_13
      · refine wd_lload_n C dX8_feedAll_20 rfl 1 rfl ?_
        refine wd_bipush (v := 8) C dX8_feedAll_21 (by decide) ?_
        refine wd_iload C dX8_feedAll_23 4 rfl ?_
        refine wd_imul C dX8_feedAll_25 ?_
        refine wd_lshr C dX8_feedAll_26 ?_
        refine wd_l2i C dX8_feedAll_27 ?_
        refine wd_sipush (v := 255) C dX8_feedAll_28 (by decide) ?_
        refine wd_iand C dX8_feedAll_31 ?_
        refine wd_istore C [(6, .int (((p1 >>> ((8 * x5 : Int32).toInt64 &&& 63)).toInt32) &&& 255)), (0, .ref (ad 0)), (1, .long p1), (3, .int x3), (4, .int x4), (5, .int x5)] dX8_feedAll_32 (by decide) rfl ?_
        refine wd_iload C dX8_feedAll_34 4 rfl ?_
        have J_36 : WD X K 7 0 0 (WdM K ad s) [(0, .ref (ad 0)), (1, .long p1), (3, .int x3), (4, .int x4), (5, .int x5), (6, .int (((p1 >>> ((8 * x5 : Int32).toInt64 &&& 63)).toInt32) &&& 255))] 49 [.int (b2i (p_X8_feedAll_t1 σ p1 s x3 x4 x5))] := by
          refine wd_istore C [(4, .int (b2i (p_X8_feedAll_t1 σ p1 s x3 x4 x5))), (0, .ref (ad 0)), (1, .long p1), (3, .int x3), (5, .int x5), (6, .int (((p1 >>> ((8 * x5 : Int32).toInt64 &&& 63)).toInt32) &&& 255))] dX8_feedAll_49 (by decide) rfl ?_
          refine wd_iload C dX8_feedAll_51 0 rfl ?_
          have J_53 : WD X K 7 0 0 (WdM K ad (p_X8_feedAll_s2 σ p1 s x3 x4 x5)) [(0, .ref (ad 0)), (1, .long p1), (3, .int (p_X8_feedAll_x3 σ p1 s x3 x4 x5)), (4, .int (b2i (p_X8_feedAll_t1 σ p1 s x3 x4 x5))), (5, .int x5), (6, .int (((p1 >>> ((8 * x5 : Int32).toInt64 &&& 63)).toInt32) &&& 255))] 66 [] := by
            refine wd_iinc (v := x5 + 1) C [(5, .int (x5 + 1)), (0, .ref (ad 0)), (1, .long p1), (3, .int (p_X8_feedAll_x3 σ p1 s x3 x4 x5)), (4, .int (b2i (p_X8_feedAll_t1 σ p1 s x3 x4 x5))), (6, .int (((p1 >>> ((8 * x5 : Int32).toInt64 &&& 63)).toInt32) &&& 255))] dX8_feedAll_66 4 rfl (by rfl) (by decide) rfl ?_
            refine wd_goto C 13 dX8_feedAll_69 (by decide) ?_
            have eL := hE
            rw [p_X8_feedAll_l4, if_neg c_17] at eL
            exact wd_lv [1, 2, 3, 4, 0] _ rfl (ih (p_X8_feedAll_s2 σ p1 s x3 x4 x5) (p_X8_feedAll_x3 σ p1 s x3 x4 x5) (b2i (p_X8_feedAll_t1 σ p1 s x3 x4 x5)) (x5 + 1) eL (by have h0 := c_17; (try simp only [ti_lt, ti_le, ti_eq] at h0); have h1 := hI.1; (try simp only [ti_lt, ti_le, ti_eq] at h1); have h2 := hI.2.1; (try simp only [ti_lt, ti_le, ti_eq] at h2); have z8 : (8 : Int32).toInt = 8 := (by decide); have z1 : (1 : Int32).toInt = 1 := (by decide); have e1 := ti_add (a := x5) (b := 1) (by omega) (by omega); exact ⟨by omega, by omega, okm_fa2 σ p1 x3 x4 x5 hI.2.2⟩))
          refine wd_if_eqB (b := (p_X8_feedAll_t1 σ p1 s x3 x4 x5)) C 66 dX8_feedAll_53 (by decide) (fun c_53 => ?_) (fun c_53 => ?_)
          · have ej_0 : p_X8_feedAll_s2 σ p1 s x3 x4 x5 = s := by unfold p_X8_feedAll_s2; rw [if_neg c_53]
            have ej_1 : p_X8_feedAll_x3 σ p1 s x3 x4 x5 = x3 := by unfold p_X8_feedAll_x3; rw [if_neg c_53]
            rw [ej_0, ej_1] at J_53
            exact wd_lv [1, 2, 3, 0, 4, 5] _ rfl J_53
          · refine wd_aload_n C dX8_feedAll_56 rfl 1 rfl ?_
            refine wd_iload C dX8_feedAll_57 5 rfl ?_
            refine wd_callV C 1 (c_X8_take _ K ad s (((p1 >>> ((8 * x5 : Int32).toInt64 &&& 63)).toInt32) &&& 255) (hI.2.2)) 0 (wcM_0 K ad _) rfl rfl tw_949 tw_951 tw_34 tw_72 tw_952 (by decide +kernel) rfl (by decide) (Nat.le_of_ble_eq_true rfl) dX8_feedAll_59 _ rfl ?_
            refine wd_iload_n C dX8_feedAll_62 rfl 3 rfl ?_
            refine wd_iconst (v := 1) C dX8_feedAll_63 (by decide) ?_
            refine wd_iadd C dX8_feedAll_64 ?_
            refine wd_istore_n C [(3, .int (x3 + 1)), (4, .int (b2i (p_X8_feedAll_t1 σ p1 s x3 x4 x5))), (0, .ref (ad 0)), (1, .long p1), (5, .int x5), (6, .int (((p1 >>> ((8 * x5 : Int32).toInt64 &&& 63)).toInt32) &&& 255))] dX8_feedAll_65 rfl (by decide) rfl ?_
            have ej_0 : p_X8_feedAll_s2 σ p1 s x3 x4 x5 = (p_X8_take s (((p1 >>> ((8 * x5 : Int32).toInt64 &&& 63)).toInt32) &&& 255)) := by unfold p_X8_feedAll_s2; rw [if_pos c_53]
            have ej_1 : p_X8_feedAll_x3 σ p1 s x3 x4 x5 = x3 + 1 := by unfold p_X8_feedAll_x3; rw [if_pos c_53]
            rw [ej_0, ej_1] at J_53
            exact wd_lv [2, 3, 0, 1, 4, 5] _ rfl J_53
        refine wd_if_eq C 48 dX8_feedAll_36 (by decide) (fun c_36 => ?_) (fun c_36 => ?_)
        · refine wd_iconst (v := 0) C dX8_feedAll_48 (by decide) ?_
          have ej_0 : p_X8_feedAll_t1 σ p1 s x3 x4 x5 = false := by unfold p_X8_feedAll_t1; rw [if_pos c_36]
          rw [ej_0] at J_36
          exact wd_lv [1, 2, 3, 4, 5, 0] _ rfl J_36
        · refine wd_iload C dX8_feedAll_39 0 rfl ?_
          refine wd_if_eq C 48 dX8_feedAll_41 (by decide) (fun c_41 => ?_) (fun c_41 => ?_)
          · refine wd_iconst (v := 0) C dX8_feedAll_48 (by decide) ?_
            have ej_0 : p_X8_feedAll_t1 σ p1 s x3 x4 x5 = false := by unfold p_X8_feedAll_t1; rw [if_neg c_36, if_pos c_41]
            rw [ej_0] at J_36
            exact wd_lv [1, 2, 3, 4, 5, 0] _ rfl J_36
          · refine wd_iconst (v := 1) C dX8_feedAll_44 (by decide) ?_
            refine wd_goto C 49 dX8_feedAll_45 (by decide) ?_
            have ej_0 : p_X8_feedAll_t1 σ p1 s x3 x4 x5 = true := by unfold p_X8_feedAll_t1; rw [if_neg c_36, if_neg c_41]
            rw [ej_0] at J_36
            exact wd_lv [1, 2, 3, 4, 5, 0] _ rfl J_36
  exact wd_lv [3, 4, 2, 1, 0] _ rfl (L_13 8 (si σ 39 0) 0 1 0 rfl (⟨by decide, by decide, okm_si _ _ (by decide) hM⟩))
def p_X8_row (σ : St) : St × Int32 := (si σ 39 0, σ.1 5)
set_option maxHeartbeats 4000000 in
set_option maxRecDepth 100000 in
theorem c_X8_row (l : Launch) (K : KX) (ad : Nat → Nat) (σ : St) : Mt l K yX8_row cX8_row 1 (some .int) { frames := 0, cells := 0, slots := 0, locals := 0 } [.ref (ad 0)] (WdM K ad σ) (some (.int (p_X8_row σ).2)) (WdM K ad (p_X8_row σ).1) := by
  refine Mt.i (by decide +kernel) (Nat.le_of_ble_eq_true rfl) (fun X C hret => ?_)
  show WD X K 1 0 0 (WdM K ad σ) [(0, .ref (ad 0))] 0 []
  refine wd_aload_n C dX8_row_0 rfl 0 rfl ?_
  refine wd_iconst (v := 0) C dX8_row_1 (by decide) ?_
  refine pfM_0_39 C tw_858 0 dX8_row_2 ?_
  refine wd_aload_n C dX8_row_5 rfl 0 rfl ?_
  refine gfM_0_5 (x := σ.1 5) C tw_824 rfl dX8_row_6 ?_
  have e9 : p_X8_row σ = (si σ 39 0, σ.1 5) := by rfl
  exact hret _ _ _ _ (by rw [e9]) (by rw [e9]) dX8_row_9
def p_X8_column (σ : St) : St × Int32 := (si σ 39 0, σ.1 6)
set_option maxHeartbeats 4000000 in
set_option maxRecDepth 100000 in
theorem c_X8_column (l : Launch) (K : KX) (ad : Nat → Nat) (σ : St) : Mt l K yX8_column cX8_column 1 (some .int) { frames := 0, cells := 0, slots := 0, locals := 0 } [.ref (ad 0)] (WdM K ad σ) (some (.int (p_X8_column σ).2)) (WdM K ad (p_X8_column σ).1) := by
  refine Mt.i (by decide +kernel) (Nat.le_of_ble_eq_true rfl) (fun X C hret => ?_)
  show WD X K 1 0 0 (WdM K ad σ) [(0, .ref (ad 0))] 0 []
  refine wd_aload_n C dX8_column_0 rfl 0 rfl ?_
  refine wd_iconst (v := 0) C dX8_column_1 (by decide) ?_
  refine pfM_0_39 C tw_858 0 dX8_column_2 ?_
  refine wd_aload_n C dX8_column_5 rfl 0 rfl ?_
  refine gfM_0_6 (x := σ.1 6) C tw_825 rfl dX8_column_6 ?_
  have e9 : p_X8_column σ = (si σ 39 0, σ.1 6) := by rfl
  exact hret _ _ _ _ (by rw [e9]) (by rw [e9]) dX8_column_9
def p_X8_full (σ : St) : St × Bool := (si σ 39 0, σ.2.1 9)
set_option maxHeartbeats 4000000 in
set_option maxRecDepth 100000 in
theorem c_X8_full (l : Launch) (K : KX) (ad : Nat → Nat) (σ : St) : Mt l K yX8_full cX8_full 1 (some .boolean) { frames := 0, cells := 0, slots := 0, locals := 0 } [.ref (ad 0)] (WdM K ad σ) (some (.int (b2i (p_X8_full σ).2))) (WdM K ad (p_X8_full σ).1) := by
  refine Mt.z (by decide +kernel) (Nat.le_of_ble_eq_true rfl) (fun X C hret => ?_)
  show WD X K 1 0 0 (WdM K ad σ) [(0, .ref (ad 0))] 0 []
  refine wd_aload_n C dX8_full_0 rfl 0 rfl ?_
  refine wd_iconst (v := 0) C dX8_full_1 (by decide) ?_
  refine pfM_0_39 C tw_858 0 dX8_full_2 ?_
  refine wd_aload_n C dX8_full_5 rfl 0 rfl ?_
  refine gfM_0_9 (x := σ.2.1 9) C tw_828 rfl dX8_full_6 ?_
  have e9 : p_X8_full σ = (si σ 39 0, σ.2.1 9) := by rfl
  exact hret (σ.2.1 9) _ _ _ (by rw [e9]) (by rw [e9]) dX8_full_9
def p_X8_pen (σ : St) : St × Int32 := (si σ 39 0, (p_X8_penNow (si σ 39 0)))
set_option maxHeartbeats 4000000 in
set_option maxRecDepth 100000 in
theorem c_X8_pen (l : Launch) (K : KX) (ad : Nat → Nat) (σ : St) : Mt l K yX8_pen cX8_pen 1 (some .int) { frames := 1, cells := 0, slots := 0, locals := 20 } [.ref (ad 0)] (WdM K ad σ) (some (.int (p_X8_pen σ).2)) (WdM K ad (p_X8_pen σ).1) := by
  refine Mt.i (by decide +kernel) (Nat.le_of_ble_eq_true rfl) (fun X C hret => ?_)
  show WD X K 1 0 0 (WdM K ad σ) [(0, .ref (ad 0))] 0 []
  refine wd_aload_n C dX8_pen_0 rfl 0 rfl ?_
  refine wd_iconst (v := 0) C dX8_pen_1 (by decide) ?_
  refine pfM_0_39 C tw_858 0 dX8_pen_2 ?_
  refine wd_aload_n C dX8_pen_5 rfl 0 rfl ?_
  refine wd_callV C 0 (c_X8_penNow _ K ad (si σ 39 0)) 0 (wcM_0 K ad _) rfl rfl tw_815 tw_817 tw_33 tw_72 tw_818 (by decide +kernel) rfl (by decide) (Nat.le_of_ble_eq_true rfl) dX8_pen_6 _ rfl ?_
  have e9 : p_X8_pen σ = (si σ 39 0, (p_X8_penNow (si σ 39 0))) := by rfl
  exact hret _ _ _ _ (by rw [e9]) (by rw [e9]) dX8_pen_9
def p_X8_mode_t1 (σ : St) (p1 : Int32) : Bool := (if p1 = 0 then σ.2.1 10 else (if p1 = 1 then σ.2.1 11 else (if p1 = 2 then σ.2.1 12 else (if σ.1 4 = 1 then true else false))))
def p_X8_mode_t2 (σ : St) (p1 : Int32) : Int32 := (if p1 < 0 then (-1) else (if p1 ≤ 3 then (if (p_X8_mode_t1 σ p1) = true then 1 else 0) else (-1)))
def p_X8_mode (σ : St) (p1 : Int32) : St × Int32 := (si σ 39 0, (p_X8_mode_t2 σ p1))
set_option maxHeartbeats 4000000 in
set_option maxRecDepth 100000 in
theorem c_X8_mode (l : Launch) (K : KX) (ad : Nat → Nat) (σ : St) (p1 : Int32) : Mt l K yX8_mode cX8_mode 3 (some .int) { frames := 0, cells := 0, slots := 0, locals := 0 } [.ref (ad 0), .int p1] (WdM K ad σ) (some (.int (p_X8_mode σ p1).2)) (WdM K ad (p_X8_mode σ p1).1) := by
  refine Mt.i (by decide +kernel) (Nat.le_of_ble_eq_true rfl) (fun X C hret => ?_)
  show WD X K 3 0 0 (WdM K ad σ) [(0, .ref (ad 0)), (1, .int p1)] 0 []
  refine wd_aload_n C dX8_mode_0 rfl 0 rfl ?_
  refine wd_iconst (v := 0) C dX8_mode_1 (by decide) ?_
  refine pfM_0_39 C tw_858 0 dX8_mode_2 ?_
  refine wd_iload_n C dX8_mode_5 rfl 1 rfl ?_
  have J_6 : WD X K 3 0 0 (WdM K ad (si σ 39 0)) [(0, .ref (ad 0)), (1, .int p1)] 53 [.int (b2i (p_X8_mode_t1 σ p1))] := by
    refine wd_istore_n C [(2, .int (b2i (p_X8_mode_t1 σ p1))), (0, .ref (ad 0)), (1, .int p1)] dX8_mode_53 rfl (by decide) rfl ?_
    refine wd_iload_n C dX8_mode_54 rfl 2 rfl ?_
    have J_55 : WD X K 3 0 0 (WdM K ad (si σ 39 0)) [(0, .ref (ad 0)), (1, .int p1), (2, .int (b2i (p_X8_mode_t1 σ p1)))] 76 [.int (p_X8_mode_t2 σ p1)] := by
      have e9 : p_X8_mode σ p1 = (si σ 39 0, (p_X8_mode_t2 σ p1)) := by rfl
      exact hret _ _ _ _ (by rw [e9]) (by rw [e9]) dX8_mode_76
    refine wd_if_lt C 63 dX8_mode_55 (by decide) (fun c_55 => ?_) (fun c_55 => ?_)
    · refine wd_iconst (v := (-1)) C dX8_mode_63 (by decide) ?_
      refine wd_goto C 76 dX8_mode_64 (by decide) ?_
      have ej_0 : p_X8_mode_t2 σ p1 = (-1) := by unfold p_X8_mode_t2; rw [if_pos c_55]
      rw [ej_0] at J_55
      exact wd_lv [1, 2, 0] _ rfl J_55
    · refine wd_iload_n C dX8_mode_58 rfl 2 rfl ?_
      refine wd_iconst (v := 3) C dX8_mode_59 (by decide) ?_
      refine wd_icmp_le C 67 dX8_mode_60 (by decide) (fun c_60 => ?_) (fun c_60 => ?_)
      · refine wd_iload_n C dX8_mode_67 rfl 0 rfl ?_
        refine wd_if_eqB (b := (p_X8_mode_t1 σ p1)) C 75 dX8_mode_68 (by decide) (fun c_68 => ?_) (fun c_68 => ?_)
        · refine wd_iconst (v := 0) C dX8_mode_75 (by decide) ?_
          have ej_0 : p_X8_mode_t2 σ p1 = 0 := by unfold p_X8_mode_t2; rw [if_neg c_55, if_pos c_60, if_neg c_68]
          rw [ej_0] at J_55
          exact wd_lv [1, 2, 0] _ rfl J_55
        · refine wd_iconst (v := 1) C dX8_mode_71 (by decide) ?_
          refine wd_goto C 76 dX8_mode_72 (by decide) ?_
          have ej_0 : p_X8_mode_t2 σ p1 = 1 := by unfold p_X8_mode_t2; rw [if_neg c_55, if_pos c_60, if_pos c_68]
          rw [ej_0] at J_55
          exact wd_lv [1, 2, 0] _ rfl J_55
      · refine wd_iconst (v := (-1)) C dX8_mode_63 (by decide) ?_
        refine wd_goto C 76 dX8_mode_64 (by decide) ?_
        have ej_0 : p_X8_mode_t2 σ p1 = (-1) := by unfold p_X8_mode_t2; rw [if_neg c_55, if_neg c_60]
        rw [ej_0] at J_55
        exact wd_lv [1, 2, 0] _ rfl J_55
  refine wd_if_ne C 16 dX8_mode_6 (by decide) (fun c_6 => ?_) (fun c_6 => ?_)
  · refine wd_iload_n C dX8_mode_16 rfl 1 rfl ?_
    refine wd_iconst (v := 1) C dX8_mode_17 (by decide) ?_
    refine wd_icmp_ne C 28 dX8_mode_18 (by decide) (fun c_18 => ?_) (fun c_18 => ?_)
    · refine wd_iload_n C dX8_mode_28 rfl 1 rfl ?_
      refine wd_iconst (v := 2) C dX8_mode_29 (by decide) ?_
      refine wd_icmp_ne C 40 dX8_mode_30 (by decide) (fun c_30 => ?_) (fun c_30 => ?_)
      · refine wd_aload_n C dX8_mode_40 rfl 0 rfl ?_
        refine gfM_0_4 (x := σ.1 4) C tw_823 rfl dX8_mode_41 ?_
        refine wd_iconst (v := 1) C dX8_mode_44 (by decide) ?_
        refine wd_icmp_ne C 52 dX8_mode_45 (by decide) (fun c_45 => ?_) (fun c_45 => ?_)
        · refine wd_iconst (v := 0) C dX8_mode_52 (by decide) ?_
          have ej_0 : p_X8_mode_t1 σ p1 = false := by unfold p_X8_mode_t1; rw [if_neg c_6, if_neg c_18, if_neg c_30, if_neg c_45]
          rw [ej_0] at J_6
          exact wd_lv [0, 1] _ rfl J_6
        · refine wd_iconst (v := 1) C dX8_mode_48 (by decide) ?_
          refine wd_goto C 53 dX8_mode_49 (by decide) ?_
          have ej_0 : p_X8_mode_t1 σ p1 = true := by unfold p_X8_mode_t1; rw [if_neg c_6, if_neg c_18, if_neg c_30, if_pos c_45]
          rw [ej_0] at J_6
          exact wd_lv [0, 1] _ rfl J_6
      · refine wd_aload_n C dX8_mode_33 rfl 0 rfl ?_
        refine gfM_0_12 (x := σ.2.1 12) C tw_831 rfl dX8_mode_34 ?_
        refine wd_goto C 53 dX8_mode_37 (by decide) ?_
        have ej_0 : p_X8_mode_t1 σ p1 = σ.2.1 12 := by unfold p_X8_mode_t1; rw [if_neg c_6, if_neg c_18, if_pos c_30]
        rw [ej_0] at J_6
        exact wd_lv [0, 1] _ rfl J_6
    · refine wd_aload_n C dX8_mode_21 rfl 0 rfl ?_
      refine gfM_0_11 (x := σ.2.1 11) C tw_830 rfl dX8_mode_22 ?_
      refine wd_goto C 53 dX8_mode_25 (by decide) ?_
      have ej_0 : p_X8_mode_t1 σ p1 = σ.2.1 11 := by unfold p_X8_mode_t1; rw [if_neg c_6, if_pos c_18]
      rw [ej_0] at J_6
      exact wd_lv [0, 1] _ rfl J_6
  · refine wd_aload_n C dX8_mode_9 rfl 0 rfl ?_
    refine gfM_0_10 (x := σ.2.1 10) C tw_829 rfl dX8_mode_10 ?_
    refine wd_goto C 53 dX8_mode_13 (by decide) ?_
    have ej_0 : p_X8_mode_t1 σ p1 = σ.2.1 10 := by unfold p_X8_mode_t1; rw [if_pos c_6]
    rw [ej_0] at J_6
    exact wd_lv [0, 1] _ rfl J_6
def p_X8_region (σ : St) : St × Int32 := (si σ 39 0, (8 * (σ.1 7)) + (σ.1 8))
set_option maxHeartbeats 4000000 in
set_option maxRecDepth 100000 in
theorem c_X8_region (l : Launch) (K : KX) (ad : Nat → Nat) (σ : St) : Mt l K yX8_region cX8_region 1 (some .int) { frames := 0, cells := 0, slots := 0, locals := 0 } [.ref (ad 0)] (WdM K ad σ) (some (.int (p_X8_region σ).2)) (WdM K ad (p_X8_region σ).1) := by
  refine Mt.i (by decide +kernel) (Nat.le_of_ble_eq_true rfl) (fun X C hret => ?_)
  show WD X K 1 0 0 (WdM K ad σ) [(0, .ref (ad 0))] 0 []
  refine wd_aload_n C dX8_region_0 rfl 0 rfl ?_
  refine wd_iconst (v := 0) C dX8_region_1 (by decide) ?_
  refine pfM_0_39 C tw_858 0 dX8_region_2 ?_
  refine wd_bipush (v := 8) C dX8_region_5 (by decide) ?_
  refine wd_aload_n C dX8_region_7 rfl 0 rfl ?_
  refine gfM_0_7 (x := σ.1 7) C tw_826 rfl dX8_region_8 ?_
  refine wd_imul C dX8_region_11 ?_
  refine wd_aload_n C dX8_region_12 rfl 0 rfl ?_
  refine gfM_0_8 (x := σ.1 8) C tw_827 rfl dX8_region_13 ?_
  refine wd_iadd C dX8_region_16 ?_
  have e9 : p_X8_region σ = (si σ 39 0, (8 * (σ.1 7)) + (σ.1 8)) := by rfl
  exact hret _ _ _ _ (by rw [e9]) (by rw [e9]) dX8_region_17
def p_X8_tab_t1 (σ : St) (p1 : Int32) : Bool := (if p1 < 0 then false else (if 12 ≤ p1 then false else (if σ.2.2 4 (p1 : Int32).toNatClampNeg = 0 then false else true)))
def p_X8_tab (σ : St) (p1 : Int32) : St × Bool := (si σ 39 0, (p_X8_tab_t1 σ p1))
set_option maxHeartbeats 4000000 in
set_option maxRecDepth 100000 in
theorem c_X8_tab (l : Launch) (K : KX) (ad : Nat → Nat) (σ : St) (p1 : Int32) : Mt l K yX8_tab cX8_tab 2 (some .boolean) { frames := 0, cells := 0, slots := 0, locals := 0 } [.ref (ad 0), .int p1] (WdM K ad σ) (some (.int (b2i (p_X8_tab σ p1).2))) (WdM K ad (p_X8_tab σ p1).1) := by
  refine Mt.z (by decide +kernel) (Nat.le_of_ble_eq_true rfl) (fun X C hret => ?_)
  show WD X K 2 0 0 (WdM K ad σ) [(0, .ref (ad 0)), (1, .int p1)] 0 []
  refine wd_aload_n C dX8_tab_0 rfl 0 rfl ?_
  refine wd_iconst (v := 0) C dX8_tab_1 (by decide) ?_
  refine pfM_0_39 C tw_858 0 dX8_tab_2 ?_
  refine wd_iload_n C dX8_tab_5 rfl 1 rfl ?_
  have J_6 : WD X K 2 0 0 (WdM K ad (si σ 39 0)) [(0, .ref (ad 0)), (1, .int p1)] 29 [.int (b2i (p_X8_tab_t1 σ p1))] := by
    have e9 : p_X8_tab σ p1 = (si σ 39 0, (p_X8_tab_t1 σ p1)) := by rfl
    exact hret (p_X8_tab_t1 σ p1) _ _ _ (by rw [e9]) (by rw [e9]) dX8_tab_29
  refine wd_if_lt C 28 dX8_tab_6 (by decide) (fun c_6 => ?_) (fun c_6 => ?_)
  · refine wd_iconst (v := 0) C dX8_tab_28 (by decide) ?_
    have ej_0 : p_X8_tab_t1 σ p1 = false := by unfold p_X8_tab_t1; rw [if_pos c_6]
    rw [ej_0] at J_6
    exact wd_lv [0, 1] _ rfl J_6
  · refine wd_iload_n C dX8_tab_9 rfl 1 rfl ?_
    refine wd_bipush (v := 12) C dX8_tab_10 (by decide) ?_
    refine wd_icmp_ge C 28 dX8_tab_12 (by decide) (fun c_12 => ?_) (fun c_12 => ?_)
    · refine wd_iconst (v := 0) C dX8_tab_28 (by decide) ?_
      have ej_0 : p_X8_tab_t1 σ p1 = false := by unfold p_X8_tab_t1; rw [if_neg c_6, if_pos c_12]
      rw [ej_0] at J_6
      exact wd_lv [0, 1] _ rfl J_6
    · refine wd_aload_n C dX8_tab_15 rfl 0 rfl ?_
      refine gfM_0_23 C tw_842 dX8_tab_16 ?_
      refine wd_iload_n C dX8_tab_19 rfl 1 rfl ?_
      refine alM_5 (x := σ.2.2 4 (p1 : Int32).toNatClampNeg) C (in_g c_6 c_12 (by decide)) rfl dX8_tab_20 ?_
      refine wd_if_eq C 28 dX8_tab_21 (by decide) (fun c_21 => ?_) (fun c_21 => ?_)
      · refine wd_iconst (v := 0) C dX8_tab_28 (by decide) ?_
        have ej_0 : p_X8_tab_t1 σ p1 = false := by unfold p_X8_tab_t1; rw [if_neg c_6, if_neg c_12, if_pos c_21]
        rw [ej_0] at J_6
        exact wd_lv [0, 1] _ rfl J_6
      · refine wd_iconst (v := 1) C dX8_tab_24 (by decide) ?_
        refine wd_goto C 29 dX8_tab_25 (by decide) ?_
        have ej_0 : p_X8_tab_t1 σ p1 = true := by unfold p_X8_tab_t1; rw [if_neg c_6, if_neg c_12, if_neg c_21]
        rw [ej_0] at J_6
        exact wd_lv [0, 1] _ rfl J_6
def p_X8_bells (σ : St) : St × Int32 := (si σ 39 0, σ.1 26)
set_option maxHeartbeats 4000000 in
set_option maxRecDepth 100000 in
theorem c_X8_bells (l : Launch) (K : KX) (ad : Nat → Nat) (σ : St) : Mt l K yX8_bells cX8_bells 1 (some .int) { frames := 0, cells := 0, slots := 0, locals := 0 } [.ref (ad 0)] (WdM K ad σ) (some (.int (p_X8_bells σ).2)) (WdM K ad (p_X8_bells σ).1) := by
  refine Mt.i (by decide +kernel) (Nat.le_of_ble_eq_true rfl) (fun X C hret => ?_)
  show WD X K 1 0 0 (WdM K ad σ) [(0, .ref (ad 0))] 0 []
  refine wd_aload_n C dX8_bells_0 rfl 0 rfl ?_
  refine wd_iconst (v := 0) C dX8_bells_1 (by decide) ?_
  refine pfM_0_39 C tw_858 0 dX8_bells_2 ?_
  refine wd_aload_n C dX8_bells_5 rfl 0 rfl ?_
  refine gfM_0_26 (x := σ.1 26) C tw_845 rfl dX8_bells_6 ?_
  have e9 : p_X8_bells σ = (si σ 39 0, σ.1 26) := by rfl
  exact hret _ _ _ _ (by rw [e9]) (by rw [e9]) dX8_bells_9
def p_X8_state (σ : St) : St × Int32 := (si σ 39 0, σ.1 24)
set_option maxHeartbeats 4000000 in
set_option maxRecDepth 100000 in
theorem c_X8_state (l : Launch) (K : KX) (ad : Nat → Nat) (σ : St) : Mt l K yX8_state cX8_state 1 (some .int) { frames := 0, cells := 0, slots := 0, locals := 0 } [.ref (ad 0)] (WdM K ad σ) (some (.int (p_X8_state σ).2)) (WdM K ad (p_X8_state σ).1) := by
  refine Mt.i (by decide +kernel) (Nat.le_of_ble_eq_true rfl) (fun X C hret => ?_)
  show WD X K 1 0 0 (WdM K ad σ) [(0, .ref (ad 0))] 0 []
  refine wd_aload_n C dX8_state_0 rfl 0 rfl ?_
  refine wd_iconst (v := 0) C dX8_state_1 (by decide) ?_
  refine pfM_0_39 C tw_858 0 dX8_state_2 ?_
  refine wd_aload_n C dX8_state_5 rfl 0 rfl ?_
  refine gfM_0_24 (x := σ.1 24) C tw_843 rfl dX8_state_6 ?_
  have e9 : p_X8_state σ = (si σ 39 0, σ.1 24) := by rfl
  exact hret _ _ _ _ (by rw [e9]) (by rw [e9]) dX8_state_9
theorem cell_r (σ : St) (r c : Int32) (h : p_X8_isCell σ r c = true) : R2 0 7 r ∧ R2 0 11 c := by
  unfold p_X8_isCell p_X8_isCell_t1 at h
  have z0 : (0 : Int32).toInt = 0 := by decide
  have z8 : (8 : Int32).toInt = 8 := by decide
  have z12 : (12 : Int32).toInt = 12 := by decide
  by_cases h1 : r < 0
  · rw [if_pos h1] at h; cases h
  rw [if_neg h1] at h
  by_cases h2 : 8 ≤ r
  · rw [if_pos h2] at h; cases h
  rw [if_neg h2] at h
  by_cases h3 : c < 0
  · rw [if_pos h3] at h; cases h
  rw [if_neg h3] at h
  by_cases h4 : 12 ≤ c
  · rw [if_pos h4] at h; cases h
  rw [ti_lt] at h1 h3
  rw [ti_le] at h2 h4
  exact ⟨⟨by omega, by omega⟩, ⟨by omega, by omega⟩⟩
def p_X8_code_t1 (σ : St) (p1 : Int32) (p2 : Int32) : Bool := (if (p_X8_isCell σ p1 p2) = true then false else true)
def p_X8_code_t2 (σ : St) (p1 : Int32) (p2 : Int32) : Int32 := (if b2i (p_X8_code_t1 σ p1 p2) ≤ 0 then σ.2.2 0 (((96 * (σ.1 4)) + (12 * p1)) + p2 : Int32).toNatClampNeg else 0)
def p_X8_code (σ : St) (p1 : Int32) (p2 : Int32) : St × Int32 := (si σ 39 (b2i (p_X8_code_t1 σ p1 p2)), (p_X8_code_t2 σ p1 p2))
theorem code_t (σ : St) (r c : Int32) (h : b2i (p_X8_code_t1 σ r c) ≤ 0) : p_X8_isCell σ r c = true := by
  unfold p_X8_code_t1 at h
  by_cases q : p_X8_isCell σ r c = true
  · exact q
  · rw [if_neg q] at h; exact absurd h (by decide)
set_option maxHeartbeats 4000000 in
set_option maxRecDepth 100000 in
theorem c_X8_code (l : Launch) (K : KX) (ad : Nat → Nat) (σ : St) (p1 : Int32) (p2 : Int32) (hM : OkM σ) : Mt l K yX8_code cX8_code 3 (some .int) { frames := 1, cells := 0, slots := 0, locals := 22 } [.ref (ad 0), .int p1, .int p2] (WdM K ad σ) (some (.int (p_X8_code σ p1 p2).2)) (WdM K ad (p_X8_code σ p1 p2).1) := by
  refine Mt.i (by decide +kernel) (Nat.le_of_ble_eq_true rfl) (fun X C hret => ?_)
  show WD X K 3 0 0 (WdM K ad σ) [(0, .ref (ad 0)), (1, .int p1), (2, .int p2)] 0 []
  refine wd_aload_n C dX8_code_0 rfl 0 rfl ?_
  refine wd_aload_n C dX8_code_1 rfl 0 rfl ?_
  refine wd_iload_n C dX8_code_2 rfl 1 rfl ?_
  refine wd_iload_n C dX8_code_3 rfl 2 rfl ?_
  refine wd_callV C 2 (c_X8_isCell _ K ad σ p1 p2) 0 (wcM_0 K ad _) rfl rfl tw_1116 tw_1118 tw_62 tw_72 tw_1119 (by decide +kernel) rfl (by decide) (Nat.le_of_ble_eq_true rfl) dX8_code_4 _ rfl ?_
  have J_7 : WD X K 3 0 0 (WdM K ad σ) [(0, .ref (ad 0)), (1, .int p1), (2, .int p2)] 15 [.int (b2i (p_X8_code_t1 σ p1 p2)), .ref (ad 0)] := by
    refine pfM_0_39 C tw_858 (b2i (p_X8_code_t1 σ p1 p2)) dX8_code_15 ?_
    refine wd_aload_n C dX8_code_18 rfl 0 rfl ?_
    refine gfM_0_39 (x := b2i (p_X8_code_t1 σ p1 p2)) C tw_858 rfl dX8_code_19 ?_
    have J_22 : WD X K 3 0 0 (WdM K ad (si σ 39 (b2i (p_X8_code_t1 σ p1 p2)))) [(0, .ref (ad 0)), (1, .int p1), (2, .int p2)] 48 [.int (p_X8_code_t2 σ p1 p2)] := by
      have e9 : p_X8_code σ p1 p2 = (si σ 39 (b2i (p_X8_code_t1 σ p1 p2)), (p_X8_code_t2 σ p1 p2)) := by rfl
      exact hret _ _ _ _ (by rw [e9]) (by rw [e9]) dX8_code_48
    refine wd_if_le C 29 dX8_code_22 (by decide) (fun c_22 => ?_) (fun c_22 => ?_)
    · refine wd_aload_n C dX8_code_29 rfl 0 rfl ?_
      refine gfM_0_0 C tw_819 dX8_code_30 ?_
      refine wd_bipush (v := 96) C dX8_code_33 (by decide) ?_
      refine wd_aload_n C dX8_code_35 rfl 0 rfl ?_
      refine gfM_0_4 (x := σ.1 4) C tw_823 rfl dX8_code_36 ?_
      refine wd_imul C dX8_code_39 ?_
      refine wd_bipush (v := 12) C dX8_code_40 (by decide) ?_
      refine wd_iload_n C dX8_code_42 rfl 1 rfl ?_
      refine wd_imul C dX8_code_43 ?_
      refine wd_iadd C dX8_code_44 ?_
      refine wd_iload_n C dX8_code_45 rfl 2 rfl ?_
      refine wd_iadd C dX8_code_46 ?_
      refine alM_1 (x := σ.2.2 0 (((96 * (σ.1 4)) + (12 * p1)) + p2 : Int32).toNatClampNeg) C (at_in hM.1 (cell_r σ p1 p2 (code_t σ p1 p2 c_22)).1 (cell_r σ p1 p2 (code_t σ p1 p2 c_22)).2) rfl dX8_code_47 ?_
      have ej_0 : p_X8_code_t2 σ p1 p2 = σ.2.2 0 (((96 * (σ.1 4)) + (12 * p1)) + p2 : Int32).toNatClampNeg := by unfold p_X8_code_t2; rw [if_pos c_22]
      rw [ej_0] at J_22
      exact wd_lv [0, 1, 2] _ rfl J_22
    · refine wd_iconst (v := 0) C dX8_code_25 (by decide) ?_
      refine wd_goto C 48 dX8_code_26 (by decide) ?_
      have ej_0 : p_X8_code_t2 σ p1 p2 = 0 := by unfold p_X8_code_t2; rw [if_neg c_22]
      rw [ej_0] at J_22
      exact wd_lv [0, 1, 2] _ rfl J_22
  refine wd_if_eqB (b := (p_X8_isCell σ p1 p2)) C 14 dX8_code_7 (by decide) (fun c_7 => ?_) (fun c_7 => ?_)
  · refine wd_iconst (v := 1) C dX8_code_14 (by decide) ?_
    have ej_0 : p_X8_code_t1 σ p1 p2 = true := by unfold p_X8_code_t1; rw [if_neg c_7]
    rw [ej_0] at J_7
    exact wd_lv [0, 1, 2] _ rfl J_7
  · refine wd_iconst (v := 0) C dX8_code_10 (by decide) ?_
    refine wd_goto C 15 dX8_code_11 (by decide) ?_
    have ej_0 : p_X8_code_t1 σ p1 p2 = false := by unfold p_X8_code_t1; rw [if_pos c_7]
    rw [ej_0] at J_7
    exact wd_lv [0, 1, 2] _ rfl J_7
def p_X8_look_t1 (σ : St) (p1 : Int32) (p2 : Int32) : Bool := (if (p_X8_isCell σ p1 p2) = true then false else true)
def p_X8_look_t2 (σ : St) (p1 : Int32) (p2 : Int32) : Int32 := (if b2i (p_X8_look_t1 σ p1 p2) ≤ 0 then σ.2.2 1 (((96 * (σ.1 4)) + (12 * p1)) + p2 : Int32).toNatClampNeg else 0)
def p_X8_look (σ : St) (p1 : Int32) (p2 : Int32) : St × Int32 := (si σ 39 (b2i (p_X8_look_t1 σ p1 p2)), (p_X8_look_t2 σ p1 p2))
theorem look_t (σ : St) (r c : Int32) (h : b2i (p_X8_look_t1 σ r c) ≤ 0) : p_X8_isCell σ r c = true := by
  unfold p_X8_look_t1 at h
  by_cases q : p_X8_isCell σ r c = true
  · exact q
  · rw [if_neg q] at h; exact absurd h (by decide)
set_option maxHeartbeats 4000000 in
set_option maxRecDepth 100000 in
theorem c_X8_look (l : Launch) (K : KX) (ad : Nat → Nat) (σ : St) (p1 : Int32) (p2 : Int32) (hM : OkM σ) : Mt l K yX8_look cX8_look 3 (some .int) { frames := 1, cells := 0, slots := 0, locals := 22 } [.ref (ad 0), .int p1, .int p2] (WdM K ad σ) (some (.int (p_X8_look σ p1 p2).2)) (WdM K ad (p_X8_look σ p1 p2).1) := by
  refine Mt.i (by decide +kernel) (Nat.le_of_ble_eq_true rfl) (fun X C hret => ?_)
  show WD X K 3 0 0 (WdM K ad σ) [(0, .ref (ad 0)), (1, .int p1), (2, .int p2)] 0 []
  refine wd_aload_n C dX8_look_0 rfl 0 rfl ?_
  refine wd_aload_n C dX8_look_1 rfl 0 rfl ?_
  refine wd_iload_n C dX8_look_2 rfl 1 rfl ?_
  refine wd_iload_n C dX8_look_3 rfl 2 rfl ?_
  refine wd_callV C 2 (c_X8_isCell _ K ad σ p1 p2) 0 (wcM_0 K ad _) rfl rfl tw_1116 tw_1118 tw_62 tw_72 tw_1119 (by decide +kernel) rfl (by decide) (Nat.le_of_ble_eq_true rfl) dX8_look_4 _ rfl ?_
  have J_7 : WD X K 3 0 0 (WdM K ad σ) [(0, .ref (ad 0)), (1, .int p1), (2, .int p2)] 15 [.int (b2i (p_X8_look_t1 σ p1 p2)), .ref (ad 0)] := by
    refine pfM_0_39 C tw_858 (b2i (p_X8_look_t1 σ p1 p2)) dX8_look_15 ?_
    refine wd_aload_n C dX8_look_18 rfl 0 rfl ?_
    refine gfM_0_39 (x := b2i (p_X8_look_t1 σ p1 p2)) C tw_858 rfl dX8_look_19 ?_
    have J_22 : WD X K 3 0 0 (WdM K ad (si σ 39 (b2i (p_X8_look_t1 σ p1 p2)))) [(0, .ref (ad 0)), (1, .int p1), (2, .int p2)] 48 [.int (p_X8_look_t2 σ p1 p2)] := by
      have e9 : p_X8_look σ p1 p2 = (si σ 39 (b2i (p_X8_look_t1 σ p1 p2)), (p_X8_look_t2 σ p1 p2)) := by rfl
      exact hret _ _ _ _ (by rw [e9]) (by rw [e9]) dX8_look_48
    refine wd_if_le C 29 dX8_look_22 (by decide) (fun c_22 => ?_) (fun c_22 => ?_)
    · refine wd_aload_n C dX8_look_29 rfl 0 rfl ?_
      refine gfM_0_1 C tw_820 dX8_look_30 ?_
      refine wd_bipush (v := 96) C dX8_look_33 (by decide) ?_
      refine wd_aload_n C dX8_look_35 rfl 0 rfl ?_
      refine gfM_0_4 (x := σ.1 4) C tw_823 rfl dX8_look_36 ?_
      refine wd_imul C dX8_look_39 ?_
      refine wd_bipush (v := 12) C dX8_look_40 (by decide) ?_
      refine wd_iload_n C dX8_look_42 rfl 1 rfl ?_
      refine wd_imul C dX8_look_43 ?_
      refine wd_iadd C dX8_look_44 ?_
      refine wd_iload_n C dX8_look_45 rfl 2 rfl ?_
      refine wd_iadd C dX8_look_46 ?_
      refine alM_2 (x := σ.2.2 1 (((96 * (σ.1 4)) + (12 * p1)) + p2 : Int32).toNatClampNeg) C (at_in hM.1 (cell_r σ p1 p2 (look_t σ p1 p2 c_22)).1 (cell_r σ p1 p2 (look_t σ p1 p2 c_22)).2) rfl dX8_look_47 ?_
      have ej_0 : p_X8_look_t2 σ p1 p2 = σ.2.2 1 (((96 * (σ.1 4)) + (12 * p1)) + p2 : Int32).toNatClampNeg := by unfold p_X8_look_t2; rw [if_pos c_22]
      rw [ej_0] at J_22
      exact wd_lv [0, 1, 2] _ rfl J_22
    · refine wd_iconst (v := 0) C dX8_look_25 (by decide) ?_
      refine wd_goto C 48 dX8_look_26 (by decide) ?_
      have ej_0 : p_X8_look_t2 σ p1 p2 = 0 := by unfold p_X8_look_t2; rw [if_neg c_22]
      rw [ej_0] at J_22
      exact wd_lv [0, 1, 2] _ rfl J_22
  refine wd_if_eqB (b := (p_X8_isCell σ p1 p2)) C 14 dX8_look_7 (by decide) (fun c_7 => ?_) (fun c_7 => ?_)
  · refine wd_iconst (v := 1) C dX8_look_14 (by decide) ?_
    have ej_0 : p_X8_look_t1 σ p1 p2 = true := by unfold p_X8_look_t1; rw [if_neg c_7]
    rw [ej_0] at J_7
    exact wd_lv [0, 1, 2] _ rfl J_7
  · refine wd_iconst (v := 0) C dX8_look_10 (by decide) ?_
    refine wd_goto C 15 dX8_look_11 (by decide) ?_
    have ej_0 : p_X8_look_t1 σ p1 p2 = false := by unfold p_X8_look_t1; rw [if_pos c_7]
    rw [ej_0] at J_7
    exact wd_lv [0, 1, 2] _ rfl J_7
theorem pg96 {g : Int32} (hg : R2 0 1 g) : (96 * g).toInt = 96 * g.toInt ∧ (96 * g + 96).toInt = 96 * g.toInt + 96 := by
  have z : (96 : Int32).toInt = 96 := by decide
  have a := hg.1
  have b := hg.2
  have e1 : (96 * g).toInt = 96 * g.toInt := by rw [ti_mul (by rw [z]; omega) (by rw [z]; omega), z]
  have e2 := ti_add (a := 96 * g) (b := 96) (by omega) (by omega)
  exact ⟨e1, by omega⟩
def p_X8_cells_x1 (σ : St) (p1 : Int32) (p2 : Int32) (x3 : Int32) (x4 : Int32) : Int32 := (if σ.2.2 0 (x4 : Int32).toNatClampNeg = p1 then (if p2 < 0 then x3 + 1 else (if σ.2.2 1 (x4 : Int32).toNatClampNeg = p2 then x3 + 1 else x3)) else x3)
def p_X8_cells_l2 (σ : St) (p1 : Int32) (p2 : Int32) : Nat → Int32 → Int32 → Int32 × Int32
  | 0, x3, x4 => (x3, x4)
  | n + 1, x3, x4 => (if (96 * (σ.1 4)) + 96 ≤ x4 then (x3, x4) else p_X8_cells_l2 σ p1 p2 n (p_X8_cells_x1 σ p1 p2 x3 x4) (x4 + 1))
def p_X8_cells (σ : St) (p1 : Int32) (p2 : Int32) : St × Int32 := (si σ 39 0, (p_X8_cells_l2 σ p1 p2 96 0 (96 * (σ.1 4))).1)
set_option maxHeartbeats 4000000 in
set_option maxRecDepth 100000 in
theorem c_X8_cells (l : Launch) (K : KX) (ad : Nat → Nat) (σ : St) (p1 : Int32) (p2 : Int32) (hM : OkM σ) : Mt l K yX8_cells cX8_cells 5 (some .int) { frames := 0, cells := 0, slots := 0, locals := 0 } [.ref (ad 0), .int p1, .int p2] (WdM K ad σ) (some (.int (p_X8_cells σ p1 p2).2)) (WdM K ad (p_X8_cells σ p1 p2).1) := by
  refine Mt.i (by decide +kernel) (Nat.le_of_ble_eq_true rfl) (fun X C hret => ?_)
  show WD X K 5 0 0 (WdM K ad σ) [(0, .ref (ad 0)), (1, .int p1), (2, .int p2)] 0 []
  refine wd_aload_n C dX8_cells_0 rfl 0 rfl ?_
  refine wd_iconst (v := 0) C dX8_cells_1 (by decide) ?_
  refine pfM_0_39 C tw_858 0 dX8_cells_2 ?_
  refine wd_iconst (v := 0) C dX8_cells_5 (by decide) ?_
  refine wd_istore_n C [(3, .int 0), (0, .ref (ad 0)), (1, .int p1), (2, .int p2)] dX8_cells_6 rfl (by decide) rfl ?_
  refine wd_bipush (v := 96) C dX8_cells_7 (by decide) ?_
  refine wd_aload_n C dX8_cells_9 rfl 1 rfl ?_
  refine gfM_0_4 (x := σ.1 4) C tw_823 rfl dX8_cells_10 ?_
  refine wd_imul C dX8_cells_13 ?_
  refine wd_istore C [(4, .int (96 * (σ.1 4))), (3, .int 0), (0, .ref (ad 0)), (1, .int p1), (2, .int p2)] dX8_cells_14 (by decide) rfl ?_
  have J_16 : WD X K 5 0 0 (WdM K ad (si σ 39 0)) [(0, .ref (ad 0)), (1, .int p1), (2, .int p2), (3, .int ((p_X8_cells_l2 σ p1 p2 96 0 (96 * (σ.1 4))).1)), (4, .int ((p_X8_cells_l2 σ p1 p2 96 0 (96 * (σ.1 4))).2))] 67 [] := by
    refine wd_iload_n C dX8_cells_67 rfl 3 rfl ?_
    have e9 : p_X8_cells σ p1 p2 = (si σ 39 0, (p_X8_cells_l2 σ p1 p2 96 0 (96 * (σ.1 4))).1) := by rfl
    exact hret _ _ _ _ (by rw [e9]) (by rw [e9]) dX8_cells_68
  have L_16 : ∀ (n : Nat) (x3 : Int32) (x4 : Int32), p_X8_cells_l2 σ p1 p2 n x3 x4 = p_X8_cells_l2 σ p1 p2 96 0 (96 * (σ.1 4)) → (96 * σ.1 4).toInt ≤ x4.toInt ∧ (96 * σ.1 4 + 96).toInt - x4.toInt ≤ (n : Int) → WD X K 5 0 0 (WdM K ad (si σ 39 0)) [(0, .ref (ad 0)), (1, .int p1), (2, .int p2), (3, .int x3), (4, .int x4)] 16 [] := by
    intro n
    induction n with
    | zero =>
      intro x3 x4 hE hI
      refine wd_iload C dX8_cells_16 4 rfl ?_
      refine wd_bipush (v := 96) C dX8_cells_18 (by decide) ?_
      refine wd_aload_n C dX8_cells_20 rfl 0 rfl ?_
      refine gfM_0_4 (x := σ.1 4) C tw_823 rfl dX8_cells_21 ?_
      refine wd_imul C dX8_cells_24 ?_
      refine wd_bipush (v := 96) C dX8_cells_25 (by decide) ?_
      refine wd_iadd C dX8_cells_27 ?_
      refine wd_icmp_ge C 67 dX8_cells_28 (by decide) (fun c_28 => ?_) (fun c_28 => ?_)
      · have eL := hE
        rw [p_X8_cells_l2] at eL
        rw [← eL] at J_16
        exact wd_lv [0, 1, 2, 3, 4] _ rfl J_16
      · exact absurd (ti_le.mpr (by have h2 := hI.2; omega)) c_28
    | succ n ih =>
      intro x3 x4 hE hI
      refine wd_iload C dX8_cells_16 4 rfl ?_
      refine wd_bipush (v := 96) C dX8_cells_18 (by decide) ?_
      refine wd_aload_n C dX8_cells_20 rfl 0 rfl ?_
      refine gfM_0_4 (x := σ.1 4) C tw_823 rfl dX8_cells_21 ?_
      refine wd_imul C dX8_cells_24 ?_
      refine wd_bipush (v := 96) C dX8_cells_25 (by decide) ?_
      refine wd_iadd C dX8_cells_27 ?_
      refine wd_icmp_ge C 67 dX8_cells_28 (by decide) (fun c_28 => ?_) (fun c_28 => ?_)
      · have eL := hE
        rw [p_X8_cells_l2, if_pos c_28] at eL
        rw [← eL] at J_16
        exact wd_lv [0, 1, 2, 3, 4] _ rfl J_16
      · refine wd_aload_n C dX8_cells_31 rfl 0 rfl ?_
        refine gfM_0_0 C tw_819 dX8_cells_32 ?_
        refine wd_iload C dX8_cells_35 4 rfl ?_
        refine alM_1 (x := σ.2.2 0 (x4 : Int32).toNatClampNeg) C (vp_in_iff.mpr (by have q : ¬ (96 * σ.1 4 + 96).toInt ≤ x4.toInt := (fun z => c_28 (ti_le.mpr z)); have e := pg96 hM.1; have a := hM.1.1; have b := hM.1.2; have h1 := hI.1; omega)) rfl dX8_cells_37 ?_
        refine wd_iload_n C dX8_cells_38 rfl 1 rfl ?_
        have J_39 : WD X K 5 0 0 (WdM K ad (si σ 39 0)) [(0, .ref (ad 0)), (1, .int p1), (2, .int p2), (3, .int (p_X8_cells_x1 σ p1 p2 x3 x4)), (4, .int x4)] 61 [] := by
          refine wd_iinc (v := x4 + 1) C [(4, .int (x4 + 1)), (0, .ref (ad 0)), (1, .int p1), (2, .int p2), (3, .int (p_X8_cells_x1 σ p1 p2 x3 x4))] dX8_cells_61 4 rfl (by rfl) (by decide) rfl ?_
          refine wd_goto C 16 dX8_cells_64 (by decide) ?_
          have eL := hE
          rw [p_X8_cells_l2, if_neg c_28] at eL
          exact wd_lv [1, 2, 3, 4, 0] _ rfl (ih (p_X8_cells_x1 σ p1 p2 x3 x4) (x4 + 1) eL (by have q : ¬ (96 * σ.1 4 + 96).toInt ≤ x4.toInt := (fun z => c_28 (ti_le.mpr z)); have e := pg96 hM.1; have a := hM.1.1; have b := hM.1.2; have h1 := hI.1; have h2 := hI.2; have z1 : (1 : Int32).toInt = 1 := (by decide); have e1 := ti_add (a := x4) (b := 1) (by omega) (by omega); constructor <;> omega))
        refine wd_icmp_ne C 61 dX8_cells_39 (by decide) (fun c_39 => ?_) (fun c_39 => ?_)
        · have ej_0 : p_X8_cells_x1 σ p1 p2 x3 x4 = x3 := by unfold p_X8_cells_x1; rw [if_neg c_39]
          rw [ej_0] at J_39
          exact wd_lv [0, 1, 2, 3, 4] _ rfl J_39
        · refine wd_iload_n C dX8_cells_42 rfl 2 rfl ?_
          refine wd_if_lt C 57 dX8_cells_43 (by decide) (fun c_43 => ?_) (fun c_43 => ?_)
          · refine wd_iload_n C dX8_cells_57 rfl 3 rfl ?_
            refine wd_iconst (v := 1) C dX8_cells_58 (by decide) ?_
            refine wd_iadd C dX8_cells_59 ?_
            refine wd_istore_n C [(3, .int (x3 + 1)), (0, .ref (ad 0)), (1, .int p1), (2, .int p2), (4, .int x4)] dX8_cells_60 rfl (by decide) rfl ?_
            have ej_0 : p_X8_cells_x1 σ p1 p2 x3 x4 = x3 + 1 := by unfold p_X8_cells_x1; rw [if_pos c_39, if_pos c_43]
            rw [ej_0] at J_39
            exact wd_lv [1, 2, 3, 0, 4] _ rfl J_39
          · refine wd_aload_n C dX8_cells_46 rfl 0 rfl ?_
            refine gfM_0_1 C tw_820 dX8_cells_47 ?_
            refine wd_iload C dX8_cells_50 4 rfl ?_
            refine alM_2 (x := σ.2.2 1 (x4 : Int32).toNatClampNeg) C (vp_in_iff.mpr (by have q : ¬ (96 * σ.1 4 + 96).toInt ≤ x4.toInt := (fun z => c_28 (ti_le.mpr z)); have e := pg96 hM.1; have a := hM.1.1; have b := hM.1.2; have h1 := hI.1; omega)) rfl dX8_cells_52 ?_
            refine wd_iload_n C dX8_cells_53 rfl 2 rfl ?_
            refine wd_icmp_ne C 61 dX8_cells_54 (by decide) (fun c_54 => ?_) (fun c_54 => ?_)
            · have ej_0 : p_X8_cells_x1 σ p1 p2 x3 x4 = x3 := by unfold p_X8_cells_x1; rw [if_pos c_39, if_neg c_43, if_neg c_54]
              rw [ej_0] at J_39
              exact wd_lv [0, 1, 2, 3, 4] _ rfl J_39
            · refine wd_iload_n C dX8_cells_57 rfl 3 rfl ?_
              refine wd_iconst (v := 1) C dX8_cells_58 (by decide) ?_
              refine wd_iadd C dX8_cells_59 ?_
              refine wd_istore_n C [(3, .int (x3 + 1)), (0, .ref (ad 0)), (1, .int p1), (2, .int p2), (4, .int x4)] dX8_cells_60 rfl (by decide) rfl ?_
              have ej_0 : p_X8_cells_x1 σ p1 p2 x3 x4 = x3 + 1 := by unfold p_X8_cells_x1; rw [if_pos c_39, if_neg c_43, if_pos c_54]
              rw [ej_0] at J_39
              exact wd_lv [1, 2, 3, 0, 4] _ rfl J_39
  exact wd_lv [2, 3, 4, 1, 0] _ rfl (L_16 96 0 (96 * (σ.1 4)) rfl (by have e := pg96 hM.1; exact ⟨Int.le_refl _, by omega⟩))
def p_X8_waiting (σ : St) : St × Int32 := (si σ 39 0, σ.1 28)
set_option maxHeartbeats 4000000 in
set_option maxRecDepth 100000 in
theorem c_X8_waiting (l : Launch) (K : KX) (ad : Nat → Nat) (σ : St) : Mt l K yX8_waiting cX8_waiting 1 (some .int) { frames := 0, cells := 0, slots := 0, locals := 0 } [.ref (ad 0)] (WdM K ad σ) (some (.int (p_X8_waiting σ).2)) (WdM K ad (p_X8_waiting σ).1) := by
  refine Mt.i (by decide +kernel) (Nat.le_of_ble_eq_true rfl) (fun X C hret => ?_)
  show WD X K 1 0 0 (WdM K ad σ) [(0, .ref (ad 0))] 0 []
  refine wd_aload_n C dX8_waiting_0 rfl 0 rfl ?_
  refine wd_iconst (v := 0) C dX8_waiting_1 (by decide) ?_
  refine pfM_0_39 C tw_858 0 dX8_waiting_2 ?_
  refine wd_aload_n C dX8_waiting_5 rfl 0 rfl ?_
  refine gfM_0_28 (x := σ.1 28) C tw_847 rfl dX8_waiting_6 ?_
  have e9 : p_X8_waiting σ = (si σ 39 0, σ.1 28) := by rfl
  exact hret _ _ _ _ (by rw [e9]) (by rw [e9]) dX8_waiting_9
def p_X8_reply_t1 (σ : St) : Bool := (if σ.1 28 ≤ 0 then true else false)
def p_X8_reply_l2 (σ : St) : Nat → St → Int32 → St × Int32
  | 0, s, x2 => (s, x2)
  | n + 1, s, x2 => (if s.1 28 ≤ x2 then (s, x2) else p_X8_reply_l2 σ n (sa s 5 (upd (s.2.2 5) (x2 : Int32).toNatClampNeg (s.2.2 5 (x2 + 1 : Int32).toNatClampNeg))) (x2 + 1))
def p_X8_reply (σ : St) : St × Int32 := (if b2i (p_X8_reply_t1 σ) ≤ 0 then ((p_X8_reply_l2 σ 64 (si (si σ 39 (b2i (p_X8_reply_t1 σ))) 28 ((σ.1 28) - 1)) 0).1, σ.2.2 5 (0 : Int32).toNatClampNeg) else (si σ 39 (b2i (p_X8_reply_t1 σ)), 0))
set_option maxHeartbeats 4000000 in
set_option maxRecDepth 100000 in
theorem c_X8_reply (l : Launch) (K : KX) (ad : Nat → Nat) (σ : St) (hM : OkM σ) : Mt l K yX8_reply cX8_reply 3 (some .int) { frames := 0, cells := 0, slots := 0, locals := 0 } [.ref (ad 0)] (WdM K ad σ) (some (.int (p_X8_reply σ).2)) (WdM K ad (p_X8_reply σ).1) := by
  refine Mt.i (by decide +kernel) (Nat.le_of_ble_eq_true rfl) (fun X C hret => ?_)
  show WD X K 3 0 0 (WdM K ad σ) [(0, .ref (ad 0))] 0 []
  refine wd_aload_n C dX8_reply_0 rfl 0 rfl ?_
  refine wd_aload_n C dX8_reply_1 rfl 0 rfl ?_
  refine gfM_0_28 (x := σ.1 28) C tw_847 rfl dX8_reply_2 ?_
  have J_5 : WD X K 3 0 0 (WdM K ad σ) [(0, .ref (ad 0))] 13 [.int (b2i (p_X8_reply_t1 σ)), .ref (ad 0)] := by
    refine pfM_0_39 C tw_858 (b2i (p_X8_reply_t1 σ)) dX8_reply_13 ?_
    refine wd_aload_n C dX8_reply_16 rfl 0 rfl ?_
    refine gfM_0_39 (x := b2i (p_X8_reply_t1 σ)) C tw_858 rfl dX8_reply_17 ?_
    refine wd_if_le C 25 dX8_reply_20 (by decide) (fun c_20 => ?_) (fun c_20 => ?_)
    · refine wd_aload_n C dX8_reply_25 rfl 0 rfl ?_
      refine gfM_0_27 C tw_846 dX8_reply_26 ?_
      refine wd_iconst (v := 0) C dX8_reply_29 (by decide) ?_
      refine alM_6 (x := σ.2.2 5 (0 : Int32).toNatClampNeg) C (vp_in_iff.mpr (by decide)) rfl dX8_reply_30 ?_
      refine wd_istore_n C [(1, .int (σ.2.2 5 (0 : Int32).toNatClampNeg)), (0, .ref (ad 0))] dX8_reply_31 rfl (by decide) rfl ?_
      refine wd_aload_n C dX8_reply_32 rfl 1 rfl ?_
      refine wd_aload_n C dX8_reply_33 rfl 1 rfl ?_
      refine gfM_0_28 (x := σ.1 28) C tw_847 rfl dX8_reply_34 ?_
      refine wd_iconst (v := 1) C dX8_reply_37 (by decide) ?_
      refine wd_isub C dX8_reply_38 ?_
      refine pfM_0_28 C tw_847 ((σ.1 28) - 1) dX8_reply_39 ?_
      refine wd_iconst (v := 0) C dX8_reply_42 (by decide) ?_
      refine wd_istore_n C [(2, .int 0), (1, .int (σ.2.2 5 (0 : Int32).toNatClampNeg)), (0, .ref (ad 0))] dX8_reply_43 rfl (by decide) rfl ?_
      have J_44 : WD X K 3 0 0 (WdM K ad ((p_X8_reply_l2 σ 64 (si (si σ 39 (b2i (p_X8_reply_t1 σ))) 28 ((σ.1 28) - 1)) 0).1)) [(0, .ref (ad 0)), (1, .int (σ.2.2 5 (0 : Int32).toNatClampNeg)), (2, .int ((p_X8_reply_l2 σ 64 (si (si σ 39 (b2i (p_X8_reply_t1 σ))) 28 ((σ.1 28) - 1)) 0).2))] 72 [] := by
        refine wd_iload_n C dX8_reply_72 rfl 1 rfl ?_
        have e9 : p_X8_reply σ = ((p_X8_reply_l2 σ 64 (si (si σ 39 (b2i (p_X8_reply_t1 σ))) 28 ((σ.1 28) - 1)) 0).1, σ.2.2 5 (0 : Int32).toNatClampNeg) := by unfold p_X8_reply; rw [if_pos c_20]
        exact hret _ _ _ _ (by rw [e9]) (by rw [e9]) dX8_reply_73
      have L_44 : ∀ (n : Nat) (s : St) (x2 : Int32), p_X8_reply_l2 σ n s x2 = p_X8_reply_l2 σ 64 (si (si σ 39 (b2i (p_X8_reply_t1 σ))) 28 ((σ.1 28) - 1)) 0 → 0 ≤ x2.toInt ∧ 64 - x2.toInt ≤ (n : Int) ∧ s.1 = (si (si σ 39 (b2i (p_X8_reply_t1 σ))) 28 ((σ.1 28) - 1)).1 → WD X K 3 0 0 (WdM K ad s) [(0, .ref (ad 0)), (1, .int (σ.2.2 5 (0 : Int32).toNatClampNeg)), (2, .int x2)] 44 [] := by
        intro n
        induction n with
        | zero =>
          intro s x2 hE hI
          refine wd_iload_n C dX8_reply_44 rfl 2 rfl ?_
          refine wd_aload_n C dX8_reply_45 rfl 0 rfl ?_
          refine gfM_0_28 (x := s.1 28) C tw_847 rfl dX8_reply_46 ?_
          refine wd_icmp_ge C 72 dX8_reply_49 (by decide) (fun c_49 => ?_) (fun c_49 => ?_)
          · have eL := hE
            rw [p_X8_reply_l2] at eL
            rw [← eL] at J_44
            exact wd_lv [0, 1, 2] _ rfl J_44
          · exact absurd (ti_le.mpr (by rw [hI.2.2]; show (σ.1 28 - 1).toInt ≤ x2.toInt; have w := hM.2.2.2.2.2.2.2.1.2; have w0 := hM.2.2.2.2.2.2.2.1.1; have z1 : (1 : Int32).toInt = 1 := (by decide); have e2 := ti_sub (a := σ.1 28) (b := 1) (by omega) (by omega); have h2 := hI.2.1; omega)) c_49
        | succ n ih =>
          intro s x2 hE hI
          refine wd_iload_n C dX8_reply_44 rfl 2 rfl ?_
          refine wd_aload_n C dX8_reply_45 rfl 0 rfl ?_
          refine gfM_0_28 (x := s.1 28) C tw_847 rfl dX8_reply_46 ?_
          refine wd_icmp_ge C 72 dX8_reply_49 (by decide) (fun c_49 => ?_) (fun c_49 => ?_)
          · have eL := hE
            rw [p_X8_reply_l2, if_pos c_49] at eL
            rw [← eL] at J_44
            exact wd_lv [0, 1, 2] _ rfl J_44
          · refine wd_aload_n C dX8_reply_52 rfl 0 rfl ?_
            refine gfM_0_27 C tw_846 dX8_reply_53 ?_
            refine wd_iload_n C dX8_reply_56 rfl 2 rfl ?_
            refine wd_aload_n C dX8_reply_57 rfl 0 rfl ?_
            refine gfM_0_27 C tw_846 dX8_reply_58 ?_
            refine wd_iload_n C dX8_reply_61 rfl 2 rfl ?_
            refine wd_iconst (v := 1) C dX8_reply_62 (by decide) ?_
            refine wd_iadd C dX8_reply_63 ?_
            refine alM_6 (x := s.2.2 5 (x2 + 1 : Int32).toNatClampNeg) C (vp_in_iff.mpr (by have q : ¬ (s.1 28).toInt ≤ x2.toInt := (fun z => c_49 (ti_le.mpr z)); rw [hI.2.2] at q; have q2 : ¬ (σ.1 28 - 1).toInt ≤ x2.toInt := q; have w := hM.2.2.2.2.2.2.2.1.2; have w0 := hM.2.2.2.2.2.2.2.1.1; have z1 : (1 : Int32).toInt = 1 := (by decide); have e2 := ti_sub (a := σ.1 28) (b := 1) (by omega) (by omega); have h1 := hI.1; have e1 := ti_add (a := x2) (b := 1) (by omega) (by omega); omega)) rfl dX8_reply_64 ?_
            refine asM_6 (f := s.2.2 5) C (vp_in_iff.mpr (by have q : ¬ (s.1 28).toInt ≤ x2.toInt := (fun z => c_49 (ti_le.mpr z)); rw [hI.2.2] at q; have q2 : ¬ (σ.1 28 - 1).toInt ≤ x2.toInt := q; have w := hM.2.2.2.2.2.2.2.1.2; have w0 := hM.2.2.2.2.2.2.2.1.1; have z1 : (1 : Int32).toInt = 1 := (by decide); have e2 := ti_sub (a := σ.1 28) (b := 1) (by omega) (by omega); have h1 := hI.1; have e1 := ti_add (a := x2) (b := 1) (by omega) (by omega); omega)) rfl dX8_reply_65 ?_
            refine wd_iinc (v := x2 + 1) C [(2, .int (x2 + 1)), (0, .ref (ad 0)), (1, .int (σ.2.2 5 (0 : Int32).toNatClampNeg))] dX8_reply_66 2 rfl (by rfl) (by decide) rfl ?_
            refine wd_goto C 44 dX8_reply_69 (by decide) ?_
            have eL := hE
            rw [p_X8_reply_l2, if_neg c_49] at eL
            exact wd_lv [1, 2, 0] _ rfl (ih (sa s 5 (upd (s.2.2 5) (x2 : Int32).toNatClampNeg (s.2.2 5 (x2 + 1 : Int32).toNatClampNeg))) (x2 + 1) eL (by have q : ¬ (s.1 28).toInt ≤ x2.toInt := (fun z => c_49 (ti_le.mpr z)); rw [hI.2.2] at q; have q2 : ¬ (σ.1 28 - 1).toInt ≤ x2.toInt := q; have w := hM.2.2.2.2.2.2.2.1.2; have w0 := hM.2.2.2.2.2.2.2.1.1; have z1 : (1 : Int32).toInt = 1 := (by decide); have e2 := ti_sub (a := σ.1 28) (b := 1) (by omega) (by omega); have h1 := hI.1; have e1 := ti_add (a := x2) (b := 1) (by omega) (by omega); have h2 := hI.2.1; exact ⟨by omega, by omega, hI.2.2⟩))
      exact wd_lv [2, 1, 0] _ rfl (L_44 64 (si (si σ 39 (b2i (p_X8_reply_t1 σ))) 28 ((σ.1 28) - 1)) 0 rfl (⟨by decide, by decide, rfl⟩))
    · refine wd_iconst (v := 0) C dX8_reply_23 (by decide) ?_
      have e9 : p_X8_reply σ = (si σ 39 (b2i (p_X8_reply_t1 σ)), 0) := by unfold p_X8_reply; rw [if_neg c_20]
      exact hret _ _ _ _ (by rw [e9]) (by rw [e9]) dX8_reply_24
  refine wd_if_le C 12 dX8_reply_5 (by decide) (fun c_5 => ?_) (fun c_5 => ?_)
  · refine wd_iconst (v := 1) C dX8_reply_12 (by decide) ?_
    have ej_0 : p_X8_reply_t1 σ = true := by unfold p_X8_reply_t1; rw [if_pos c_5]
    rw [ej_0] at J_5
    exact wd_lv [0] _ rfl J_5
  · refine wd_iconst (v := 0) C dX8_reply_8 (by decide) ?_
    refine wd_goto C 13 dX8_reply_9 (by decide) ?_
    have ej_0 : p_X8_reply_t1 σ = false := by unfold p_X8_reply_t1; rw [if_neg c_5]
    rw [ej_0] at J_5
    exact wd_lv [0] _ rfl J_5
def p_X8_title_t1 (σ : St) (p1 : Int32) : Int32 := (if p1 < 0 then (-1) else (if σ.1 31 ≤ p1 then (-1) else σ.2.2 6 (p1 : Int32).toNatClampNeg))
def p_X8_title (σ : St) (p1 : Int32) : St × Int32 := (si σ 39 0, (p_X8_title_t1 σ p1))
set_option maxHeartbeats 4000000 in
set_option maxRecDepth 100000 in
theorem c_X8_title (l : Launch) (K : KX) (ad : Nat → Nat) (σ : St) (p1 : Int32) (hM : OkM σ) : Mt l K yX8_title cX8_title 2 (some .int) { frames := 0, cells := 0, slots := 0, locals := 0 } [.ref (ad 0), .int p1] (WdM K ad σ) (some (.int (p_X8_title σ p1).2)) (WdM K ad (p_X8_title σ p1).1) := by
  refine Mt.i (by decide +kernel) (Nat.le_of_ble_eq_true rfl) (fun X C hret => ?_)
  show WD X K 2 0 0 (WdM K ad σ) [(0, .ref (ad 0)), (1, .int p1)] 0 []
  refine wd_aload_n C dX8_title_0 rfl 0 rfl ?_
  refine wd_iconst (v := 0) C dX8_title_1 (by decide) ?_
  refine pfM_0_39 C tw_858 0 dX8_title_2 ?_
  refine wd_iload_n C dX8_title_5 rfl 1 rfl ?_
  have J_6 : WD X K 2 0 0 (WdM K ad (si σ 39 0)) [(0, .ref (ad 0)), (1, .int p1)] 27 [.int (p_X8_title_t1 σ p1)] := by
    have e9 : p_X8_title σ p1 = (si σ 39 0, (p_X8_title_t1 σ p1)) := by rfl
    exact hret _ _ _ _ (by rw [e9]) (by rw [e9]) dX8_title_27
  refine wd_if_lt C 26 dX8_title_6 (by decide) (fun c_6 => ?_) (fun c_6 => ?_)
  · refine wd_iconst (v := (-1)) C dX8_title_26 (by decide) ?_
    have ej_0 : p_X8_title_t1 σ p1 = (-1) := by unfold p_X8_title_t1; rw [if_pos c_6]
    rw [ej_0] at J_6
    exact wd_lv [0, 1] _ rfl J_6
  · refine wd_iload_n C dX8_title_9 rfl 1 rfl ?_
    refine wd_aload_n C dX8_title_10 rfl 0 rfl ?_
    refine gfM_0_31 (x := σ.1 31) C tw_850 rfl dX8_title_11 ?_
    refine wd_icmp_ge C 26 dX8_title_14 (by decide) (fun c_14 => ?_) (fun c_14 => ?_)
    · refine wd_iconst (v := (-1)) C dX8_title_26 (by decide) ?_
      have ej_0 : p_X8_title_t1 σ p1 = (-1) := by unfold p_X8_title_t1; rw [if_neg c_6, if_pos c_14]
      rw [ej_0] at J_6
      exact wd_lv [0, 1] _ rfl J_6
    · refine wd_aload_n C dX8_title_17 rfl 0 rfl ?_
      refine gfM_0_29 C tw_848 dX8_title_18 ?_
      refine wd_iload_n C dX8_title_21 rfl 1 rfl ?_
      refine alM_7 (x := σ.2.2 6 (p1 : Int32).toNatClampNeg) C (vp_in_iff.mpr (by have h0 := c_6; have h1 := c_14; rw [ti_lt] at h0; rw [ti_le] at h1; have z : (0 : Int32).toInt = 0 := (by decide); have w := hM.2.2.2.2.2.2.2.2.1.2; omega)) rfl dX8_title_22 ?_
      refine wd_goto C 27 dX8_title_23 (by decide) ?_
      have ej_0 : p_X8_title_t1 σ p1 = σ.2.2 6 (p1 : Int32).toNatClampNeg := by unfold p_X8_title_t1; rw [if_neg c_6, if_neg c_14]
      rw [ej_0] at J_6
      exact wd_lv [0, 1] _ rfl J_6
