theorem a4_takeFurther (σ : St) (b : Int32) : (p_X7_takeFurther σ b).2.2 4 = σ.2.2 4 := by
  simp only [p_X7_takeFurther, p_X7_takeFurther_s1, ite_a, a4_print, a4_ladd, ite_self]
theorem a4_takeInGround (σ : St) (b : Int32) : (p_X7_takeInGround σ b).2.2 4 = σ.2.2 4 := by
  simp only [p_X7_takeInGround, p_X7_takeInGround_s1, ite_a, a4_print, a4_lbegin, ite_self]
theorem a4_control (σ : St) (b : Int32) : (p_X7_control σ b).2.2 4 = σ.2.2 4 := by
  simp only [p_X7_control, p_X7_control_s1, ite_a, si_a, a4_moveLeft, a4_moveToTabStop, a4_feedRow, a4_moveToColumn, ite_self]
theorem a4_takeInTitle (σ : St) (b : Int32) : (p_X7_takeInTitle σ b).2.2 4 = σ.2.2 4 := by
  simp only [p_X7_takeInTitle, p_X7_takeInTitle_s1, ite_a, si_a, a4_tcopy, a4_tadd, ite_self]
theorem okn_ite {c : Prop} [Decidable c] {a b : St} (h1 : c → Okn a) (h2 : ¬ c → Okn b) : Okn (if c then a else b) := by
  by_cases h : c
  · rw [if_pos h]; exact h1 h
  · rw [if_neg h]; exact h2 h
theorem okn_si {σ : St} (k : Nat) (v : Int32) (h : Okn σ) : Okn (si σ k v) := okn_of (si_a σ k v 4) h
theorem okn_sb {σ : St} (k : Nat) (v : Bool) (h : Okn σ) : Okn (sb σ k v) := okn_of (sb_a σ k v 4) h
theorem okn_reset (σ : St) : Okn (p_X7_reset σ) := by
  unfold p_X7_reset
  refine okn_si _ _ ?_
  refine okn_of (a4_rclear _) ?_
  refine okn_of (a4_tc15 _) ?_
  refine okn_of (a4_tc13 _) ?_
  exact okn_begin _
theorem okn_takeInEscape (σ : St) (b : Int32) (h : Okn σ) : Okn (p_X7_takeInEscape σ b) := by
  unfold p_X7_takeInEscape p_X7_takeInEscape_s2
  have h1 : Okn (si σ 0 (p_X7_takeInEscape_t1 σ b)) := okn_si _ _ h
  generalize si σ 0 (p_X7_takeInEscape_t1 σ b) = τ at h1 ⊢
  refine okn_ite (fun _ => okn_of (a4_save _) h1) fun _ => ?_
  refine okn_ite (fun _ => okn_of (a4_restore _) h1) fun _ => ?_
  refine okn_ite (fun _ => okn_of (a4_feedRow _) h1) fun _ => ?_
  refine okn_ite (fun _ => okn_of (a4_feedRow _) (okn_of (a4_moveToColumn _ _) h1)) fun _ => ?_
  refine okn_ite (fun _ => okn_of (a4_setTabStop _) h1) fun _ => ?_
  refine okn_ite (fun _ => okn_of (a4_backRow _) h1) fun _ => ?_
  refine okn_ite (fun _ => okn_si _ _ (okn_begin _)) fun _ => ?_
  refine okn_ite (fun _ => okn_si _ _ (okn_of (a4_tc15 _) h1)) fun _ => ?_
  exact okn_ite (fun _ => okn_reset _) fun _ => h1
theorem okn_takeBeforeEnd (σ : St) (b : Int32) (h : Okn σ) : Okn (p_X7_takeBeforeEnd σ b) := by
  unfold p_X7_takeBeforeEnd p_X7_takeBeforeEnd_s1
  have hx : Okn (q_X2_next_N σ) := okn_of (a4_next σ) h
  have hy : Okn (if b = 63 then (if (q_X2_isUntouched_N σ) = true then sb σ 7 true else si σ 0 3) else si σ 0 3) := okn_ite (fun _ => okn_ite (fun _ => okn_sb _ _ h) fun _ => okn_si _ _ h) fun _ => okn_si _ _ h
  have z48 : (48 : Int32).toInt = 48 := by decide
  have z57 : (57 : Int32).toInt = 57 := by decide
  refine okn_ite (fun _ => h) fun _ => ?_
  refine okn_ite (fun _ => okn_ite (fun _ => hx) fun _ => hy) fun h1 => ?_
  refine okn_ite (fun _ => okn_ite (fun _ => hx) fun _ => hy) fun h2 => ?_
  rw [ti_lt] at h1 h2
  exact okn_digit σ _ (by rw [ti_sub (by omega) (by omega)]; omega) (by rw [ti_sub (by omega) (by omega)]; omega) h
theorem okn_take_s2 (σ : St) (b : Int32) (h : Okn (p_X7_take_s1 σ b)) : Okn (p_X7_take_s2 σ b) := by
  unfold p_X7_take_s2
  generalize p_X7_take_s1 σ b = τ at h ⊢
  refine okn_ite (fun _ => okn_takeInEscape _ _ h) fun _ => ?_
  refine okn_ite (fun _ => okn_of (a4_takeInTitle _ _) h) fun _ => ?_
  refine okn_ite (fun _ => ?_) fun _ => okn_takeBeforeEnd _ _ h
  exact okn_ite (fun _ => okn_of (a4_doSequence _ _) h) fun _ => okn_si _ _ h
theorem okn_take (σ : St) (b : Int32) (h : Okn σ) : Okn (p_X7_take σ b) := by
  have hs : Okn (p_X7_take_s1 σ b) := okn_of (a4_take_s1 σ b) h
  have h2 := okn_take_s2 σ b hs
  have hr : Okn (p_X7_take_r1 σ b) := by
    unfold p_X7_take_r1
    generalize p_X7_take_s2 σ b = ρ at h2 ⊢
    generalize p_X7_take_s1 σ b = τ at hs ⊢
    refine okn_ite (fun _ => okn_si _ _ hs) fun _ => ?_
    refine okn_ite (fun _ => okn_si _ _ hs) fun _ => ?_
    refine okn_ite (fun _ => okn_si _ _ hs) fun _ => ?_
    refine okn_ite (fun _ => ?_) fun _ => okn_ite (fun _ => ?_) fun _ => okn_of (a4_control _ _) hs
    · exact okn_ite (fun _ => okn_of (a4_takeInGround _ _) hs) fun _ => okn_ite (fun _ => h2) fun _ => hs
    · exact okn_ite (fun _ => okn_of (a4_takeInGround _ _) hs) fun _ => okn_ite (fun _ => h2) fun _ => hs
  unfold p_X7_take
  generalize p_X7_take_r1 σ b = ρ at hr ⊢
  refine okn_ite (fun _ => hr) fun _ => ?_
  refine okn_ite (fun _ => hr) fun _ => ?_
  exact okn_ite (fun _ => hr) fun _ => okn_of (a4_takeFurther _ _) h
def p_X7_feed (σ : St) (p1 : Int32) : St × Bool := (if p1 < 0 then (σ, false) else (if p1 ≤ 255 then ((p_X7_take σ p1), true) else (σ, false)))
set_option maxHeartbeats 4000000 in
set_option maxRecDepth 100000 in
theorem c_X7_feed (l : Launch) (K : KX) (ad : Nat → Nat) (σ : St) (p1 : Int32) (hO : Okn σ) : Mt l K yX7_feed cX7_feed 2 (some .boolean) { frames := 6, cells := 0, slots := 0, locals := 135 } [.ref (ad 0), .int p1] (WdD K ad σ) (some (.int (b2i (p_X7_feed σ p1).2))) (WdD K ad (p_X7_feed σ p1).1) := by
  refine Mt.z (by decide +kernel) (Nat.le_of_ble_eq_true rfl) (fun X C hret => ?_)
  show WD X K 2 0 0 (WdD K ad σ) [(0, .ref (ad 0)), (1, .int p1)] 0 []
  refine wd_iload_n C dX7_feed_0 rfl 1 rfl ?_
  refine wd_if_lt C 11 dX7_feed_1 (by decide) (fun c_1 => ?_) (fun c_1 => ?_)
  · refine wd_iconst (v := 0) C dX7_feed_11 (by decide) ?_
    have e9 : p_X7_feed σ p1 = (σ, false) := by unfold p_X7_feed; rw [if_pos c_1]
    exact hret false _ _ _ (by rw [e9]) (by rw [e9]) dX7_feed_12
  · refine wd_iload_n C dX7_feed_4 rfl 1 rfl ?_
    refine wd_sipush (v := 255) C dX7_feed_5 (by decide) ?_
    refine wd_icmp_le C 13 dX7_feed_8 (by decide) (fun c_8 => ?_) (fun c_8 => ?_)
    · refine wd_aload_n C dX7_feed_13 rfl 0 rfl ?_
      refine wd_iload_n C dX7_feed_14 rfl 1 rfl ?_
      refine wd_callV C 1 (c_X7_take _ K ad σ p1 (hO)) 0 (wcD_0 K ad _) rfl rfl tw_308 tw_310 tw_1 tw_64 tw_311 (by decide +kernel) rfl (by decide) (Nat.le_of_ble_eq_true rfl) dX7_feed_15 _ rfl ?_
      refine wd_iconst (v := 1) C dX7_feed_18 (by decide) ?_
      have e9 : p_X7_feed σ p1 = ((p_X7_take σ p1), true) := by unfold p_X7_feed; rw [if_neg c_1, if_pos c_8]
      exact hret true _ _ _ (by rw [e9]) (by rw [e9]) dX7_feed_19
    · refine wd_iconst (v := 0) C dX7_feed_11 (by decide) ?_
      have e9 : p_X7_feed σ p1 = (σ, false) := by unfold p_X7_feed; rw [if_neg c_1, if_neg c_8]
      exact hret false _ _ _ (by rw [e9]) (by rw [e9]) dX7_feed_12
def p_X7_feedAll (σ : St) (p1 : Int64) : St × Int32 := (if (((p1.toUInt64 >>> ((8 * 0 : Int32).toInt64.toUInt64 &&& Int64.toUInt64 63)).toInt64).toInt32) &&& 255 = 0 then (σ, 0) else (if (((p1.toUInt64 >>> ((8 * 1 : Int32).toInt64.toUInt64 &&& Int64.toUInt64 63)).toInt64).toInt32) &&& 255 = 0 then ((p_X7_take σ ((((p1.toUInt64 >>> ((8 * 0 : Int32).toInt64.toUInt64 &&& Int64.toUInt64 63)).toInt64).toInt32) &&& 255)), 1) else (if (((p1.toUInt64 >>> ((8 * 2 : Int32).toInt64.toUInt64 &&& Int64.toUInt64 63)).toInt64).toInt32) &&& 255 = 0 then ((p_X7_take ((p_X7_take σ ((((p1.toUInt64 >>> ((8 * 0 : Int32).toInt64.toUInt64 &&& Int64.toUInt64 63)).toInt64).toInt32) &&& 255))) ((((p1.toUInt64 >>> ((8 * 1 : Int32).toInt64.toUInt64 &&& Int64.toUInt64 63)).toInt64).toInt32) &&& 255)), 2) else (if (((p1.toUInt64 >>> ((8 * 3 : Int32).toInt64.toUInt64 &&& Int64.toUInt64 63)).toInt64).toInt32) &&& 255 = 0 then ((p_X7_take ((p_X7_take ((p_X7_take σ ((((p1.toUInt64 >>> ((8 * 0 : Int32).toInt64.toUInt64 &&& Int64.toUInt64 63)).toInt64).toInt32) &&& 255))) ((((p1.toUInt64 >>> ((8 * 1 : Int32).toInt64.toUInt64 &&& Int64.toUInt64 63)).toInt64).toInt32) &&& 255))) ((((p1.toUInt64 >>> ((8 * 2 : Int32).toInt64.toUInt64 &&& Int64.toUInt64 63)).toInt64).toInt32) &&& 255)), 3) else (if (((p1.toUInt64 >>> ((8 * 4 : Int32).toInt64.toUInt64 &&& Int64.toUInt64 63)).toInt64).toInt32) &&& 255 = 0 then ((p_X7_take ((p_X7_take ((p_X7_take ((p_X7_take σ ((((p1.toUInt64 >>> ((8 * 0 : Int32).toInt64.toUInt64 &&& Int64.toUInt64 63)).toInt64).toInt32) &&& 255))) ((((p1.toUInt64 >>> ((8 * 1 : Int32).toInt64.toUInt64 &&& Int64.toUInt64 63)).toInt64).toInt32) &&& 255))) ((((p1.toUInt64 >>> ((8 * 2 : Int32).toInt64.toUInt64 &&& Int64.toUInt64 63)).toInt64).toInt32) &&& 255))) ((((p1.toUInt64 >>> ((8 * 3 : Int32).toInt64.toUInt64 &&& Int64.toUInt64 63)).toInt64).toInt32) &&& 255)), 4) else (if (((p1.toUInt64 >>> ((8 * 5 : Int32).toInt64.toUInt64 &&& Int64.toUInt64 63)).toInt64).toInt32) &&& 255 = 0 then ((p_X7_take ((p_X7_take ((p_X7_take ((p_X7_take ((p_X7_take σ ((((p1.toUInt64 >>> ((8 * 0 : Int32).toInt64.toUInt64 &&& Int64.toUInt64 63)).toInt64).toInt32) &&& 255))) ((((p1.toUInt64 >>> ((8 * 1 : Int32).toInt64.toUInt64 &&& Int64.toUInt64 63)).toInt64).toInt32) &&& 255))) ((((p1.toUInt64 >>> ((8 * 2 : Int32).toInt64.toUInt64 &&& Int64.toUInt64 63)).toInt64).toInt32) &&& 255))) ((((p1.toUInt64 >>> ((8 * 3 : Int32).toInt64.toUInt64 &&& Int64.toUInt64 63)).toInt64).toInt32) &&& 255))) ((((p1.toUInt64 >>> ((8 * 4 : Int32).toInt64.toUInt64 &&& Int64.toUInt64 63)).toInt64).toInt32) &&& 255)), 5) else (if (((p1.toUInt64 >>> ((8 * 6 : Int32).toInt64.toUInt64 &&& Int64.toUInt64 63)).toInt64).toInt32) &&& 255 = 0 then ((p_X7_take ((p_X7_take ((p_X7_take ((p_X7_take ((p_X7_take ((p_X7_take σ ((((p1.toUInt64 >>> ((8 * 0 : Int32).toInt64.toUInt64 &&& Int64.toUInt64 63)).toInt64).toInt32) &&& 255))) ((((p1.toUInt64 >>> ((8 * 1 : Int32).toInt64.toUInt64 &&& Int64.toUInt64 63)).toInt64).toInt32) &&& 255))) ((((p1.toUInt64 >>> ((8 * 2 : Int32).toInt64.toUInt64 &&& Int64.toUInt64 63)).toInt64).toInt32) &&& 255))) ((((p1.toUInt64 >>> ((8 * 3 : Int32).toInt64.toUInt64 &&& Int64.toUInt64 63)).toInt64).toInt32) &&& 255))) ((((p1.toUInt64 >>> ((8 * 4 : Int32).toInt64.toUInt64 &&& Int64.toUInt64 63)).toInt64).toInt32) &&& 255))) ((((p1.toUInt64 >>> ((8 * 5 : Int32).toInt64.toUInt64 &&& Int64.toUInt64 63)).toInt64).toInt32) &&& 255)), 6) else (if (((p1.toUInt64 >>> ((8 * 7 : Int32).toInt64.toUInt64 &&& Int64.toUInt64 63)).toInt64).toInt32) &&& 255 = 0 then ((p_X7_take ((p_X7_take ((p_X7_take ((p_X7_take ((p_X7_take ((p_X7_take ((p_X7_take σ ((((p1.toUInt64 >>> ((8 * 0 : Int32).toInt64.toUInt64 &&& Int64.toUInt64 63)).toInt64).toInt32) &&& 255))) ((((p1.toUInt64 >>> ((8 * 1 : Int32).toInt64.toUInt64 &&& Int64.toUInt64 63)).toInt64).toInt32) &&& 255))) ((((p1.toUInt64 >>> ((8 * 2 : Int32).toInt64.toUInt64 &&& Int64.toUInt64 63)).toInt64).toInt32) &&& 255))) ((((p1.toUInt64 >>> ((8 * 3 : Int32).toInt64.toUInt64 &&& Int64.toUInt64 63)).toInt64).toInt32) &&& 255))) ((((p1.toUInt64 >>> ((8 * 4 : Int32).toInt64.toUInt64 &&& Int64.toUInt64 63)).toInt64).toInt32) &&& 255))) ((((p1.toUInt64 >>> ((8 * 5 : Int32).toInt64.toUInt64 &&& Int64.toUInt64 63)).toInt64).toInt32) &&& 255))) ((((p1.toUInt64 >>> ((8 * 6 : Int32).toInt64.toUInt64 &&& Int64.toUInt64 63)).toInt64).toInt32) &&& 255)), 7) else ((p_X7_take ((p_X7_take ((p_X7_take ((p_X7_take ((p_X7_take ((p_X7_take ((p_X7_take ((p_X7_take σ ((((p1.toUInt64 >>> ((8 * 0 : Int32).toInt64.toUInt64 &&& Int64.toUInt64 63)).toInt64).toInt32) &&& 255))) ((((p1.toUInt64 >>> ((8 * 1 : Int32).toInt64.toUInt64 &&& Int64.toUInt64 63)).toInt64).toInt32) &&& 255))) ((((p1.toUInt64 >>> ((8 * 2 : Int32).toInt64.toUInt64 &&& Int64.toUInt64 63)).toInt64).toInt32) &&& 255))) ((((p1.toUInt64 >>> ((8 * 3 : Int32).toInt64.toUInt64 &&& Int64.toUInt64 63)).toInt64).toInt32) &&& 255))) ((((p1.toUInt64 >>> ((8 * 4 : Int32).toInt64.toUInt64 &&& Int64.toUInt64 63)).toInt64).toInt32) &&& 255))) ((((p1.toUInt64 >>> ((8 * 5 : Int32).toInt64.toUInt64 &&& Int64.toUInt64 63)).toInt64).toInt32) &&& 255))) ((((p1.toUInt64 >>> ((8 * 6 : Int32).toInt64.toUInt64 &&& Int64.toUInt64 63)).toInt64).toInt32) &&& 255))) ((((p1.toUInt64 >>> ((8 * 7 : Int32).toInt64.toUInt64 &&& Int64.toUInt64 63)).toInt64).toInt32) &&& 255)), 8)))))))))
set_option maxHeartbeats 4000000 in
set_option maxRecDepth 100000 in
theorem c_X7_feedAll (l : Launch) (K : KX) (ad : Nat → Nat) (σ : St) (p1 : Int64) (hO : Okn σ) : Mt l K yX7_feedAll cX7_feedAll 6 (some .int) { frames := 6, cells := 0, slots := 0, locals := 135 } [.ref (ad 0), .long p1] (WdD K ad σ) (some (.int (p_X7_feedAll σ p1).2)) (WdD K ad (p_X7_feedAll σ p1).1) := by
  refine Mt.i (by decide +kernel) (Nat.le_of_ble_eq_true rfl) (fun X C hret => ?_)
  show WD X K 6 0 0 (WdD K ad σ) [(0, .ref (ad 0)), (1, .long p1)] 0 []
  refine wd_iconst (v := 0) C dX7_feedAll_0 (by decide) ?_
  refine wd_istore_n C [(3, .int 0), (0, .ref (ad 0)), (1, .long p1)] dX7_feedAll_1 rfl (by decide) rfl ?_
  refine wd_iconst (v := 0) C dX7_feedAll_2 (by decide) ?_
  refine wd_istore C [(4, .int 0), (3, .int 0), (0, .ref (ad 0)), (1, .long p1)] dX7_feedAll_3 (by decide) rfl ?_
  refine wd_iload C dX7_feedAll_5 0 rfl ?_
  refine wd_bipush (v := 8) C dX7_feedAll_7 (by decide) ?_
  refine wd_icmp_ge C 48 dX7_feedAll_9 (by decide) (fun c_9 => ?_) (fun c_9 => ?_)
  · exact absurd c_9 (by decide)
  · refine wd_lload_n C dX7_feedAll_12 rfl 3 rfl ?_
    refine wd_bipush (v := 8) C dX7_feedAll_13 (by decide) ?_
    refine wd_iload C dX7_feedAll_15 0 rfl ?_
    refine wd_imul C dX7_feedAll_17 ?_
    refine wd_lushr C dX7_feedAll_18 ?_
    refine wd_l2i C dX7_feedAll_19 ?_
    refine wd_sipush (v := 255) C dX7_feedAll_20 (by decide) ?_
    refine wd_iand C dX7_feedAll_23 ?_
    refine wd_istore C [(5, .int ((((p1.toUInt64 >>> ((8 * 0 : Int32).toInt64.toUInt64 &&& Int64.toUInt64 63)).toInt64).toInt32) &&& 255)), (4, .int 0), (3, .int 0), (0, .ref (ad 0)), (1, .long p1)] dX7_feedAll_24 (by decide) rfl ?_
    refine wd_iload C dX7_feedAll_26 0 rfl ?_
    refine wd_if_ne C 33 dX7_feedAll_28 (by decide) (fun c_28 => ?_) (fun c_28 => ?_)
    · refine wd_aload_n C dX7_feedAll_33 rfl 3 rfl ?_
      refine wd_iload C dX7_feedAll_34 0 rfl ?_
      refine wd_callV C 1 (c_X7_take _ K ad σ ((((p1.toUInt64 >>> ((8 * 0 : Int32).toInt64.toUInt64 &&& Int64.toUInt64 63)).toInt64).toInt32) &&& 255) (hO)) 0 (wcD_0 K ad _) rfl rfl tw_308 tw_310 tw_1 tw_64 tw_311 (by decide +kernel) rfl (by decide) (Nat.le_of_ble_eq_true rfl) dX7_feedAll_36 _ rfl ?_
      refine wd_iinc (v := 1) C [(3, .int 1), (5, .int ((((p1.toUInt64 >>> ((8 * 0 : Int32).toInt64.toUInt64 &&& Int64.toUInt64 63)).toInt64).toInt32) &&& 255)), (4, .int 0), (0, .ref (ad 0)), (1, .long p1)] dX7_feedAll_39 2 rfl (by decide) (by decide) rfl ?_
      refine wd_iinc (v := 1) C [(4, .int 1), (3, .int 1), (5, .int ((((p1.toUInt64 >>> ((8 * 0 : Int32).toInt64.toUInt64 &&& Int64.toUInt64 63)).toInt64).toInt32) &&& 255)), (0, .ref (ad 0)), (1, .long p1)] dX7_feedAll_42 2 rfl (by decide) (by decide) rfl ?_
      refine wd_goto C 5 dX7_feedAll_45 (by decide) ?_
      refine wd_iload C dX7_feedAll_5 0 rfl ?_
      refine wd_bipush (v := 8) C dX7_feedAll_7 (by decide) ?_
      refine wd_icmp_ge C 48 dX7_feedAll_9 (by decide) (fun c_9 => ?_) (fun c_9 => ?_)
      · exact absurd c_9 (by decide)
      · refine wd_lload_n C dX7_feedAll_12 rfl 4 rfl ?_
        refine wd_bipush (v := 8) C dX7_feedAll_13 (by decide) ?_
        refine wd_iload C dX7_feedAll_15 0 rfl ?_
        refine wd_imul C dX7_feedAll_17 ?_
        refine wd_lushr C dX7_feedAll_18 ?_
        refine wd_l2i C dX7_feedAll_19 ?_
        refine wd_sipush (v := 255) C dX7_feedAll_20 (by decide) ?_
        refine wd_iand C dX7_feedAll_23 ?_
        refine wd_istore C [(5, .int ((((p1.toUInt64 >>> ((8 * 1 : Int32).toInt64.toUInt64 &&& Int64.toUInt64 63)).toInt64).toInt32) &&& 255)), (4, .int 1), (3, .int 1), (0, .ref (ad 0)), (1, .long p1)] dX7_feedAll_24 (by decide) rfl ?_
        refine wd_iload C dX7_feedAll_26 0 rfl ?_
        refine wd_if_ne C 33 dX7_feedAll_28 (by decide) (fun c_28u1 => ?_) (fun c_28u1 => ?_)
        · refine wd_aload_n C dX7_feedAll_33 rfl 3 rfl ?_
          refine wd_iload C dX7_feedAll_34 0 rfl ?_
          refine wd_callV C 1 (c_X7_take _ K ad ((p_X7_take σ ((((p1.toUInt64 >>> ((8 * 0 : Int32).toInt64.toUInt64 &&& Int64.toUInt64 63)).toInt64).toInt32) &&& 255))) ((((p1.toUInt64 >>> ((8 * 1 : Int32).toInt64.toUInt64 &&& Int64.toUInt64 63)).toInt64).toInt32) &&& 255) (okn_take _ _ (hO))) 0 (wcD_0 K ad _) rfl rfl tw_308 tw_310 tw_1 tw_64 tw_311 (by decide +kernel) rfl (by decide) (Nat.le_of_ble_eq_true rfl) dX7_feedAll_36 _ rfl ?_
          refine wd_iinc (v := 2) C [(3, .int 2), (5, .int ((((p1.toUInt64 >>> ((8 * 1 : Int32).toInt64.toUInt64 &&& Int64.toUInt64 63)).toInt64).toInt32) &&& 255)), (4, .int 1), (0, .ref (ad 0)), (1, .long p1)] dX7_feedAll_39 2 rfl (by decide) (by decide) rfl ?_
          refine wd_iinc (v := 2) C [(4, .int 2), (3, .int 2), (5, .int ((((p1.toUInt64 >>> ((8 * 1 : Int32).toInt64.toUInt64 &&& Int64.toUInt64 63)).toInt64).toInt32) &&& 255)), (0, .ref (ad 0)), (1, .long p1)] dX7_feedAll_42 2 rfl (by decide) (by decide) rfl ?_
          refine wd_goto C 5 dX7_feedAll_45 (by decide) ?_
          refine wd_iload C dX7_feedAll_5 0 rfl ?_
          refine wd_bipush (v := 8) C dX7_feedAll_7 (by decide) ?_
          refine wd_icmp_ge C 48 dX7_feedAll_9 (by decide) (fun c_9 => ?_) (fun c_9 => ?_)
          · exact absurd c_9 (by decide)
          · refine wd_lload_n C dX7_feedAll_12 rfl 4 rfl ?_
            refine wd_bipush (v := 8) C dX7_feedAll_13 (by decide) ?_
            refine wd_iload C dX7_feedAll_15 0 rfl ?_
            refine wd_imul C dX7_feedAll_17 ?_
            refine wd_lushr C dX7_feedAll_18 ?_
            refine wd_l2i C dX7_feedAll_19 ?_
            refine wd_sipush (v := 255) C dX7_feedAll_20 (by decide) ?_
            refine wd_iand C dX7_feedAll_23 ?_
            refine wd_istore C [(5, .int ((((p1.toUInt64 >>> ((8 * 2 : Int32).toInt64.toUInt64 &&& Int64.toUInt64 63)).toInt64).toInt32) &&& 255)), (4, .int 2), (3, .int 2), (0, .ref (ad 0)), (1, .long p1)] dX7_feedAll_24 (by decide) rfl ?_
            refine wd_iload C dX7_feedAll_26 0 rfl ?_
            refine wd_if_ne C 33 dX7_feedAll_28 (by decide) (fun c_28u2 => ?_) (fun c_28u2 => ?_)
            · refine wd_aload_n C dX7_feedAll_33 rfl 3 rfl ?_
              refine wd_iload C dX7_feedAll_34 0 rfl ?_
              refine wd_callV C 1 (c_X7_take _ K ad ((p_X7_take ((p_X7_take σ ((((p1.toUInt64 >>> ((8 * 0 : Int32).toInt64.toUInt64 &&& Int64.toUInt64 63)).toInt64).toInt32) &&& 255))) ((((p1.toUInt64 >>> ((8 * 1 : Int32).toInt64.toUInt64 &&& Int64.toUInt64 63)).toInt64).toInt32) &&& 255))) ((((p1.toUInt64 >>> ((8 * 2 : Int32).toInt64.toUInt64 &&& Int64.toUInt64 63)).toInt64).toInt32) &&& 255) (okn_take _ _ (okn_take _ _ (hO)))) 0 (wcD_0 K ad _) rfl rfl tw_308 tw_310 tw_1 tw_64 tw_311 (by decide +kernel) rfl (by decide) (Nat.le_of_ble_eq_true rfl) dX7_feedAll_36 _ rfl ?_
              refine wd_iinc (v := 3) C [(3, .int 3), (5, .int ((((p1.toUInt64 >>> ((8 * 2 : Int32).toInt64.toUInt64 &&& Int64.toUInt64 63)).toInt64).toInt32) &&& 255)), (4, .int 2), (0, .ref (ad 0)), (1, .long p1)] dX7_feedAll_39 2 rfl (by decide) (by decide) rfl ?_
              refine wd_iinc (v := 3) C [(4, .int 3), (3, .int 3), (5, .int ((((p1.toUInt64 >>> ((8 * 2 : Int32).toInt64.toUInt64 &&& Int64.toUInt64 63)).toInt64).toInt32) &&& 255)), (0, .ref (ad 0)), (1, .long p1)] dX7_feedAll_42 2 rfl (by decide) (by decide) rfl ?_
              refine wd_goto C 5 dX7_feedAll_45 (by decide) ?_
              refine wd_iload C dX7_feedAll_5 0 rfl ?_
              refine wd_bipush (v := 8) C dX7_feedAll_7 (by decide) ?_
              refine wd_icmp_ge C 48 dX7_feedAll_9 (by decide) (fun c_9 => ?_) (fun c_9 => ?_)
              · exact absurd c_9 (by decide)
              · refine wd_lload_n C dX7_feedAll_12 rfl 4 rfl ?_
                refine wd_bipush (v := 8) C dX7_feedAll_13 (by decide) ?_
                refine wd_iload C dX7_feedAll_15 0 rfl ?_
                refine wd_imul C dX7_feedAll_17 ?_
                refine wd_lushr C dX7_feedAll_18 ?_
                refine wd_l2i C dX7_feedAll_19 ?_
                refine wd_sipush (v := 255) C dX7_feedAll_20 (by decide) ?_
                refine wd_iand C dX7_feedAll_23 ?_
                refine wd_istore C [(5, .int ((((p1.toUInt64 >>> ((8 * 3 : Int32).toInt64.toUInt64 &&& Int64.toUInt64 63)).toInt64).toInt32) &&& 255)), (4, .int 3), (3, .int 3), (0, .ref (ad 0)), (1, .long p1)] dX7_feedAll_24 (by decide) rfl ?_
                refine wd_iload C dX7_feedAll_26 0 rfl ?_
                refine wd_if_ne C 33 dX7_feedAll_28 (by decide) (fun c_28u3 => ?_) (fun c_28u3 => ?_)
                · refine wd_aload_n C dX7_feedAll_33 rfl 3 rfl ?_
                  refine wd_iload C dX7_feedAll_34 0 rfl ?_
                  refine wd_callV C 1 (c_X7_take _ K ad ((p_X7_take ((p_X7_take ((p_X7_take σ ((((p1.toUInt64 >>> ((8 * 0 : Int32).toInt64.toUInt64 &&& Int64.toUInt64 63)).toInt64).toInt32) &&& 255))) ((((p1.toUInt64 >>> ((8 * 1 : Int32).toInt64.toUInt64 &&& Int64.toUInt64 63)).toInt64).toInt32) &&& 255))) ((((p1.toUInt64 >>> ((8 * 2 : Int32).toInt64.toUInt64 &&& Int64.toUInt64 63)).toInt64).toInt32) &&& 255))) ((((p1.toUInt64 >>> ((8 * 3 : Int32).toInt64.toUInt64 &&& Int64.toUInt64 63)).toInt64).toInt32) &&& 255) (okn_take _ _ (okn_take _ _ (okn_take _ _ (hO))))) 0 (wcD_0 K ad _) rfl rfl tw_308 tw_310 tw_1 tw_64 tw_311 (by decide +kernel) rfl (by decide) (Nat.le_of_ble_eq_true rfl) dX7_feedAll_36 _ rfl ?_
                  refine wd_iinc (v := 4) C [(3, .int 4), (5, .int ((((p1.toUInt64 >>> ((8 * 3 : Int32).toInt64.toUInt64 &&& Int64.toUInt64 63)).toInt64).toInt32) &&& 255)), (4, .int 3), (0, .ref (ad 0)), (1, .long p1)] dX7_feedAll_39 2 rfl (by decide) (by decide) rfl ?_
                  refine wd_iinc (v := 4) C [(4, .int 4), (3, .int 4), (5, .int ((((p1.toUInt64 >>> ((8 * 3 : Int32).toInt64.toUInt64 &&& Int64.toUInt64 63)).toInt64).toInt32) &&& 255)), (0, .ref (ad 0)), (1, .long p1)] dX7_feedAll_42 2 rfl (by decide) (by decide) rfl ?_
                  refine wd_goto C 5 dX7_feedAll_45 (by decide) ?_
                  refine wd_iload C dX7_feedAll_5 0 rfl ?_
                  refine wd_bipush (v := 8) C dX7_feedAll_7 (by decide) ?_
                  refine wd_icmp_ge C 48 dX7_feedAll_9 (by decide) (fun c_9 => ?_) (fun c_9 => ?_)
                  · exact absurd c_9 (by decide)
                  · refine wd_lload_n C dX7_feedAll_12 rfl 4 rfl ?_
                    refine wd_bipush (v := 8) C dX7_feedAll_13 (by decide) ?_
                    refine wd_iload C dX7_feedAll_15 0 rfl ?_
                    refine wd_imul C dX7_feedAll_17 ?_
                    refine wd_lushr C dX7_feedAll_18 ?_
                    refine wd_l2i C dX7_feedAll_19 ?_
                    refine wd_sipush (v := 255) C dX7_feedAll_20 (by decide) ?_
                    refine wd_iand C dX7_feedAll_23 ?_
                    refine wd_istore C [(5, .int ((((p1.toUInt64 >>> ((8 * 4 : Int32).toInt64.toUInt64 &&& Int64.toUInt64 63)).toInt64).toInt32) &&& 255)), (4, .int 4), (3, .int 4), (0, .ref (ad 0)), (1, .long p1)] dX7_feedAll_24 (by decide) rfl ?_
                    refine wd_iload C dX7_feedAll_26 0 rfl ?_
                    refine wd_if_ne C 33 dX7_feedAll_28 (by decide) (fun c_28u4 => ?_) (fun c_28u4 => ?_)
                    · refine wd_aload_n C dX7_feedAll_33 rfl 3 rfl ?_
                      refine wd_iload C dX7_feedAll_34 0 rfl ?_
                      refine wd_callV C 1 (c_X7_take _ K ad ((p_X7_take ((p_X7_take ((p_X7_take ((p_X7_take σ ((((p1.toUInt64 >>> ((8 * 0 : Int32).toInt64.toUInt64 &&& Int64.toUInt64 63)).toInt64).toInt32) &&& 255))) ((((p1.toUInt64 >>> ((8 * 1 : Int32).toInt64.toUInt64 &&& Int64.toUInt64 63)).toInt64).toInt32) &&& 255))) ((((p1.toUInt64 >>> ((8 * 2 : Int32).toInt64.toUInt64 &&& Int64.toUInt64 63)).toInt64).toInt32) &&& 255))) ((((p1.toUInt64 >>> ((8 * 3 : Int32).toInt64.toUInt64 &&& Int64.toUInt64 63)).toInt64).toInt32) &&& 255))) ((((p1.toUInt64 >>> ((8 * 4 : Int32).toInt64.toUInt64 &&& Int64.toUInt64 63)).toInt64).toInt32) &&& 255) (okn_take _ _ (okn_take _ _ (okn_take _ _ (okn_take _ _ (hO)))))) 0 (wcD_0 K ad _) rfl rfl tw_308 tw_310 tw_1 tw_64 tw_311 (by decide +kernel) rfl (by decide) (Nat.le_of_ble_eq_true rfl) dX7_feedAll_36 _ rfl ?_
                      refine wd_iinc (v := 5) C [(3, .int 5), (5, .int ((((p1.toUInt64 >>> ((8 * 4 : Int32).toInt64.toUInt64 &&& Int64.toUInt64 63)).toInt64).toInt32) &&& 255)), (4, .int 4), (0, .ref (ad 0)), (1, .long p1)] dX7_feedAll_39 2 rfl (by decide) (by decide) rfl ?_
                      refine wd_iinc (v := 5) C [(4, .int 5), (3, .int 5), (5, .int ((((p1.toUInt64 >>> ((8 * 4 : Int32).toInt64.toUInt64 &&& Int64.toUInt64 63)).toInt64).toInt32) &&& 255)), (0, .ref (ad 0)), (1, .long p1)] dX7_feedAll_42 2 rfl (by decide) (by decide) rfl ?_
                      refine wd_goto C 5 dX7_feedAll_45 (by decide) ?_
                      refine wd_iload C dX7_feedAll_5 0 rfl ?_
                      refine wd_bipush (v := 8) C dX7_feedAll_7 (by decide) ?_
                      refine wd_icmp_ge C 48 dX7_feedAll_9 (by decide) (fun c_9 => ?_) (fun c_9 => ?_)
                      · exact absurd c_9 (by decide)
                      · refine wd_lload_n C dX7_feedAll_12 rfl 4 rfl ?_
                        refine wd_bipush (v := 8) C dX7_feedAll_13 (by decide) ?_
                        refine wd_iload C dX7_feedAll_15 0 rfl ?_
                        refine wd_imul C dX7_feedAll_17 ?_
                        refine wd_lushr C dX7_feedAll_18 ?_
                        refine wd_l2i C dX7_feedAll_19 ?_
                        refine wd_sipush (v := 255) C dX7_feedAll_20 (by decide) ?_
                        refine wd_iand C dX7_feedAll_23 ?_
                        refine wd_istore C [(5, .int ((((p1.toUInt64 >>> ((8 * 5 : Int32).toInt64.toUInt64 &&& Int64.toUInt64 63)).toInt64).toInt32) &&& 255)), (4, .int 5), (3, .int 5), (0, .ref (ad 0)), (1, .long p1)] dX7_feedAll_24 (by decide) rfl ?_
                        refine wd_iload C dX7_feedAll_26 0 rfl ?_
                        refine wd_if_ne C 33 dX7_feedAll_28 (by decide) (fun c_28u5 => ?_) (fun c_28u5 => ?_)
                        · refine wd_aload_n C dX7_feedAll_33 rfl 3 rfl ?_
                          refine wd_iload C dX7_feedAll_34 0 rfl ?_
                          refine wd_callV C 1 (c_X7_take _ K ad ((p_X7_take ((p_X7_take ((p_X7_take ((p_X7_take ((p_X7_take σ ((((p1.toUInt64 >>> ((8 * 0 : Int32).toInt64.toUInt64 &&& Int64.toUInt64 63)).toInt64).toInt32) &&& 255))) ((((p1.toUInt64 >>> ((8 * 1 : Int32).toInt64.toUInt64 &&& Int64.toUInt64 63)).toInt64).toInt32) &&& 255))) ((((p1.toUInt64 >>> ((8 * 2 : Int32).toInt64.toUInt64 &&& Int64.toUInt64 63)).toInt64).toInt32) &&& 255))) ((((p1.toUInt64 >>> ((8 * 3 : Int32).toInt64.toUInt64 &&& Int64.toUInt64 63)).toInt64).toInt32) &&& 255))) ((((p1.toUInt64 >>> ((8 * 4 : Int32).toInt64.toUInt64 &&& Int64.toUInt64 63)).toInt64).toInt32) &&& 255))) ((((p1.toUInt64 >>> ((8 * 5 : Int32).toInt64.toUInt64 &&& Int64.toUInt64 63)).toInt64).toInt32) &&& 255) (okn_take _ _ (okn_take _ _ (okn_take _ _ (okn_take _ _ (okn_take _ _ (hO))))))) 0 (wcD_0 K ad _) rfl rfl tw_308 tw_310 tw_1 tw_64 tw_311 (by decide +kernel) rfl (by decide) (Nat.le_of_ble_eq_true rfl) dX7_feedAll_36 _ rfl ?_
                          refine wd_iinc (v := 6) C [(3, .int 6), (5, .int ((((p1.toUInt64 >>> ((8 * 5 : Int32).toInt64.toUInt64 &&& Int64.toUInt64 63)).toInt64).toInt32) &&& 255)), (4, .int 5), (0, .ref (ad 0)), (1, .long p1)] dX7_feedAll_39 2 rfl (by decide) (by decide) rfl ?_
                          refine wd_iinc (v := 6) C [(4, .int 6), (3, .int 6), (5, .int ((((p1.toUInt64 >>> ((8 * 5 : Int32).toInt64.toUInt64 &&& Int64.toUInt64 63)).toInt64).toInt32) &&& 255)), (0, .ref (ad 0)), (1, .long p1)] dX7_feedAll_42 2 rfl (by decide) (by decide) rfl ?_
                          refine wd_goto C 5 dX7_feedAll_45 (by decide) ?_
                          refine wd_iload C dX7_feedAll_5 0 rfl ?_
                          refine wd_bipush (v := 8) C dX7_feedAll_7 (by decide) ?_
                          refine wd_icmp_ge C 48 dX7_feedAll_9 (by decide) (fun c_9 => ?_) (fun c_9 => ?_)
                          · exact absurd c_9 (by decide)
                          · refine wd_lload_n C dX7_feedAll_12 rfl 4 rfl ?_
                            refine wd_bipush (v := 8) C dX7_feedAll_13 (by decide) ?_
                            refine wd_iload C dX7_feedAll_15 0 rfl ?_
                            refine wd_imul C dX7_feedAll_17 ?_
                            refine wd_lushr C dX7_feedAll_18 ?_
                            refine wd_l2i C dX7_feedAll_19 ?_
                            refine wd_sipush (v := 255) C dX7_feedAll_20 (by decide) ?_
                            refine wd_iand C dX7_feedAll_23 ?_
                            refine wd_istore C [(5, .int ((((p1.toUInt64 >>> ((8 * 6 : Int32).toInt64.toUInt64 &&& Int64.toUInt64 63)).toInt64).toInt32) &&& 255)), (4, .int 6), (3, .int 6), (0, .ref (ad 0)), (1, .long p1)] dX7_feedAll_24 (by decide) rfl ?_
                            refine wd_iload C dX7_feedAll_26 0 rfl ?_
                            refine wd_if_ne C 33 dX7_feedAll_28 (by decide) (fun c_28u6 => ?_) (fun c_28u6 => ?_)
                            · refine wd_aload_n C dX7_feedAll_33 rfl 3 rfl ?_
                              refine wd_iload C dX7_feedAll_34 0 rfl ?_
                              refine wd_callV C 1 (c_X7_take _ K ad ((p_X7_take ((p_X7_take ((p_X7_take ((p_X7_take ((p_X7_take ((p_X7_take σ ((((p1.toUInt64 >>> ((8 * 0 : Int32).toInt64.toUInt64 &&& Int64.toUInt64 63)).toInt64).toInt32) &&& 255))) ((((p1.toUInt64 >>> ((8 * 1 : Int32).toInt64.toUInt64 &&& Int64.toUInt64 63)).toInt64).toInt32) &&& 255))) ((((p1.toUInt64 >>> ((8 * 2 : Int32).toInt64.toUInt64 &&& Int64.toUInt64 63)).toInt64).toInt32) &&& 255))) ((((p1.toUInt64 >>> ((8 * 3 : Int32).toInt64.toUInt64 &&& Int64.toUInt64 63)).toInt64).toInt32) &&& 255))) ((((p1.toUInt64 >>> ((8 * 4 : Int32).toInt64.toUInt64 &&& Int64.toUInt64 63)).toInt64).toInt32) &&& 255))) ((((p1.toUInt64 >>> ((8 * 5 : Int32).toInt64.toUInt64 &&& Int64.toUInt64 63)).toInt64).toInt32) &&& 255))) ((((p1.toUInt64 >>> ((8 * 6 : Int32).toInt64.toUInt64 &&& Int64.toUInt64 63)).toInt64).toInt32) &&& 255) (okn_take _ _ (okn_take _ _ (okn_take _ _ (okn_take _ _ (okn_take _ _ (okn_take _ _ (hO)))))))) 0 (wcD_0 K ad _) rfl rfl tw_308 tw_310 tw_1 tw_64 tw_311 (by decide +kernel) rfl (by decide) (Nat.le_of_ble_eq_true rfl) dX7_feedAll_36 _ rfl ?_
                              refine wd_iinc (v := 7) C [(3, .int 7), (5, .int ((((p1.toUInt64 >>> ((8 * 6 : Int32).toInt64.toUInt64 &&& Int64.toUInt64 63)).toInt64).toInt32) &&& 255)), (4, .int 6), (0, .ref (ad 0)), (1, .long p1)] dX7_feedAll_39 2 rfl (by decide) (by decide) rfl ?_
                              refine wd_iinc (v := 7) C [(4, .int 7), (3, .int 7), (5, .int ((((p1.toUInt64 >>> ((8 * 6 : Int32).toInt64.toUInt64 &&& Int64.toUInt64 63)).toInt64).toInt32) &&& 255)), (0, .ref (ad 0)), (1, .long p1)] dX7_feedAll_42 2 rfl (by decide) (by decide) rfl ?_
                              refine wd_goto C 5 dX7_feedAll_45 (by decide) ?_
                              refine wd_iload C dX7_feedAll_5 0 rfl ?_
                              refine wd_bipush (v := 8) C dX7_feedAll_7 (by decide) ?_
                              refine wd_icmp_ge C 48 dX7_feedAll_9 (by decide) (fun c_9 => ?_) (fun c_9 => ?_)
                              · exact absurd c_9 (by decide)
                              · refine wd_lload_n C dX7_feedAll_12 rfl 4 rfl ?_
                                refine wd_bipush (v := 8) C dX7_feedAll_13 (by decide) ?_
                                refine wd_iload C dX7_feedAll_15 0 rfl ?_
                                refine wd_imul C dX7_feedAll_17 ?_
                                refine wd_lushr C dX7_feedAll_18 ?_
                                refine wd_l2i C dX7_feedAll_19 ?_
                                refine wd_sipush (v := 255) C dX7_feedAll_20 (by decide) ?_
                                refine wd_iand C dX7_feedAll_23 ?_
                                refine wd_istore C [(5, .int ((((p1.toUInt64 >>> ((8 * 7 : Int32).toInt64.toUInt64 &&& Int64.toUInt64 63)).toInt64).toInt32) &&& 255)), (4, .int 7), (3, .int 7), (0, .ref (ad 0)), (1, .long p1)] dX7_feedAll_24 (by decide) rfl ?_
                                refine wd_iload C dX7_feedAll_26 0 rfl ?_
                                refine wd_if_ne C 33 dX7_feedAll_28 (by decide) (fun c_28u7 => ?_) (fun c_28u7 => ?_)
                                · refine wd_aload_n C dX7_feedAll_33 rfl 3 rfl ?_
                                  refine wd_iload C dX7_feedAll_34 0 rfl ?_
                                  refine wd_callV C 1 (c_X7_take _ K ad ((p_X7_take ((p_X7_take ((p_X7_take ((p_X7_take ((p_X7_take ((p_X7_take ((p_X7_take σ ((((p1.toUInt64 >>> ((8 * 0 : Int32).toInt64.toUInt64 &&& Int64.toUInt64 63)).toInt64).toInt32) &&& 255))) ((((p1.toUInt64 >>> ((8 * 1 : Int32).toInt64.toUInt64 &&& Int64.toUInt64 63)).toInt64).toInt32) &&& 255))) ((((p1.toUInt64 >>> ((8 * 2 : Int32).toInt64.toUInt64 &&& Int64.toUInt64 63)).toInt64).toInt32) &&& 255))) ((((p1.toUInt64 >>> ((8 * 3 : Int32).toInt64.toUInt64 &&& Int64.toUInt64 63)).toInt64).toInt32) &&& 255))) ((((p1.toUInt64 >>> ((8 * 4 : Int32).toInt64.toUInt64 &&& Int64.toUInt64 63)).toInt64).toInt32) &&& 255))) ((((p1.toUInt64 >>> ((8 * 5 : Int32).toInt64.toUInt64 &&& Int64.toUInt64 63)).toInt64).toInt32) &&& 255))) ((((p1.toUInt64 >>> ((8 * 6 : Int32).toInt64.toUInt64 &&& Int64.toUInt64 63)).toInt64).toInt32) &&& 255))) ((((p1.toUInt64 >>> ((8 * 7 : Int32).toInt64.toUInt64 &&& Int64.toUInt64 63)).toInt64).toInt32) &&& 255) (okn_take _ _ (okn_take _ _ (okn_take _ _ (okn_take _ _ (okn_take _ _ (okn_take _ _ (okn_take _ _ (hO))))))))) 0 (wcD_0 K ad _) rfl rfl tw_308 tw_310 tw_1 tw_64 tw_311 (by decide +kernel) rfl (by decide) (Nat.le_of_ble_eq_true rfl) dX7_feedAll_36 _ rfl ?_
                                  refine wd_iinc (v := 8) C [(3, .int 8), (5, .int ((((p1.toUInt64 >>> ((8 * 7 : Int32).toInt64.toUInt64 &&& Int64.toUInt64 63)).toInt64).toInt32) &&& 255)), (4, .int 7), (0, .ref (ad 0)), (1, .long p1)] dX7_feedAll_39 2 rfl (by decide) (by decide) rfl ?_
                                  refine wd_iinc (v := 8) C [(4, .int 8), (3, .int 8), (5, .int ((((p1.toUInt64 >>> ((8 * 7 : Int32).toInt64.toUInt64 &&& Int64.toUInt64 63)).toInt64).toInt32) &&& 255)), (0, .ref (ad 0)), (1, .long p1)] dX7_feedAll_42 2 rfl (by decide) (by decide) rfl ?_
                                  refine wd_goto C 5 dX7_feedAll_45 (by decide) ?_
                                  refine wd_iload C dX7_feedAll_5 0 rfl ?_
                                  refine wd_bipush (v := 8) C dX7_feedAll_7 (by decide) ?_
                                  refine wd_icmp_ge C 48 dX7_feedAll_9 (by decide) (fun c_9 => ?_) (fun c_9 => ?_)
                                  · refine wd_iload_n C dX7_feedAll_48 rfl 1 rfl ?_
                                    have e9 : p_X7_feedAll σ p1 = ((p_X7_take ((p_X7_take ((p_X7_take ((p_X7_take ((p_X7_take ((p_X7_take ((p_X7_take ((p_X7_take σ ((((p1.toUInt64 >>> ((8 * 0 : Int32).toInt64.toUInt64 &&& Int64.toUInt64 63)).toInt64).toInt32) &&& 255))) ((((p1.toUInt64 >>> ((8 * 1 : Int32).toInt64.toUInt64 &&& Int64.toUInt64 63)).toInt64).toInt32) &&& 255))) ((((p1.toUInt64 >>> ((8 * 2 : Int32).toInt64.toUInt64 &&& Int64.toUInt64 63)).toInt64).toInt32) &&& 255))) ((((p1.toUInt64 >>> ((8 * 3 : Int32).toInt64.toUInt64 &&& Int64.toUInt64 63)).toInt64).toInt32) &&& 255))) ((((p1.toUInt64 >>> ((8 * 4 : Int32).toInt64.toUInt64 &&& Int64.toUInt64 63)).toInt64).toInt32) &&& 255))) ((((p1.toUInt64 >>> ((8 * 5 : Int32).toInt64.toUInt64 &&& Int64.toUInt64 63)).toInt64).toInt32) &&& 255))) ((((p1.toUInt64 >>> ((8 * 6 : Int32).toInt64.toUInt64 &&& Int64.toUInt64 63)).toInt64).toInt32) &&& 255))) ((((p1.toUInt64 >>> ((8 * 7 : Int32).toInt64.toUInt64 &&& Int64.toUInt64 63)).toInt64).toInt32) &&& 255)), 8) := by unfold p_X7_feedAll; rw [if_neg c_28, if_neg c_28u1, if_neg c_28u2, if_neg c_28u3, if_neg c_28u4, if_neg c_28u5, if_neg c_28u6, if_neg c_28u7]
                                    exact hret _ _ _ _ (by rw [e9]) (by rw [e9]) dX7_feedAll_49
                                  · exact absurd c_9 (by decide)
                                · refine wd_iload_n C dX7_feedAll_31 rfl 2 rfl ?_
                                  have e9 : p_X7_feedAll σ p1 = ((p_X7_take ((p_X7_take ((p_X7_take ((p_X7_take ((p_X7_take ((p_X7_take ((p_X7_take σ ((((p1.toUInt64 >>> ((8 * 0 : Int32).toInt64.toUInt64 &&& Int64.toUInt64 63)).toInt64).toInt32) &&& 255))) ((((p1.toUInt64 >>> ((8 * 1 : Int32).toInt64.toUInt64 &&& Int64.toUInt64 63)).toInt64).toInt32) &&& 255))) ((((p1.toUInt64 >>> ((8 * 2 : Int32).toInt64.toUInt64 &&& Int64.toUInt64 63)).toInt64).toInt32) &&& 255))) ((((p1.toUInt64 >>> ((8 * 3 : Int32).toInt64.toUInt64 &&& Int64.toUInt64 63)).toInt64).toInt32) &&& 255))) ((((p1.toUInt64 >>> ((8 * 4 : Int32).toInt64.toUInt64 &&& Int64.toUInt64 63)).toInt64).toInt32) &&& 255))) ((((p1.toUInt64 >>> ((8 * 5 : Int32).toInt64.toUInt64 &&& Int64.toUInt64 63)).toInt64).toInt32) &&& 255))) ((((p1.toUInt64 >>> ((8 * 6 : Int32).toInt64.toUInt64 &&& Int64.toUInt64 63)).toInt64).toInt32) &&& 255)), 7) := by unfold p_X7_feedAll; rw [if_neg c_28, if_neg c_28u1, if_neg c_28u2, if_neg c_28u3, if_neg c_28u4, if_neg c_28u5, if_neg c_28u6, if_pos c_28u7]
                                  exact hret _ _ _ _ (by rw [e9]) (by rw [e9]) dX7_feedAll_32
                            · refine wd_iload_n C dX7_feedAll_31 rfl 2 rfl ?_
                              have e9 : p_X7_feedAll σ p1 = ((p_X7_take ((p_X7_take ((p_X7_take ((p_X7_take ((p_X7_take ((p_X7_take σ ((((p1.toUInt64 >>> ((8 * 0 : Int32).toInt64.toUInt64 &&& Int64.toUInt64 63)).toInt64).toInt32) &&& 255))) ((((p1.toUInt64 >>> ((8 * 1 : Int32).toInt64.toUInt64 &&& Int64.toUInt64 63)).toInt64).toInt32) &&& 255))) ((((p1.toUInt64 >>> ((8 * 2 : Int32).toInt64.toUInt64 &&& Int64.toUInt64 63)).toInt64).toInt32) &&& 255))) ((((p1.toUInt64 >>> ((8 * 3 : Int32).toInt64.toUInt64 &&& Int64.toUInt64 63)).toInt64).toInt32) &&& 255))) ((((p1.toUInt64 >>> ((8 * 4 : Int32).toInt64.toUInt64 &&& Int64.toUInt64 63)).toInt64).toInt32) &&& 255))) ((((p1.toUInt64 >>> ((8 * 5 : Int32).toInt64.toUInt64 &&& Int64.toUInt64 63)).toInt64).toInt32) &&& 255)), 6) := by unfold p_X7_feedAll; rw [if_neg c_28, if_neg c_28u1, if_neg c_28u2, if_neg c_28u3, if_neg c_28u4, if_neg c_28u5, if_pos c_28u6]
                              exact hret _ _ _ _ (by rw [e9]) (by rw [e9]) dX7_feedAll_32
                        · refine wd_iload_n C dX7_feedAll_31 rfl 2 rfl ?_
                          have e9 : p_X7_feedAll σ p1 = ((p_X7_take ((p_X7_take ((p_X7_take ((p_X7_take ((p_X7_take σ ((((p1.toUInt64 >>> ((8 * 0 : Int32).toInt64.toUInt64 &&& Int64.toUInt64 63)).toInt64).toInt32) &&& 255))) ((((p1.toUInt64 >>> ((8 * 1 : Int32).toInt64.toUInt64 &&& Int64.toUInt64 63)).toInt64).toInt32) &&& 255))) ((((p1.toUInt64 >>> ((8 * 2 : Int32).toInt64.toUInt64 &&& Int64.toUInt64 63)).toInt64).toInt32) &&& 255))) ((((p1.toUInt64 >>> ((8 * 3 : Int32).toInt64.toUInt64 &&& Int64.toUInt64 63)).toInt64).toInt32) &&& 255))) ((((p1.toUInt64 >>> ((8 * 4 : Int32).toInt64.toUInt64 &&& Int64.toUInt64 63)).toInt64).toInt32) &&& 255)), 5) := by unfold p_X7_feedAll; rw [if_neg c_28, if_neg c_28u1, if_neg c_28u2, if_neg c_28u3, if_neg c_28u4, if_pos c_28u5]
                          exact hret _ _ _ _ (by rw [e9]) (by rw [e9]) dX7_feedAll_32
                    · refine wd_iload_n C dX7_feedAll_31 rfl 2 rfl ?_
                      have e9 : p_X7_feedAll σ p1 = ((p_X7_take ((p_X7_take ((p_X7_take ((p_X7_take σ ((((p1.toUInt64 >>> ((8 * 0 : Int32).toInt64.toUInt64 &&& Int64.toUInt64 63)).toInt64).toInt32) &&& 255))) ((((p1.toUInt64 >>> ((8 * 1 : Int32).toInt64.toUInt64 &&& Int64.toUInt64 63)).toInt64).toInt32) &&& 255))) ((((p1.toUInt64 >>> ((8 * 2 : Int32).toInt64.toUInt64 &&& Int64.toUInt64 63)).toInt64).toInt32) &&& 255))) ((((p1.toUInt64 >>> ((8 * 3 : Int32).toInt64.toUInt64 &&& Int64.toUInt64 63)).toInt64).toInt32) &&& 255)), 4) := by unfold p_X7_feedAll; rw [if_neg c_28, if_neg c_28u1, if_neg c_28u2, if_neg c_28u3, if_pos c_28u4]
                      exact hret _ _ _ _ (by rw [e9]) (by rw [e9]) dX7_feedAll_32
                · refine wd_iload_n C dX7_feedAll_31 rfl 2 rfl ?_
                  have e9 : p_X7_feedAll σ p1 = ((p_X7_take ((p_X7_take ((p_X7_take σ ((((p1.toUInt64 >>> ((8 * 0 : Int32).toInt64.toUInt64 &&& Int64.toUInt64 63)).toInt64).toInt32) &&& 255))) ((((p1.toUInt64 >>> ((8 * 1 : Int32).toInt64.toUInt64 &&& Int64.toUInt64 63)).toInt64).toInt32) &&& 255))) ((((p1.toUInt64 >>> ((8 * 2 : Int32).toInt64.toUInt64 &&& Int64.toUInt64 63)).toInt64).toInt32) &&& 255)), 3) := by unfold p_X7_feedAll; rw [if_neg c_28, if_neg c_28u1, if_neg c_28u2, if_pos c_28u3]
                  exact hret _ _ _ _ (by rw [e9]) (by rw [e9]) dX7_feedAll_32
            · refine wd_iload_n C dX7_feedAll_31 rfl 2 rfl ?_
              have e9 : p_X7_feedAll σ p1 = ((p_X7_take ((p_X7_take σ ((((p1.toUInt64 >>> ((8 * 0 : Int32).toInt64.toUInt64 &&& Int64.toUInt64 63)).toInt64).toInt32) &&& 255))) ((((p1.toUInt64 >>> ((8 * 1 : Int32).toInt64.toUInt64 &&& Int64.toUInt64 63)).toInt64).toInt32) &&& 255)), 2) := by unfold p_X7_feedAll; rw [if_neg c_28, if_neg c_28u1, if_pos c_28u2]
              exact hret _ _ _ _ (by rw [e9]) (by rw [e9]) dX7_feedAll_32
        · refine wd_iload_n C dX7_feedAll_31 rfl 2 rfl ?_
          have e9 : p_X7_feedAll σ p1 = ((p_X7_take σ ((((p1.toUInt64 >>> ((8 * 0 : Int32).toInt64.toUInt64 &&& Int64.toUInt64 63)).toInt64).toInt32) &&& 255)), 1) := by unfold p_X7_feedAll; rw [if_neg c_28, if_pos c_28u1]
          exact hret _ _ _ _ (by rw [e9]) (by rw [e9]) dX7_feedAll_32
    · refine wd_iload_n C dX7_feedAll_31 rfl 2 rfl ?_
      have e9 : p_X7_feedAll σ p1 = (σ, 0) := by unfold p_X7_feedAll; rw [if_pos c_28]
      exact hret _ _ _ _ (by rw [e9]) (by rw [e9]) dX7_feedAll_32
