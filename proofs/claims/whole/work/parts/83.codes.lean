/-! ===== ScreenDesk.code, look, reply: with an answer, and thrown ===== -/
theorem isCell_t {σ : St} {r c : Int32} (hr : R2 0 7 r) (hc : R2 0 11 c) : p_X7_isCell σ r c = true := by
  obtain ⟨r1, r2⟩ := hr
  obtain ⟨c1, c2⟩ := hc
  unfold p_X7_isCell p_X7_isCell_t1
  rw [if_neg (by rw [ti_lt]; show ¬ r.toInt < 0; omega), if_neg (by rw [ti_le]; show ¬ 8 ≤ r.toInt; omega), if_neg (by rw [ti_lt]; show ¬ c.toInt < 0; omega), if_neg (by rw [ti_le]; show ¬ 12 ≤ c.toInt; omega)]
theorem isCell_r {σ : St} {r c : Int32} (h : p_X7_isCell σ r c = true) : R2 0 7 r ∧ R2 0 11 c := by
  unfold p_X7_isCell p_X7_isCell_t1 at h
  by_cases h1 : r < 0
  · rw [if_pos h1] at h; exact absurd h (by decide)
  by_cases h2 : 8 ≤ r
  · rw [if_neg h1, if_pos h2] at h; exact absurd h (by decide)
  by_cases h3 : c < 0
  · rw [if_neg h1, if_neg h2, if_pos h3] at h; exact absurd h (by decide)
  by_cases h4 : 12 ≤ c
  · rw [if_neg h1, if_neg h2, if_neg h3, if_pos h4] at h; exact absurd h (by decide)
  rw [ti_lt] at h1 h3; rw [ti_le] at h2 h4
  replace h1 : ¬ r.toInt < 0 := h1
  replace h2 : ¬ 8 ≤ r.toInt := h2
  replace h3 : ¬ c.toInt < 0 := h3
  replace h4 : ¬ 12 ≤ c.toInt := h4
  exact ⟨⟨by omega, by omega⟩, ⟨by omega, by omega⟩⟩
theorem cell_in {r c : Int32} (hr : R2 0 7 r) (hc : R2 0 11 c) : vp_in (r * 12 + c) 96 := by
  obtain ⟨r1, r2⟩ := hr
  obtain ⟨c1, c2⟩ := hc
  have e1 : (r * 12).toInt = 12 * r.toInt := m12 (x := r) ⟨r1, r2⟩ (by decide) (by decide)
  have e2 : (r * 12 + c).toInt = 12 * r.toInt + c.toInt := by rw [ti_add (by omega) (by omega), e1]
  unfold vp_in
  rw [ti_lt, tn, e2]
  show ¬ (12 * r.toInt + c.toInt < 0 ∨ 96 ≤ (12 * r.toInt + c.toInt).toNat)
  omega
def p_X7_code (σ : St) (p1 : Int32) (p2 : Int32) : Int32 := if σ.2.1 2 = true then σ.2.2 2 (p1 * 12 + p2).toNatClampNeg else σ.2.2 0 (p1 * 12 + p2).toNatClampNeg
set_option maxHeartbeats 4000000 in
set_option maxRecDepth 100000 in
theorem c_X7_code (l : Launch) (K : KX) (ad : Nat → Nat) (σ : St) (p1 : Int32) (p2 : Int32) (hr : R2 0 7 p1) (hc : R2 0 11 p2) : Mt l K yX7_code cX7_code 3 (some .int) { frames := 1, cells := 0, slots := 0, locals := 24 } [.ref (ad 0), .int p1, .int p2] (WdD K ad σ) (some (.int (p_X7_code σ p1 p2))) (WdD K ad σ) := by
  refine Mt.i (by decide +kernel) (Nat.le_of_ble_eq_true rfl) (fun X C hret => ?_)
  show WD X K 3 0 0 (WdD K ad σ) [(0, .ref (ad 0)), (1, .int p1), (2, .int p2)] 0 []
  refine wd_iload_n C dX7_code_0 rfl 1 rfl ?_
  refine wd_iload_n C dX7_code_1 rfl 2 rfl ?_
  refine wd_callS C 2 (c_X7_isCell _ K (WdD K ad σ) σ p1 p2) tw_690 tw_691 tw_64 tw_692 (by decide +kernel) rfl (by decide) (Nat.le_of_ble_eq_true rfl) dX7_code_2 _ rfl ?_
  refine wd_if_neB (b := p_X7_isCell σ p1 p2) C 16 dX7_code_5 (by decide) (fun _ => ?_) (fun z => absurd (isCell_t hr hc) z)
  refine wd_aload_n C dX7_code_16 rfl 0 rfl ?_
  refine gfD_0_0 C tw_282 dX7_code_17 ?_
  refine wd_callV C 0 (c_X5_page _ K ad σ) 1 (wcD_1 K ad _) rfl rfl tw_665 tw_337 tw_338 tw_65 tw_339 (by decide +kernel) rfl (by decide) (Nat.le_of_ble_eq_true rfl) dX7_code_20 _ rfl ?_
  show WD X K 3 0 0 (WdD K ad σ) [(0, .ref (ad 0)), (1, .int p1), (2, .int p2)] 23 [.ref (ad (p_X5_page σ))]
  by_cases h : σ.2.1 2 = true
  · have e : p_X5_page σ = 3 := by unfold p_X5_page p_X5_page_t1; rw [if_pos h]
    rw [e]
    refine gfD_3_0 C tw_100 dX7_code_23 ?_
    refine wd_iload_n C dX7_code_26 rfl 1 rfl ?_
    refine wd_bipush (v := 12) C dX7_code_27 (by decide) ?_
    refine wd_imul C dX7_code_29 ?_
    refine wd_iload_n C dX7_code_30 rfl 2 rfl ?_
    refine wd_iadd C dX7_code_31 ?_
    refine alD_6 C (cell_in hr hc) rfl dX7_code_32 ?_
    exact hret _ _ _ _ (by unfold p_X7_code; rw [if_pos h]) rfl dX7_code_33
  · have e : p_X5_page σ = 2 := by unfold p_X5_page p_X5_page_t1; rw [if_neg h]
    rw [e]
    refine gfD_2_0 C tw_100 dX7_code_23 ?_
    refine wd_iload_n C dX7_code_26 rfl 1 rfl ?_
    refine wd_bipush (v := 12) C dX7_code_27 (by decide) ?_
    refine wd_imul C dX7_code_29 ?_
    refine wd_iload_n C dX7_code_30 rfl 2 rfl ?_
    refine wd_iadd C dX7_code_31 ?_
    refine alD_4 C (cell_in hr hc) rfl dX7_code_32 ?_
    exact hret _ _ _ _ (by unfold p_X7_code; rw [if_neg h]) rfl dX7_code_33
theorem x_X7_code (l : Launch) (hl : l.stackTraces = false) (K : KX) (wd : va_W) (σ : St) (a : Nat) (p1 : Int32) (p2 : Int32) (hn : ¬ p_X7_isCell σ p1 p2 = true) : Mx l K yX7_code cX7_code 3 (some .int) { frames := 6, cells := 1, slots := 6, locals := 81 } [.ref a, .int p1, .int p2] wd "java/lang/IndexOutOfBoundsException" := by
  refine Mx.of (ik := 106) (ic := 108) hl (by decide +kernel) (Nat.le_of_ble_eq_true rfl) (by decide +kernel) (by decide) xw_ioLink xw_ioIni xt_I (fun X C hth => ?_)
  show WD X K 3 0 0 wd [(0, .ref a), (1, .int p1), (2, .int p2)] 0 []
  refine wd_iload_n C dX7_code_0 rfl 1 rfl ?_
  refine wd_iload_n C dX7_code_1 rfl 2 rfl ?_
  refine wd_callS C 2 (c_X7_isCell _ K wd σ p1 p2) tw_690 tw_691 tw_64 tw_692 (by decide +kernel) rfl (by decide) (Nat.le_of_ble_eq_true rfl) dX7_code_2 _ rfl ?_
  refine wd_if_neB (b := p_X7_isCell σ p1 p2) C 16 dX7_code_5 (by decide) (fun z => absurd z hn) (fun _ => ?_)
  exact hth _ 8 dX7_code_8 dX7_code_11 dX7_code_12 dX7_code_15
def p_X7_look (σ : St) (p1 : Int32) (p2 : Int32) : Int32 := if σ.2.1 2 = true then σ.2.2 3 (p1 * 12 + p2).toNatClampNeg else σ.2.2 1 (p1 * 12 + p2).toNatClampNeg
set_option maxHeartbeats 4000000 in
set_option maxRecDepth 100000 in
theorem c_X7_look (l : Launch) (K : KX) (ad : Nat → Nat) (σ : St) (p1 : Int32) (p2 : Int32) (hr : R2 0 7 p1) (hc : R2 0 11 p2) : Mt l K yX7_look cX7_look 3 (some .int) { frames := 1, cells := 0, slots := 0, locals := 24 } [.ref (ad 0), .int p1, .int p2] (WdD K ad σ) (some (.int (p_X7_look σ p1 p2))) (WdD K ad σ) := by
  refine Mt.i (by decide +kernel) (Nat.le_of_ble_eq_true rfl) (fun X C hret => ?_)
  show WD X K 3 0 0 (WdD K ad σ) [(0, .ref (ad 0)), (1, .int p1), (2, .int p2)] 0 []
  refine wd_iload_n C dX7_look_0 rfl 1 rfl ?_
  refine wd_iload_n C dX7_look_1 rfl 2 rfl ?_
  refine wd_callS C 2 (c_X7_isCell _ K (WdD K ad σ) σ p1 p2) tw_690 tw_691 tw_64 tw_692 (by decide +kernel) rfl (by decide) (Nat.le_of_ble_eq_true rfl) dX7_look_2 _ rfl ?_
  refine wd_if_neB (b := p_X7_isCell σ p1 p2) C 16 dX7_look_5 (by decide) (fun _ => ?_) (fun z => absurd (isCell_t hr hc) z)
  refine wd_aload_n C dX7_look_16 rfl 0 rfl ?_
  refine gfD_0_0 C tw_282 dX7_look_17 ?_
  refine wd_callV C 0 (c_X5_page _ K ad σ) 1 (wcD_1 K ad _) rfl rfl tw_665 tw_337 tw_338 tw_65 tw_339 (by decide +kernel) rfl (by decide) (Nat.le_of_ble_eq_true rfl) dX7_look_20 _ rfl ?_
  show WD X K 3 0 0 (WdD K ad σ) [(0, .ref (ad 0)), (1, .int p1), (2, .int p2)] 23 [.ref (ad (p_X5_page σ))]
  by_cases h : σ.2.1 2 = true
  · have e : p_X5_page σ = 3 := by unfold p_X5_page p_X5_page_t1; rw [if_pos h]
    rw [e]
    refine gfD_3_1 C tw_102 dX7_look_23 ?_
    refine wd_iload_n C dX7_look_26 rfl 1 rfl ?_
    refine wd_bipush (v := 12) C dX7_look_27 (by decide) ?_
    refine wd_imul C dX7_look_29 ?_
    refine wd_iload_n C dX7_look_30 rfl 2 rfl ?_
    refine wd_iadd C dX7_look_31 ?_
    refine alD_7 C (cell_in hr hc) rfl dX7_look_32 ?_
    exact hret _ _ _ _ (by unfold p_X7_look; rw [if_pos h]) rfl dX7_look_33
  · have e : p_X5_page σ = 2 := by unfold p_X5_page p_X5_page_t1; rw [if_neg h]
    rw [e]
    refine gfD_2_1 C tw_102 dX7_look_23 ?_
    refine wd_iload_n C dX7_look_26 rfl 1 rfl ?_
    refine wd_bipush (v := 12) C dX7_look_27 (by decide) ?_
    refine wd_imul C dX7_look_29 ?_
    refine wd_iload_n C dX7_look_30 rfl 2 rfl ?_
    refine wd_iadd C dX7_look_31 ?_
    refine alD_5 C (cell_in hr hc) rfl dX7_look_32 ?_
    exact hret _ _ _ _ (by unfold p_X7_look; rw [if_neg h]) rfl dX7_look_33
theorem x_X7_look (l : Launch) (hl : l.stackTraces = false) (K : KX) (wd : va_W) (σ : St) (a : Nat) (p1 : Int32) (p2 : Int32) (hn : ¬ p_X7_isCell σ p1 p2 = true) : Mx l K yX7_look cX7_look 3 (some .int) { frames := 6, cells := 1, slots := 6, locals := 81 } [.ref a, .int p1, .int p2] wd "java/lang/IndexOutOfBoundsException" := by
  refine Mx.of (ik := 106) (ic := 108) hl (by decide +kernel) (Nat.le_of_ble_eq_true rfl) (by decide +kernel) (by decide) xw_ioLink xw_ioIni xt_I (fun X C hth => ?_)
  show WD X K 3 0 0 wd [(0, .ref a), (1, .int p1), (2, .int p2)] 0 []
  refine wd_iload_n C dX7_look_0 rfl 1 rfl ?_
  refine wd_iload_n C dX7_look_1 rfl 2 rfl ?_
  refine wd_callS C 2 (c_X7_isCell _ K wd σ p1 p2) tw_690 tw_691 tw_64 tw_692 (by decide +kernel) rfl (by decide) (Nat.le_of_ble_eq_true rfl) dX7_look_2 _ rfl ?_
  refine wd_if_neB (b := p_X7_isCell σ p1 p2) C 16 dX7_look_5 (by decide) (fun z => absurd z hn) (fun _ => ?_)
  exact hth _ 8 dX7_look_8 dX7_look_11 dX7_look_12 dX7_look_15
set_option maxHeartbeats 4000000 in
set_option maxRecDepth 100000 in
theorem c_X7_reply (l : Launch) (K : KX) (ad : Nat → Nat) (σ : St) (hw : ¬ σ.1 18 ≤ 0) : Mt l K yX7_reply cX7_reply 1 (some .int) { frames := 1, cells := 0, slots := 0, locals := 24 } [.ref (ad 0)] (WdD K ad σ) (some (.int (q_X4_takeFirst_R σ).2)) (WdD K ad (q_X4_takeFirst_R σ).1) := by
  refine Mt.i (by decide +kernel) (Nat.le_of_ble_eq_true rfl) (fun X C hret => ?_)
  show WD X K 1 0 0 (WdD K ad σ) [(0, .ref (ad 0))] 0 []
  refine wd_aload_n C dX7_reply_0 rfl 0 rfl ?_
  refine gfD_0_5 C tw_287 dX7_reply_1 ?_
  refine gfD_17_1 (x := σ.1 18) C tw_240 rfl dX7_reply_4 ?_
  refine wd_if_gt C 18 dX7_reply_7 (by decide) (fun _ => ?_) (fun z => absurd (by rw [ti_lt] at z; rw [ti_le]; omega) hw)
  refine wd_aload_n C dX7_reply_18 rfl 0 rfl ?_
  refine gfD_0_5 C tw_287 dX7_reply_19 ?_
  refine wd_callV C 0 (cD_X4_takeFirst_R _ K ad σ) 17 (wcD_17 K ad _) rfl rfl tw_785 tw_786 tw_787 tw_71 tw_788 (by decide +kernel) rfl (by decide) (Nat.le_of_ble_eq_true rfl) dX7_reply_22 _ rfl ?_
  exact hret _ _ _ _ rfl rfl dX7_reply_25
theorem x_X7_reply (l : Launch) (hl : l.stackTraces = false) (K : KX) (ad : Nat → Nat) (σ : St) (hw : σ.1 18 ≤ 0) : Mx l K yX7_reply cX7_reply 1 (some .int) { frames := 6, cells := 1, slots := 6, locals := 81 } [.ref (ad 0)] (WdD K ad σ) "java/util/NoSuchElementException" := by
  refine Mx.of (ik := 129) (ic := 131) hl (by decide +kernel) (Nat.le_of_ble_eq_true rfl) (by decide +kernel) (by decide) xw_nsLink xw_nsIni xt_N (fun X C hth => ?_)
  show WD X K 1 0 0 (WdD K ad σ) [(0, .ref (ad 0))] 0 []
  refine wd_aload_n C dX7_reply_0 rfl 0 rfl ?_
  refine gfD_0_5 C tw_287 dX7_reply_1 ?_
  refine gfD_17_1 (x := σ.1 18) C tw_240 rfl dX7_reply_4 ?_
  refine wd_if_gt C 18 dX7_reply_7 (by decide) (fun z => absurd hw (by rw [ti_lt] at z; rw [ti_le]; omega)) (fun _ => ?_)
  exact hth _ 10 dX7_reply_10 dX7_reply_13 dX7_reply_14 dX7_reply_17
