def p_X5_page_t1 (σ : St) : Nat := (if σ.2.1 2 = true then 3 else 2)
def p_X5_page (σ : St) : Nat := (p_X5_page_t1 σ)
set_option maxHeartbeats 4000000 in
set_option maxRecDepth 100000 in
theorem c_X5_page (l : Launch) (K : KX) (ad : Nat → Nat) (σ : St) : Mt l K yX5_page cX5_page 1 (some (.object "ScreenDesk$Page")) { frames := 0, cells := 0, slots := 0, locals := 0 } [.ref (ad 1)] (WdD K ad σ) (some (.ref (ad (p_X5_page σ)))) (WdD K ad σ) := by
  refine Mt.a (by decide +kernel) (Nat.le_of_ble_eq_true rfl) (fun X C hret => ?_)
  show WD X K 1 0 0 (WdD K ad σ) [(0, .ref (ad 1))] 0 []
  refine wd_aload_n C dX5_page_0 rfl 0 rfl ?_
  refine gfD_1_9 (x := σ.2.1 2) C tw_155 rfl dX5_page_1 ?_
  have J_4 : WD X K 1 0 0 (WdD K ad σ) [(0, .ref (ad 1))] 18 [.ref (ad (p_X5_page_t1 σ))] := by
    have e9 : p_X5_page σ = (p_X5_page_t1 σ) := by rfl
    exact hret _ _ _ _ (by rw [e9]) rfl dX5_page_18
  refine wd_if_eqB (b := σ.2.1 2) C 14 dX5_page_4 (by decide) (fun c_4 => ?_) (fun c_4 => ?_)
  · refine wd_aload_n C dX5_page_14 rfl 0 rfl ?_
    refine gfD_1_0 C tw_141 dX5_page_15 ?_
    have ej_0 : p_X5_page_t1 σ = 2 := by unfold p_X5_page_t1; rw [if_neg c_4]
    rw [ej_0] at J_4
    exact wd_lv [0] _ rfl J_4
  · refine wd_aload_n C dX5_page_7 rfl 0 rfl ?_
    refine gfD_1_1 C tw_142 dX5_page_8 ?_
    refine wd_goto C 18 dX5_page_11 (by decide) ?_
    have ej_0 : p_X5_page_t1 σ = 3 := by unfold p_X5_page_t1; rw [if_pos c_4]
    rw [ej_0] at J_4
    exact wd_lv [0] _ rfl J_4
def pgc (σ : St) : Nat := if σ.2.1 2 = true then 6 else 4
def pgl (σ : St) : Nat := if σ.2.1 2 = true then 7 else 5
theorem wcD_pg (K : KX) (ad : Nat → Nat) (σ : St) : (WdD K ad σ)[p_X5_page σ]? = some (ad (p_X5_page σ), .inr (3, [.ref (ad (pgc σ)), .ref (ad (pgl σ))])) := by
  unfold p_X5_page p_X5_page_t1 pgc pgl
  by_cases h : σ.2.1 2 = true
  · simp only [if_pos h]; rfl
  · simp only [if_neg h]; rfl
def q_X3_put_pg (σ : St) (p1 : Int32) (p2 : Int32) (p3 : Int32) : St := (σ.1, σ.2.1, (if σ.2.1 2 = true then q_X3_put_P3 σ p1 p2 p3 else q_X3_put_P2 σ p1 p2 p3).2.2)
theorem cD_X3_put_pg (l : Launch) (K : KX) (ad : Nat → Nat) (σ : St) (p1 : Int32) (p2 : Int32) (p3 : Int32) : Mt l K yX3_put cX3_put 4 none { frames := 0, cells := 0, slots := 0, locals := 0 } [.ref (ad (p_X5_page σ)), .int p1, .int p2, .int p3] (WdD K ad σ) none (WdD K ad (q_X3_put_pg σ p1 p2 p3)) := by
  unfold p_X5_page p_X5_page_t1 q_X3_put_pg
  by_cases h : σ.2.1 2 = true
  · simp only [if_pos h]; exact cD_X3_put_P3 l K ad σ p1 p2 p3
  · simp only [if_neg h]; exact cD_X3_put_P2 l K ad σ p1 p2 p3
def q_X3_clear_pg (σ : St) (p1 : Int32) (p2 : Int32) : St := (σ.1, σ.2.1, (if σ.2.1 2 = true then q_X3_clear_P3 σ p1 p2 else q_X3_clear_P2 σ p1 p2).2.2)
theorem cD_X3_clear_pg (l : Launch) (K : KX) (ad : Nat → Nat) (σ : St) (p1 : Int32) (p2 : Int32) : Mt l K yX3_clear cX3_clear 4 none { frames := 0, cells := 0, slots := 0, locals := 0 } [.ref (ad (p_X5_page σ)), .int p1, .int p2] (WdD K ad σ) none (WdD K ad (q_X3_clear_pg σ p1 p2)) := by
  unfold p_X5_page p_X5_page_t1 q_X3_clear_pg
  by_cases h : σ.2.1 2 = true
  · simp only [if_pos h]; exact cD_X3_clear_P3 l K ad σ p1 p2
  · simp only [if_neg h]; exact cD_X3_clear_P2 l K ad σ p1 p2
def q_X3_pull_pg (σ : St) (p1 : Int32) (p2 : Int32) (p3 : Int32) : St := (σ.1, σ.2.1, (if σ.2.1 2 = true then q_X3_pull_P3 σ p1 p2 p3 else q_X3_pull_P2 σ p1 p2 p3).2.2)
theorem cD_X3_pull_pg (l : Launch) (K : KX) (ad : Nat → Nat) (σ : St) (p1 : Int32) (p2 : Int32) (p3 : Int32) (hb : p3.toInt ≤ 1000000) : Mt l K yX3_pull cX3_pull 6 none { frames := 0, cells := 0, slots := 0, locals := 0 } [.ref (ad (p_X5_page σ)), .int p1, .int p2, .int p3] (WdD K ad σ) none (WdD K ad (q_X3_pull_pg σ p1 p2 p3)) := by
  unfold p_X5_page p_X5_page_t1 q_X3_pull_pg
  by_cases h : σ.2.1 2 = true
  · simp only [if_pos h]; exact cD_X3_pull_P3 l K ad σ p1 p2 p3 hb
  · simp only [if_neg h]; exact cD_X3_pull_P2 l K ad σ p1 p2 p3 hb
def q_X3_push_pg (σ : St) (p1 : Int32) (p2 : Int32) (p3 : Int32) : St := (σ.1, σ.2.1, (if σ.2.1 2 = true then q_X3_push_P3 σ p1 p2 p3 else q_X3_push_P2 σ p1 p2 p3).2.2)
theorem cD_X3_push_pg (l : Launch) (K : KX) (ad : Nat → Nat) (σ : St) (p1 : Int32) (p2 : Int32) (p3 : Int32) : Mt l K yX3_push cX3_push 6 none { frames := 0, cells := 0, slots := 0, locals := 0 } [.ref (ad (p_X5_page σ)), .int p1, .int p2, .int p3] (WdD K ad σ) none (WdD K ad (q_X3_push_pg σ p1 p2 p3)) := by
  unfold p_X5_page p_X5_page_t1 q_X3_push_pg
  by_cases h : σ.2.1 2 = true
  · simp only [if_pos h]; exact cD_X3_push_P3 l K ad σ p1 p2 p3
  · simp only [if_neg h]; exact cD_X3_push_P2 l K ad σ p1 p2 p3
def q_X3_count_pg (σ : St) (p1 : Int32) (p2 : Int32) : Int32 := if σ.2.1 2 = true then q_X3_count_P3 σ p1 p2 else q_X3_count_P2 σ p1 p2
theorem cD_X3_count_pg (l : Launch) (K : KX) (ad : Nat → Nat) (σ : St) (p1 : Int32) (p2 : Int32) : Mt l K yX3_count cX3_count 5 (some .int) { frames := 0, cells := 0, slots := 0, locals := 0 } [.ref (ad (p_X5_page σ)), .int p1, .int p2] (WdD K ad σ) (some (.int (q_X3_count_pg σ p1 p2))) (WdD K ad σ) := by
  unfold p_X5_page p_X5_page_t1 q_X3_count_pg
  by_cases h : σ.2.1 2 = true
  · simp only [if_pos h]; exact cD_X3_count_P3 l K ad σ p1 p2
  · simp only [if_neg h]; exact cD_X3_count_P2 l K ad σ p1 p2
