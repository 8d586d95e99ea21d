/-! ===== what the numbers' row (array 4) is behind each call ===== -/
theorem si_a (σ : St) (k : Nat) (v : Int32) (j : Nat) : (si σ k v).2.2 j = σ.2.2 j := rfl
theorem sb_a (σ : St) (k : Nat) (v : Bool) (j : Nat) : (sb σ k v).2.2 j = σ.2.2 j := rfl
theorem ite_a (c : Prop) [Decidable c] (a b : St) (j : Nat) : (if c then a else b).2.2 j = if c then a.2.2 j else b.2.2 j := by split <;> rfl
theorem a4_put_pg (σ : St) (a b c : Int32) : (q_X3_put_pg σ a b c).2.2 4 = σ.2.2 4 := by
  unfold q_X3_put_pg; dsimp only; split <;> rfl
theorem a4_clear_pg (σ : St) (a b : Int32) : (q_X3_clear_pg σ a b).2.2 4 = σ.2.2 4 := by
  unfold q_X3_clear_pg; dsimp only; split <;> rfl
theorem a4_pull_pg (σ : St) (a b c : Int32) : (q_X3_pull_pg σ a b c).2.2 4 = σ.2.2 4 := by
  unfold q_X3_pull_pg; dsimp only; split <;> rfl
theorem a4_push_pg (σ : St) (a b c : Int32) : (q_X3_push_pg σ a b c).2.2 4 = σ.2.2 4 := by
  unfold q_X3_push_pg; dsimp only; split <;> rfl
theorem a4_clear_P3 (σ : St) (a b : Int32) : (q_X3_clear_P3 σ a b).2.2 4 = σ.2.2 4 := rfl
theorem a4_clear_P2 (σ : St) (a b : Int32) : (q_X3_clear_P2 σ a b).2.2 4 = σ.2.2 4 := rfl
theorem a4_place (σ : St) (a b : Int32) : (q_X0_place_C8 σ a b).2.2 4 = σ.2.2 4 := rfl
theorem a4_paint (σ : St) (a : Int32) : (q_X0_paint_C8 σ a).2.2 4 = σ.2.2 4 := rfl
theorem a4_creset8 (σ : St) : (q_X0_reset_C8 σ).2.2 4 = σ.2.2 4 := rfl
theorem a4_creset9 (σ : St) : (q_X0_reset_C9 σ).2.2 4 = σ.2.2 4 := rfl
theorem a4_copy98 (σ : St) : (q_X0_copyFrom_CC98 σ).2.2 4 = σ.2.2 4 := rfl
theorem a4_copy89 (σ : St) : (q_X0_copyFrom_CC89 σ).2.2 4 = σ.2.2 4 := rfl
theorem a4_drop (σ : St) : (q_X1_drop_L σ).2.2 4 = σ.2.2 4 := rfl
theorem a4_lbegin (σ : St) (a : Int32) : (q_X1_begin_L σ a).2.2 4 = σ.2.2 4 := rfl
theorem a4_ladd (σ : St) (a : Int32) : (q_X1_add_L σ a).2.2 4 = σ.2.2 4 := rfl
theorem a4_next (σ : St) : (q_X2_next_N σ).2.2 4 = σ.2.2 4 := by unfold q_X2_next_N putN p_X2_next; rfl
theorem a4_rclear (σ : St) : (q_X4_clear_R σ).2.2 4 = σ.2.2 4 := rfl
theorem a4_well (σ : St) : (q_X4_addWell_R σ).2.2 4 = σ.2.2 4 := rfl
theorem a4_pos (σ : St) (a b : Int32) : (q_X4_addPosition_R σ a b).2.2 4 = σ.2.2 4 := rfl
theorem a4_tc13 (σ : St) : (q_X6_clear_T13 σ).2.2 4 = σ.2.2 4 := rfl
theorem a4_tc15 (σ : St) : (q_X6_clear_T15 σ).2.2 4 = σ.2.2 4 := rfl
theorem a4_tadd (σ : St) (a : Int32) : (q_X6_add_T15 σ a).2.2 4 = σ.2.2 4 := rfl
theorem a4_tcopy (σ : St) : (q_X6_copyFrom_TT σ).2.2 4 = σ.2.2 4 := rfl
theorem a4_feedRow (σ : St) : (p_X5_feedRow σ).2.2 4 = σ.2.2 4 := by
  simp only [p_X5_feedRow, p_X5_feedRow_s1, si_a, sb_a, ite_a, a4_pull_pg, ite_self]
theorem a4_backRow (σ : St) : (p_X5_backRow σ).2.2 4 = σ.2.2 4 := by
  simp only [p_X5_backRow, p_X5_backRow_s1, si_a, sb_a, ite_a, a4_push_pg, ite_self]
theorem a4_print_s1 (σ : St) (c : Int32) : (p_X5_print_s1 σ c).2.2 4 = σ.2.2 4 := by
  simp only [p_X5_print_s1, ite_a, a4_feedRow, si_a, ite_self]
theorem a4_print_s2 (σ : St) (c : Int32) : (p_X5_print_s2 σ c).2.2 4 = σ.2.2 4 := by
  simp only [p_X5_print_s2, ite_a, a4_push_pg, a4_print_s1, ite_self]
theorem a4_print_s3 (σ : St) (c : Int32) : (p_X5_print_s3 σ c).2.2 4 = σ.2.2 4 := by
  simp only [p_X5_print_s3, ite_a, a4_put_pg, sb_a, si_a, a4_print_s2, ite_self]
theorem a4_print (σ : St) (c : Int32) : (p_X5_print σ c).2.2 4 = σ.2.2 4 := by
  simp only [p_X5_print, si_a, a4_print_s3]
theorem a4_repeat_l (σ : St) (p1 : Int32) : ∀ (n : Nat) (s : St) (x : Int32), (p_X5_repeat_l1 σ p1 n s x).1.2.2 4 = s.2.2 4 := by
  intro n
  induction n with
  | zero => intro s x; rfl
  | succ n ih =>
    intro s x
    rw [p_X5_repeat_l1]
    by_cases h : (if 24 < p1 then 24 else p1 : Int32) ≤ x
    · rw [if_pos h]
    · rw [if_neg h, ih, a4_print]
theorem a4_repeat (σ : St) (p1 : Int32) : (p_X5_repeat σ p1).2.2 4 = σ.2.2 4 := by
  simp only [p_X5_repeat, ite_a, a4_repeat_l, ite_self]
theorem a4_screenReset (σ : St) : (p_X5_reset σ).2.2 4 = σ.2.2 4 := by
  simp only [p_X5_reset, si_a, sb_a, a4_creset8, a4_creset9, a4_clear_P3, a4_clear_P2]
theorem a4_moveToColumn (σ : St) (a : Int32) : (p_X5_moveToColumn σ a).2.2 4 = σ.2.2 4 := rfl
theorem a4_moveTo (σ : St) (a b : Int32) : (p_X5_moveTo σ a b).2.2 4 = σ.2.2 4 := rfl
theorem a4_showPage (σ : St) (b : Bool) : (p_X5_showPage σ b).2.2 4 = σ.2.2 4 := by
  simp only [p_X5_showPage, p_X5_showPage_s1, si_a, sb_a, ite_a, a4_clear_P3, ite_self]
theorem a4_switchPrivate (σ : St) (a : Int32) (b : Bool) : (p_X5_switchPrivate σ a b).2.2 4 = σ.2.2 4 := by
  simp only [p_X5_switchPrivate, p_X5_switchPrivate_s1, si_a, sb_a, ite_a, a4_moveTo, a4_showPage, ite_self]
theorem a4_doPrivate_l (σ : St) (p1 : Int32) : ∀ (n : Nat) (s : St) (x : Int32), (p_X7_doPrivate_l2 σ p1 n s x).1.2.2 4 = s.2.2 4 := by
  intro n
  induction n with
  | zero => intro s x; rfl
  | succ n ih =>
    intro s x
    rw [p_X7_doPrivate_l2]
    split
    · rfl
    · rw [ih, a4_switchPrivate]
theorem a4_doPrivate (σ : St) (p1 : Int32) : (p_X7_doPrivate σ p1).2.2 4 = σ.2.2 4 := by
  simp only [p_X7_doPrivate, p_X7_doPrivate_r1, ite_a, a4_doPrivate_l, ite_self]
theorem a4_paintAll_l (σ : St) : ∀ (n : Nat) (s : St) (x : Int32), (p_X7_paintAll_l1 σ n s x).1.2.2 4 = s.2.2 4 := by
  intro n
  induction n with
  | zero => intro s x; rfl
  | succ n ih =>
    intro s x
    rw [p_X7_paintAll_l1]
    by_cases h : (if 1 < q_X2_kept_N σ then q_X2_kept_N σ else 1 : Int32) ≤ x
    · rw [if_pos h]
    · rw [if_neg h, ih, a4_paint]
theorem a4_switchInsert_l (σ : St) (b : Bool) : ∀ (n : Nat) (s : St) (x : Int32), (p_X7_switchInsert_l2 σ b n s x).1.2.2 4 = s.2.2 4 := by
  intro n
  induction n with
  | zero => intro s x; rfl
  | succ n ih =>
    intro s x
    rw [p_X7_switchInsert_l2]
    split
    · rfl
    · rw [ih]; simp only [p_X7_switchInsert_s1, ite_a, sb_a, ite_self]
theorem a4_putInCells (σ : St) (a : Int32) : (p_X5_putInCells σ a).2.2 4 = σ.2.2 4 := by simp only [p_X5_putInCells, a4_push_pg]
theorem a4_takeOutCells (σ : St) (a : Int32) : (p_X5_takeOutCells σ a).2.2 4 = σ.2.2 4 := by simp only [p_X5_takeOutCells, a4_pull_pg]
theorem a4_moveUp (σ : St) (a : Int32) : (p_X5_moveUp σ a).2.2 4 = σ.2.2 4 := by simp only [p_X5_moveUp, a4_place]
theorem a4_moveDown (σ : St) (a : Int32) : (p_X5_moveDown σ a).2.2 4 = σ.2.2 4 := by simp only [p_X5_moveDown, a4_place]
theorem a4_moveRight (σ : St) (a : Int32) : (p_X5_moveRight σ a).2.2 4 = σ.2.2 4 := by simp only [p_X5_moveRight, a4_moveToColumn]
theorem a4_moveLeft (σ : St) (a : Int32) : (p_X5_moveLeft σ a).2.2 4 = σ.2.2 4 := by simp only [p_X5_moveLeft, a4_moveToColumn]
theorem a4_moveToRow (σ : St) (a : Int32) : (p_X5_moveToRow σ a).2.2 4 = σ.2.2 4 := by simp only [p_X5_moveToRow, a4_place]
theorem a4_clearWithin (σ : St) (a b c : Int32) : (p_X5_clearWithin σ a b c).2.2 4 = σ.2.2 4 := by simp only [p_X5_clearWithin, p_X5_clearWithin_s1, ite_a, a4_clear_pg, ite_self]
theorem a4_clearInPage (σ : St) (a : Int32) : (p_X5_clearInPage σ a).2.2 4 = σ.2.2 4 := by simp only [p_X5_clearInPage, a4_clearWithin]
theorem a4_clearInRow (σ : St) (a : Int32) : (p_X5_clearInRow σ a).2.2 4 = σ.2.2 4 := by simp only [p_X5_clearInRow, a4_clearWithin]
theorem a4_clearCells (σ : St) (a : Int32) : (p_X5_clearCells σ a).2.2 4 = σ.2.2 4 := by simp only [p_X5_clearCells, a4_clear_pg]
theorem a4_putInRows (σ : St) (a : Int32) : (p_X5_putInRows σ a).2.2 4 = σ.2.2 4 := by simp only [p_X5_putInRows, p_X5_putInRows_s1, ite_a, a4_push_pg, ite_self]
theorem a4_takeOutRows (σ : St) (a : Int32) : (p_X5_takeOutRows σ a).2.2 4 = σ.2.2 4 := by simp only [p_X5_takeOutRows, p_X5_takeOutRows_s1, ite_a, a4_pull_pg, ite_self]
theorem a4_scrollUp (σ : St) (a : Int32) : (p_X5_scrollUp σ a).2.2 4 = σ.2.2 4 := by simp only [p_X5_scrollUp, a4_pull_pg]
theorem a4_scrollDown (σ : St) (a : Int32) : (p_X5_scrollDown σ a).2.2 4 = σ.2.2 4 := by simp only [p_X5_scrollDown, a4_push_pg]
theorem a4_setRegion (σ : St) (a b : Int32) : (p_X5_setRegion σ a b).2.2 4 = σ.2.2 4 := by simp only [p_X5_setRegion, p_X5_setRegion_s1, ite_a, a4_moveTo, si_a, ite_self]
theorem a4_save (σ : St)  : (p_X5_save σ ).2.2 4 = σ.2.2 4 := by simp only [p_X5_save, a4_copy98]
theorem a4_restore (σ : St)  : (p_X5_restore σ ).2.2 4 = σ.2.2 4 := by simp only [p_X5_restore, a4_copy89]
theorem a4_removeTabStops (σ : St) (a : Int32) : (p_X5_removeTabStops σ a).2.2 4 = σ.2.2 4 := by simp only [p_X5_removeTabStops, p_X5_removeTabStops_s1, ite_a, si_a, ite_self]
theorem a4_setTabStop (σ : St)  : (p_X5_setTabStop σ ).2.2 4 = σ.2.2 4 := by simp only [p_X5_setTabStop, si_a]
theorem a4_moveToTabStop (σ : St)  : (p_X5_moveToTabStop σ ).2.2 4 = σ.2.2 4 := by simp only [p_X5_moveToTabStop, a4_moveToColumn]
theorem a4_paintAll (σ : St) : (p_X7_paintAll σ).2.2 4 = σ.2.2 4 := by simp only [p_X7_paintAll, a4_paintAll_l]
theorem a4_switchInsert (σ : St) (b : Bool) : (p_X7_switchInsert σ b).2.2 4 = σ.2.2 4 := by simp only [p_X7_switchInsert, a4_switchInsert_l]
theorem a4_answer (σ : St) (a : Int32) : (p_X7_answer σ a).2.2 4 = σ.2.2 4 := by simp only [p_X7_answer, p_X7_answer_s1, ite_a, a4_well, a4_pos, ite_self]
theorem a4_doSequence (σ : St) (p1 : Int32) : (p_X7_doSequence σ p1).2.2 4 = σ.2.2 4 := by
  simp only [p_X7_doSequence, p_X7_doSequence_s4, ite_a, a4_doPrivate, a4_putInCells, a4_moveUp, a4_moveDown, a4_moveRight, a4_moveLeft, a4_moveToColumn, a4_moveToRow, a4_moveTo, a4_clearInPage, a4_clearInRow, a4_clearCells, a4_takeOutCells, a4_putInRows, a4_takeOutRows, a4_scrollUp, a4_scrollDown, a4_repeat, a4_paintAll, a4_setRegion, a4_save, a4_restore, a4_removeTabStops, a4_switchInsert, a4_answer, si_a, ite_self]
theorem okn_of {σ τ : St} (h : τ.2.2 4 = σ.2.2 4) (ho : Okn σ) : Okn τ := by
  unfold Okn; rw [h]; exact ho
theorem okn_begin (σ : St) : Okn (q_X2_begin_N σ) := by
  intro i hi
  have e : (q_X2_begin_N σ).2.2 4 i = 0 := by
    show (p_X2_begin (subN σ)).2.2 0 i = 0
    generalize subN σ = τ
    unfold p_X2_begin
    simp only [sb_a, si_a, p_X2_begin_l1]
    rw [if_neg (by decide), if_neg (by decide), if_neg (by decide), if_neg (by decide), if_neg (by decide), if_neg (by decide)]
    match i, hi with
    | 0, _ => rfl
    | 1, _ => rfl
    | 2, _ => rfl
    | 3, _ => rfl
    | 4, _ => rfl
    | 5, _ => rfl
  rw [e]; decide
theorem dig_ok {v d : Int32} (h1 : 0 ≤ v.toInt) (h2 : v.toInt ≤ 9999) (h3 : 0 ≤ d.toInt) (h4 : d.toInt ≤ 9) : 0 ≤ (if v * 10 + d < 9999 then v * 10 + d else 9999 : Int32).toInt ∧ (if v * 10 + d < 9999 then v * 10 + d else 9999 : Int32).toInt ≤ 9999 := by
  have z : (10 : Int32).toInt = 10 := by decide
  have z9 : (9999 : Int32).toInt = 9999 := by decide
  have e1 : (v * 10).toInt = v.toInt * 10 := by rw [ti_mul (by rw [z]; omega) (by rw [z]; omega), z]
  have e2 : (v * 10 + d).toInt = v.toInt * 10 + d.toInt := by rw [ti_add (by rw [e1]; omega) (by rw [e1]; omega), e1]
  by_cases h : v * 10 + d < 9999
  · rw [if_pos h]
    rw [ti_lt, e2, z9] at h
    rw [e2]; omega
  · rw [if_neg h]; decide
theorem okn_digit (σ : St) (d : Int32) (h3 : 0 ≤ d.toInt) (h4 : d.toInt ≤ 9) (ho : Okn σ) : Okn (q_X2_addDigit_N σ d) := by
  intro i hi
  show 0 ≤ ((p_X2_addDigit (subN σ) d).2.2 0 i).toInt ∧ ((p_X2_addDigit (subN σ) d).2.2 0 i).toInt ≤ 9999
  have ho2 : ∀ j : Nat, j < 6 → 0 ≤ ((subN σ).2.2 0 j).toInt ∧ ((subN σ).2.2 0 j).toInt ≤ 9999 := ho
  generalize subN σ = τ at ho2 ⊢
  unfold p_X2_addDigit p_X2_addDigit_s1
  have nb := nb_ok (b := τ.1 0)
  generalize (if 1 < τ.1 0 then τ.1 0 else 1 : Int32) = b at nb ⊢
  by_cases h6 : (6 : Int32) ≤ b - 1
  · rw [if_pos h6]; exact ho2 i hi
  · rw [if_neg h6]
    obtain ⟨j, hj, ej⟩ := vp_in_of (nb h6) (by decide)
    rw [ej, nI_clamp (by omega)]
    show 0 ≤ (upd _ _ _ i).toInt ∧ (upd _ _ _ i).toInt ≤ 9999
    unfold upd
    by_cases hij : i = j
    · rw [if_pos hij]
      exact dig_ok (ho2 j hj).1 (ho2 j hj).2 h3 h4
    · rw [if_neg hij]
      exact ho2 i hi
