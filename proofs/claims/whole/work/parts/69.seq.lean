/-! ===== a whole sequence ===== -/
theorem ti_neg {a : Int32} (h1 : -2147483647 ≤ a.toInt) : (-a).toInt = -a.toInt := by
  have e : -a = 0 - a := by rw [Int32.sub_eq_add_neg, Int32.zero_add]
  rw [e, ti_sub (by show _ ≤ 0 - a.toInt; have := (ti_rng a).2; omega) (by show 0 - a.toInt ≤ _; omega)]
  show 0 - a.toInt = _; omega
section SEQ
variable {σ μ : St}
theorem at_i (hM : OkM μ) : (12 * μ.1 5 + μ.1 6).toInt = 12 * (μ.1 5).toInt + (μ.1 6).toInt := x12 ⟨by have := hM.2.1.1; omega, by have := hM.2.1.2; omega⟩ hM.2.2.1
theorem st_cw (h : RelC σ μ) (hM : OkM μ) (P a b a' b' : Int32) (hP : R2 0 9999 P) (ha : a.toInt = a'.toInt) (hb : b.toInt = b'.toInt) (h1 : R2 0 96 a') (h2 : b'.toInt ≤ 95) :
    Sim σ μ (p_X5_clearWithin σ a b P) (if 3 ≤ P then μ else p_X8_clear μ (if P = 0 then 12 * μ.1 5 + μ.1 6 else a') (if P = 1 then 12 * μ.1 5 + μ.1 6 else b')) := by
  have e := ce_i h hM
  have e2 := at_i hM
  obtain ⟨r1, r2⟩ := hM.2.1
  obtain ⟨c1, c2⟩ := hM.2.2.1
  unfold p_X5_clearWithin p_X5_clearWithin_s1
  by_cases c0 : P = 0
  · subst c0
    rw [if_pos rfl, if_neg (by decide), if_pos rfl, if_neg (by decide)]
    exact st_clear h hM _ _ _ _ (by omega) hb ⟨by omega, by omega⟩ h2
  · rw [if_neg c0]
    by_cases d1 : P = 1
    · subst d1
      rw [if_pos rfl, if_neg (by decide), if_neg (by decide), if_pos rfl]
      exact st_clear h hM _ _ _ _ ha (by omega) h1 (by omega)
    · rw [if_neg d1]
      by_cases d2 : P = 2
      · subst d2
        rw [if_pos rfl, if_neg (by decide), if_neg (by decide), if_neg (by decide)]
        exact st_clear h hM _ _ _ _ ha hb h1 h2
      · rw [if_neg d2]
        have : 3 ≤ P := by
          rw [ti_le]; rw [ti_eq] at c0 d1 d2
          have := hP.1
          have z0 : (0 : Int32).toInt = 0 := rfl
          have z1 : (1 : Int32).toInt = 1 := rfl
          have z2 : (2 : Int32).toInt = 2 := rfl
          show 3 ≤ P.toInt; omega
        rw [if_pos this]; exact Sim.rf h
theorem st_X (h : RelC σ μ) (hM : OkM μ) (n : Int32) (hn : R2 1 9999 n) : Sim σ μ (p_X5_clearCells σ n) (p_X8_clear μ (12 * μ.1 5 + μ.1 6) (p_X8_atMost μ (12 * μ.1 5 + μ.1 6 + n - 1) (12 * μ.1 5 + 12 - 1))) := by
  have e := ce_i h hM
  have e2 := at_i hM
  have e3 := we_i h hM
  obtain ⟨r1, r2⟩ := hM.2.1
  obtain ⟨c1, c2⟩ := hM.2.2.1
  obtain ⟨n1, n2⟩ := hn
  have z1 : (1 : Int32).toInt = 1 := rfl
  have z12 : (12 : Int32).toInt = 12 := rfl
  have f1 : (p_X5_cell σ + n).toInt = 12 * (μ.1 5).toInt + (μ.1 6).toInt + n.toInt := by rw [ti_add (by omega) (by omega), e]
  have f2 : (p_X5_cell σ + n - 1).toInt = 12 * (μ.1 5).toInt + (μ.1 6).toInt + n.toInt - 1 := by rw [ti_sub (by omega) (by omega), f1, z1]
  have g1 : (12 * μ.1 5 + μ.1 6 + n).toInt = 12 * (μ.1 5).toInt + (μ.1 6).toInt + n.toInt := by rw [ti_add (by omega) (by omega), e2]
  have g2 : (12 * μ.1 5 + μ.1 6 + n - 1).toInt = 12 * (μ.1 5).toInt + (μ.1 6).toInt + n.toInt - 1 := by rw [ti_sub (by omega) (by omega), g1, z1]
  have k0 : (12 * μ.1 5).toInt = 12 * (μ.1 5).toInt := ti_mul (by show _ ≤ 12 * (μ.1 5).toInt; omega) (by show 12 * (μ.1 5).toInt ≤ _; omega)
  have k1 : (12 * μ.1 5 + 12).toInt = 12 * (μ.1 5).toInt + 12 := by rw [ti_add (by omega) (by omega), k0, z12]
  have k2 : (12 * μ.1 5 + 12 - 1).toInt = 12 * (μ.1 5).toInt + 11 := by rw [ti_sub (by omega) (by omega), k1, z1]; omega
  unfold p_X5_clearCells p_X8_atMost p_X8_atMost_t1
  refine st_clear h hM _ _ _ _ (by omega) ?_ ⟨by omega, by omega⟩ ?_
  · by_cases a : p_X5_rowEnd σ < p_X5_cell σ + n - 1
    · rw [if_pos a]; rw [ti_lt] at a
      rw [if_pos (by rw [ti_le]; omega)]; omega
    · rw [if_neg a]; rw [ti_lt] at a
      by_cases b : 12 * μ.1 5 + 12 - 1 ≤ 12 * μ.1 5 + μ.1 6 + n - 1
      · rw [if_pos b]; rw [ti_le] at b; omega
      · rw [if_neg b]; omega
  · by_cases b : 12 * μ.1 5 + 12 - 1 ≤ 12 * μ.1 5 + μ.1 6 + n - 1
    · rw [if_pos b]; omega
    · rw [if_neg b]; rw [ti_le] at b; omega
theorem in_eq (h : RelC σ μ) (a b : Int32) : p_X5_isInRegion σ = p_X8_change_t1 μ a b := by
  unfold p_X5_isInRegion p_X5_isInRegion_t1 p_X8_change_t1
  rw [h.1.2.2.1, h.1.1, h.1.2.1]
theorem st_seq (h : RelC σ μ) (hM0 : OkM μ) (hk : RK σ μ) (b : Int32) :
    Sim (si σ 0 0) (si μ 24 0) (p_X7_doSequence σ b) (if μ.2.1 38 = true then p_X8_privately (si μ 24 0) b else p_X8_doIt (si μ 24 0) b (p_X8_sequence_t1 μ b)) := by
  have hs : RelC (si σ 0 0) (si μ 24 0) := h
  have hM : OkM (si μ 24 0) := okm_si _ _ (by decide) hM0
  have hks : RK (si σ 0 0) (si μ 24 0) := hk
  unfold p_X7_doSequence
  rw [hk.2.1]
  by_cases pv : μ.2.1 38 = true
  · rw [if_pos pv, if_pos pv]; exact st_private hs hM hks b
  rw [if_neg pv, if_neg pv]
  have eP : q_X2_valueAt_N (si σ 0 0) 0 = μ.2.2 8 0 := val_eq hks (R2.lit 0 (by decide))
  have eQ : q_X2_valueAt_N (si σ 0 0) 1 = μ.2.2 8 1 := val_eq hks (R2.lit 1 (by decide))
  have hP : R2 0 9999 (μ.2.2 8 0) := okm_numbers hM0 0 (by decide)
  have eN : ∀ c : Int32, p_X7_doSequence_t1 σ c = p_X8_sequence_t1 μ 0 := fun c => by
    unfold p_X7_doSequence_t1 p_X8_sequence_t1; rw [eP]; rfl
  have eM : p_X8_sequence_t1 μ b = p_X8_sequence_t1 μ 0 := rfl
  have hN : R2 1 9999 (p_X8_sequence_t1 μ 0) := by
    unfold p_X8_sequence_t1
    refine R2.ite (fun _ => R2.lit 1 (by decide)) (fun z => ⟨?_, hP.2⟩)
    rw [ti_eq] at z
    have := hP.1
    have z0 : (0 : Int32).toInt = 0 := rfl
    show 1 ≤ (μ.2.2 8 0).toInt
    replace z : ¬ (μ.2.2 8 0).toInt = (0 : Int32).toInt := z
    omega
  rw [eM]
  generalize p_X8_sequence_t1 μ 0 = N at eN hN
  have eq2 : ∀ c : Int32, p_X7_doSequence_t2 σ c = if μ.2.2 8 1 = 0 then 0 else μ.2.2 8 1 - 1 := fun c => by unfold p_X7_doSequence_t2; rw [eQ]
  have eq3 : ∀ c : Int32, p_X7_doSequence_t3 σ c = if μ.2.2 8 1 = 0 then 7 else μ.2.2 8 1 - 1 := fun c => by unfold p_X7_doSequence_t3; rw [eQ]
  have n1 := hN.1
  have n2 := hN.2
  have m12 : (N * 12).toInt = 12 * N.toInt := m12 hN (by decide) (by decide)
  have neg : (-N).toInt = -N.toInt := ti_neg (by omega)
  have rn0 : R2 0 9999 N := ⟨by omega, n2⟩
  have rneg : R2 (-9999) 0 (-N) := ⟨by omega, by omega⟩
  have r7 := hM.2.2.2.1
  have r5 := hM.2.1
  have q1 := r5.1
  have q2 := r5.2
  have k0 : (12 * (si μ 24 0).1 5).toInt = 12 * ((si μ 24 0).1 5).toInt := ti_mul (by show _ ≤ 12 * ((si μ 24 0).1 5).toInt; omega) (by show 12 * ((si μ 24 0).1 5).toInt ≤ _; omega)
  have k2 : (12 * (si μ 24 0).1 5 + 12 - 1).toInt = 12 * ((si μ 24 0).1 5).toInt + 11 := by
    have z1 : (1 : Int32).toInt = 1 := rfl
    have z12 : (12 : Int32).toInt = 12 := rfl
    have k1 : (12 * (si μ 24 0).1 5 + 12).toInt = 12 * ((si μ 24 0).1 5).toInt + 12 := by rw [ti_add (by omega) (by omega), k0, z12]
    rw [ti_sub (by omega) (by omega), k1, z1]; omega
  generalize hs0 : si σ 0 0 = s at *
  generalize ht0 : si μ 24 0 = t at *

  by_cases c64 : b = 64
  · subst c64
    have ed : p_X7_doSequence_s4 σ 64 = p_X5_putInCells s (p_X7_doSequence_t1 σ 64) := by
      unfold p_X7_doSequence_s4; rw [if_pos rfl, hs0]
    have em : p_X8_doIt t 64 N = p_X8_shiftCells t (-N) := by
      unfold p_X8_doIt p_X8_doIt_s1 p_X8_change p_X8_change_s6; rw [if_neg (by decide), if_neg (by decide), if_neg (by decide), if_neg (by decide), if_neg (by decide), if_neg (by decide), if_neg (by decide), if_neg (by decide), if_neg (by decide), if_neg (by decide), if_pos rfl]
    rw [ed, em]
    rw [eN]
    exact st_pushC hs hM N (-N) (by omega) rneg
  by_cases c65 : b = 65
  · subst c65
    have ed : p_X7_doSequence_s4 σ 65 = p_X5_moveUp s (p_X7_doSequence_t1 σ 65) := by
      unfold p_X7_doSequence_s4; rw [if_neg (by decide), if_pos rfl, hs0]
    have em : p_X8_doIt t 65 N = p_X8_place t (p_X8_above t N) (t.1 6) := by
      unfold p_X8_doIt p_X8_doIt_s1; rw [if_pos rfl]
    rw [ed, em]
    rw [eN]
    exact st_moveUp hs N
  by_cases c66 : b = 66
  · subst c66
    have ed : p_X7_doSequence_s4 σ 66 = p_X5_moveDown s (p_X7_doSequence_t1 σ 66) := by
      unfold p_X7_doSequence_s4; rw [if_neg (by decide), if_neg (by decide), if_pos rfl, hs0]
    have em : p_X8_doIt t 66 N = p_X8_place t (p_X8_below t N) (t.1 6) := by
      unfold p_X8_doIt p_X8_doIt_s1; rw [if_neg (by decide), if_pos rfl]
    rw [ed, em]
    rw [eN]
    exact st_moveDown hs N
  by_cases c67 : b = 67
  · subst c67
    have ed : p_X7_doSequence_s4 σ 67 = p_X5_moveRight s (p_X7_doSequence_t1 σ 67) := by
      unfold p_X7_doSequence_s4; rw [if_neg (by decide), if_neg (by decide), if_neg (by decide), if_pos rfl, hs0]
    have em : p_X8_doIt t 67 N = p_X8_place t (t.1 5) (p_X8_atMost t (t.1 6 + N) 11) := by
      unfold p_X8_doIt p_X8_doIt_s1; rw [if_neg (by decide), if_neg (by decide), if_pos rfl]
    rw [ed, em]
    rw [eN]
    exact st_moveRight hs N
  by_cases c68 : b = 68
  · subst c68
    have ed : p_X7_doSequence_s4 σ 68 = p_X5_moveLeft s (p_X7_doSequence_t1 σ 68) := by
      unfold p_X7_doSequence_s4; rw [if_neg (by decide), if_neg (by decide), if_neg (by decide), if_neg (by decide), if_pos rfl, hs0]
    have em : p_X8_doIt t 68 N = p_X8_place t (t.1 5) (p_X8_atLeast t (t.1 6 - N) 0) := by
      unfold p_X8_doIt p_X8_doIt_s1; rw [if_neg (by decide), if_neg (by decide), if_neg (by decide), if_pos rfl]
    rw [ed, em]
    rw [eN]
    exact st_moveLeft hs hM N rn0
  by_cases c69 : b = 69
  · subst c69
    have ed : p_X7_doSequence_s4 σ 69 = p_X5_moveToColumn (p_X5_moveDown s (p_X7_doSequence_t1 σ 69)) 0 := by
      unfold p_X7_doSequence_s4; rw [if_neg (by decide), if_neg (by decide), if_neg (by decide), if_neg (by decide), if_neg (by decide), if_pos rfl, hs0]
    have em : p_X8_doIt t 69 N = p_X8_place t (p_X8_below t N) 0 := by
      unfold p_X8_doIt p_X8_doIt_s1; rw [if_neg (by decide), if_neg (by decide), if_neg (by decide), if_neg (by decide), if_pos rfl]
    rw [ed, em]
    rw [eN]
    exact st_moveDownE hs N
  by_cases c70 : b = 70
  · subst c70
    have ed : p_X7_doSequence_s4 σ 70 = p_X5_moveToColumn (p_X5_moveUp s (p_X7_doSequence_t1 σ 70)) 0 := by
      unfold p_X7_doSequence_s4; rw [if_neg (by decide), if_neg (by decide), if_neg (by decide), if_neg (by decide), if_neg (by decide), if_neg (by decide), if_pos rfl, hs0]
    have em : p_X8_doIt t 70 N = p_X8_place t (p_X8_above t N) 0 := by
      unfold p_X8_doIt p_X8_doIt_s1; rw [if_neg (by decide), if_neg (by decide), if_neg (by decide), if_neg (by decide), if_neg (by decide), if_pos rfl]
    rw [ed, em]
    rw [eN]
    exact st_moveUpF hs N
  by_cases c71 : b = 71
  · subst c71
    have ed : p_X7_doSequence_s4 σ 71 = p_X5_moveToColumn s (p_X7_doSequence_t1 σ 71 - 1) := by
      unfold p_X7_doSequence_s4; rw [if_neg (by decide), if_neg (by decide), if_neg (by decide), if_neg (by decide), if_neg (by decide), if_neg (by decide), if_neg (by decide), if_pos rfl, hs0]
    have em : p_X8_doIt t 71 N = p_X8_place t (t.1 5) (p_X8_atMost t (N - 1) 11) := by
      unfold p_X8_doIt p_X8_doIt_s1; rw [if_neg (by decide), if_neg (by decide), if_neg (by decide), if_neg (by decide), if_neg (by decide), if_neg (by decide), if_pos rfl]
    rw [ed, em]
    rw [eN]
    exact st_mtcG hs N
  by_cases c72 : b = 72
  · subst c72
    have ed : p_X7_doSequence_s4 σ 72 = p_X5_moveTo s (p_X7_doSequence_t1 σ 72 - 1) (p_X7_doSequence_t2 σ 72) := by
      unfold p_X7_doSequence_s4; rw [if_neg (by decide), if_neg (by decide), if_neg (by decide), if_neg (by decide), if_neg (by decide), if_neg (by decide), if_neg (by decide), if_neg (by decide), if_pos rfl, hs0]
    have em : p_X8_doIt t 72 N = p_X8_home t N (μ.2.2 8 1) := by
      unfold p_X8_doIt p_X8_doIt_s1; rw [if_neg (by decide), if_neg (by decide), if_neg (by decide), if_neg (by decide), if_neg (by decide), if_neg (by decide), if_neg (by decide), if_pos rfl]; rw [← ht0]; rfl
    rw [ed, em]
    rw [eN, eq2]
    exact st_home hs _ _ N _ rfl rfl
  by_cases c74 : b = 74
  · subst c74
    have ed : p_X7_doSequence_s4 σ 74 = p_X5_clearWithin s 0 95 (q_X2_valueAt_N s 0) := by
      unfold p_X7_doSequence_s4; rw [if_neg (by decide), if_neg (by decide), if_neg (by decide), if_neg (by decide), if_neg (by decide), if_neg (by decide), if_neg (by decide), if_neg (by decide), if_neg (by decide), if_pos rfl, hs0] <;> rfl
    have em : p_X8_doIt t 74 N = if 3 ≤ μ.2.2 8 0 then t else p_X8_clear t (if μ.2.2 8 0 = 0 then 12 * t.1 5 + t.1 6 else 0) (if μ.2.2 8 0 = 1 then 12 * t.1 5 + t.1 6 else 95) := by
      unfold p_X8_doIt p_X8_doIt_s1 p_X8_change p_X8_change_s6; rw [if_neg (by decide), if_neg (by decide), if_neg (by decide), if_neg (by decide), if_neg (by decide), if_neg (by decide), if_neg (by decide), if_neg (by decide), if_neg (by decide), if_neg (by decide), if_neg (by decide), if_pos rfl]; unfold p_X8_change_t2 p_X8_change_t3; rw [← ht0]; rfl
    rw [ed, em]
    rw [eP]
    exact st_cw hs hM _ 0 95 0 95 hP rfl rfl (R2.lit 0 (by decide)) (by decide)
  by_cases c75 : b = 75
  · subst c75
    have ed : p_X7_doSequence_s4 σ 75 = p_X5_clearWithin s (p_X5_rowStart s) (p_X5_rowEnd s) (q_X2_valueAt_N s 0) := by
      unfold p_X7_doSequence_s4; rw [if_neg (by decide), if_neg (by decide), if_neg (by decide), if_neg (by decide), if_neg (by decide), if_neg (by decide), if_neg (by decide), if_neg (by decide), if_neg (by decide), if_neg (by decide), if_pos rfl, hs0] <;> rfl
    have em : p_X8_doIt t 75 N = if 3 ≤ μ.2.2 8 0 then t else p_X8_clear t (if μ.2.2 8 0 = 0 then 12 * t.1 5 + t.1 6 else 12 * t.1 5) (if μ.2.2 8 0 = 1 then 12 * t.1 5 + t.1 6 else 12 * t.1 5 + 12 - 1) := by
      unfold p_X8_doIt p_X8_doIt_s1 p_X8_change p_X8_change_s6; rw [if_neg (by decide), if_neg (by decide), if_neg (by decide), if_neg (by decide), if_neg (by decide), if_neg (by decide), if_neg (by decide), if_neg (by decide), if_neg (by decide), if_neg (by decide), if_neg (by decide), if_neg (by decide), if_pos rfl]; unfold p_X8_change_t4 p_X8_change_t5; rw [← ht0]; rfl
    rw [ed, em]
    rw [eP]
    exact st_cw hs hM _ _ _ _ _ hP (by rw [ws_i hs hM, k0]) (by rw [we_i hs hM, k2]) ⟨by omega, by omega⟩ (by omega)
  by_cases c76 : b = 76
  · subst c76
    have ed : p_X7_doSequence_s4 σ 76 = if p_X5_isInRegion s = true then q_X3_push_pg s (p_X5_rowStart s) (p_X5_regionEnd s) (p_X7_doSequence_t1 σ 76 * 12) else s := by
      unfold p_X7_doSequence_s4; rw [if_neg (by decide), if_neg (by decide), if_neg (by decide), if_neg (by decide), if_neg (by decide), if_neg (by decide), if_neg (by decide), if_neg (by decide), if_neg (by decide), if_neg (by decide), if_neg (by decide), if_pos rfl, hs0] <;> rfl
    have em : p_X8_doIt t 76 N = if p_X8_change_t1 t 76 N = true then p_X8_shiftRows t (t.1 5) (-N) else t := by
      unfold p_X8_doIt p_X8_doIt_s1 p_X8_change p_X8_change_s6; rw [if_neg (by decide), if_neg (by decide), if_neg (by decide), if_neg (by decide), if_neg (by decide), if_neg (by decide), if_neg (by decide), if_neg (by decide), if_neg (by decide), if_neg (by decide), if_neg (by decide), if_neg (by decide), if_neg (by decide), if_pos rfl]
    rw [ed, em]
    rw [eN]
    rw [in_eq hs 76 N]
    by_cases z : p_X8_change_t1 t 76 N = true
    · rw [if_pos z, if_pos z]; exact st_pushR hs hM _ _ (t.1 5) (-N) (ws_i hs hM) r5 (by omega) rneg
    · rw [if_neg z, if_neg z]; exact Sim.rf hs
  by_cases c77 : b = 77
  · subst c77
    have ed : p_X7_doSequence_s4 σ 77 = if p_X5_isInRegion s = true then q_X3_pull_pg s (p_X5_rowStart s) (p_X5_regionEnd s) (p_X7_doSequence_t1 σ 77 * 12) else s := by
      unfold p_X7_doSequence_s4; rw [if_neg (by decide), if_neg (by decide), if_neg (by decide), if_neg (by decide), if_neg (by decide), if_neg (by decide), if_neg (by decide), if_neg (by decide), if_neg (by decide), if_neg (by decide), if_neg (by decide), if_neg (by decide), if_pos rfl, hs0] <;> rfl
    have em : p_X8_doIt t 77 N = if p_X8_change_t1 t 77 N = true then p_X8_shiftRows t (t.1 5) N else t := by
      unfold p_X8_doIt p_X8_doIt_s1 p_X8_change p_X8_change_s6; rw [if_neg (by decide), if_neg (by decide), if_neg (by decide), if_neg (by decide), if_neg (by decide), if_neg (by decide), if_neg (by decide), if_neg (by decide), if_neg (by decide), if_neg (by decide), if_neg (by decide), if_neg (by decide), if_neg (by decide), if_neg (by decide), if_pos rfl]
    rw [ed, em]
    rw [eN]
    rw [in_eq hs 77 N]
    by_cases z : p_X8_change_t1 t 77 N = true
    · rw [if_pos z, if_pos z]; exact st_pullR hs hM _ _ (t.1 5) N (ws_i hs hM) r5 m12 rn0
    · rw [if_neg z, if_neg z]; exact Sim.rf hs
  by_cases c80 : b = 80
  · subst c80
    have ed : p_X7_doSequence_s4 σ 80 = p_X5_takeOutCells s (p_X7_doSequence_t1 σ 80) := by
      unfold p_X7_doSequence_s4; rw [if_neg (by decide), if_neg (by decide), if_neg (by decide), if_neg (by decide), if_neg (by decide), if_neg (by decide), if_neg (by decide), if_neg (by decide), if_neg (by decide), if_neg (by decide), if_neg (by decide), if_neg (by decide), if_neg (by decide), if_pos rfl, hs0]
    have em : p_X8_doIt t 80 N = p_X8_shiftCells t N := by
      unfold p_X8_doIt p_X8_doIt_s1 p_X8_change p_X8_change_s6; rw [if_neg (by decide), if_neg (by decide), if_neg (by decide), if_neg (by decide), if_neg (by decide), if_neg (by decide), if_neg (by decide), if_neg (by decide), if_neg (by decide), if_neg (by decide), if_neg (by decide), if_neg (by decide), if_neg (by decide), if_neg (by decide), if_neg (by decide), if_pos rfl]
    rw [ed, em]
    rw [eN]
    exact st_pullC hs hM N rn0
  by_cases c83 : b = 83
  · subst c83
    have ed : p_X7_doSequence_s4 σ 83 = q_X3_pull_pg s (p_X5_regionStart s) (p_X5_regionEnd s) (p_X7_doSequence_t1 σ 83 * 12) := by
      unfold p_X7_doSequence_s4; rw [if_neg (by decide), if_neg (by decide), if_neg (by decide), if_neg (by decide), if_neg (by decide), if_neg (by decide), if_neg (by decide), if_neg (by decide), if_neg (by decide), if_neg (by decide), if_neg (by decide), if_neg (by decide), if_neg (by decide), if_neg (by decide), if_pos rfl, hs0] <;> rfl
    have em : p_X8_doIt t 83 N = p_X8_shiftRows t (t.1 7) N := by
      unfold p_X8_doIt p_X8_doIt_s1 p_X8_change p_X8_change_s6; rw [if_neg (by decide), if_neg (by decide), if_neg (by decide), if_neg (by decide), if_neg (by decide), if_neg (by decide), if_neg (by decide), if_neg (by decide), if_neg (by decide), if_neg (by decide), if_neg (by decide), if_neg (by decide), if_neg (by decide), if_neg (by decide), if_neg (by decide), if_neg (by decide), if_pos rfl]
    rw [ed, em]
    rw [eN]
    exact st_pullR hs hM _ _ (t.1 7) N (rs_i hs hM) r7 m12 rn0
  by_cases c84 : b = 84
  · subst c84
    have ed : p_X7_doSequence_s4 σ 84 = q_X3_push_pg s (p_X5_regionStart s) (p_X5_regionEnd s) (p_X7_doSequence_t1 σ 84 * 12) := by
      unfold p_X7_doSequence_s4; rw [if_neg (by decide), if_neg (by decide), if_neg (by decide), if_neg (by decide), if_neg (by decide), if_neg (by decide), if_neg (by decide), if_neg (by decide), if_neg (by decide), if_neg (by decide), if_neg (by decide), if_neg (by decide), if_neg (by decide), if_neg (by decide), if_neg (by decide), if_pos rfl, hs0] <;> rfl
    have em : p_X8_doIt t 84 N = p_X8_shiftRows t (t.1 7) (-N) := by
      unfold p_X8_doIt p_X8_doIt_s1 p_X8_change p_X8_change_s6; rw [if_neg (by decide), if_neg (by decide), if_neg (by decide), if_neg (by decide), if_neg (by decide), if_neg (by decide), if_neg (by decide), if_neg (by decide), if_neg (by decide), if_neg (by decide), if_neg (by decide), if_neg (by decide), if_neg (by decide), if_neg (by decide), if_neg (by decide), if_neg (by decide), if_neg (by decide), if_pos rfl]
    rw [ed, em]
    rw [eN]
    exact st_pushR hs hM _ _ (t.1 7) (-N) (rs_i hs hM) r7 (by omega) rneg
  by_cases c88 : b = 88
  · subst c88
    have ed : p_X7_doSequence_s4 σ 88 = p_X5_clearCells s (p_X7_doSequence_t1 σ 88) := by
      unfold p_X7_doSequence_s4; rw [if_neg (by decide), if_neg (by decide), if_neg (by decide), if_neg (by decide), if_neg (by decide), if_neg (by decide), if_neg (by decide), if_neg (by decide), if_neg (by decide), if_neg (by decide), if_neg (by decide), if_neg (by decide), if_neg (by decide), if_neg (by decide), if_neg (by decide), if_neg (by decide), if_pos rfl, hs0]
    have em : p_X8_doIt t 88 N = p_X8_clear t (12 * t.1 5 + t.1 6) (p_X8_atMost t (12 * t.1 5 + t.1 6 + N - 1) (12 * t.1 5 + 12 - 1)) := by
      unfold p_X8_doIt p_X8_doIt_s1 p_X8_change p_X8_change_s6; rw [if_neg (by decide), if_neg (by decide), if_neg (by decide), if_neg (by decide), if_neg (by decide), if_neg (by decide), if_neg (by decide), if_neg (by decide), if_neg (by decide), if_neg (by decide), if_neg (by decide), if_neg (by decide), if_neg (by decide), if_neg (by decide), if_neg (by decide), if_neg (by decide), if_neg (by decide), if_neg (by decide), if_pos rfl]
    rw [ed, em]
    rw [eN]
    exact st_X hs hM N hN
  by_cases c98 : b = 98
  · subst c98
    have ed : p_X7_doSequence_s4 σ 98 = p_X5_repeat s (p_X7_doSequence_t1 σ 98) := by
      unfold p_X7_doSequence_s4; rw [if_neg (by decide), if_neg (by decide), if_neg (by decide), if_neg (by decide), if_neg (by decide), if_neg (by decide), if_neg (by decide), if_neg (by decide), if_neg (by decide), if_neg (by decide), if_neg (by decide), if_neg (by decide), if_neg (by decide), if_neg (by decide), if_neg (by decide), if_neg (by decide), if_neg (by decide), if_pos rfl, hs0]
    have em : p_X8_doIt t 98 N = (p_X8_set_l1 t 98 N 24 t 0).1 := by
      unfold p_X8_doIt p_X8_doIt_s1 p_X8_change p_X8_change_s6 p_X8_set p_X8_set_s10; rw [if_neg (by decide), if_neg (by decide), if_neg (by decide), if_neg (by decide), if_neg (by decide), if_neg (by decide), if_neg (by decide), if_neg (by decide), if_neg (by decide), if_neg (by decide), if_neg (by decide), if_neg (by decide), if_neg (by decide), if_neg (by decide), if_neg (by decide), if_neg (by decide), if_neg (by decide), if_neg (by decide), if_neg (by decide), if_pos rfl]
    rw [ed, em]
    rw [eN]
    exact st_repeat hs hM 98 N hN
  by_cases c100 : b = 100
  · subst c100
    have ed : p_X7_doSequence_s4 σ 100 = p_X5_moveToRow s (p_X7_doSequence_t1 σ 100 - 1) := by
      unfold p_X7_doSequence_s4; rw [if_neg (by decide), if_neg (by decide), if_neg (by decide), if_neg (by decide), if_neg (by decide), if_neg (by decide), if_neg (by decide), if_neg (by decide), if_neg (by decide), if_neg (by decide), if_neg (by decide), if_neg (by decide), if_neg (by decide), if_neg (by decide), if_neg (by decide), if_neg (by decide), if_neg (by decide), if_neg (by decide), if_pos rfl, hs0]
    have em : p_X8_doIt t 100 N = p_X8_place t (p_X8_atMost t (N - 1) 7) (t.1 6) := by
      unfold p_X8_doIt p_X8_doIt_s1; rw [if_neg (by decide), if_neg (by decide), if_neg (by decide), if_neg (by decide), if_neg (by decide), if_neg (by decide), if_neg (by decide), if_neg (by decide), if_pos rfl]
    rw [ed, em]
    rw [eN]
    exact st_mtr hs N
  by_cases c102 : b = 102
  · subst c102
    have ed : p_X7_doSequence_s4 σ 102 = p_X5_moveTo s (p_X7_doSequence_t1 σ 102 - 1) (p_X7_doSequence_t2 σ 102) := by
      unfold p_X7_doSequence_s4; rw [if_neg (by decide), if_neg (by decide), if_neg (by decide), if_neg (by decide), if_neg (by decide), if_neg (by decide), if_neg (by decide), if_neg (by decide), if_neg (by decide), if_neg (by decide), if_neg (by decide), if_neg (by decide), if_neg (by decide), if_neg (by decide), if_neg (by decide), if_neg (by decide), if_neg (by decide), if_neg (by decide), if_neg (by decide), if_pos rfl, hs0]
    have em : p_X8_doIt t 102 N = p_X8_home t N (μ.2.2 8 1) := by
      unfold p_X8_doIt p_X8_doIt_s1; rw [if_neg (by decide), if_neg (by decide), if_neg (by decide), if_neg (by decide), if_neg (by decide), if_neg (by decide), if_neg (by decide), if_neg (by decide), if_neg (by decide), if_pos rfl]; rw [← ht0]; rfl
    rw [ed, em]
    rw [eN, eq2]
    exact st_home hs _ _ N _ rfl rfl
  by_cases c103 : b = 103
  · subst c103
    have ed : p_X7_doSequence_s4 σ 103 = p_X5_removeTabStops s (q_X2_valueAt_N s 0) := by
      unfold p_X7_doSequence_s4; rw [if_neg (by decide), if_neg (by decide), if_neg (by decide), if_neg (by decide), if_neg (by decide), if_neg (by decide), if_neg (by decide), if_neg (by decide), if_neg (by decide), if_neg (by decide), if_neg (by decide), if_neg (by decide), if_neg (by decide), if_neg (by decide), if_neg (by decide), if_neg (by decide), if_neg (by decide), if_neg (by decide), if_neg (by decide), if_neg (by decide), if_pos rfl, hs0]
    have em : p_X8_doIt t 103 N = (p_X8_set_l3 t 103 N 12 t 0).1 := by
      unfold p_X8_doIt p_X8_doIt_s1 p_X8_change p_X8_change_s6 p_X8_set p_X8_set_s10; rw [if_neg (by decide), if_neg (by decide), if_neg (by decide), if_neg (by decide), if_neg (by decide), if_neg (by decide), if_neg (by decide), if_neg (by decide), if_neg (by decide), if_neg (by decide), if_neg (by decide), if_neg (by decide), if_neg (by decide), if_neg (by decide), if_neg (by decide), if_neg (by decide), if_neg (by decide), if_neg (by decide), if_neg (by decide), if_neg (by decide), if_pos rfl]
    rw [ed, em]
    rw [eP]
    exact st_remTab hs hM _ (by rw [← ht0]; rfl) 103 N
  by_cases c104 : b = 104
  · subst c104
    have ed : p_X7_doSequence_s4 σ 104 = p_X7_switchInsert s true := by
      unfold p_X7_doSequence_s4; rw [if_neg (by decide), if_neg (by decide), if_neg (by decide), if_neg (by decide), if_neg (by decide), if_neg (by decide), if_neg (by decide), if_neg (by decide), if_neg (by decide), if_neg (by decide), if_neg (by decide), if_neg (by decide), if_neg (by decide), if_neg (by decide), if_neg (by decide), if_neg (by decide), if_neg (by decide), if_neg (by decide), if_neg (by decide), if_neg (by decide), if_neg (by decide), if_pos rfl, hs0]
    have em : p_X8_doIt t 104 N = (p_X8_set_l6 t 104 N 6 t 0).1 := by
      unfold p_X8_doIt p_X8_doIt_s1 p_X8_change p_X8_change_s6 p_X8_set p_X8_set_s10; rw [if_neg (by decide), if_neg (by decide), if_neg (by decide), if_neg (by decide), if_neg (by decide), if_neg (by decide), if_neg (by decide), if_neg (by decide), if_neg (by decide), if_neg (by decide), if_neg (by decide), if_neg (by decide), if_neg (by decide), if_neg (by decide), if_neg (by decide), if_neg (by decide), if_neg (by decide), if_neg (by decide), if_neg (by decide), if_neg (by decide), if_neg (by decide), if_pos rfl]
    rw [ed, em]
    exact st_insertAll hs hM hks true 104 N (by decide)
  by_cases c108 : b = 108
  · subst c108
    have ed : p_X7_doSequence_s4 σ 108 = p_X7_switchInsert s false := by
      unfold p_X7_doSequence_s4; rw [if_neg (by decide), if_neg (by decide), if_neg (by decide), if_neg (by decide), if_neg (by decide), if_neg (by decide), if_neg (by decide), if_neg (by decide), if_neg (by decide), if_neg (by decide), if_neg (by decide), if_neg (by decide), if_neg (by decide), if_neg (by decide), if_neg (by decide), if_neg (by decide), if_neg (by decide), if_neg (by decide), if_neg (by decide), if_neg (by decide), if_neg (by decide), if_neg (by decide), if_pos rfl, hs0]
    have em : p_X8_doIt t 108 N = (p_X8_set_l6 t 108 N 6 t 0).1 := by
      unfold p_X8_doIt p_X8_doIt_s1 p_X8_change p_X8_change_s6 p_X8_set p_X8_set_s10; rw [if_neg (by decide), if_neg (by decide), if_neg (by decide), if_neg (by decide), if_neg (by decide), if_neg (by decide), if_neg (by decide), if_neg (by decide), if_neg (by decide), if_neg (by decide), if_neg (by decide), if_neg (by decide), if_neg (by decide), if_neg (by decide), if_neg (by decide), if_neg (by decide), if_neg (by decide), if_neg (by decide), if_neg (by decide), if_neg (by decide), if_neg (by decide), if_neg (by decide), if_pos rfl]
    rw [ed, em]
    exact st_insertAll hs hM hks false 108 N (by decide)
  by_cases c109 : b = 109
  · subst c109
    have ed : p_X7_doSequence_s4 σ 109 = p_X7_paintAll s := by
      unfold p_X7_doSequence_s4; rw [if_neg (by decide), if_neg (by decide), if_neg (by decide), if_neg (by decide), if_neg (by decide), if_neg (by decide), if_neg (by decide), if_neg (by decide), if_neg (by decide), if_neg (by decide), if_neg (by decide), if_neg (by decide), if_neg (by decide), if_neg (by decide), if_neg (by decide), if_neg (by decide), if_neg (by decide), if_neg (by decide), if_neg (by decide), if_neg (by decide), if_neg (by decide), if_neg (by decide), if_neg (by decide), if_pos rfl, hs0]
    have em : p_X8_doIt t 109 N = (p_X8_set_l8 t 109 N 6 (p_X8_set_s7 t 109 N) 0).1 := by
      unfold p_X8_doIt p_X8_doIt_s1 p_X8_change p_X8_change_s6 p_X8_set p_X8_set_s10; rw [if_neg (by decide), if_neg (by decide), if_neg (by decide), if_neg (by decide), if_neg (by decide), if_neg (by decide), if_neg (by decide), if_neg (by decide), if_neg (by decide), if_neg (by decide), if_neg (by decide), if_neg (by decide), if_neg (by decide), if_neg (by decide), if_neg (by decide), if_neg (by decide), if_neg (by decide), if_neg (by decide), if_neg (by decide), if_neg (by decide), if_neg (by decide), if_neg (by decide), if_neg (by decide), if_pos rfl]
    rw [ed, em]
    exact st_paintAll hs hM hks 109 N
  by_cases c110 : b = 110
  · subst c110
    have ed : p_X7_doSequence_s4 σ 110 = p_X7_answer s (q_X2_valueAt_N s 0) := by
      unfold p_X7_doSequence_s4; rw [if_neg (by decide), if_neg (by decide), if_neg (by decide), if_neg (by decide), if_neg (by decide), if_neg (by decide), if_neg (by decide), if_neg (by decide), if_neg (by decide), if_neg (by decide), if_neg (by decide), if_neg (by decide), if_neg (by decide), if_neg (by decide), if_neg (by decide), if_neg (by decide), if_neg (by decide), if_neg (by decide), if_neg (by decide), if_neg (by decide), if_neg (by decide), if_neg (by decide), if_neg (by decide), if_neg (by decide), if_pos rfl, hs0]
    have em : p_X8_doIt t 110 N = p_X8_answer t (μ.2.2 8 0) := by
      unfold p_X8_doIt p_X8_doIt_s1 p_X8_change p_X8_change_s6 p_X8_set p_X8_set_s10; rw [if_neg (by decide), if_neg (by decide), if_neg (by decide), if_neg (by decide), if_neg (by decide), if_neg (by decide), if_neg (by decide), if_neg (by decide), if_neg (by decide), if_neg (by decide), if_neg (by decide), if_neg (by decide), if_neg (by decide), if_neg (by decide), if_neg (by decide), if_neg (by decide), if_neg (by decide), if_neg (by decide), if_neg (by decide), if_neg (by decide), if_neg (by decide), if_neg (by decide), if_neg (by decide), if_neg (by decide), if_pos rfl]; rw [← ht0]; rfl
    rw [ed, em]
    rw [eP]
    exact st_answer hs hM _
  by_cases c114 : b = 114
  · subst c114
    have ed : p_X7_doSequence_s4 σ 114 = p_X5_setRegion s (p_X7_doSequence_t1 σ 114 - 1) (p_X7_doSequence_t3 σ 114) := by
      unfold p_X7_doSequence_s4; rw [if_neg (by decide), if_neg (by decide), if_neg (by decide), if_neg (by decide), if_neg (by decide), if_neg (by decide), if_neg (by decide), if_neg (by decide), if_neg (by decide), if_neg (by decide), if_neg (by decide), if_neg (by decide), if_neg (by decide), if_neg (by decide), if_neg (by decide), if_neg (by decide), if_neg (by decide), if_neg (by decide), if_neg (by decide), if_neg (by decide), if_neg (by decide), if_neg (by decide), if_neg (by decide), if_neg (by decide), if_neg (by decide), if_pos rfl, hs0]
    have em : p_X8_doIt t 114 N = if p_X8_set_t9 t 114 N ≤ N - 1 then t else (if 8 ≤ p_X8_set_t9 t 114 N then t else (p_X8_home (si (si t 7 (N - 1)) 8 (p_X8_set_t9 t 114 N)) 1 0)) := by
      unfold p_X8_doIt p_X8_doIt_s1 p_X8_change p_X8_change_s6 p_X8_set p_X8_set_s10; rw [if_neg (by decide), if_neg (by decide), if_neg (by decide), if_neg (by decide), if_neg (by decide), if_neg (by decide), if_neg (by decide), if_neg (by decide), if_neg (by decide), if_neg (by decide), if_neg (by decide), if_neg (by decide), if_neg (by decide), if_neg (by decide), if_neg (by decide), if_neg (by decide), if_neg (by decide), if_neg (by decide), if_neg (by decide), if_neg (by decide), if_neg (by decide), if_neg (by decide), if_neg (by decide), if_neg (by decide), if_neg (by decide), if_pos rfl]
    rw [ed, em]
    rw [eN, eq3]
    exact st_region2 hs _ _ N (p_X8_set_t9 t 114 N) rfl (by rw [← ht0]; rfl)
  by_cases c115 : b = 115
  · subst c115
    have ed : p_X7_doSequence_s4 σ 115 = p_X5_save s := by
      unfold p_X7_doSequence_s4; rw [if_neg (by decide), if_neg (by decide), if_neg (by decide), if_neg (by decide), if_neg (by decide), if_neg (by decide), if_neg (by decide), if_neg (by decide), if_neg (by decide), if_neg (by decide), if_neg (by decide), if_neg (by decide), if_neg (by decide), if_neg (by decide), if_neg (by decide), if_neg (by decide), if_neg (by decide), if_neg (by decide), if_neg (by decide), if_neg (by decide), if_neg (by decide), if_neg (by decide), if_neg (by decide), if_neg (by decide), if_neg (by decide), if_neg (by decide), if_pos rfl, hs0]
    have em : p_X8_doIt t 115 N = p_X8_save t := by
      unfold p_X8_doIt p_X8_doIt_s1 p_X8_change p_X8_change_s6 p_X8_set p_X8_set_s10; rw [if_neg (by decide), if_neg (by decide), if_neg (by decide), if_neg (by decide), if_neg (by decide), if_neg (by decide), if_neg (by decide), if_neg (by decide), if_neg (by decide), if_neg (by decide), if_neg (by decide), if_neg (by decide), if_neg (by decide), if_neg (by decide), if_neg (by decide), if_neg (by decide), if_neg (by decide), if_neg (by decide), if_neg (by decide), if_neg (by decide), if_neg (by decide), if_neg (by decide), if_neg (by decide), if_neg (by decide), if_neg (by decide), if_neg (by decide), if_pos rfl]
    rw [ed, em]
    exact st_save hs
  by_cases c117 : b = 117
  · subst c117
    have ed : p_X7_doSequence_s4 σ 117 = p_X5_restore s := by
      unfold p_X7_doSequence_s4; rw [if_neg (by decide), if_neg (by decide), if_neg (by decide), if_neg (by decide), if_neg (by decide), if_neg (by decide), if_neg (by decide), if_neg (by decide), if_neg (by decide), if_neg (by decide), if_neg (by decide), if_neg (by decide), if_neg (by decide), if_neg (by decide), if_neg (by decide), if_neg (by decide), if_neg (by decide), if_neg (by decide), if_neg (by decide), if_neg (by decide), if_neg (by decide), if_neg (by decide), if_neg (by decide), if_neg (by decide), if_neg (by decide), if_neg (by decide), if_neg (by decide), if_pos rfl, hs0]
    have em : p_X8_doIt t 117 N = p_X8_bring t := by
      unfold p_X8_doIt p_X8_doIt_s1 p_X8_change p_X8_change_s6 p_X8_set p_X8_set_s10; rw [if_neg (by decide), if_neg (by decide), if_neg (by decide), if_neg (by decide), if_neg (by decide), if_neg (by decide), if_neg (by decide), if_neg (by decide), if_neg (by decide), if_neg (by decide), if_neg (by decide), if_neg (by decide), if_neg (by decide), if_neg (by decide), if_neg (by decide), if_neg (by decide), if_neg (by decide), if_neg (by decide), if_neg (by decide), if_neg (by decide), if_neg (by decide), if_neg (by decide), if_neg (by decide), if_neg (by decide), if_neg (by decide), if_neg (by decide), if_neg (by decide), if_pos rfl]
    rw [ed, em]
    exact st_bring hs
  have ed : p_X7_doSequence_s4 σ b = s := by
    unfold p_X7_doSequence_s4; rw [if_neg c64, if_neg c65, if_neg c66, if_neg c67, if_neg c68, if_neg c69, if_neg c70, if_neg c71, if_neg c72, if_neg c74, if_neg c75, if_neg c76, if_neg c77, if_neg c80, if_neg c83, if_neg c84, if_neg c88, if_neg c98, if_neg c100, if_neg c102, if_neg c103, if_neg c104, if_neg c108, if_neg c109, if_neg c110, if_neg c114, if_neg c115, if_neg c117, hs0]
  have em : p_X8_doIt t b N = t := by
    unfold p_X8_doIt p_X8_doIt_s1 p_X8_change p_X8_change_s6 p_X8_set p_X8_set_s10; rw [if_neg c65, if_neg c66, if_neg c67, if_neg c68, if_neg c69, if_neg c70, if_neg c71, if_neg c72, if_neg c100, if_neg c102, if_neg c64, if_neg c74, if_neg c75, if_neg c76, if_neg c77, if_neg c80, if_neg c83, if_neg c84, if_neg c88, if_neg c98, if_neg c103, if_neg c104, if_neg c108, if_neg c109, if_neg c110, if_neg c114, if_neg c115, if_neg c117]
  rw [ed, em]; exact Sim.rf hs
end SEQ
