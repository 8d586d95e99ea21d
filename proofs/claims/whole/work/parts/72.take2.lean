/-! ===== escapes, numbers, titles ===== -/
theorem beg_cl (σ : St) : ∀ (n : Nat) (s : St) (x : Int32), 0 ≤ x.toInt → x.toInt ≤ 6 → 6 - x.toInt ≤ n → (p_X2_begin_l1 σ n s x).1.2.2 0 = fil x.toInt 5 (fun _ => 0) (s.2.2 0) := by
  intro n
  induction n with
  | zero => intro s x h0 h1 h2; exact (fil_nil (by omega)).symm
  | succ n ih =>
    intro s x h0 h1 h2
    unfold p_X2_begin_l1
    by_cases hc : 6 ≤ x
    · rw [if_pos hc]; rw [ti_le] at hc; replace hc : 6 ≤ x.toInt := hc
      exact (fil_nil (by omega)).symm
    · rw [if_neg hc]; rw [ti_le] at hc; replace hc : ¬ 6 ≤ x.toInt := hc
      have e1 := suc_i (x := x) (by omega) (by omega)
      rw [ih _ (x + 1) (by omega) (by omega) (by omega), e1]
      exact fil_up h0 (by omega) rfl
theorem esc_cl (τ : St) (b : Int32) : ∀ (n : Nat) (s : St) (x : Int32), 0 ≤ x.toInt → x.toInt ≤ 6 → 6 - x.toInt ≤ n →
    (p_X8_escape_l9 τ b n s x).1 = sa s 8 (fil x.toInt 5 (fun _ => 0) (s.2.2 8)) := by
  have sa_id : ∀ (s : St) (f : Nat → Int32), f = s.2.2 8 → s = sa s 8 f := by
    intro s f hf
    subst hf
    refine Prod.ext rfl (Prod.ext rfl ?_)
    funext j
    show s.2.2 j = if j = 8 then s.2.2 8 else s.2.2 j
    by_cases z : j = 8
    · rw [if_pos z, z]
    · rw [if_neg z]
  have sa_sa : ∀ (s : St) (f g : Nat → Int32), sa (sa s 8 f) 8 g = sa s 8 g := by
    intro s f g
    refine Prod.ext rfl (Prod.ext rfl ?_)
    funext j
    show (if j = 8 then g else (if j = 8 then f else s.2.2 j)) = (if j = 8 then g else s.2.2 j)
    by_cases z : j = 8
    · rw [if_pos z, if_pos z]
    · rw [if_neg z, if_neg z, if_neg z]
  intro n
  induction n with
  | zero => intro s x h0 h1 h2; exact sa_id s _ (fil_nil (by omega))
  | succ n ih =>
    intro s x h0 h1 h2
    unfold p_X8_escape_l9
    by_cases hc : 6 ≤ x
    · rw [if_pos hc]; rw [ti_le] at hc; replace hc : 6 ≤ x.toInt := hc
      exact sa_id s _ (fil_nil (by omega))
    · rw [if_neg hc]; rw [ti_le] at hc; replace hc : ¬ 6 ≤ x.toInt := hc
      have e1 := suc_i (x := x) (by omega) (by omega)
      rw [ih _ (x + 1) (by omega) (by omega) (by omega), e1, sa_sa]
      refine congrArg (sa s 8) ?_
      exact fil_up h0 (by omega) rfl
section TAKE2
variable {σ μ : St}
theorem tk_escape (h : RelD σ μ) (hj : NL σ μ) (b : Int32) : RelD (p_X7_takeInEscape σ b) (p_X8_escape μ b) := by
  obtain ⟨c, hM, h3, h4, h5, h6, h7⟩ := h
  have hMe : OkM (p_X8_escape μ b) := okm_escape b hM
  unfold p_X7_takeInEscape p_X7_takeInEscape_s2
  by_cases c91 : b = 91
  · have em : p_X8_escape μ b = sa (sb (si (si μ 24 2) 37 0) 38 false) 8 (fil (0 : Int32).toInt 5 (fun _ => 0) (μ.2.2 8)) := by
      unfold p_X8_escape; rw [if_pos c91, esc_cl μ b 6 _ 0 (by decide) (by decide) (by decide)]; rfl
    rw [em] at hMe
    rw [em, if_neg (by rw [c91]; decide), if_neg (by rw [c91]; decide), if_neg (by rw [c91]; decide), if_neg (by rw [c91]; decide), if_neg (by rw [c91]; decide), if_neg (by rw [c91]; decide), if_pos c91]
    have ed : ∀ s : St, q_X2_begin_N s = sa (sb (si s 15 0) 7 false) 4 (fil (0 : Int32).toInt 5 (fun _ => 0) (s.2.2 4)) := by
      intro s
      have e1 : (p_X2_begin_l1 (subN s) 6 (subN s) 0).1.2.2 0 = fil (0 : Int32).toInt 5 (fun _ => 0) (s.2.2 4) := beg_cl (subN s) 6 (subN s) 0 (by decide) (by decide) (by decide)
      unfold q_X2_begin_N p_X2_begin
      generalize (p_X2_begin_l1 (subN s) 6 (subN s) 0).1 = T at e1
      rw [← e1]; rfl
    rw [ed]
    refine ⟨c, hMe, rfl, R2.lit 2 (by decide), Or.inl hj, fun _ => ⟨(by show (0 : Int32) = if (7 : Int32) ≤ 0 then 7 else 0; decide), rfl, fun k hk => ?_, fun _ => ?_⟩, fun z => absurd z (by show ¬ (2 : Int32) = 4; decide)⟩
    · show fil (0 : Int32).toInt 5 (fun _ => 0) (σ.2.2 4) k = fil (0 : Int32).toInt 5 (fun _ => 0) (μ.2.2 8) k
      rw [fil_in (show (0 : Int32).toInt ≤ (k : Int) from by show (0 : Int) ≤ _; omega) (by omega), fil_in (show (0 : Int32).toInt ≤ (k : Int) from by show (0 : Int) ≤ _; omega) (by omega)]
    · show fil (0 : Int32).toInt 5 (fun _ => 0) (μ.2.2 8) 0 = 0
      rw [fil_in (show (0 : Int32).toInt ≤ ((0 : Nat) : Int) from by decide) (by decide)]
  by_cases c93 : b = 93
  · have em : p_X8_escape μ b = si (si μ 24 4) 32 0 := by unfold p_X8_escape; rw [if_neg c91, if_pos c93]
    rw [em] at hMe
    rw [em, if_neg (by rw [c93]; decide), if_neg (by rw [c93]; decide), if_neg (by rw [c93]; decide), if_neg (by rw [c93]; decide), if_neg (by rw [c93]; decide), if_neg (by rw [c93]; decide), if_neg c91, if_pos c93]
    exact ⟨c, hMe, rfl, R2.lit 4 (by decide), Or.inl hj, fun z => absurd z (by show ¬ (4 : Int32) = 2; decide), fun _ => ⟨rfl, fun k hk => absurd hk (by show ¬ k < (0 : Int32).toInt.toNat; exact Nat.not_lt_zero k)⟩⟩
  have em : p_X8_escape μ b = p_X8_escape_s8 μ b := by unfold p_X8_escape; rw [if_neg c91, if_neg c93]
  rw [em] at hMe ⊢
  have et : p_X7_takeInEscape_t1 σ b = p_X8_escape_t1 μ b := rfl
  rw [et]
  have r : RelD (si σ 0 (p_X8_escape_t1 μ b)) (si μ 24 (p_X8_escape_t1 μ b)) := by
    refine relD_s0 c hM hj _ ?_
    unfold p_X8_escape_t1
    by_cases y : 48 ≤ b
    · rw [if_pos y]; exact Or.inl rfl
    · rw [if_neg y]; exact Or.inr (Or.inr rfl)
  generalize hv : p_X8_escape_t1 μ b = v at *
  have hMr := r.2.1
  have cr := r.1
  generalize hs : si σ 0 v = s at *
  generalize ht : si μ 24 v = t at *
  by_cases c55 : b = 55
  · have e : p_X8_escape_s8 μ b = p_X8_save t := by
      unfold p_X8_escape_s8 p_X8_escape_s7 p_X8_escape_s6 p_X8_escape_s5 p_X8_escape_s4 p_X8_escape_s3 p_X8_escape_s2
      rw [hv, ht, c55, if_neg (by decide), if_neg (by decide), if_neg (by decide), if_neg (by decide), if_neg (by decide), if_neg (by decide), if_pos rfl]
    rw [e] at hMe ⊢
    rw [if_pos c55]; exact r.st (st_save cr) hMe
  have e2 : p_X8_escape_s2 μ b = t := by unfold p_X8_escape_s2; rw [if_neg c55, hv, ht]
  rw [if_neg c55]
  by_cases c56 : b = 56
  · have e : p_X8_escape_s8 μ b = p_X8_bring t := by
      unfold p_X8_escape_s8 p_X8_escape_s7 p_X8_escape_s6 p_X8_escape_s5 p_X8_escape_s4 p_X8_escape_s3
      rw [e2, c56, if_neg (by decide), if_neg (by decide), if_neg (by decide), if_neg (by decide), if_neg (by decide), if_pos rfl]
    rw [e] at hMe ⊢
    rw [if_pos c56]; exact r.st (st_bring cr) hMe
  have e3 : p_X8_escape_s3 μ b = t := by unfold p_X8_escape_s3; rw [if_neg c56, e2]
  rw [if_neg c56]
  by_cases c68 : b = 68
  · have e : p_X8_escape_s8 μ b = p_X8_feeding t := by
      unfold p_X8_escape_s8 p_X8_escape_s7 p_X8_escape_s6 p_X8_escape_s5 p_X8_escape_s4
      rw [e3, c68, if_neg (by decide), if_neg (by decide), if_neg (by decide), if_neg (by decide), if_pos rfl]
    rw [e] at hMe ⊢
    rw [if_pos c68]; exact r.st (st_feed cr hMr) hMe
  have e4 : p_X8_escape_s4 μ b = t := by unfold p_X8_escape_s4; rw [if_neg c68, e3]
  rw [if_neg c68]
  by_cases c69 : b = 69
  · have e : p_X8_escape_s8 μ b = p_X8_feeding (p_X8_place t (t.1 5) 0) := by
      unfold p_X8_escape_s8 p_X8_escape_s7 p_X8_escape_s6 p_X8_escape_s5
      rw [e4, c69, if_neg (by decide), if_neg (by decide), if_neg (by decide), if_pos rfl]
    rw [e] at hMe ⊢
    rw [if_pos c69]
    have x := st_mtc cr 0 0 (by decide)
    exact r.st (x.tr (st_feed x.1 (okm_place hMr.2.1 (R2.lit 0 (by decide)) hMr))) hMe
  have e5 : p_X8_escape_s5 μ b = t := by unfold p_X8_escape_s5; rw [if_neg c69, e4]
  rw [if_neg c69]
  by_cases c72 : b = 72
  · have e : p_X8_escape_s8 μ b = sa t 4 (upd (t.2.2 4) (t.1 6 : Int32).toNatClampNeg (vp_nar .boolean 1)) := by
      unfold p_X8_escape_s8 p_X8_escape_s7 p_X8_escape_s6
      rw [e5, c72, if_neg (by decide), if_neg (by decide), if_pos rfl]
    rw [e] at hMe ⊢
    rw [if_pos c72]; exact r.st (st_setTab cr hMr) hMe
  have e6 : p_X8_escape_s6 μ b = t := by unfold p_X8_escape_s6; rw [if_neg c72, e5]
  rw [if_neg c72]
  by_cases c77 : b = 77
  · have e : p_X8_escape_s8 μ b = p_X8_backing t := by
      unfold p_X8_escape_s8 p_X8_escape_s7
      rw [e6, c77, if_neg (by decide), if_pos rfl]
    rw [e] at hMe ⊢
    rw [if_pos c77]; exact r.st (st_back cr hMr) hMe
  have e7 : p_X8_escape_s7 μ b = t := by unfold p_X8_escape_s7; rw [if_neg c77, e6]
  rw [if_neg c77, if_neg c91, if_neg c93]
  by_cases c99 : b = 99
  · have e : p_X8_escape_s8 μ b = p_X8_first t := by unfold p_X8_escape_s8; rw [if_pos c99, e7]
    rw [e] at hMe ⊢
    rw [if_pos c99]
    obtain ⟨L, z3, ew, _, _⟩ := first_w t
    have m24 : (p_X8_first t).1 24 = 0 := by rw [ew]; exact mF_24 L z3
    have m33 : (p_X8_first t).1 33 = 0 := by rw [ew]; exact mF_33 L z3
    exact ⟨rel_first s t, hMe, (dF_0 s).trans m24.symm, by rw [m24]; exact R2.lit 0 (by decide), Or.inl ⟨dF_12 s, m33⟩, fun z => absurd (m24.symm.trans z) (by decide), fun z => absurd (m24.symm.trans z) (by decide)⟩
  · have e : p_X8_escape_s8 μ b = t := by unfold p_X8_escape_s8; rw [if_neg c99, e7]
    rw [if_neg c99, e]; exact r
/-- the numbers grow -/
theorem tk_n {σ' μ' : St} (h : RelD σ μ) (hs : μ.1 24 = 2) (c' : RelC σ' μ') (hM' : OkM μ') (d : σ'.1 0 = σ.1 0 ∧ σ'.1 12 = σ.1 12 ∧ σ'.1 13 = σ.1 13 ∧ σ'.1 14 = σ.1 14) (m : μ'.1 24 = μ.1 24 ∧ μ'.1 33 = μ.1 33 ∧ μ'.1 34 = μ.1 34 ∧ μ'.1 35 = μ.1 35) (hk' : RK σ' μ') : RelD σ' μ' := by
  obtain ⟨c, hM, h3, h4, h5, h6, h7⟩ := h
  obtain ⟨d0, d12, d13, d14⟩ := d
  obtain ⟨m24, m33, m34, m35⟩ := m
  refine ⟨c', hM', ?_, ?_, ?_, fun _ => hk', fun z => ?_⟩
  · rw [d0, m24]; exact h3
  · rw [m24]; exact h4
  · unfold RJ; rw [d12, m33, m24, m34, d13, m35, d14]; exact h5
  · rw [m24, hs] at z; exact absurd z (by decide)
theorem dig_eq {v b : Int32} (hv : R2 0 9999 v) (hb : R2 48 57 b) : (if v * 10 + (b - 48) < 9999 then v * 10 + (b - 48) else 9999) = (if (10 * v + b) - 48 ≤ 9999 then (10 * v + b) - 48 else 9999) := by
  obtain ⟨v1, v2⟩ := hv
  obtain ⟨b1, b2⟩ := hb
  have z10 : (10 : Int32).toInt = 10 := rfl
  have z48 : (48 : Int32).toInt = 48 := rfl
  have z9 : (9999 : Int32).toInt = 9999 := rfl
  have e1 : (v * 10).toInt = v.toInt * 10 := ti_mul (by rw [z10]; omega) (by rw [z10]; omega)
  have e2 : (b - 48).toInt = b.toInt - 48 := ti_sub (by rw [z48]; omega) (by rw [z48]; omega)
  have e3 : (v * 10 + (b - 48)).toInt = v.toInt * 10 + (b.toInt - 48) := by rw [ti_add (by omega) (by omega), e1, e2]
  have e4 : (10 * v).toInt = 10 * v.toInt := ti_mul (by rw [z10]; omega) (by rw [z10]; omega)
  have e5 : (10 * v + b).toInt = 10 * v.toInt + b.toInt := by rw [ti_add (by omega) (by omega), e4]
  have e6 : ((10 * v + b) - 48).toInt = 10 * v.toInt + b.toInt - 48 := by rw [ti_sub (by omega) (by omega), e5, z48]
  have e : v * 10 + (b - 48) = (10 * v + b) - 48 := by rw [ti_eq]; omega
  rw [e]
  by_cases a : (10 * v + b) - 48 < 9999
  · rw [if_pos a, if_pos (by rw [ti_le]; rw [ti_lt] at a; omega)]
  · rw [if_neg a]
    by_cases c : (10 * v + b) - 48 ≤ 9999
    · rw [if_pos c, ti_eq]; rw [ti_lt] at a; rw [ti_le] at c; omega
    · rw [if_neg c]
theorem tk_digit (h : RelD σ μ) (hs : μ.1 24 = 2) (hk : RK σ μ) (b : Int32) (hb : R2 48 57 b) (hM' : OkM (if 6 < (p_X8_sequence_s3 μ b).1 37 then (p_X8_sequence_s3 μ b) else sa (p_X8_sequence_s3 μ b) 8 (upd ((p_X8_sequence_s3 μ b).2.2 8) (((p_X8_sequence_s3 μ b).1 37) - 1 : Int32).toNatClampNeg (p_X8_sequence_t4 μ b)))) :
    RelD (q_X2_addDigit_N σ (b - 48)) (if 6 < (p_X8_sequence_s3 μ b).1 37 then (p_X8_sequence_s3 μ b) else sa (p_X8_sequence_s3 μ b) 8 (upd ((p_X8_sequence_s3 μ b).2.2 8) (((p_X8_sequence_s3 μ b).1 37) - 1 : Int32).toNatClampNeg (p_X8_sequence_t4 μ b))) := by
  obtain ⟨B1, B2⟩ := h.2.1.2.2.2.2.2.2.2.2.2.2.1
  have hnum := okm_numbers h.2.1
  obtain ⟨k1, k2, k3, k4⟩ := hk
  have z0 : (0 : Int32).toInt = 0 := rfl
  have z1 : (1 : Int32).toInt = 1 := rfl
  have z6 : (6 : Int32).toInt = 6 := rfl
  have z7 : (7 : Int32).toInt = 7 := rfl
  by_cases a : μ.1 37 = 0
  · have s3 : p_X8_sequence_s3 μ b = si μ 37 1 := by unfold p_X8_sequence_s3; rw [if_pos a]
    have d15 : σ.1 15 = 0 := by rw [k1, a]; rfl
    have dv := dig_eq (hnum 0 (by decide)) hb
    have x0 : ((si μ 37 1).1 37 - 1 : Int32).toNatClampNeg = 0 := by show ((1 : Int32) - 1).toNatClampNeg = 0; decide
    have t4 : p_X8_sequence_t4 μ b = (if (10 * μ.2.2 8 0 + b) - 48 ≤ 9999 then (10 * μ.2.2 8 0 + b) - 48 else 9999) := by unfold p_X8_sequence_t4; rw [s3, x0]; rfl
    rw [t4, s3, if_neg (by show ¬ (6 : Int32) < 1; decide), x0] at hM' ⊢
    have ed : q_X2_addDigit_N σ (b - 48) = putN σ (sa (si (subN σ) 0 1) 0 (upd (σ.2.2 4) 0 (if σ.2.2 4 0 * 10 + (b - 48) < 9999 then σ.2.2 4 0 * 10 + (b - 48) else 9999))) := by
      unfold q_X2_addDigit_N p_X2_addDigit p_X2_addDigit_s1
      rw [show (subN σ).1 0 = 0 from d15, if_neg (by decide), if_neg (by decide)]; rfl
    rw [ed, k3 0 (by decide), dv]
    refine tk_n h hs h.1 hM' ⟨rfl, rfl, rfl, rfl⟩ ⟨rfl, rfl, rfl, rfl⟩ ⟨(by show (1 : Int32) = if (7 : Int32) ≤ 1 then 7 else 1; decide), k2, fun k hk => ?_, fun z => absurd z (by show ¬ (1 : Int32) = 0; decide)⟩
    show (if k = 0 then (if (10 * μ.2.2 8 0 + b) - 48 ≤ 9999 then (10 * μ.2.2 8 0 + b) - 48 else 9999) else σ.2.2 4 k) = (if k = 0 then (if (10 * μ.2.2 8 0 + b) - 48 ≤ 9999 then (10 * μ.2.2 8 0 + b) - 48 else 9999) else μ.2.2 8 k)
    by_cases y : k = 0
    · rw [if_pos y, if_pos y]
    · rw [if_neg y, if_neg y]; exact k3 k hk
  · have s3 : p_X8_sequence_s3 μ b = μ := by unfold p_X8_sequence_s3; rw [if_neg a]
    have a' : 1 ≤ (μ.1 37).toInt := by rw [ti_eq] at a; omega
    by_cases c : 7 ≤ μ.1 37
    · have d15 : σ.1 15 = 7 := by rw [k1, if_pos c]
      have c6 : 6 < (p_X8_sequence_s3 μ b).1 37 := by rw [s3, ti_lt]; rw [ti_le] at c; omega
      rw [if_pos c6, s3] at hM' ⊢
      have ed : q_X2_addDigit_N σ (b - 48) = putN σ (si (subN σ) 0 7) := by
        unfold q_X2_addDigit_N p_X2_addDigit p_X2_addDigit_s1
        rw [show (subN σ).1 0 = 7 from d15, if_pos (by decide), if_pos (by decide)]
      rw [ed]
      exact tk_n h hs h.1 hM' ⟨rfl, rfl, rfl, rfl⟩ ⟨rfl, rfl, rfl, rfl⟩ ⟨by rw [if_pos c]; rfl, k2, k3, k4⟩
    · have d15 : σ.1 15 = μ.1 37 := by rw [k1, if_neg c]
      rw [ti_le] at c
      have c6 : ¬ 6 < (p_X8_sequence_s3 μ b).1 37 := by rw [s3, ti_lt]; omega
      have em : (μ.1 37 - 1).toInt = (μ.1 37).toInt - 1 := by rw [ti_sub (by omega) (by omega), z1]
      have hlt : (μ.1 37 - 1).toNatClampNeg < 6 := by rw [tn]; omega
      have dv := dig_eq (hnum _ hlt) hb
      have t4 : p_X8_sequence_t4 μ b = (if (10 * μ.2.2 8 (μ.1 37 - 1).toNatClampNeg + b) - 48 ≤ 9999 then (10 * μ.2.2 8 (μ.1 37 - 1).toNatClampNeg + b) - 48 else 9999) := by unfold p_X8_sequence_t4; rw [s3]
      rw [if_neg c6, t4, s3] at hM' ⊢
      have emx : (if 1 < μ.1 37 then μ.1 37 else 1) = μ.1 37 := by
        by_cases y : 1 < μ.1 37
        · rw [if_pos y]
        · rw [if_neg y, ti_eq]; rw [ti_lt] at y; omega
      have ed : q_X2_addDigit_N σ (b - 48) = putN σ (sa (si (subN σ) 0 (μ.1 37)) 0 (upd (σ.2.2 4) (μ.1 37 - 1).toNatClampNeg (if σ.2.2 4 (μ.1 37 - 1).toNatClampNeg * 10 + (b - 48) < 9999 then σ.2.2 4 (μ.1 37 - 1).toNatClampNeg * 10 + (b - 48) else 9999))) := by
        unfold q_X2_addDigit_N p_X2_addDigit p_X2_addDigit_s1
        rw [show (subN σ).1 0 = μ.1 37 from d15, emx, if_neg (by rw [ti_le]; omega)]; rfl
      rw [ed, k3 _ hlt, dv]
      refine tk_n h hs h.1 hM' ⟨rfl, rfl, rfl, rfl⟩ ⟨rfl, rfl, rfl, rfl⟩ ⟨(by show μ.1 37 = if 7 ≤ μ.1 37 then 7 else μ.1 37; rw [if_neg (by rw [ti_le]; exact c)]), k2, fun k hk => ?_, fun z => absurd z a⟩
      show (if k = (μ.1 37 - 1).toNatClampNeg then _ else σ.2.2 4 k) = (if k = (μ.1 37 - 1).toNatClampNeg then _ else μ.2.2 8 k)
      by_cases y : k = (μ.1 37 - 1).toNatClampNeg
      · rw [if_pos y, if_pos y]
      · rw [if_neg y, if_neg y]; exact k3 k hk
theorem tk_next (h : RelD σ μ) (hs : μ.1 24 = 2) (hk : RK σ μ) (b : Int32) (hM' : OkM (si μ 37 (p_X8_sequence_t2 μ b))) : RelD (q_X2_next_N σ) (si μ 37 (p_X8_sequence_t2 μ b)) := by
  obtain ⟨B1, B2⟩ := h.2.1.2.2.2.2.2.2.2.2.2.2.1
  obtain ⟨k1, k2, k3, k4⟩ := hk
  have z0 : (0 : Int32).toInt = 0 := rfl
  have z1 : (1 : Int32).toInt = 1 := rfl
  have z2 : (2 : Int32).toInt = 2 := rfl
  have z7 : (7 : Int32).toInt = 7 := rfl
  have z100 : (100 : Int32).toInt = 100 := rfl
  have e1 := suc_i (x := μ.1 37) (by omega) (by omega)
  have t2 : (p_X8_sequence_t2 μ b).toInt = if (μ.1 37).toInt = 0 then 2 else if 100 ≤ (μ.1 37).toInt then (μ.1 37).toInt else (μ.1 37).toInt + 1 := by
    unfold p_X8_sequence_t2
    by_cases a : μ.1 37 = 0
    · rw [if_pos a, if_pos (by rw [a]; rfl)]; rfl
    · rw [if_neg a]; rw [ti_eq] at a
      by_cases c : 100 ≤ μ.1 37
      · rw [if_pos c]; rw [ti_le] at c; rw [if_neg (by omega), if_pos (by omega)]
      · rw [if_neg c]; rw [ti_le] at c; rw [if_neg (by omega), if_neg (by omega), e1]
  have dx : (if (if 1 < σ.1 15 then σ.1 15 else 1) + 1 < 7 then (if 1 < σ.1 15 then σ.1 15 else 1) + 1 else 7) = (if 7 ≤ p_X8_sequence_t2 μ b then 7 else p_X8_sequence_t2 μ b) := by
    rw [k1]
    have e5 : (if 7 ≤ μ.1 37 then (7 : Int32) else μ.1 37).toInt = if 7 ≤ (μ.1 37).toInt then 7 else (μ.1 37).toInt := by
      by_cases a : 7 ≤ μ.1 37
      · rw [if_pos a]; rw [ti_le] at a; rw [if_pos (by omega)]; rfl
      · rw [if_neg a]; rw [ti_le] at a; rw [if_neg (by omega)]
    generalize (if 7 ≤ μ.1 37 then (7 : Int32) else μ.1 37) = D at *
    have e6 : (if 1 < D then D else 1).toInt = if 1 < D.toInt then D.toInt else 1 := by
      by_cases a : 1 < D
      · rw [if_pos a]; rw [ti_lt] at a; rw [if_pos (by omega)]
      · rw [if_neg a]; rw [ti_lt] at a; rw [if_neg (by omega)]; rfl
    generalize (if 1 < D then D else 1) = D' at *
    have D7 : D.toInt ≤ 7 ∧ 0 ≤ D.toInt := by rw [e5]; split <;> omega
    have D7' : D'.toInt ≤ 7 ∧ 1 ≤ D'.toInt := by rw [e6]; split <;> omega
    have e7 := suc_i (x := D') (by omega) (by omega)
    rw [ti_eq]
    generalize p_X8_sequence_t2 μ b = T at *
    by_cases a : D' + 1 < 7
    · rw [if_pos a]; rw [ti_lt, e7] at a
      have hT : T.toInt = D'.toInt + 1 := by
        rw [t2, e6, e5]; rw [e6, e5] at a
        repeat' split
        all_goals (first | omega | (split at a <;> omega))
      rw [if_neg (by rw [ti_le]; omega), e7, hT]
    · rw [if_neg a]; rw [ti_lt, e7] at a
      have hT : 7 ≤ T.toInt := by
        rw [t2]; rw [e6, e5] at a
        repeat' split
        all_goals (repeat' split at a)
        all_goals omega
      rw [if_pos (by rw [ti_le]; omega)]
  have ed : q_X2_next_N σ = putN σ (si (subN σ) 0 (if (if 1 < σ.1 15 then σ.1 15 else 1) + 1 < 7 then (if 1 < σ.1 15 then σ.1 15 else 1) + 1 else 7)) := rfl
  rw [ed, dx]
  refine tk_n h hs h.1 hM' ⟨rfl, rfl, rfl, rfl⟩ ⟨rfl, rfl, rfl, rfl⟩ ⟨rfl, k2, k3, fun z => ?_⟩
  exfalso
  replace z : p_X8_sequence_t2 μ b = 0 := z
  rw [z, z0] at t2
  repeat' split at t2
  all_goals omega
theorem tk_seq (h : RelD σ μ) (hj : NL σ μ) (hs : μ.1 24 = 2) (b : Int32) (hb : R2 32 126 b) : RelD (if 64 ≤ b then p_X7_doSequence σ b else p_X7_takeBeforeEnd σ b) (p_X8_sequence μ b) := by
  have hk := h.2.2.2.2.2.1 hs
  obtain ⟨b1, b2⟩ := hb
  have hMs : OkM (p_X8_sequence μ b) := okm_sequence b h.2.1
  have sd : σ.1 0 = 2 := h.2.2.1.trans hs
  have z48 : (48 : Int32).toInt = 48 := rfl
  have z57 : (57 : Int32).toInt = 57 := rfl
  have z64 : (64 : Int32).toInt = 64 := rfl
  have z59 : (59 : Int32).toInt = 59 := rfl
  have z63 : (63 : Int32).toInt = 63 := rfl
  have es : p_X8_sequence μ b = p_X8_sequence_s5 μ b := rfl
  by_cases a : 64 ≤ b
  · rw [if_pos a]
    have a2 := a
    rw [ti_le] at a2
    have n48 : ¬ b < 48 := by rw [ti_lt]; omega
    have n57 : 57 < b := by rw [ti_lt]; omega
    have n59 : ¬ b = 59 := by rw [ti_eq]; omega
    have n63 : ¬ b = 63 := by rw [ti_eq]; omega
    have e : p_X8_sequence μ b = (if μ.2.1 38 = true then p_X8_privately (si μ 24 0) b else p_X8_doIt (si μ 24 0) b (p_X8_sequence_t1 μ b)) := by
      rw [es]; unfold p_X8_sequence_s5; rw [if_neg n48, if_pos n57, if_neg n59, if_neg n63, if_pos a]
    rw [e] at hMs ⊢
    exact (relD_s0 h.1 h.2.1 hj 0 (Or.inl rfl)).st (st_seq h.1 h.2.1 hk b) hMs
  · rw [if_neg a]
    unfold p_X7_takeBeforeEnd p_X7_takeBeforeEnd_s1
    rw [if_neg (by rw [sd]; decide)]
    have r3 : RelD (si σ 0 3) (si μ 24 3) := relD_s0 h.1 h.2.1 hj 3 (Or.inr (Or.inr rfl))
    have iu : (q_X2_isUntouched_N σ = true) ↔ (μ.1 37 = 0 ∧ ¬ μ.2.1 38 = true) := by
      show ((if σ.1 15 = 0 then (if σ.2.1 7 = true then false else true) else false) = true) ↔ _
      rw [hk.1, hk.2.1]
      have e0 : ((if 7 ≤ μ.1 37 then (7 : Int32) else μ.1 37) = 0) ↔ μ.1 37 = 0 := by
        by_cases y : 7 ≤ μ.1 37
        · rw [if_pos y]
          refine ⟨fun w => absurd w (by decide), fun w => ?_⟩
          rw [w] at y; exact absurd y (by decide)
        · rw [if_neg y]
      by_cases y : μ.1 37 = 0
      · rw [if_pos (e0.mpr y)]
        by_cases w : μ.2.1 38 = true
        · rw [if_pos w]; exact ⟨fun v => absurd v (by decide), fun v => absurd w v.2⟩
        · rw [if_neg w]; exact ⟨fun _ => ⟨y, w⟩, fun _ => rfl⟩
      · rw [if_neg (fun v => y (e0.mp v))]; exact ⟨fun v => absurd v (by decide), fun v => absurd v.1 y⟩
    by_cases n48 : b < 48
    · have a2 := n48
      rw [ti_lt] at a2
      have n59 : ¬ b = 59 := by rw [ti_eq]; omega
      have n63 : ¬ b = 63 := by rw [ti_eq]; omega
      have e : p_X8_sequence μ b = si μ 24 3 := by
        rw [es]; unfold p_X8_sequence_s5; rw [if_pos n48, if_neg n59, if_neg n63, if_neg a]
      rw [e, if_pos n48, if_neg n59, if_neg n63]; exact r3
    · rw [if_neg n48]
      by_cases n57 : 57 < b
      · rw [if_pos n57]
        by_cases n59 : b = 59
        · have e : p_X8_sequence μ b = si μ 37 (p_X8_sequence_t2 μ b) := by
            rw [es]; unfold p_X8_sequence_s5; rw [if_neg n48, if_pos n57, if_pos n59]
          rw [e] at hMs ⊢
          rw [if_pos n59]; exact tk_next h hs hk b hMs
        · rw [if_neg n59]
          by_cases n63 : b = 63
          · rw [if_pos n63]
            have e : p_X8_sequence μ b = (if μ.1 37 = 0 then (if μ.2.1 38 = true then si μ 24 3 else sb μ 38 true) else si μ 24 3) := by
              rw [es]; unfold p_X8_sequence_s5; rw [if_neg n48, if_pos n57, if_neg n59, if_pos n63, if_neg a]
            rw [e] at hMs ⊢
            by_cases y : μ.1 37 = 0
            · rw [if_pos y] at hMs ⊢
              by_cases w : μ.2.1 38 = true
              · rw [if_pos w, if_neg (fun v => (iu.mp v).2 w)]; exact r3
              · rw [if_neg w] at hMs ⊢
                rw [if_pos (iu.mpr ⟨y, w⟩)]
                exact tk_n h hs h.1 hMs ⟨rfl, rfl, rfl, rfl⟩ ⟨rfl, rfl, rfl, rfl⟩ ⟨hk.1, rfl, hk.2.2.1, hk.2.2.2⟩
            · rw [if_neg y, if_neg (fun v => y (iu.mp v).1)]; exact r3
          · have e : p_X8_sequence μ b = si μ 24 3 := by
              rw [es]; unfold p_X8_sequence_s5; rw [if_neg n48, if_pos n57, if_neg n59, if_neg n63, if_neg a]
            rw [e, if_neg n63]; exact r3
      · rw [if_neg n57]
        have e : p_X8_sequence μ b = (if 6 < (p_X8_sequence_s3 μ b).1 37 then (p_X8_sequence_s3 μ b) else sa (p_X8_sequence_s3 μ b) 8 (upd ((p_X8_sequence_s3 μ b).2.2 8) (((p_X8_sequence_s3 μ b).1 37) - 1 : Int32).toNatClampNeg (p_X8_sequence_t4 μ b))) := by
          rw [es]; unfold p_X8_sequence_s5; rw [if_neg n48, if_neg n57]
        rw [e] at hMs ⊢
        exact tk_digit h hs hk b ⟨by rw [ti_lt] at n48; omega, by rw [ti_lt] at n57; omega⟩ hMs
end TAKE2
