/-! ===== the first state on both sides ===== -/
theorem f1_cl (σ : St) : ∀ (n : Nat) (s : St) (x : Int32), 0 ≤ x.toInt → x.toInt ≤ 192 → 192 - x.toInt ≤ n →
    (p_X8_first_l1 σ n s x).1.2.2 0 = fil x.toInt 191 (fun _ => 32) (s.2.2 0) ∧ (p_X8_first_l1 σ n s x).1.2.2 1 = fil x.toInt 191 (fun _ => 0) (s.2.2 1) := by
  intro n
  induction n with
  | zero => intro s x h0 h1 h2; exact ⟨(fil_nil (by omega)).symm, (fil_nil (by omega)).symm⟩
  | succ n ih =>
    intro s x h0 h1 h2
    unfold p_X8_first_l1
    by_cases hc : 192 ≤ x
    · rw [if_pos hc]; rw [ti_le] at hc; replace hc : 192 ≤ x.toInt := hc
      exact ⟨(fil_nil (by omega)).symm, (fil_nil (by omega)).symm⟩
    · rw [if_neg hc]; rw [ti_le] at hc; replace hc : ¬ 192 ≤ x.toInt := hc
      have e1 := suc_i (x := x) (by omega) (by omega)
      obtain ⟨i1, i2⟩ := ih (p_X8_blank s x) (x + 1) (by omega) (by omega) (by omega)
      rw [i1, i2, e1]
      exact ⟨fil_up h0 (by omega) rfl, fil_up h0 (by omega) rfl⟩
theorem f3_v : ∀ c : Fin 12, vp_nar .boolean (b2i (if iN c = 4 then true else (if iN c = 8 then true else false))) = (if c.val = 4 ∨ c.val = 8 then 1 else 0) := by decide
theorem f3_cl (σ : St) : ∀ (n : Nat) (s : St) (x : Int32), 0 ≤ x.toInt → x.toInt ≤ 12 → 12 - x.toInt ≤ n →
    (p_X8_first_l3 σ n s x).1.1 = s.1 ∧ (p_X8_first_l3 σ n s x).1.2.1 = s.2.1 ∧ (p_X8_first_l3 σ n s x).1.2.2 4 = fil x.toInt 11 (fun c => if c = 4 ∨ c = 8 then 1 else 0) (s.2.2 4) ∧ ∀ j : Nat, ¬ j = 4 → (p_X8_first_l3 σ n s x).1.2.2 j = s.2.2 j := by
  intro n
  induction n with
  | zero => intro s x h0 h1 h2; exact ⟨rfl, rfl, (fil_nil (by omega)).symm, fun _ _ => rfl⟩
  | succ n ih =>
    intro s x h0 h1 h2
    unfold p_X8_first_l3
    by_cases hc : 12 ≤ x
    · rw [if_pos hc]; rw [ti_le] at hc; replace hc : 12 ≤ x.toInt := hc
      exact ⟨rfl, rfl, (fil_nil (by omega)).symm, fun _ _ => rfl⟩
    · rw [if_neg hc]; rw [ti_le] at hc; replace hc : ¬ 12 ≤ x.toInt := hc
      have e1 := suc_i (x := x) (by omega) (by omega)
      obtain ⟨i1, i2, i3, i4⟩ := ih (sa s 4 (upd (s.2.2 4) (x : Int32).toNatClampNeg (vp_nar .boolean (b2i (p_X8_first_t2 σ s x))))) (x + 1) (by omega) (by omega) (by omega)
      refine ⟨i1, i2, ?_, fun j hj => ?_⟩
      · rw [i3, e1]
        refine fil_up h0 (by omega) ?_
        obtain ⟨c, lc, ec⟩ := iN_of (hi := 11) (x := x) ⟨h0, by omega⟩
        have ex : x.toInt.toNat = c := by
          rw [ec]
          have : ∀ c : Fin 12, (iN c).toInt.toNat = c.val := by decide
          exact this ⟨c, lc⟩
        show vp_nar .boolean (b2i (if x = 4 then true else (if x = 8 then true else false))) = (if x.toInt.toNat = 4 ∨ x.toInt.toNat = 8 then 1 else 0)
        rw [ex, ec]
        exact f3_v ⟨c, lc⟩
      · rw [i4 j hj]
        show (if j = 4 then _ else s.2.2 j) = s.2.2 j
        rw [if_neg hj]
theorem shf_in {A B : Int} {v : Int32} {f : Nat → Int32} {k : Nat} (h1 : A ≤ (k : Int)) (h2 : (k : Int) ≤ B) (h3 : B < 1000) (h0 : 0 ≤ A) : shf A B 1000 v f k = v := by
  unfold shf; rw [if_pos ⟨h1, h2⟩, if_neg (by omega)]
theorem fil_in {A B : Int} {g f : Nat → Int32} {k : Nat} (h1 : A ≤ (k : Int)) (h2 : (k : Int) ≤ B) : fil A B g f k = g k := by
  unfold fil; rw [if_pos ⟨h1, h2⟩]
theorem rg272 : ∀ c : Fin 12, ((272 : Int32).toBitVec.getLsbD c.val = true ↔ ¬ (if c.val = 4 ∨ c.val = 8 then (1 : Int32) else 0) = 0) := by decide
theorem setPen0 (s : St) : p_X8_setPen s 0 = si (si (si (si (si s 13 0) 14 0) 15 0) 16 0) 17 0 := by
  unfold p_X8_setPen
  rw [show ((0 : Int32) &&& 1) = 0 from by decide, show (((0 : Int32) >>> (1 &&& 31)) &&& 1) = 0 from by decide, show (((0 : Int32) >>> (2 &&& 31)) &&& 1) = 0 from by decide, show (((0 : Int32) >>> (3 &&& 31)) &&& 15) = 0 from by decide, show ((0 : Int32) >>> (7 &&& 31)) = 0 from by decide]
theorem dF_1 (σ : St) : (p_X7_reset σ).1 1 = 0 := rfl
theorem dF_2 (σ : St) : (p_X7_reset σ).1 2 = 7 := rfl
theorem dF_6 (σ : St) : (p_X7_reset σ).1 6 = 0 := rfl
theorem dF_7 (σ : St) : (p_X7_reset σ).1 7 = 0 := rfl
theorem dF_9 (σ : St) : (p_X7_reset σ).1 9 = 0 := rfl
theorem dF_10 (σ : St) : (p_X7_reset σ).1 10 = 0 := rfl
theorem dF_4 (σ : St) : (p_X7_reset σ).1 4 = 0 := rfl
theorem dF_5 (σ : St) : (p_X7_reset σ).1 5 = (-1) := rfl
theorem dF_8 (σ : St) : (p_X7_reset σ).1 8 = 0 := rfl
theorem dF_11 (σ : St) : (p_X7_reset σ).1 11 = 0 := rfl
theorem dF_3 (σ : St) : (p_X7_reset σ).1 3 = 272 := rfl
theorem dF_16 (σ : St) : (p_X7_reset σ).1 16 = 0 := rfl
theorem dF_18 (σ : St) : (p_X7_reset σ).1 18 = 0 := rfl
theorem dF_0 (σ : St) : (p_X7_reset σ).1 0 = 0 := rfl
theorem dF_12 (σ : St) : (p_X7_reset σ).1 12 = 0 := rfl
theorem dG_3 (σ : St) : (p_X7_reset σ).2.1 3 = false := rfl
theorem dG_4 (σ : St) : (p_X7_reset σ).2.1 4 = false := rfl
theorem dG_0 (σ : St) : (p_X7_reset σ).2.1 0 = false := rfl
theorem dG_1 (σ : St) : (p_X7_reset σ).2.1 1 = true := rfl
theorem dG_2 (σ : St) : (p_X7_reset σ).2.1 2 = false := rfl
theorem dG_5 (σ : St) : (p_X7_reset σ).2.1 5 = false := rfl
theorem dG_6 (σ : St) : (p_X7_reset σ).2.1 6 = false := rfl
def yF (L : St) : St := (si (si (si (si (si (si (si (p_X8_place (si L 4 0) 0 0) 13 0) 14 0) 15 0) 16 0) 17 0) 7 0) 8 7)
def wF (L : St) (z3 : Nat → Nat → Int32) : St := si (si (si (si (si (si ((p_X8_save (sb (sb (sb ((yF L).1, (yF L).2.1, z3) 10 false) 11 false) 12 true))) 25 (-1)) 26 0) 28 0) 31 0) 24 0) 33 0
theorem mF_7 (L : St) (z3 : Nat → Nat → Int32) : (wF L z3).1 7 = 0 := rfl
theorem mF_8 (L : St) (z3 : Nat → Nat → Int32) : (wF L z3).1 8 = 7 := rfl
theorem mF_5 (L : St) (z3 : Nat → Nat → Int32) : (wF L z3).1 5 = 0 := rfl
theorem mF_6 (L : St) (z3 : Nat → Nat → Int32) : (wF L z3).1 6 = 0 := rfl
theorem mF_18 (L : St) (z3 : Nat → Nat → Int32) : (wF L z3).1 18 = 0 := rfl
theorem mF_19 (L : St) (z3 : Nat → Nat → Int32) : (wF L z3).1 19 = 0 := rfl
theorem mF_26 (L : St) (z3 : Nat → Nat → Int32) : (wF L z3).1 26 = 0 := rfl
theorem mF_25 (L : St) (z3 : Nat → Nat → Int32) : (wF L z3).1 25 = (-1) := rfl
theorem mF_4 (L : St) (z3 : Nat → Nat → Int32) : (wF L z3).1 4 = 0 := rfl
theorem mF_13 (L : St) (z3 : Nat → Nat → Int32) : (wF L z3).1 13 = 0 := rfl
theorem mF_14 (L : St) (z3 : Nat → Nat → Int32) : (wF L z3).1 14 = 0 := rfl
theorem mF_15 (L : St) (z3 : Nat → Nat → Int32) : (wF L z3).1 15 = 0 := rfl
theorem mF_16 (L : St) (z3 : Nat → Nat → Int32) : (wF L z3).1 16 = 0 := rfl
theorem mF_17 (L : St) (z3 : Nat → Nat → Int32) : (wF L z3).1 17 = 0 := rfl
theorem mF_31 (L : St) (z3 : Nat → Nat → Int32) : (wF L z3).1 31 = 0 := rfl
theorem mF_28 (L : St) (z3 : Nat → Nat → Int32) : (wF L z3).1 28 = 0 := rfl
theorem mF_24 (L : St) (z3 : Nat → Nat → Int32) : (wF L z3).1 24 = 0 := rfl
theorem mF_33 (L : St) (z3 : Nat → Nat → Int32) : (wF L z3).1 33 = 0 := rfl
theorem mF_20 (L : St) (z3 : Nat → Nat → Int32) : (wF L z3).1 20 = 0 := by
  show pn 0 0 0 0 0 = 0
  decide
theorem mG_9 (L : St) (z3 : Nat → Nat → Int32) : (wF L z3).2.1 9 = false := rfl
theorem mG_11 (L : St) (z3 : Nat → Nat → Int32) : (wF L z3).2.1 11 = false := rfl
theorem mG_10 (L : St) (z3 : Nat → Nat → Int32) : (wF L z3).2.1 10 = false := rfl
theorem mG_12 (L : St) (z3 : Nat → Nat → Int32) : (wF L z3).2.1 12 = true := rfl
theorem mG_21 (L : St) (z3 : Nat → Nat → Int32) : (wF L z3).2.1 21 = false := rfl
theorem mG_22 (L : St) (z3 : Nat → Nat → Int32) : (wF L z3).2.1 22 = false := rfl
theorem first_y (μ L Z : St) (hL : (p_X8_first_l1 μ 192 μ 0).1 = L) (hZ : (p_X8_first_l3 μ 12 (yF L) 0).1 = Z) (i1 : Z.1 = (yF L).1) (i2 : Z.2.1 = (yF L).2.1) : p_X8_first μ = wF L Z.2.2 := by
  unfold p_X8_first
  rw [setPen0, hL]
  have ey : si (si (si (si (si (si (si (p_X8_place (si L 4 0) 0 0) 13 0) 14 0) 15 0) 16 0) 17 0) 7 0) 8 7 = yF L := rfl
  rw [ey, hZ]
  unfold wF
  rw [← i1, ← i2]
theorem first_w (μ : St) : ∃ (L : St) (z3 : Nat → Nat → Int32), p_X8_first μ = wF L z3 ∧ (∀ k : Nat, k < 192 → z3 0 k = 32 ∧ z3 1 k = 0) ∧ (∀ c : Nat, c < 12 → z3 4 c = if c = 4 ∨ c = 8 then 1 else 0) := by
  obtain ⟨l0, l1⟩ := f1_cl μ 192 μ 0 (by decide) (by decide) (by decide)
  generalize hL : (p_X8_first_l1 μ 192 μ 0).1 = L at l0 l1
  obtain ⟨i1, i2, i3, i4⟩ := f3_cl μ 12 (yF L) 0 (by decide) (by decide) (by decide)
  generalize hZ : (p_X8_first_l3 μ 12 (yF L) 0).1 = Z at i1 i2 i3 i4
  refine ⟨L, Z.2.2, first_y μ L Z hL hZ i1 i2, ?_, ?_⟩
  · intro k hk
    have j0 : Z.2.2 0 = L.2.2 0 := i4 0 (by decide)
    have j1 : Z.2.2 1 = L.2.2 1 := i4 1 (by decide)
    rw [j0, j1, l0, l1, fil_in (show (0 : Int32).toInt ≤ (k : Int) from by show (0 : Int) ≤ _; omega) (by omega), fil_in (show (0 : Int32).toInt ≤ (k : Int) from by show (0 : Int) ≤ _; omega) (by omega)]
    exact ⟨rfl, rfl⟩
  · intro c hc
    rw [i3, fil_in (show (0 : Int32).toInt ≤ (c : Int) from by show (0 : Int) ≤ _; omega) (by omega)]
theorem desk_a (σ T2 T3 : St) (h2 : p_X3_clear (subP2 σ) 0 95 = T2) (h3 : p_X3_clear (subP3 (putP2 σ T2)) 0 95 = T3) : (p_X7_reset σ).2.2 0 = T2.2.2 0 ∧ (p_X7_reset σ).2.2 1 = T2.2.2 1 ∧ (p_X7_reset σ).2.2 2 = T3.2.2 0 ∧ (p_X7_reset σ).2.2 3 = T3.2.2 1 := by
  unfold p_X7_reset p_X5_reset q_X3_clear_P3 q_X3_clear_P2
  rw [h2, h3]
  generalize hA : putP3 (putP2 σ T2) T3 = A
  have a0 : A.2.2 0 = T2.2.2 0 := by rw [← hA]; rfl
  have a1 : A.2.2 1 = T2.2.2 1 := by rw [← hA]; rfl
  have a2 : A.2.2 2 = T3.2.2 0 := by rw [← hA]; rfl
  have a3 : A.2.2 3 = T3.2.2 1 := by rw [← hA]; rfl
  rw [← a0, ← a1, ← a2, ← a3]
  exact ⟨rfl, rfl, rfl, rfl⟩
theorem desk_w (σ : St) : ∀ k : Nat, k < 96 → (p_X7_reset σ).2.2 0 k = 32 ∧ (p_X7_reset σ).2.2 1 k = 0 ∧ (p_X7_reset σ).2.2 2 k = 32 ∧ (p_X7_reset σ).2.2 3 k = 0 := by
  have ec2 : ∀ s : St, p_X3_clear s 0 95 = (p_X3_clear_l1 s 0 95 96 s 0).1 := fun s => by unfold p_X3_clear; rw [if_neg (by decide), if_pos (by decide)]
  have z0 : (0 : Int32).toInt = 0 := rfl
  have z95 : (95 : Int32).toInt = 95 := rfl
  obtain ⟨c0, c1⟩ := clear_cl (subP2 σ) 0 95 (by decide) 96 (subP2 σ) 0 (by decide) (by decide) (by decide)
  rw [← ec2] at c0 c1
  generalize h2 : p_X3_clear (subP2 σ) 0 95 = T2 at c0 c1
  obtain ⟨d0, d1⟩ := clear_cl (subP3 (putP2 σ T2)) 0 95 (by decide) 96 (subP3 (putP2 σ T2)) 0 (by decide) (by decide) (by decide)
  rw [← ec2] at d0 d1
  generalize h3 : p_X3_clear (subP3 (putP2 σ T2)) 0 95 = T3 at d0 d1
  obtain ⟨e0, e1, e2, e3⟩ := desk_a σ T2 T3 h2 h3
  intro k hk
  rw [e0, e1, e2, e3, c0, c1, d0, d1, z0, z95]
  rw [shf_in (by omega) (by omega) (by decide) (by decide), shf_in (by omega) (by omega) (by decide) (by decide), shf_in (by omega) (by omega) (by decide) (by decide), shf_in (by omega) (by omega) (by decide) (by decide)]
  exact ⟨rfl, rfl, rfl, rfl⟩
theorem rel_first (σ μ : St) : RelC (p_X7_reset σ) (p_X8_first μ) := by
  obtain ⟨L, z3, e, hz, ht⟩ := first_w μ
  rw [e]
  refine ⟨⟨(dF_1 σ).trans (mF_7 L z3).symm, (dF_2 σ).trans (mF_8 L z3).symm, (dF_6 σ).trans (mF_5 L z3).symm, (dF_7 σ).trans (mF_6 L z3).symm, (dG_3 σ).trans (mG_9 L z3).symm, (dG_4 σ).trans (mG_11 L z3).symm, (dG_0 σ).trans (mG_10 L z3).symm, (dG_1 σ).trans (mG_12 L z3).symm, ⟨fun z => absurd ((dG_2 σ).symm.trans z) (by decide), fun z => absurd ((mF_4 L z3).symm.trans z) (by decide)⟩, (dF_9 σ).trans (mF_18 L z3).symm, (dF_10 σ).trans (mF_19 L z3).symm, (dG_5 σ).trans (mG_21 L z3).symm, (dG_6 σ).trans (mG_22 L z3).symm, (dF_4 σ).trans (mF_26 L z3).symm, (dF_5 σ).trans (mF_25 L z3).symm, Or.inl (mF_25 L z3)⟩, ?_, ?_, ?_, ⟨(dF_16 σ).trans (mF_31 L z3).symm, ?_⟩, ⟨(dF_18 σ).trans (mF_28 L z3).symm, ?_⟩⟩
  · unfold RD
    rw [dF_8, mF_13, mF_14, mF_15, mF_16, mF_17, dF_11, mF_20]
    exact ⟨by decide, R2.lit 0 (by decide), R2.lit 0 (by decide), R2.lit 0 (by decide), R2.lit 0 (by decide), R2.lit 0 (by decide), rfl, R2.lit 0 (by decide)⟩
  · rw [dF_3]
    intro c hc
    rw [show (wF L z3).2.2 4 c = z3 4 c from rfl, ht c hc]
    exact rg272 ⟨c, hc⟩
  · intro k hk
    obtain ⟨x0, x1, x2, x3⟩ := desk_w σ k hk
    rw [x0, x1, x2, x3]
    exact ⟨(hz k (by omega)).1.symm, (hz k (by omega)).2.symm, (hz (96 + k) (by omega)).1.symm, (hz (96 + k) (by omega)).2.symm⟩
  · rw [mF_31]; intro k hk; exact absurd hk (Nat.not_lt_zero k)
  · rw [mF_28]; intro k hk; exact absurd hk (Nat.not_lt_zero k)
