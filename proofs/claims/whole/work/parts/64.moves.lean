/-! ===== moves, region, private modes ===== -/
theorem flip_i (a b x y : Int32) : (if a < b then x else y) = (if b ≤ a then y else x) := by
  by_cases h : a < b
  · rw [if_pos h, if_neg (by rw [ti_le]; rw [ti_lt] at h; omega)]
  · rw [if_neg h, if_pos (by rw [ti_le]; rw [ti_lt] at h; omega)]
theorem cap_i {x : Int32} (m : Int32) (h : x.toInt ≤ m.toInt) : (if x < m then x else m) = x := by
  by_cases h1 : x < m
  · rw [if_pos h1]
  · rw [if_neg h1, ti_eq]; rw [ti_lt] at h1; omega
theorem add_sub_i (a b c : Int32) : a + (b - c) = a + b - c := by rw [Int32.sub_eq_add_neg, Int32.sub_eq_add_neg, Int32.add_assoc]
section MOVES
variable {σ μ : St}
theorem st_moveUp (h : RelC σ μ) (n : Int32) : Sim σ μ (p_X5_moveUp σ n) (p_X8_place μ (p_X8_above μ n) (μ.1 6)) := by
  unfold p_X5_moveUp p_X5_moveUp_t1 p_X8_above p_X8_above_t1 p_X8_atLeast p_X8_atLeast_t1
  rw [h.1.2.2.1, h.1.1, h.1.2.2.2.1, flip_i (if μ.1 5 < μ.1 7 then 0 else μ.1 7)]
  exact st_place h _ _
theorem st_moveDown (h : RelC σ μ) (n : Int32) : Sim σ μ (p_X5_moveDown σ n) (p_X8_place μ (p_X8_below μ n) (μ.1 6)) := by
  unfold p_X5_moveDown p_X5_moveDown_t1 p_X8_below p_X8_below_t1 p_X8_atMost p_X8_atMost_t1
  rw [h.1.2.2.1, h.1.2.1, h.1.2.2.2.1, flip_i (μ.1 5 + n)]
  exact st_place h _ _
theorem st_mtc (h : RelC σ μ) (c c' : Int32) (hc : (if c < 11 then c else 11) = c') : Sim σ μ (p_X5_moveToColumn σ c) (p_X8_place μ (μ.1 5) c') := by
  unfold p_X5_moveToColumn
  rw [h.1.2.2.1, hc]
  exact st_place h _ _
theorem st_moveRight (h : RelC σ μ) (n : Int32) : Sim σ μ (p_X5_moveRight σ n) (p_X8_place μ (μ.1 5) (p_X8_atMost μ (μ.1 6 + n) 11)) := by
  unfold p_X5_moveRight p_X8_atMost p_X8_atMost_t1
  rw [h.1.2.2.2.1]
  exact st_mtc h _ _ (flip_i _ _ _ _)
theorem st_moveLeft (h : RelC σ μ) (hM : OkM μ) (n : Int32) (hn : R2 0 9999 n) : Sim σ μ (p_X5_moveLeft σ n) (p_X8_place μ (μ.1 5) (p_X8_atLeast μ (μ.1 6 - n) 0)) := by
  unfold p_X5_moveLeft p_X8_atLeast p_X8_atLeast_t1
  rw [h.1.2.2.2.1]
  obtain ⟨n1, n2⟩ := hn
  obtain ⟨c1, c2⟩ := hM.2.2.1
  have e : (μ.1 6 - n).toInt = (μ.1 6).toInt - n.toInt := ti_sub (by omega) (by omega)
  refine st_mtc h _ _ ?_
  rw [cap_i, flip_i]
  by_cases z : 0 < μ.1 6 - n
  · rw [if_pos z, e]; show _ ≤ (11 : Int); omega
  · rw [if_neg z]; decide
theorem st_moveDownE (h : RelC σ μ) (n : Int32) : Sim σ μ (p_X5_moveToColumn (p_X5_moveDown σ n) 0) (p_X8_place μ (p_X8_below μ n) 0) := by
  have x := st_moveDown h n
  have y := x.tr (st_mtc x.1 0 0 (by decide))
  exact y
theorem st_moveUpF (h : RelC σ μ) (n : Int32) : Sim σ μ (p_X5_moveToColumn (p_X5_moveUp σ n) 0) (p_X8_place μ (p_X8_above μ n) 0) := by
  have x := st_moveUp h n
  have y := x.tr (st_mtc x.1 0 0 (by decide))
  exact y
theorem st_mtcG (h : RelC σ μ) (n : Int32) : Sim σ μ (p_X5_moveToColumn σ (n - 1)) (p_X8_place μ (μ.1 5) (p_X8_atMost μ (n - 1) 11)) :=
  st_mtc h _ _ (flip_i _ _ _ _)
theorem st_mtr (h : RelC σ μ) (n : Int32) : Sim σ μ (p_X5_moveToRow σ (n - 1)) (p_X8_place μ (p_X8_atMost μ (n - 1) 7) (μ.1 6)) := by
  unfold p_X5_moveToRow p_X8_atMost p_X8_atMost_t1
  rw [h.1.2.2.2.1, flip_i]
  exact st_place h _ _
theorem st_home (h : RelC σ μ) (a b n q : Int32) (ha : a = n - 1) (hb : b = if q = 0 then 0 else q - 1) : Sim σ μ (p_X5_moveTo σ a b) (p_X8_home μ n q) := by
  have e1 : (if (p_X5_moveTo_t1 σ a b) < (p_X5_moveTo_t2 σ a b) then (p_X5_moveTo_t1 σ a b) else (p_X5_moveTo_t2 σ a b)) = p_X8_home_t2 μ n q := by
    unfold p_X5_moveTo_t1 p_X5_moveTo_t2 p_X8_home_t2 p_X8_atMost p_X8_atMost_t1
    rw [h.1.2.2.2.2.2.1, h.1.1, h.1.2.1, ha]
    by_cases z : μ.2.1 11 = true
    · rw [if_pos z, if_pos z, if_pos z, flip_i, add_sub_i]
    · rw [if_neg z, if_neg z, if_neg z, flip_i]
  have e2 : (if b < 11 then b else 11) = p_X8_home_t1 μ n q := by
    unfold p_X8_home_t1 p_X8_atMost p_X8_atMost_t1
    rw [hb]
    by_cases z : q = 0
    · rw [if_pos z, if_pos z]; decide
    · rw [if_neg z, if_neg z, flip_i]
  unfold p_X5_moveTo p_X8_home
  rw [e1, e2]
  exact st_place h _ _
theorem st_region2 (h : RelC σ μ) (a b n t : Int32) (ha : a = n - 1) (hb : b = t) : Sim σ μ (p_X5_setRegion σ a b) (if t ≤ n - 1 then μ else (if 8 ≤ t then μ else (p_X8_home (si (si μ 7 (n - 1)) 8 t) 1 0))) := by
  subst ha; subst hb
  unfold p_X5_setRegion p_X5_setRegion_s1
  by_cases z : b ≤ n - 1
  · rw [if_pos z, if_pos z]; exact Sim.rf h
  · rw [if_neg z, if_neg z]
    by_cases y : 8 ≤ b
    · rw [if_pos y, if_pos (by rw [ti_lt]; rw [ti_le] at y; exact y)]; exact Sim.rf h
    · rw [if_neg y, if_neg (by rw [ti_lt]; rw [ti_le] at y; exact y)]
      have x := st_region h (n - 1) b
      exact x.tr (st_home x.1 0 0 1 0 (by decide) (by decide))
/-- the second page comes, blank -/
theorem st_show (h : RelC σ μ) (hM : OkM μ) (h0 : μ.1 4 = 0) : Sim σ μ (p_X5_showPage σ true) (p_X8_clear (si μ 4 1) 0 95) := by
  obtain ⟨⟨a1, a2, a3, a4, a5, a6, a7, a8, a9, a10, a11, a12, a13, a14, a15, a16⟩, hd, hg, hi, hl, hn⟩ := h
  have n2 : ¬ σ.2.1 2 = true := fun z => by have := a9.mp z; rw [h0] at this; exact absurd this (by decide)
  have hM1 : OkM (si μ 4 1) := okm_pg (R2.lit 1 (by decide)) hM
  obtain ⟨fr, p0, p1⟩ := mclear_sh (si μ 4 1) 0 95 hM1 (R2.lit 0 (by decide)) (by decide)
  have ez : p_X5_showPage σ true = sb (q_X3_clear_P3 σ 0 95) 2 true := by unfold p_X5_showPage p_X5_showPage_s1; rw [if_pos rfl, if_neg n2]
  have ec : p_X3_clear (subP3 σ) 0 95 = (p_X3_clear_l1 (subP3 σ) 0 95 96 (subP3 σ) 0).1 := by unfold p_X3_clear; rw [if_neg (by decide), if_pos (by decide)]
  obtain ⟨c0, c1⟩ := clear_cl (subP3 σ) 0 95 (by decide) 96 (subP3 σ) 0 (by decide) (by decide) (by decide)
  rw [ez]
  refine ⟨⟨?_, ?_, ?_, ?_, ?_, ?_⟩, FrD.rf σ, (fm_fra fr).tr (FrM.rf μ)⟩
  · rw [fr.1, fr.2.1]; exact ⟨a1, a2, a3, a4, a5, a6, a7, a8, ⟨fun _ => rfl, fun _ => rfl⟩, a10, a11, a12, a13, a14, a15, a16⟩
  · rw [fr.1]; exact hd
  · rw [fr.2.2 4 (by decide)]; exact hg
  · intro k hk
    rw [p0, p1]
    obtain ⟨x0, x1, x2, x3⟩ := hi k hk
    have z2 : (sb (q_X3_clear_P3 σ 0 95) 2 true).2.2 2 = shf 0 95 1000 32 (σ.2.2 2) := by
      show (p_X3_clear (subP3 σ) 0 95).2.2 0 = _
      rw [ec]; exact c0
    have z3 : (sb (q_X3_clear_P3 σ 0 95) 2 true).2.2 3 = shf 0 95 1000 0 (σ.2.2 3) := by
      show (p_X3_clear (subP3 σ) 0 95).2.2 1 = _
      rw [ec]; exact c1
    rw [z2, z3]
    have l0 := loc_shf 1 0 95 1000 32 (by decide) (by decide) (by decide)
    have l1 := loc_shf 1 0 95 1000 0 (by decide) (by decide) (by decide)
    exact ⟨x0.trans (l0.2 _ k (Or.inl hk)).symm, x1.trans (l1.2 _ k (Or.inl hk)).symm, l0.1 _ _ (fun k hk => (hi k hk).2.2.1) k hk, l1.1 _ _ (fun k hk => (hi k hk).2.2.2) k hk⟩
  · rw [fr.1, fr.2.2 6 (by decide)]; exact hl
  · rw [fr.1, fr.2.2 5 (by decide)]; exact hn
theorem st_show1 (h : RelC σ μ) (h1 : μ.1 4 = 1) : Sim σ μ (p_X5_showPage σ true) μ := by
  obtain ⟨⟨a1, a2, a3, a4, a5, a6, a7, a8, a9, a10, a11, a12, a13, a14, a15, a16⟩, hd, hg, hi, hl, hn⟩ := h
  have n2 := a9.mpr h1
  have ez : p_X5_showPage σ true = sb σ 2 true := by unfold p_X5_showPage p_X5_showPage_s1; rw [if_pos rfl, if_pos n2]
  rw [ez]
  exact ⟨⟨⟨a1, a2, a3, a4, a5, a6, a7, a8, ⟨fun _ => h1, fun _ => rfl⟩, a10, a11, a12, a13, a14, a15, a16⟩, hd, hg, hi, hl, hn⟩, FrD.rf σ, FrM.rf μ⟩
theorem st_hide (h : RelC σ μ) : Sim σ μ (p_X5_showPage σ false) (si μ 4 0) := by
  obtain ⟨⟨a1, a2, a3, a4, a5, a6, a7, a8, a9, a10, a11, a12, a13, a14, a15, a16⟩, hd, hg, hi, hl, hn⟩ := h
  have ez : p_X5_showPage σ false = sb σ 2 false := by unfold p_X5_showPage p_X5_showPage_s1; rw [if_neg (by decide)]
  rw [ez]
  exact ⟨⟨⟨a1, a2, a3, a4, a5, a6, a7, a8, ⟨(fun z => absurd z (by show ¬ false = true; decide)), (fun z => absurd z (by show ¬ (0 : Int32) = 1; decide))⟩, a10, a11, a12, a13, a14, a15, a16⟩, hd, hg, hi, hl, hn⟩, FrD.rf σ, FrM.rf μ⟩
/-- the numbers of a sequence -/
def RK (σ μ : St) : Prop := σ.1 15 = (if 7 ≤ μ.1 37 then 7 else μ.1 37) ∧ σ.2.1 7 = μ.2.1 38 ∧ (∀ k : Nat, k < 6 → σ.2.2 4 k = μ.2.2 8 k) ∧ (μ.1 37 = 0 → μ.2.2 8 0 = 0)
theorem RK.st {σ' μ' : St} (h : RK σ μ) (s : Sim σ μ σ' μ') : RK σ' μ' := by
  obtain ⟨_, d, m⟩ := s
  unfold RK
  rw [d.2.2.2.2.1, d.2.2.2.2.2.2.1, d.2.2.2.2.2.2.2.1, m.2.2.2.2.1, m.2.2.2.2.2.2.1, m.2.2.2.2.2.2.2.2]
  exact h
theorem kept_eq (h : RK σ μ) : q_X2_kept_N σ = p_X8_kept μ := by
  show (if 6 < σ.1 15 then 6 else σ.1 15) = (if 6 ≤ μ.1 37 then 6 else μ.1 37)
  rw [h.1]
  have z7 : (7 : Int32).toInt = 7 := rfl
  have z6 : (6 : Int32).toInt = 6 := rfl
  by_cases a : 7 ≤ μ.1 37
  · rw [if_pos a, if_pos (by decide), if_pos (by rw [ti_le] at *; omega)]
  · rw [if_neg a]
    by_cases b : 6 ≤ μ.1 37
    · rw [if_pos b, if_neg (by rw [ti_lt]; rw [ti_le] at a b; omega), ti_eq]; rw [ti_le] at a b; omega
    · rw [if_neg b, if_neg (by rw [ti_lt]; rw [ti_le] at a b; omega)]
theorem val_eq (h : RK σ μ) {x : Int32} (hx : R2 0 5 x) : q_X2_valueAt_N σ x = μ.2.2 8 x.toNatClampNeg := by
  obtain ⟨a, b⟩ := hx
  show (if x < 0 then 0 else (if 6 ≤ x then 0 else σ.2.2 4 (x : Int32).toNatClampNeg)) = _
  rw [if_neg (by rw [ti_lt]; show ¬ x.toInt < 0; omega), if_neg (by rw [ti_le]; show ¬ 6 ≤ x.toInt; omega)]
  exact h.2.2.1 _ (by rw [tn]; omega)
theorem kept6m (hM : OkM μ) : R2 0 6 (p_X8_kept μ) := by
  have h := hM.2.2.2.2.2.2.2.2.2.2.1
  unfold p_X8_kept p_X8_kept_t1
  exact R2.ite (fun _ => R2.lit 6 (by decide)) (fun z => ⟨h.1, by rw [ti_le] at z; replace z : ¬ 6 ≤ (μ.1 37).toInt := z; omega⟩)
theorem st_switch (h : RelC σ μ) (hM : OkM μ) (b : Int32) (x3 v : Int32) (τ : St) (hv : μ.2.2 8 x3.toNatClampNeg = v) : Sim σ μ (p_X5_switchPrivate σ v (p_X8_privately_t1 τ b)) (p_X8_privately_s5 τ b μ x3) := by
  have f2 : (p_X8_privately_s2 τ b μ x3).2.2 8 = μ.2.2 8 := by
    unfold p_X8_privately_s2; by_cases z : μ.2.2 8 x3.toNatClampNeg = 6
    · rw [if_pos z]; rfl
    · rw [if_neg z]
  have f3 : (p_X8_privately_s3 τ b μ x3).2.2 8 = μ.2.2 8 := by
    unfold p_X8_privately_s3; rw [f2]; by_cases z : μ.2.2 8 x3.toNatClampNeg = 7
    · rw [if_pos z]; exact f2
    · rw [if_neg z]; exact f2
  have f4 : (p_X8_privately_s4 τ b μ x3).2.2 8 = μ.2.2 8 := by
    unfold p_X8_privately_s4; rw [f3]
    by_cases z : μ.2.2 8 x3.toNatClampNeg = 47
    · rw [if_pos z]
      by_cases y : p_X8_privately_t1 τ b = true
      · rw [if_pos y]
        by_cases w : (p_X8_privately_s3 τ b μ x3).1 4 = 0
        · rw [if_pos w]; exact ((fr_clear _ 0 95).2.2 8 (by decide)).trans f3
        · rw [if_neg w]; exact f3
      · rw [if_neg y]; exact f3
    · rw [if_neg z]; exact f3
  unfold p_X5_switchPrivate p_X5_switchPrivate_s1 p_X8_privately_s5
  rw [f4, hv]
  by_cases c6 : v = 6
  · have e2 : p_X8_privately_s2 τ b μ x3 = p_X8_home (sb μ 11 (p_X8_privately_t1 τ b)) 1 0 := by unfold p_X8_privately_s2; rw [hv, if_pos c6]
    have e3 : p_X8_privately_s3 τ b μ x3 = p_X8_privately_s2 τ b μ x3 := by unfold p_X8_privately_s3; rw [f2, hv, if_neg (by rw [c6]; decide)]
    have e4 : p_X8_privately_s4 τ b μ x3 = p_X8_privately_s3 τ b μ x3 := by unfold p_X8_privately_s4; rw [f3, hv, if_neg (by rw [c6]; decide)]
    rw [if_pos c6, if_neg (by rw [c6]; decide), e4, e3, e2]
    have x := st_origin h (p_X8_privately_t1 τ b)
    exact x.tr (st_home x.1 0 0 1 0 (by decide) (by decide))
  · have e2 : p_X8_privately_s2 τ b μ x3 = μ := by unfold p_X8_privately_s2; rw [hv, if_neg c6]
    rw [if_neg c6]
    by_cases c7 : v = 7
    · have e3 : p_X8_privately_s3 τ b μ x3 = sb μ 12 (p_X8_privately_t1 τ b) := by unfold p_X8_privately_s3; rw [f2, hv, if_pos c7, e2]
      have e4 : p_X8_privately_s4 τ b μ x3 = p_X8_privately_s3 τ b μ x3 := by unfold p_X8_privately_s4; rw [f3, hv, if_neg (by rw [c7]; decide)]
      rw [if_pos c7, if_neg (by rw [c7]; decide), e4, e3]
      exact st_wrap h _
    · have e3 : p_X8_privately_s3 τ b μ x3 = μ := by unfold p_X8_privately_s3; rw [f2, hv, if_neg c7, e2]
      rw [if_neg c7]
      by_cases c47 : v = 47
      · rw [if_pos c47, if_pos c47]
        by_cases on : p_X8_privately_t1 τ b = true
        · rw [if_pos on, on]
          unfold p_X8_privately_s4
          rw [f3, hv, if_pos c47, if_pos on, e3]
          by_cases g0 : μ.1 4 = 0
          · rw [if_pos g0]; exact st_show h hM g0
          · rw [if_neg g0]
            refine st_show1 h ?_
            rw [ti_eq] at g0 ⊢
            have q1 := hM.1.1
            have q2 := hM.1.2
            have z0 : (0 : Int32).toInt = 0 := rfl
            have z1 : (1 : Int32).toInt = 1 := rfl
            omega
        · have e4 : p_X8_privately_s4 τ b μ x3 = μ := by unfold p_X8_privately_s4; rw [f3, hv, if_pos c47, if_neg on, e3]
          have off : p_X8_privately_t1 τ b = false := by simpa using on
          rw [if_neg on, e4, off]
          exact st_hide h
      · have e4 : p_X8_privately_s4 τ b μ x3 = μ := by unfold p_X8_privately_s4; rw [f3, hv, if_neg c47, e3]
        rw [if_neg c47, if_neg c47, e4]
        exact Sim.rf h
end MOVES
