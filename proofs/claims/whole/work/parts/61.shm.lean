/-! ===== closed forms of the model's loops over its pages ===== -/
theorem pgxi {g x : Int32} {lo hi : Int} (hg : R2 0 1 g) (h : R2 lo hi x) (h1 : -1000 ≤ lo) (h2 : hi ≤ 1000) : (96 * g + x).toInt = 96 * g.toInt + x.toInt := by
  obtain ⟨a1, a2⟩ := hg
  obtain ⟨b1, b2⟩ := h
  have e : (96 * g).toInt = 96 * g.toInt := ti_mul (by show _ ≤ 96 * g.toInt; omega) (by show 96 * g.toInt ≤ _; omega)
  rw [ti_add (by omega) (by omega), e]
theorem x12 {y c : Int32} (hy : R2 (-12000) 12000 y) (hc : R2 0 11 c) : (12 * y + c).toInt = 12 * y.toInt + c.toInt := by
  obtain ⟨a1, a2⟩ := hy
  obtain ⟨b1, b2⟩ := hc
  have e : (12 * y).toInt = 12 * y.toInt := ti_mul (by show _ ≤ 12 * y.toInt; omega) (by show 12 * y.toInt ≤ _; omega)
  rw [ti_add (by omega) (by omega), e]
theorem suc_i {x : Int32} (h : x.toInt ≤ 1000) (h0 : -1000 ≤ x.toInt) : (x + 1).toInt = x.toInt + 1 := ti_add (by show _ ≤ x.toInt + 1; omega) (by show x.toInt + 1 ≤ _; omega)
theorem rem_cl (σ : St) : ∀ (n : Nat) (s : St) (x : Int32), R2 0 1 (s.1 4) → 0 ≤ x.toInt → x.toInt ≤ 96 → 96 - x.toInt ≤ n →
    (p_X8_remember_l1 σ n s x).1.2.2 0 = s.2.2 0 ∧ (p_X8_remember_l1 σ n s x).1.2.2 1 = s.2.2 1 ∧ (p_X8_remember_l1 σ n s x).1.2.2 2 = fil x.toInt 95 (fun k => s.2.2 0 (96 * (s.1 4).toInt + (k : Int)).toNat) (s.2.2 2) ∧ (p_X8_remember_l1 σ n s x).1.2.2 3 = fil x.toInt 95 (fun k => s.2.2 1 (96 * (s.1 4).toInt + (k : Int)).toNat) (s.2.2 3) := by
  intro n
  induction n with
  | zero => intro s x hg h0 h1 h2; exact ⟨rfl, rfl, (fil_nil (by omega)).symm, (fil_nil (by omega)).symm⟩
  | succ n ih =>
    intro s x hg h0 h1 h2
    unfold p_X8_remember_l1
    by_cases hc : 96 ≤ x
    · rw [if_pos hc]; rw [ti_le] at hc; replace hc : 96 ≤ x.toInt := hc
      exact ⟨rfl, rfl, (fil_nil (by omega)).symm, (fil_nil (by omega)).symm⟩
    · rw [if_neg hc]; rw [ti_le] at hc; replace hc : ¬ 96 ≤ x.toInt := hc
      have e1 := suc_i (x := x) (by omega) (by omega)
      have e2 := pgxi hg (show R2 0 96 x from ⟨h0, h1⟩) (by decide) (by decide)
      obtain ⟨i1, i2, i3, i4⟩ := ih (sa (sa s 2 (upd (s.2.2 2) (x : Int32).toNatClampNeg (s.2.2 0 ((96 * (s.1 4)) + x : Int32).toNatClampNeg))) 3 (upd (s.2.2 3) (x : Int32).toNatClampNeg (s.2.2 1 ((96 * (s.1 4)) + x : Int32).toNatClampNeg))) (x + 1) hg (by omega) (by omega) (by omega)
      rw [i1, i2, i3, i4, e1]
      refine ⟨rfl, rfl, fil_up h0 (by omega) ?_, fil_up h0 (by omega) ?_⟩
      · show s.2.2 0 (96 * s.1 4 + x : Int32).toNatClampNeg = s.2.2 0 (96 * (s.1 4).toInt + (x.toInt.toNat : Int)).toNat
        rw [tn, e2, Int.toNat_of_nonneg h0]
      · show s.2.2 1 (96 * s.1 4 + x : Int32).toNatClampNeg = s.2.2 1 (96 * (s.1 4).toInt + (x.toInt.toNat : Int)).toNat
        rw [tn, e2, Int.toNat_of_nonneg h0]
def gv (P A B D : Int) (v : Int32) (cp : Nat → Int32) : Nat → Int32 := fun k => if A ≤ (k : Int) + D ∧ (k : Int) + D ≤ B then cp ((k : Int) + D - 96 * P).toNat else v
theorem gv_shf {P A B D : Int} {v : Int32} {cp f : Nat → Int32} (hA : 96 * P ≤ A) (hB : B ≤ 96 * P + 95) (hP : 0 ≤ P) (h : ∀ j : Int, 0 ≤ j → j ≤ 95 → cp j.toNat = f (96 * P + j).toNat) : fil A B (gv P A B D v cp) f = shf A B D v f := by
  funext k
  unfold fil gv shf
  by_cases h1 : A ≤ (k : Int) ∧ (k : Int) ≤ B
  · rw [if_pos h1, if_pos h1]
    by_cases h2 : A ≤ (k : Int) + D ∧ (k : Int) + D ≤ B
    · rw [if_pos h2, if_pos h2, h _ (by omega) (by omega)]
      congr 2; omega
    · rw [if_neg h2, if_neg h2]
  · rw [if_neg h1, if_neg h1]
theorem sr2_cl (σ : St) (p1 p2 : Int32) (s : St) (x3 : Int32) (P : Int) (cc cl : Nat → Int32) (g bt : Int32) (hg : R2 0 1 g) (hP : P = g.toInt) (hb : R2 0 7 bt) (hr : R2 0 7 p1) (hn : R2 (-9999) 9999 p2) (hy : R2 0 7 x3) : ∀ (n : Nat) (q : St) (x : Int32), q.1 4 = g → q.1 8 = bt → q.2.2 2 = cc → q.2.2 3 = cl → 0 ≤ x.toInt → x.toInt ≤ 12 → 12 - x.toInt ≤ n →
    (p_X8_shiftRows_l2 σ p1 p2 s x3 n q x).1.2.2 0 = fil (96 * P + 12 * x3.toInt + x.toInt) (96 * P + 12 * x3.toInt + 11) (gv P (96 * P + 12 * p1.toInt) (96 * P + (12 * bt.toInt + 11)) (12 * p2.toInt) 32 cc) (q.2.2 0) ∧
    (p_X8_shiftRows_l2 σ p1 p2 s x3 n q x).1.2.2 1 = fil (96 * P + 12 * x3.toInt + x.toInt) (96 * P + 12 * x3.toInt + 11) (gv P (96 * P + 12 * p1.toInt) (96 * P + (12 * bt.toInt + 11)) (12 * p2.toInt) 0 cl) (q.2.2 1) ∧
    (p_X8_shiftRows_l2 σ p1 p2 s x3 n q x).1.2.2 2 = cc ∧ (p_X8_shiftRows_l2 σ p1 p2 s x3 n q x).1.2.2 3 = cl := by
  obtain ⟨g1, g2⟩ := hg
  obtain ⟨b1, b2⟩ := hb
  obtain ⟨r1, r2⟩ := hr
  obtain ⟨n1, n2⟩ := hn
  obtain ⟨y1, y2⟩ := hy
  subst hP
  have ey : (x3 + p2).toInt = x3.toInt + p2.toInt := ti_add (by omega) (by omega)
  intro n
  induction n with
  | zero => intro q x h4 h8 hq2 hq3 h0 h1 h2; exact ⟨(fil_nil (by omega)).symm, (fil_nil (by omega)).symm, hq2, hq3⟩
  | succ n ih =>
    intro q x h4 h8 hq2 hq3 h0 h1 h2
    unfold p_X8_shiftRows_l2
    by_cases hc : 12 ≤ x
    · rw [if_pos hc]; rw [ti_le] at hc; replace hc : 12 ≤ x.toInt := hc
      exact ⟨(fil_nil (by omega)).symm, (fil_nil (by omega)).symm, hq2, hq3⟩
    · rw [if_neg hc]; rw [ti_le] at hc; replace hc : ¬ 12 ≤ x.toInt := hc
      have e1 := suc_i (x := x) (by omega) (by omega)
      have e2 : (12 * x3 + x).toInt = 12 * x3.toInt + x.toInt := x12 ⟨by omega, by omega⟩ ⟨h0, by omega⟩
      have e3 : (96 * q.1 4 + (12 * x3 + x)).toInt = 96 * g.toInt + 12 * x3.toInt + x.toInt := by
        rw [h4, pgxi (show R2 0 1 g from ⟨g1, g2⟩) (show R2 0 95 (12 * x3 + x) from ⟨by omega, by omega⟩) (by decide) (by decide), e2]; omega
      have key : ∀ (v : Int32) (cp : Nat → Int32), (if 0 ≤ p_X8_shiftRows_t1 σ p1 p2 s x3 q x then cp (p_X8_shiftRows_t1 σ p1 p2 s x3 q x).toNatClampNeg else v) = gv g.toInt (96 * g.toInt + 12 * p1.toInt) (96 * g.toInt + (12 * bt.toInt + 11)) (12 * p2.toInt) v cp (96 * g.toInt + 12 * x3.toInt + x.toInt).toNat := by
        intro v cp
        unfold gv p_X8_shiftRows_t1
        rw [Int.toNat_of_nonneg (by omega), h8]
        by_cases c1 : x3 + p2 < p1
        · rw [if_pos c1, if_neg (by decide)]; rw [ti_lt, ey] at c1; rw [if_neg (by omega)]
        · rw [if_neg c1]; rw [ti_lt, ey] at c1
          by_cases c2 : x3 + p2 ≤ bt
          · rw [if_pos c2]; rw [ti_le, ey] at c2
            have e4 : (12 * (x3 + p2) + x).toInt = 12 * (x3.toInt + p2.toInt) + x.toInt := by rw [x12 ⟨by omega, by omega⟩ ⟨h0, by omega⟩, ey]
            rw [if_pos (by rw [ti_le, e4]; show 0 ≤ _; omega), if_pos (by omega), tn, e4]
            congr 2; omega
          · rw [if_neg c2, if_neg (by decide)]; rw [ti_le, ey] at c2; rw [if_neg (by omega)]
      obtain ⟨i1, i2, i3, i4⟩ := ih (p_X8_recall q (12 * x3 + x) (p_X8_shiftRows_t1 σ p1 p2 s x3 q x)) (x + 1) h4 h8 hq2 hq3 (by omega) (by omega) (by omega)
      rw [i1, i2, i3, i4, e1]
      refine ⟨?_, ?_, rfl, rfl⟩
      · rw [show (96 * g.toInt + 12 * x3.toInt + (x.toInt + 1)) = (96 * g.toInt + 12 * x3.toInt + x.toInt) + 1 by omega]
        show fil _ _ _ (upd (q.2.2 0) (96 * q.1 4 + (12 * x3 + x) : Int32).toNatClampNeg (p_X8_recall_t1 q (12 * x3 + x) (p_X8_shiftRows_t1 σ p1 p2 s x3 q x))) = _
        rw [tn, e3]
        refine fil_up (by omega) (by omega) ?_
        unfold p_X8_recall_t1
        rw [hq2]; exact key 32 cc
      · rw [show (96 * g.toInt + 12 * x3.toInt + (x.toInt + 1)) = (96 * g.toInt + 12 * x3.toInt + x.toInt) + 1 by omega]
        show fil _ _ _ (upd (q.2.2 1) (96 * q.1 4 + (12 * x3 + x) : Int32).toNatClampNeg (p_X8_recall_t2 q (12 * x3 + x) (p_X8_shiftRows_t1 σ p1 p2 s x3 q x))) = _
        rw [tn, e3]
        refine fil_up (by omega) (by omega) ?_
        unfold p_X8_recall_t2
        rw [hq3]; exact key 0 cl
theorem sr3_cl (σ : St) (p1 p2 : Int32) (P : Int) (cc cl : Nat → Int32) (g bt : Int32) (hg : R2 0 1 g) (hP : P = g.toInt) (hb : R2 0 7 bt) (hr : R2 0 7 p1) (hn : R2 (-9999) 9999 p2) : ∀ (n : Nat) (q : St) (x : Int32), q.1 4 = g → q.1 8 = bt → q.2.2 2 = cc → q.2.2 3 = cl → 0 ≤ x.toInt → x.toInt ≤ 8 → bt.toInt + 1 - x.toInt ≤ n →
    (p_X8_shiftRows_l3 σ p1 p2 n q x).1.2.2 0 = fil (96 * P + 12 * x.toInt) (96 * P + (12 * bt.toInt + 11)) (gv P (96 * P + 12 * p1.toInt) (96 * P + (12 * bt.toInt + 11)) (12 * p2.toInt) 32 cc) (q.2.2 0) ∧
    (p_X8_shiftRows_l3 σ p1 p2 n q x).1.2.2 1 = fil (96 * P + 12 * x.toInt) (96 * P + (12 * bt.toInt + 11)) (gv P (96 * P + 12 * p1.toInt) (96 * P + (12 * bt.toInt + 11)) (12 * p2.toInt) 0 cl) (q.2.2 1) := by
  intro n
  induction n with
  | zero => intro q x h4 h8 hq2 hq3 h0 h1 h2; exact ⟨(fil_nil (by omega)).symm, (fil_nil (by omega)).symm⟩
  | succ n ih =>
    intro q x h4 h8 hq2 hq3 h0 h1 h2
    unfold p_X8_shiftRows_l3
    rw [h8]
    by_cases hc : bt < x
    · rw [if_pos hc]; rw [ti_lt] at hc
      exact ⟨(fil_nil (by omega)).symm, (fil_nil (by omega)).symm⟩
    · rw [if_neg hc]; rw [ti_lt] at hc
      have b2 := hb.2
      have e1 := suc_i (x := x) (by omega) (by omega)
      obtain ⟨j1, j2, j3, j4⟩ := sr2_cl σ p1 p2 q x P cc cl g bt hg hP hb hr hn ⟨h0, by omega⟩ 12 q 0 h4 h8 hq2 hq3 (by decide) (by decide) (by decide)
      have f1 := (fr_sr2 σ p1 p2 q x 12 q 0).1
      obtain ⟨i1, i2⟩ := ih ((p_X8_shiftRows_l2 σ p1 p2 q x 12 q 0).1) (x + 1) (by rw [f1]; exact h4) (by rw [f1]; exact h8) j3 j4 (by omega) (by omega) (by omega)
      rw [i1, i2, j1, j2, e1]
      have z0 : (0 : Int32).toInt = 0 := rfl
      rw [z0, show 96 * P + 12 * x.toInt + 0 = 96 * P + 12 * x.toInt by omega, show 96 * P + 12 * (x.toInt + 1) = (96 * P + 12 * x.toInt + 11) + 1 by omega]
      exact ⟨fil_app (by omega) (by omega), fil_app (by omega) (by omega)⟩
/-- the model's page after a shift -/
def ShM (μ μ' : St) (A B D : Int) : Prop := FrA μ' μ ∧ μ'.2.2 0 = shf (96 * (μ.1 4).toInt + A) (96 * (μ.1 4).toInt + B) D 32 (μ.2.2 0) ∧ μ'.2.2 1 = shf (96 * (μ.1 4).toInt + A) (96 * (μ.1 4).toInt + B) D 0 (μ.2.2 1)
theorem fil_at {X B : Int} {g f : Nat → Int32} {j : Int} (h0 : 0 ≤ j) (h1 : X ≤ j) (h2 : j ≤ B) : fil X B g f j.toNat = g j.toNat := by
  unfold fil; rw [if_pos (by omega)]
theorem rows_sh (μ : St) (p1 p2 : Int32) (hM : OkM μ) (hr : R2 0 7 p1) (hn : R2 (-9999) 9999 p2) : ShM μ (p_X8_shiftRows μ p1 p2) (12 * p1.toInt) (12 * (μ.1 8).toInt + 11) (12 * p2.toInt) := by
  have hg := hM.1
  have hb := hM.2.2.2.2.1
  obtain ⟨r0, r1, r2, r3⟩ := rem_cl μ 96 μ 0 hg (by decide) (by decide) (by decide)
  have f1 : (p_X8_remember μ).1 = μ.1 := (fr_rem μ).1
  have h4 : (p_X8_remember μ).1 4 = μ.1 4 := by rw [f1]
  have h8 : (p_X8_remember μ).1 8 = μ.1 8 := by rw [f1]
  obtain ⟨a1, a2⟩ := hg
  obtain ⟨c1, c2⟩ := hr
  obtain ⟨d1, d2⟩ := hb
  obtain ⟨i1, i2⟩ := sr3_cl μ p1 p2 (μ.1 4).toInt _ _ (μ.1 4) (μ.1 8) ⟨a1, a2⟩ rfl ⟨d1, d2⟩ ⟨c1, c2⟩ hn 8 (p_X8_remember μ) p1 h4 h8 rfl rfl c1 (by omega) (by omega)
  refine ⟨fr_shiftRows μ p1 p2, ?_, ?_⟩
  · refine i1.trans ?_
    rw [show (p_X8_remember μ).2.2 0 = μ.2.2 0 from r0]
    refine gv_shf (by omega) (by omega) a1 (fun j h0 h9 => ?_)
    rw [show (p_X8_remember μ).2.2 2 = _ from r2]
    refine (fil_at h0 (show (0 : Int32).toInt ≤ j from h0) h9).trans ?_
    show μ.2.2 0 (96 * (μ.1 4).toInt + (j.toNat : Int)).toNat = _
    rw [Int.toNat_of_nonneg h0]
  · refine i2.trans ?_
    rw [show (p_X8_remember μ).2.2 1 = μ.2.2 1 from r1]
    refine gv_shf (by omega) (by omega) a1 (fun j h0 h9 => ?_)
    rw [show (p_X8_remember μ).2.2 3 = _ from r3]
    refine (fil_at h0 (show (0 : Int32).toInt ≤ j from h0) h9).trans ?_
    show μ.2.2 1 (96 * (μ.1 4).toInt + (j.toNat : Int)).toNat = _
    rw [Int.toNat_of_nonneg h0]
theorem sc2_cl (σ : St) (p1 : Int32) (P : Int) (cc cl : Nat → Int32) (g row col : Int32) (hg : R2 0 1 g) (hP : P = g.toInt) (hr : R2 0 7 row) (hco : R2 0 11 col) (hn : R2 (-9999) 9999 p1) : ∀ (n : Nat) (q : St) (x : Int32), q.1 4 = g → q.1 5 = row → q.1 6 = col → q.2.2 2 = cc → q.2.2 3 = cl → 0 ≤ x.toInt → x.toInt ≤ 12 → 12 - x.toInt ≤ n →
    (p_X8_shiftCells_l2 σ p1 n q x).1.2.2 0 = fil (96 * P + 12 * row.toInt + x.toInt) (96 * P + (12 * row.toInt + 11)) (gv P (96 * P + (12 * row.toInt + col.toInt)) (96 * P + (12 * row.toInt + 11)) p1.toInt 32 cc) (q.2.2 0) ∧
    (p_X8_shiftCells_l2 σ p1 n q x).1.2.2 1 = fil (96 * P + 12 * row.toInt + x.toInt) (96 * P + (12 * row.toInt + 11)) (gv P (96 * P + (12 * row.toInt + col.toInt)) (96 * P + (12 * row.toInt + 11)) p1.toInt 0 cl) (q.2.2 1) := by
  obtain ⟨g1, g2⟩ := hg
  obtain ⟨r1, r2⟩ := hr
  obtain ⟨k1, k2⟩ := hco
  obtain ⟨n1, n2⟩ := hn
  subst hP
  intro n
  induction n with
  | zero => intro q x h4 h5 h6 hq2 hq3 h0 h1 h2; exact ⟨(fil_nil (by omega)).symm, (fil_nil (by omega)).symm⟩
  | succ n ih =>
    intro q x h4 h5 h6 hq2 hq3 h0 h1 h2
    unfold p_X8_shiftCells_l2
    by_cases hc : 12 ≤ x
    · rw [if_pos hc]; rw [ti_le] at hc; replace hc : 12 ≤ x.toInt := hc
      exact ⟨(fil_nil (by omega)).symm, (fil_nil (by omega)).symm⟩
    · rw [if_neg hc]; rw [ti_le] at hc; replace hc : ¬ 12 ≤ x.toInt := hc
      have e1 := suc_i (x := x) (by omega) (by omega)
      have ey : (x + p1).toInt = x.toInt + p1.toInt := ti_add (by omega) (by omega)
      have e2 : (12 * q.1 5 + x).toInt = 12 * row.toInt + x.toInt := by rw [h5]; exact x12 ⟨by omega, by omega⟩ ⟨h0, by omega⟩
      have e3 : (96 * q.1 4 + (12 * q.1 5 + x)).toInt = 96 * g.toInt + 12 * row.toInt + x.toInt := by
        rw [h4, pgxi (show R2 0 1 g from ⟨g1, g2⟩) (show R2 0 95 (12 * q.1 5 + x) from ⟨by omega, by omega⟩) (by decide) (by decide), e2]; omega
      have key : ∀ (v : Int32) (cp : Nat → Int32), (if 0 ≤ p_X8_shiftCells_t1 σ p1 q x then cp (p_X8_shiftCells_t1 σ p1 q x).toNatClampNeg else v) = gv g.toInt (96 * g.toInt + (12 * row.toInt + col.toInt)) (96 * g.toInt + (12 * row.toInt + 11)) p1.toInt v cp (96 * g.toInt + 12 * row.toInt + x.toInt).toNat := by
        intro v cp
        unfold gv p_X8_shiftCells_t1
        rw [Int.toNat_of_nonneg (by omega), h6, h5]
        by_cases c1 : x + p1 < col
        · rw [if_pos c1, if_neg (by decide)]; rw [ti_lt, ey] at c1; rw [if_neg (by omega)]
        · rw [if_neg c1]; rw [ti_lt, ey] at c1
          by_cases c2 : x + p1 < 12
          · rw [if_pos c2]; rw [ti_lt, ey] at c2; replace c2 : x.toInt + p1.toInt < 12 := c2
            have e4 : (12 * row + (x + p1)).toInt = 12 * row.toInt + (x.toInt + p1.toInt) := by rw [x12 ⟨by omega, by omega⟩ ⟨by omega, by omega⟩, ey]
            rw [if_pos (by rw [ti_le, e4]; show 0 ≤ _; omega), if_pos (by omega), tn, e4]
            congr 2; omega
          · rw [if_neg c2, if_neg (by decide)]; rw [ti_lt, ey] at c2; replace c2 : ¬ x.toInt + p1.toInt < 12 := c2; rw [if_neg (by omega)]
      obtain ⟨i1, i2⟩ := ih (p_X8_recall q (12 * q.1 5 + x) (p_X8_shiftCells_t1 σ p1 q x)) (x + 1) h4 h5 h6 hq2 hq3 (by omega) (by omega) (by omega)
      rw [i1, i2, e1]
      refine ⟨?_, ?_⟩
      · rw [show (96 * g.toInt + 12 * row.toInt + (x.toInt + 1)) = (96 * g.toInt + 12 * row.toInt + x.toInt) + 1 by omega]
        show fil _ _ _ (upd (q.2.2 0) (96 * q.1 4 + (12 * q.1 5 + x) : Int32).toNatClampNeg (p_X8_recall_t1 q (12 * q.1 5 + x) (p_X8_shiftCells_t1 σ p1 q x))) = _
        rw [tn, e3]
        refine fil_up (by omega) (by omega) ?_
        unfold p_X8_recall_t1
        rw [hq2]; exact key 32 cc
      · rw [show (96 * g.toInt + 12 * row.toInt + (x.toInt + 1)) = (96 * g.toInt + 12 * row.toInt + x.toInt) + 1 by omega]
        show fil _ _ _ (upd (q.2.2 1) (96 * q.1 4 + (12 * q.1 5 + x) : Int32).toNatClampNeg (p_X8_recall_t2 q (12 * q.1 5 + x) (p_X8_shiftCells_t1 σ p1 q x))) = _
        rw [tn, e3]
        refine fil_up (by omega) (by omega) ?_
        unfold p_X8_recall_t2
        rw [hq3]; exact key 0 cl
theorem cells_sh (μ : St) (p1 : Int32) (hM : OkM μ) (hn : R2 (-9999) 9999 p1) : ShM μ (p_X8_shiftCells μ p1) (12 * (μ.1 5).toInt + (μ.1 6).toInt) (12 * (μ.1 5).toInt + 11) p1.toInt := by
  have hg := hM.1
  have hr := hM.2.1
  have hc := hM.2.2.1
  obtain ⟨r0, r1, r2, r3⟩ := rem_cl μ 96 μ 0 hg (by decide) (by decide) (by decide)
  have f1 : (p_X8_remember μ).1 = μ.1 := (fr_rem μ).1
  have h4 : (p_X8_remember μ).1 4 = μ.1 4 := by rw [f1]
  have h5 : (p_X8_remember μ).1 5 = μ.1 5 := by rw [f1]
  have h6 : (p_X8_remember μ).1 6 = μ.1 6 := by rw [f1]
  obtain ⟨a1, a2⟩ := hg
  obtain ⟨c1, c2⟩ := hr
  obtain ⟨d1, d2⟩ := hc
  obtain ⟨i1, i2⟩ := sc2_cl μ p1 (μ.1 4).toInt _ _ (μ.1 4) (μ.1 5) (μ.1 6) ⟨a1, a2⟩ rfl ⟨c1, c2⟩ ⟨d1, d2⟩ hn 12 (p_X8_remember μ) (μ.1 6) h4 h5 h6 rfl rfl d1 (by omega) (by omega)
  have e : p_X8_shiftCells μ p1 = (p_X8_shiftCells_l2 μ p1 12 (p_X8_remember μ) (μ.1 6)).1 := by unfold p_X8_shiftCells; rw [h6]
  refine ⟨fr_shiftCells μ p1, ?_, ?_⟩
  · rw [e]; refine i1.trans ?_
    rw [show (p_X8_remember μ).2.2 0 = μ.2.2 0 from r0, Int.add_assoc]
    refine gv_shf (by omega) (by omega) a1 (fun j h0 h9 => ?_)
    rw [show (p_X8_remember μ).2.2 2 = _ from r2]
    refine (fil_at h0 (show (0 : Int32).toInt ≤ j from h0) h9).trans ?_
    show μ.2.2 0 (96 * (μ.1 4).toInt + (j.toNat : Int)).toNat = _
    rw [Int.toNat_of_nonneg h0]
  · rw [e]; refine i2.trans ?_
    rw [show (p_X8_remember μ).2.2 1 = μ.2.2 1 from r1, Int.add_assoc]
    refine gv_shf (by omega) (by omega) a1 (fun j h0 h9 => ?_)
    rw [show (p_X8_remember μ).2.2 3 = _ from r3]
    refine (fil_at h0 (show (0 : Int32).toInt ≤ j from h0) h9).trans ?_
    show μ.2.2 1 (96 * (μ.1 4).toInt + (j.toNat : Int)).toNat = _
    rw [Int.toNat_of_nonneg h0]
theorem mcl_cl (σ : St) (p1 p2 : Int32) (P : Int) (g : Int32) (hg : R2 0 1 g) (hP : P = g.toInt) (hp2 : p2.toInt ≤ 95) : ∀ (n : Nat) (s : St) (x : Int32), s.1 4 = g → 0 ≤ x.toInt → x.toInt ≤ 96 → p2.toInt + 1 - x.toInt ≤ n →
    (p_X8_clear_l1 σ p1 p2 n s x).1.2.2 0 = shf (96 * P + x.toInt) (96 * P + p2.toInt) 1000 32 (s.2.2 0) ∧ (p_X8_clear_l1 σ p1 p2 n s x).1.2.2 1 = shf (96 * P + x.toInt) (96 * P + p2.toInt) 1000 0 (s.2.2 1) := by
  intro n
  have g1 := hg.1
  induction n with
  | zero => intro s x h4 h0 h1 h2; exact ⟨(shf_nil (by omega)).symm, (shf_nil (by omega)).symm⟩
  | succ n ih =>
    intro s x h4 h0 h1 h2
    unfold p_X8_clear_l1
    by_cases hc : p2 < x
    · rw [if_pos hc]; rw [ti_lt] at hc
      exact ⟨(shf_nil (by omega)).symm, (shf_nil (by omega)).symm⟩
    · rw [if_neg hc]; rw [ti_lt] at hc
      have e1 := suc_i (x := x) (by omega) (by omega)
      have e3 : (96 * s.1 4 + x).toInt = 96 * P + x.toInt := by rw [h4, hP]; exact pgxi hg (show R2 0 96 x from ⟨h0, h1⟩) (by decide) (by decide)
      obtain ⟨i1, i2⟩ := ih (p_X8_blank s (96 * s.1 4 + x)) (x + 1) h4 (by omega) (by omega) (by omega)
      rw [i1, i2, e1]
      rw [show 96 * P + (x.toInt + 1) = (96 * P + x.toInt) + 1 by omega]
      refine ⟨?_, ?_⟩
      · show shf _ _ _ _ (upd (s.2.2 0) (96 * s.1 4 + x : Int32).toNatClampNeg 32) = _
        rw [tn, e3]
        exact shf_up (by omega) (by omega) (by decide) (by rw [if_neg (by omega)])
      · show shf _ _ _ _ (upd (s.2.2 1) (96 * s.1 4 + x : Int32).toNatClampNeg 0) = _
        rw [tn, e3]
        exact shf_up (by omega) (by omega) (by decide) (by rw [if_neg (by omega)])
theorem mclear_sh (μ : St) (p1 p2 : Int32) (hM : OkM μ) (h1 : R2 0 96 p1) (h2 : p2.toInt ≤ 95) : ShM μ (p_X8_clear μ p1 p2) p1.toInt p2.toInt 1000 := by
  obtain ⟨i1, i2⟩ := mcl_cl μ p1 p2 (μ.1 4).toInt (μ.1 4) hM.1 rfl h2 96 μ p1 rfl h1.1 h1.2 (by have := h1.1; omega)
  exact ⟨fr_clear μ p1 p2, i1, i2⟩
