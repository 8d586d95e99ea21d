/-! ===== the answers ===== -/
section READS
variable {σ μ : St}
theorem relD_39 (h : RelD σ μ) (v : Int32) : RelD σ (si μ 39 v) := ⟨h.1, okm_si _ _ (by decide) h.2.1, h.2.2.1, h.2.2.2.1, h.2.2.2.2.1, h.2.2.2.2.2.1, h.2.2.2.2.2.2⟩
theorem rd_feed (h : RelD σ μ) (b : Int32) : RelD (p_X7_feed σ b).1 (p_X8_feed μ b).1 ∧ (p_X7_feed σ b).2 = (p_X8_feed μ b).2 := by
  unfold p_X7_feed p_X8_feed
  have z255 : (255 : Int32).toInt = 255 := rfl
  have z0 : (0 : Int32).toInt = 0 := rfl
  by_cases a : b < 0
  · rw [if_pos a, if_pos a]; exact ⟨relD_39 h 0, rfl⟩
  · rw [if_neg a, if_neg a]
    by_cases c : b ≤ 255
    · rw [if_pos c, if_pos c]
      rw [ti_lt] at a; rw [ti_le] at c
      exact ⟨tk_take (relD_39 h 0) b ⟨by omega, by omega⟩, rfl⟩
    · rw [if_neg c, if_neg c]; exact ⟨relD_39 h 0, rfl⟩
/-- the k-th byte -/
def bD (p1 : Int64) (x : Int32) : Int32 := ((((p1.toUInt64 >>> ((8 * x : Int32).toInt64.toUInt64 &&& Int64.toUInt64 63)).toInt64).toInt32) &&& 255)
def bM (p1 : Int64) (x : Int32) : Int32 := ((p1 >>> ((8 * x : Int32).toInt64 &&& 63)).toInt32) &&& 255
theorem sh_u : ∀ c : Fin 8, ((8 * iN c : Int32).toInt64.toUInt64 &&& Int64.toUInt64 63).toBitVec.toNat % 64 = 8 * c.val := by decide
theorem sh_s : ∀ c : Fin 8, (((8 * iN c : Int32).toInt64 &&& 63).toBitVec.smod 64#64).toNat = 8 * c.val := by decide
theorem bv255 : ∀ i : Nat, i < 32 → (255#32 : BitVec 32).getLsbD i = decide (i < 8) := by
  intro i hi
  have : ∀ i : Fin 32, (255#32 : BitVec 32).getLsbD i.val = decide (i.val < 8) := by decide
  exact this ⟨i, hi⟩
theorem b_eq (p1 : Int64) (x : Int32) (hx : R2 0 7 x) : bD p1 x = bM p1 x := by
  obtain ⟨c, lc, ec⟩ := iN_of (hi := 7) hx
  subst ec
  unfold bD bM
  rw [← Int32.toBitVec_inj, Int32.toBitVec_and, Int32.toBitVec_and]
  refine BitVec.eq_of_getLsbD_eq (fun i hi => ?_)
  rw [BitVec.getLsbD_and, BitVec.getLsbD_and]
  have e255 : (255 : Int32).toBitVec.getLsbD i = decide (i < 8) := bv255 i hi
  rw [e255]
  by_cases h8 : i < 8
  · have l1 : ((p1.toUInt64 >>> ((8 * iN c : Int32).toInt64.toUInt64 &&& Int64.toUInt64 63)).toInt64).toInt32.toBitVec = (p1.toBitVec >>> (8 * c)).signExtend 32 := by
      show (p1.toBitVec >>> (((8 * iN c : Int32).toInt64.toUInt64 &&& Int64.toUInt64 63).toBitVec % 64#64)).signExtend 32 = _
      rw [BitVec.ushiftRight_eq', BitVec.toNat_umod]
      rw [show (64#64 : BitVec 64).toNat = 64 from rfl, sh_u ⟨c, lc⟩]
    have l2 : (p1 >>> ((8 * iN c : Int32).toInt64 &&& 63)).toInt32.toBitVec = (p1.toBitVec.sshiftRight (8 * c)).signExtend 32 := by
      show (p1.toBitVec.sshiftRight (((8 * iN c : Int32).toInt64 &&& 63).toBitVec.smod 64#64).toNat).signExtend 32 = _
      rw [sh_s ⟨c, lc⟩]
    rw [l1, l2, BitVec.getLsbD_signExtend, BitVec.getLsbD_signExtend, if_pos (by omega), if_pos (by omega), BitVec.getLsbD_ushiftRight, BitVec.getLsbD_sshiftRight, if_pos (by omega)]
    rw [show decide (64 ≤ i) = false from by simp; omega, Bool.not_false, Bool.true_and]
  · rw [show decide (i < 8) = false from by simp [h8], Bool.and_false, Bool.and_false]
theorem b_rng (p1 : Int64) (x : Int32) : R2 0 255 (bM p1 x) := by
  unfold bM
  generalize (p1 >>> ((8 * x : Int32).toInt64 &&& 63)).toInt32 = y
  have h1 : (y &&& 255).toBitVec.toNat ≤ 255 := by
    rw [Int32.toBitVec_and, BitVec.toNat_and]; exact Nat.and_le_right
  have := BitVec.toInt_eq_toNat_cond (y &&& 255).toBitVec
  rw [if_pos (by omega)] at this
  have e : (y &&& 255).toInt = (y &&& 255).toBitVec.toInt := rfl
  exact ⟨by omega, by omega⟩
def dfa (p1 : Int64) : Nat → St → Int32 → Int32 → St × Int32
  | 0, s, c, _ => (s, c)
  | n + 1, s, c, x => if bD p1 x = 0 then (s, c) else dfa p1 n (p_X7_take s (bD p1 x)) (c + 1) (x + 1)
theorem fa_stop (τ : St) (p1 : Int64) : ∀ (n : Nat) (s : St) (x3 x5 : Int32), (p_X8_feedAll_l4 τ p1 n s x3 0 x5).1 = s ∧ (p_X8_feedAll_l4 τ p1 n s x3 0 x5).2.1 = x3 := by
  intro n
  induction n with
  | zero => intro s x3 x5; exact ⟨rfl, rfl⟩
  | succ n ih =>
    intro s x3 x5
    unfold p_X8_feedAll_l4
    by_cases hc : 8 ≤ x5
    · rw [if_pos hc]; exact ⟨rfl, rfl⟩
    · rw [if_neg hc]
      have e1 : p_X8_feedAll_t1 τ p1 s x3 0 x5 = false := by unfold p_X8_feedAll_t1; rw [if_pos rfl]
      have e2 : p_X8_feedAll_s2 τ p1 s x3 0 x5 = s := by unfold p_X8_feedAll_s2; rw [e1, if_neg (by decide)]
      have e3 : p_X8_feedAll_x3 τ p1 s x3 0 x5 = x3 := by unfold p_X8_feedAll_x3; rw [e1, if_neg (by decide)]
      rw [e1, e2, e3]; exact ih s x3 (x5 + 1)
theorem fa_cl (τ : St) (p1 : Int64) : ∀ (n : Nat) (s t : St) (c x : Int32), RelD s t → 0 ≤ x.toInt → x.toInt + n = 8 → RelD (dfa p1 n s c x).1 (p_X8_feedAll_l4 τ p1 n t c 1 x).1 ∧ (dfa p1 n s c x).2 = (p_X8_feedAll_l4 τ p1 n t c 1 x).2.1 := by
  intro n
  induction n with
  | zero => intro s t c x h h0 h1; exact ⟨h, rfl⟩
  | succ n ih =>
    intro s t c x h h0 h1
    unfold dfa p_X8_feedAll_l4
    have hx : R2 0 7 x := ⟨h0, by omega⟩
    have e1 := suc_i (x := x) (by omega) (by omega)
    have n8 : ¬ 8 ≤ x := by rw [ti_le]; show ¬ 8 ≤ x.toInt; omega
    rw [if_neg n8, b_eq p1 x hx]
    by_cases a : bM p1 x = 0
    · have t1 : p_X8_feedAll_t1 τ p1 t c 1 x = false := by
        unfold p_X8_feedAll_t1; rw [if_neg (by decide)]; exact if_pos a
      have e2 : p_X8_feedAll_s2 τ p1 t c 1 x = t := by unfold p_X8_feedAll_s2; rw [t1, if_neg (by decide)]
      have e3 : p_X8_feedAll_x3 τ p1 t c 1 x = c := by unfold p_X8_feedAll_x3; rw [t1, if_neg (by decide)]
      rw [if_pos a, t1, e2, e3]
      obtain ⟨y1, y2⟩ := fa_stop τ p1 n t c (x + 1)
      exact ⟨by rw [show b2i false = 0 from rfl, y1]; exact h, y2.symm⟩
    · have t1 : p_X8_feedAll_t1 τ p1 t c 1 x = true := by
        unfold p_X8_feedAll_t1; rw [if_neg (by decide)]; exact if_neg a
      have e2 : p_X8_feedAll_s2 τ p1 t c 1 x = p_X8_take t (bM p1 x) := by unfold p_X8_feedAll_s2; rw [t1, if_pos rfl]; rfl
      have e3 : p_X8_feedAll_x3 τ p1 t c 1 x = c + 1 := by unfold p_X8_feedAll_x3; rw [t1, if_pos rfl]
      rw [if_neg a, t1, e2, e3]
      exact ih _ _ (c + 1) (x + 1) (tk_take h _ (b_rng p1 x)) (by omega) (by omega)
theorem fa_desk (σ : St) (p1 : Int64) : p_X7_feedAll σ p1 = dfa p1 8 σ 0 0 := by
  have h1 : (0 : Int32) + 1 = 1 := by decide
  have h2 : (1 : Int32) + 1 = 2 := by decide
  have h3 : (2 : Int32) + 1 = 3 := by decide
  have h4 : (3 : Int32) + 1 = 4 := by decide
  have h5 : (4 : Int32) + 1 = 5 := by decide
  have h6 : (5 : Int32) + 1 = 6 := by decide
  have h7 : (6 : Int32) + 1 = 7 := by decide
  have h8 : (7 : Int32) + 1 = 8 := by decide
  have e : p_X7_feedAll σ p1 = (if bD p1 0 = 0 then (σ, 0) else (if bD p1 1 = 0 then ((p_X7_take σ (bD p1 0)), 1) else (if bD p1 2 = 0 then ((p_X7_take (p_X7_take σ (bD p1 0)) (bD p1 1)), 2) else (if bD p1 3 = 0 then ((p_X7_take (p_X7_take (p_X7_take σ (bD p1 0)) (bD p1 1)) (bD p1 2)), 3) else (if bD p1 4 = 0 then ((p_X7_take (p_X7_take (p_X7_take (p_X7_take σ (bD p1 0)) (bD p1 1)) (bD p1 2)) (bD p1 3)), 4) else (if bD p1 5 = 0 then ((p_X7_take (p_X7_take (p_X7_take (p_X7_take (p_X7_take σ (bD p1 0)) (bD p1 1)) (bD p1 2)) (bD p1 3)) (bD p1 4)), 5) else (if bD p1 6 = 0 then ((p_X7_take (p_X7_take (p_X7_take (p_X7_take (p_X7_take (p_X7_take σ (bD p1 0)) (bD p1 1)) (bD p1 2)) (bD p1 3)) (bD p1 4)) (bD p1 5)), 6) else (if bD p1 7 = 0 then ((p_X7_take (p_X7_take (p_X7_take (p_X7_take (p_X7_take (p_X7_take (p_X7_take σ (bD p1 0)) (bD p1 1)) (bD p1 2)) (bD p1 3)) (bD p1 4)) (bD p1 5)) (bD p1 6)), 7) else ((p_X7_take (p_X7_take (p_X7_take (p_X7_take (p_X7_take (p_X7_take (p_X7_take (p_X7_take σ (bD p1 0)) (bD p1 1)) (bD p1 2)) (bD p1 3)) (bD p1 4)) (bD p1 5)) (bD p1 6)) (bD p1 7)), 8))))))))) := by unfold p_X7_feedAll; rfl
  rw [e]
  show _ = dfa p1 (0 + 1 + 1 + 1 + 1 + 1 + 1 + 1 + 1) σ 0 0
  simp only [dfa, h1, h2, h3, h4, h5, h6, h7, h8]
theorem rd_feedAll (h : RelD σ μ) (p1 : Int64) : RelD (p_X7_feedAll σ p1).1 (p_X8_feedAll μ p1).1 ∧ (p_X7_feedAll σ p1).2 = (p_X8_feedAll μ p1).2 := by
  have x := fa_cl μ p1 8 σ (si μ 39 0) 0 0 (relD_39 h 0) (by decide) (by decide)
  rw [fa_desk]
  unfold p_X8_feedAll
  generalize dfa p1 8 σ 0 0 = A at x ⊢
  generalize p_X8_feedAll_l4 μ p1 8 (si μ 39 0) 0 1 0 = B at x ⊢
  exact x
theorem rd_mode (h : RelD σ μ) (k : Int32) : p_X7_mode σ k = (p_X8_mode μ k).2 := by
  obtain ⟨a1, a2, a3, a4, a5, a6, a7, a8, a9, _⟩ := h.1.1
  have b2 : ∀ b : Bool, (if b = true then true else false) = b := fun b => by cases b <;> rfl
  have b3 : ∀ b : Bool, (if b = true then (1 : Int32) else 0) = b2i b := fun b => by cases b <;> rfl
  show p_X7_mode σ k = (if k < 0 then (-1) else (if k ≤ 3 then (if (p_X8_mode_t1 μ k) = true then 1 else 0) else (-1)))
  rw [b3]
  unfold p_X7_mode p_X7_mode_t1 p_X7_mode_t2 p_X7_mode_t3 p_X7_mode_t4 p_X8_mode_t1
  rw [b2, b2, b2, b2]
  by_cases c0 : k = 0
  · subst c0; rw [if_pos rfl, if_neg (by decide), if_pos (by decide), if_pos rfl, a7]
  rw [if_neg c0]
  by_cases c1 : k = 1
  · subst c1; rw [if_pos rfl, if_neg (by decide), if_pos (by decide), if_neg (by decide), if_pos rfl, a6]
  rw [if_neg c1]
  by_cases c2 : k = 2
  · subst c2; rw [if_pos rfl, if_neg (by decide), if_pos (by decide), if_neg (by decide), if_neg (by decide), if_pos rfl, a8]
  rw [if_neg c2]
  by_cases c3 : k = 3
  · subst c3; rw [if_pos rfl, if_neg (by decide), if_pos (by decide), if_neg (by decide), if_neg (by decide), if_neg (by decide)]
    by_cases y : μ.1 4 = 1
    · rw [if_pos y, a9.mpr y]
    · rw [if_neg y]
      have : ¬ σ.2.1 2 = true := fun z => y (a9.mp z)
      rw [show σ.2.1 2 = false from by simpa using this]
  rw [if_neg c3]
  by_cases y : k < 0
  · rw [if_pos y]
  · rw [if_neg y, if_neg]
    rw [ti_le]; rw [ti_lt] at y; rw [ti_eq] at c0 c1 c2 c3
    have z0 : (0 : Int32).toInt = 0 := rfl
    have z1 : (1 : Int32).toInt = 1 := rfl
    have z2 : (2 : Int32).toInt = 2 := rfl
    have z3 : (3 : Int32).toInt = 3 := rfl
    omega
theorem rd_tab (h : RelD σ μ) (c : Int32) : p_X7_tab σ c = (p_X8_tab μ c).2 := by
  show p_X5_hasTabStop σ c = (if c < 0 then false else (if 12 ≤ c then false else (if μ.2.2 4 (c : Int32).toNatClampNeg = 0 then false else true)))
  by_cases a : c < 0
  · unfold p_X5_hasTabStop p_X5_hasTabStop_t1; rw [if_pos a, if_pos a]
  · by_cases b : 12 ≤ c
    · unfold p_X5_hasTabStop p_X5_hasTabStop_t1; rw [if_neg a, if_pos b, if_neg a, if_pos b]
    · have z0 : (0 : Int32).toInt = 0 := rfl
      have z12 : (12 : Int32).toInt = 12 := rfl
      have t := tab_eq h.1 c ⟨by rw [ti_lt] at a; omega, by rw [ti_le] at b; omega⟩
      rw [if_neg a, if_neg b]
      by_cases y : μ.2.2 4 (c : Int32).toNatClampNeg = 0
      · rw [if_pos y]
        have : ¬ p_X5_hasTabStop σ c = true := fun z => t.mp z y
        simpa using this
      · rw [if_neg y]; exact t.mpr y
theorem rd_title (h : RelD σ μ) (i : Int32) : p_X7_title σ i = (p_X8_title μ i).2 := by
  obtain ⟨e, hk⟩ := h.1.2.2.2.2.1
  obtain ⟨q1, q2⟩ := h.2.1.2.2.2.2.2.2.2.2.1
  have z0 : (0 : Int32).toInt = 0 := rfl
  have z16 : (16 : Int32).toInt = 16 := rfl
  show (if i < 0 then (-1) else (if σ.1 16 ≤ i then (-1) else (if 16 ≤ i then (-1) else σ.2.2 5 (i : Int32).toNatClampNeg))) = (if i < 0 then (-1) else (if μ.1 31 ≤ i then (-1) else μ.2.2 6 (i : Int32).toNatClampNeg))
  rw [e]
  by_cases a : i < 0
  · rw [if_pos a, if_pos a]
  · rw [if_neg a, if_neg a]
    by_cases b : μ.1 31 ≤ i
    · rw [if_pos b, if_pos b]
    · rw [if_neg b, if_neg b]
      rw [ti_lt] at a; rw [ti_le] at b
      rw [if_neg (by rw [ti_le]; omega)]
      exact hk _ (by rw [tn]; omega)
/-- counting -/
theorem cnt_cl (τ : St) (a b : Int32) (O : Int) (g : Int32) (hg : R2 0 1 g) (hO : O = 96 * g.toInt) (hμ : μ.1 4 = g) (hc : ∀ k : Nat, k < 96 → τ.2.2 0 k = μ.2.2 0 (O.toNat + k) ∧ τ.2.2 1 k = μ.2.2 1 (O.toNat + k)) : ∀ (n : Nat) (x3 x4 y4 : Int32), 0 ≤ x4.toInt → x4.toInt ≤ 96 → y4.toInt = O + x4.toInt → (p_X3_count_l2 τ a b n x3 x4).1 = (p_X8_cells_l2 μ a b n x3 y4).1 := by
  obtain ⟨g1, g2⟩ := hg
  have e96 : (96 * g).toInt = 96 * g.toInt := ti_mul (by show _ ≤ 96 * g.toInt; omega) (by show 96 * g.toInt ≤ _; omega)
  have e192 : (96 * g + 96).toInt = 96 * g.toInt + 96 := by
    rw [ti_add (by show _ ≤ (96 * g).toInt + 96; omega) (by show (96 * g).toInt + 96 ≤ _; omega), e96]; rfl
  intro n
  induction n with
  | zero => intro x3 x4 y4 h0 h1 h2; rfl
  | succ n ih =>
    intro x3 x4 y4 h0 h1 h2
    unfold p_X3_count_l2 p_X8_cells_l2
    rw [hμ]
    by_cases c : 96 ≤ x4
    · rw [if_pos c, if_pos (by rw [ti_le] at c ⊢; replace c : 96 ≤ x4.toInt := c; omega)]
    · have c' := c
      rw [ti_le] at c'; replace c' : ¬ 96 ≤ x4.toInt := c'
      rw [if_neg c, if_neg (by rw [ti_le]; omega)]
      have e1 := suc_i (x := x4) (by omega) (by omega)
      have e2 := suc_i (x := y4) (by omega) (by omega)
      have ex : p_X3_count_x1 τ a b x3 x4 = p_X8_cells_x1 μ a b x3 y4 := by
        unfold p_X3_count_x1 p_X8_cells_x1
        have hh := hc x4.toInt.toNat (by omega)
        rw [tn, tn, hh.1, hh.2, show O.toNat + x4.toInt.toNat = y4.toInt.toNat by omega]
      rw [ex]
      exact ih _ _ _ (by omega) (by omega) (by omega)
theorem rd_cells (h : RelD σ μ) (a b : Int32) : p_X7_cells σ a b = (p_X8_cells μ a b).2 := by
  obtain ⟨a1, a2, a3, a4, a5, a6, a7, a8, a9, _⟩ := h.1.1
  have hi := h.1.2.2.2.1
  have hg := h.2.1.1
  obtain ⟨g1, g2⟩ := hg
  have e96 : (96 * μ.1 4).toInt = 96 * (μ.1 4).toInt := ti_mul (by show _ ≤ 96 * (μ.1 4).toInt; omega) (by show 96 * (μ.1 4).toInt ≤ _; omega)
  show (if σ.2.1 2 = true then q_X3_count_P3 σ a b else q_X3_count_P2 σ a b) = (p_X8_cells_l2 μ a b 96 0 (96 * (μ.1 4))).1
  have z0 : (0 : Int32).toInt = 0 := rfl
  have z1 : (1 : Int32).toInt = 1 := rfl
  by_cases s : σ.2.1 2 = true
  · have e1 : (μ.1 4).toInt = 1 := by rw [a9.mp s]; rfl
    rw [if_pos s]
    exact cnt_cl (subP3 σ) a b 96 (μ.1 4) ⟨g1, g2⟩ (by omega) rfl (fun k hk => ⟨(hi k hk).2.2.1, (hi k hk).2.2.2⟩) 96 0 0 (96 * μ.1 4) (by decide) (by decide) (by omega)
  · have e0 : (μ.1 4).toInt = 0 := by
      have h9 : ¬ μ.1 4 = 1 := fun z => s (a9.mpr z)
      rw [ti_eq] at h9; omega
    rw [if_neg s]
    refine cnt_cl (subP2 σ) a b 0 (μ.1 4) ⟨g1, g2⟩ (by omega) rfl (fun k hk => ?_) 96 0 0 (96 * μ.1 4) (by decide) (by decide) (by omega)
    show σ.2.2 0 k = μ.2.2 0 (0 + k) ∧ σ.2.2 1 k = μ.2.2 1 (0 + k)
    rw [Nat.zero_add]; exact ⟨(hi k hk).1, (hi k hk).2.1⟩
/-- the page's cells, one by one -/
theorem rd_at (h : RelD σ μ) (r c : Int32) (hr : R2 0 7 r) (hc : R2 0 11 c) :
    (if σ.2.1 2 = true then σ.2.2 2 (r * 12 + c).toNatClampNeg else σ.2.2 0 (r * 12 + c).toNatClampNeg) = μ.2.2 0 (96 * μ.1 4 + 12 * r + c).toNatClampNeg ∧
    (if σ.2.1 2 = true then σ.2.2 3 (r * 12 + c).toNatClampNeg else σ.2.2 1 (r * 12 + c).toNatClampNeg) = μ.2.2 1 (96 * μ.1 4 + 12 * r + c).toNatClampNeg := by
  have e3 := at3 h.2.1.1 hr hc
  obtain ⟨r1, r2⟩ := hr
  obtain ⟨c1, c2⟩ := hc
  have e1 : (r * 12).toInt = 12 * r.toInt := m12 (x := r) ⟨r1, r2⟩ (by decide) (by decide)
  have e2 : (r * 12 + c).toInt = 12 * r.toInt + c.toInt := by rw [ti_add (by omega) (by omega), e1]
  have a9 := h.1.1.2.2.2.2.2.2.2.2.1
  have hi := h.1.2.2.2.1
  obtain ⟨g1, g2⟩ := h.2.1.1
  rw [tn, tn, e3, e2]
  have hk := hi (12 * r.toInt + c.toInt).toNat (by omega)
  have z1 : (1 : Int32).toInt = 1 := rfl
  by_cases s : σ.2.1 2 = true
  · have e9 : (μ.1 4).toInt = 1 := by rw [a9.mp s]; rfl
    rw [if_pos s, if_pos s, e9, show (96 * 1 + (12 * r.toInt + c.toInt)).toNat = 96 + (12 * r.toInt + c.toInt).toNat by omega]
    exact ⟨hk.2.2.1, hk.2.2.2⟩
  · have e0 : (μ.1 4).toInt = 0 := by
      have h9 : ¬ μ.1 4 = 1 := fun z => s (a9.mpr z)
      rw [ti_eq] at h9; omega
    rw [if_neg s, if_neg s, e0, show (96 * 0 + (12 * r.toInt + c.toInt)).toNat = (12 * r.toInt + c.toInt).toNat by omega]
    exact ⟨hk.1, hk.2.1⟩
/-- the first reply goes -/
theorem shl_up {X B : Int} {f : Nat → Int32} (hX : 0 ≤ X) (hB : X ≤ B) : fil (X + 1) B (fun k => upd f X.toNat (f (X.toNat + 1)) (k + 1)) (upd f X.toNat (f (X.toNat + 1))) = fil X B (fun k => f (k + 1)) f := by
  funext k
  unfold fil upd
  by_cases hk : k = X.toNat
  · rw [if_neg (by omega), if_pos hk, if_pos (by omega), hk]
  · by_cases h1 : X ≤ (k : Int) ∧ (k : Int) ≤ B
    · rw [if_pos (by omega), if_pos h1]
      show (if k + 1 = X.toNat then f (X.toNat + 1) else f (k + 1)) = f (k + 1)
      rw [if_neg (by omega)]
    · rw [if_neg (by omega), if_neg hk, if_neg h1]
theorem tf_cl (τ : St) : ∀ (n : Nat) (s : St) (x : Int32), 1 ≤ x.toInt → x.toInt ≤ 64 → 64 - x.toInt ≤ n → (p_X4_takeFirst_l1 τ n s x).1.1 = s.1 ∧ (p_X4_takeFirst_l1 τ n s x).1.2.2 0 = fil (x.toInt - 1) 62 (fun k => s.2.2 0 (k + 1)) (s.2.2 0) := by
  have z1 : (1 : Int32).toInt = 1 := rfl
  intro n
  induction n with
  | zero => intro s x h0 h1 h2; exact ⟨rfl, (fil_nil (by omega)).symm⟩
  | succ n ih =>
    intro s x h0 h1 h2
    unfold p_X4_takeFirst_l1
    by_cases hc : 64 ≤ x
    · rw [if_pos hc]; rw [ti_le] at hc; replace hc : 64 ≤ x.toInt := hc
      exact ⟨rfl, (fil_nil (by omega)).symm⟩
    · rw [if_neg hc]; rw [ti_le] at hc; replace hc : ¬ 64 ≤ x.toInt := hc
      have e1 := suc_i (x := x) (by omega) (by omega)
      have em : (x - 1).toInt = x.toInt - 1 := by rw [ti_sub (by omega) (by omega), z1]
      obtain ⟨i1, i2⟩ := ih (sa s 0 (upd (s.2.2 0) (x - 1 : Int32).toNatClampNeg (s.2.2 0 (x : Int32).toNatClampNeg))) (x + 1) (by omega) (by omega) (by omega)
      refine ⟨i1, ?_⟩
      rw [i2, e1]
      show fil (x.toInt + 1 - 1) 62 (fun k => upd (s.2.2 0) (x - 1 : Int32).toNatClampNeg (s.2.2 0 (x : Int32).toNatClampNeg) (k + 1)) (upd (s.2.2 0) (x - 1 : Int32).toNatClampNeg (s.2.2 0 (x : Int32).toNatClampNeg)) = _
      rw [tn, tn, em, show x.toInt.toNat = (x.toInt - 1).toNat + 1 by omega, show x.toInt + 1 - 1 = (x.toInt - 1) + 1 by omega]
      exact shl_up (by omega) (by omega)
theorem rp_cl (τ : St) (w : Int32) (hw : R2 0 63 w) : ∀ (n : Nat) (s : St) (x : Int32), s.1 28 = w → 0 ≤ x.toInt → x.toInt ≤ 64 → w.toInt - x.toInt ≤ n → FrP (p_X8_reply_l2 τ n s x).1 s ∧ (p_X8_reply_l2 τ n s x).1.1 = s.1 ∧ (p_X8_reply_l2 τ n s x).1.2.2 5 = fil x.toInt (w.toInt - 1) (fun k => s.2.2 5 (k + 1)) (s.2.2 5) := by
  obtain ⟨w1, w2⟩ := hw
  intro n
  induction n with
  | zero => intro s x hs h0 h1 h2; exact ⟨FrP.rf s, rfl, (fil_nil (by omega)).symm⟩
  | succ n ih =>
    intro s x hs h0 h1 h2
    unfold p_X8_reply_l2
    rw [hs]
    by_cases hc : w ≤ x
    · rw [if_pos hc]; rw [ti_le] at hc
      exact ⟨FrP.rf s, rfl, (fil_nil (by omega)).symm⟩
    · rw [if_neg hc]; rw [ti_le] at hc
      have e1 := suc_i (x := x) (by omega) (by omega)
      obtain ⟨i0, i1, i2⟩ := ih (sa s 5 (upd (s.2.2 5) (x : Int32).toNatClampNeg (s.2.2 5 (x + 1 : Int32).toNatClampNeg))) (x + 1) hs (by omega) (by omega) (by omega)
      refine ⟨i0.tr ⟨fun _ _ => rfl, rfl, fun j hj => ?_⟩, i1, ?_⟩
      · show (if j = 5 then _ else s.2.2 j) = s.2.2 j; rw [if_neg hj]
      · rw [i2, e1]
        show fil (x.toInt + 1) (w.toInt - 1) (fun k => upd (s.2.2 5) (x : Int32).toNatClampNeg (s.2.2 5 (x + 1 : Int32).toNatClampNeg) (k + 1)) (upd (s.2.2 5) (x : Int32).toNatClampNeg (s.2.2 5 (x + 1 : Int32).toNatClampNeg)) = _
        rw [tn, tn, e1, show (x.toInt + 1).toNat = x.toInt.toNat + 1 by omega]
        exact shl_up (by omega) (by omega)
theorem rd_reply (h : RelD σ μ) (hw : ¬ σ.1 18 ≤ 0) : RelD (q_X4_takeFirst_R σ).1 (p_X8_reply μ).1 ∧ (q_X4_takeFirst_R σ).2 = (p_X8_reply μ).2 ∧ (p_X8_reply μ).1.1 39 = 0 := by
  obtain ⟨e, hk⟩ := h.1.2.2.2.2.2
  rw [e] at hw
  have z0 : (0 : Int32).toInt = 0 := rfl
  have z1 : (1 : Int32).toInt = 1 := rfl
  obtain ⟨q1, q2⟩ := h.2.1.2.2.2.2.2.2.2.1
  have hw' := hw
  rw [ti_le] at hw'
  have t1 : p_X8_reply_t1 μ = false := by unfold p_X8_reply_t1; rw [if_neg hw]
  have em : (μ.1 28 - 1).toInt = (μ.1 28).toInt - 1 := by rw [ti_sub (by omega) (by omega), z1]
  have rw63 : R2 0 63 (μ.1 28 - 1) := ⟨by omega, by omega⟩
  obtain ⟨i0, i1, i2⟩ := rp_cl μ (μ.1 28 - 1) rw63 64 (si (si μ 39 0) 28 (μ.1 28 - 1)) 0 rfl (by decide) (by decide) (by show (μ.1 28 - 1).toInt - (0 : Int) ≤ _; omega)
  have er : p_X8_reply μ = ((p_X8_reply_l2 μ 64 (si (si μ 39 0) 28 (μ.1 28 - 1)) 0).1, μ.2.2 5 (0 : Int32).toNatClampNeg) := by
    unfold p_X8_reply; rw [t1, if_pos (by decide)]; rfl
  rw [er]
  generalize (p_X8_reply_l2 μ 64 (si (si μ 39 0) 28 (μ.1 28 - 1)) 0).1 = T at i0 i1 i2
  obtain ⟨j1, j2⟩ := tf_cl (subR σ) 64 (subR σ) 1 (by decide) (by decide) (by decide)
  have hT28 : T.1 28 = μ.1 28 - 1 := by rw [i1]; rfl
  have fr : FrP T (si μ 39 0) := i0.tr ⟨fun k hk => by show (if k = 28 then _ else _) = _; rw [if_neg hk], rfl, fun _ _ => rfl⟩
  have hMT : OkM T := by
    have h0 : OkM (si (si μ 39 0) 28 (μ.1 28 - 1)) := okm_wts ⟨by omega, by omega⟩ (okm_si _ _ (by decide) h.2.1)
    exact okm_of i1 (i0.2.2 8 (by decide)) h0
  have ed : (q_X4_takeFirst_R σ).1 = putR σ (si (p_X4_takeFirst_l1 (subR σ) 64 (subR σ) 1).1 0 (((p_X4_takeFirst_l1 (subR σ) 64 (subR σ) 1).1.1 0) - 1)) := rfl
  refine ⟨?_, hk 0 (by omega), ?_⟩
  · rw [ed]
    generalize (p_X4_takeFirst_l1 (subR σ) 64 (subR σ) 1).1 = D at j1 j2
    have h39 := relD_39 h 0
    refine h39.st (st_rep h39.1 fr ⟨?_, fun k hk2 => ?_⟩) hMT
    · show D.1 0 - 1 = T.1 28
      rw [j1, hT28]; show σ.1 18 - 1 = _; rw [e]
    · rw [hT28] at hk2
      show D.2.2 0 k = T.2.2 5 k
      rw [j2, i2, fil_in (by rw [z1]; omega) (by omega), fil_in (by rw [z0]; omega) (by omega)]
      exact hk (k + 1) (by omega)
  · show T.1 39 = 0; rw [i1]; rfl
end READS
