/-! ===== titles, and the whole of a byte ===== -/
theorem cf_cl (σ : St) : ∀ (n : Nat) (s : St) (x : Int32), 0 ≤ x.toInt → x.toInt ≤ 16 → 16 - x.toInt ≤ n → (p_X6_copyFrom_l1 σ n s x).1.1 = s.1 ∧ (p_X6_copyFrom_l1 σ n s x).1.2.2 1 = s.2.2 1 ∧ (p_X6_copyFrom_l1 σ n s x).1.2.2 0 = fil x.toInt 15 (s.2.2 1) (s.2.2 0) := by
  intro n
  induction n with
  | zero => intro s x h0 h1 h2; exact ⟨rfl, rfl, (fil_nil (by omega)).symm⟩
  | succ n ih =>
    intro s x h0 h1 h2
    unfold p_X6_copyFrom_l1
    by_cases hc : 16 ≤ x
    · rw [if_pos hc]; rw [ti_le] at hc; replace hc : 16 ≤ x.toInt := hc
      exact ⟨rfl, rfl, (fil_nil (by omega)).symm⟩
    · rw [if_neg hc]; rw [ti_le] at hc; replace hc : ¬ 16 ≤ x.toInt := hc
      have e1 := suc_i (x := x) (by omega) (by omega)
      obtain ⟨i1, i2, i3⟩ := ih (sa s 0 (upd (s.2.2 0) (x : Int32).toNatClampNeg (s.2.2 1 (x : Int32).toNatClampNeg))) (x + 1) (by omega) (by omega) (by omega)
      rw [i1, i2, i3, e1]
      exact ⟨rfl, rfl, fil_up h0 (by omega) rfl⟩
theorem tl_cl (τ : St) (b cs : Int32) (hcs : R2 0 16 cs) : ∀ (n : Nat) (s : St) (x : Int32), s.1 32 = cs → 0 ≤ x.toInt → x.toInt ≤ 16 → cs.toInt - x.toInt ≤ n →
    (p_X8_titleByte_l1 τ b n s x).1 = sa s 6 (fil x.toInt (cs.toInt - 1) (s.2.2 7) (s.2.2 6)) := by
  have sa_id : ∀ (s : St) (f : Nat → Int32), f = s.2.2 6 → s = sa s 6 f := by
    intro s f hf
    subst hf
    refine Prod.ext rfl (Prod.ext rfl ?_)
    funext j
    show s.2.2 j = if j = 6 then s.2.2 6 else s.2.2 j
    by_cases z : j = 6
    · rw [if_pos z, z]
    · rw [if_neg z]
  have sa_sa : ∀ (s : St) (f g : Nat → Int32), sa (sa s 6 f) 6 g = sa s 6 g := by
    intro s f g
    refine Prod.ext rfl (Prod.ext rfl ?_)
    funext j
    show (if j = 6 then g else (if j = 6 then f else s.2.2 j)) = (if j = 6 then g else s.2.2 j)
    by_cases z : j = 6
    · rw [if_pos z, if_pos z]
    · rw [if_neg z, if_neg z, if_neg z]
  obtain ⟨q1, q2⟩ := hcs
  intro n
  induction n with
  | zero => intro s x hs h0 h1 h2; exact sa_id s _ (fil_nil (by omega))
  | succ n ih =>
    intro s x hs h0 h1 h2
    unfold p_X8_titleByte_l1
    rw [hs]
    by_cases hc : cs ≤ x
    · rw [if_pos hc]; rw [ti_le] at hc
      exact sa_id s _ (fil_nil (by omega))
    · rw [if_neg hc]; rw [ti_le] at hc
      have e1 := suc_i (x := x) (by omega) (by omega)
      rw [ih (sa s 6 (upd (s.2.2 6) (x : Int32).toNatClampNeg (s.2.2 7 (x : Int32).toNatClampNeg))) (x + 1) hs (by omega) (by omega) (by omega), e1, sa_sa]
      refine congrArg (sa s 6) ?_
      exact fil_up h0 (by omega) rfl
def dS2 (σ : St) (p1 : Int32) : St := (if σ.1 0 = 1 then (p_X7_takeInEscape σ p1) else (if σ.1 0 = 4 then (p_X7_takeInTitle σ p1) else (if 64 ≤ p1 then (if σ.1 0 = 2 then (p_X7_doSequence σ p1) else si σ 0 0) else (p_X7_takeBeforeEnd σ p1))))
def dR1 (σ : St) (p1 : Int32) : St := (if p1 = 24 then si σ 0 0 else (if p1 = 26 then si σ 0 0 else (if p1 = 27 then si σ 0 1 else (if 32 ≤ p1 then (if σ.1 0 = 0 then (p_X7_takeInGround σ p1) else (if p1 < 127 then (dS2 σ p1) else σ)) else (if σ.1 0 = 4 then (if σ.1 0 = 0 then (p_X7_takeInGround σ p1) else (if p1 < 127 then (dS2 σ p1) else σ)) else (p_X7_control σ p1))))))
def mS2 (σ : St) (p1 : Int32) : St := (if 32 ≤ p1 then (if σ.1 24 = 0 then (p_X8_letterByte σ p1) else (if 128 ≤ p1 then σ else (p_X8_sequenceByte σ p1))) else (if σ.1 24 = 4 then (if σ.1 24 = 0 then (p_X8_letterByte σ p1) else (if 128 ≤ p1 then σ else (p_X8_sequenceByte σ p1))) else (p_X8_control σ p1)))
def mR1 (σ : St) (p1 : Int32) : St := (if p1 = 24 then si σ 24 0 else (if p1 = 26 then si σ 24 0 else (if p1 = 27 then si σ 24 1 else (if p1 = 127 then σ else (mS2 σ p1)))))
section TAKE3
variable {σ μ : St}
theorem tk_title (h : RelD σ μ) (hj : NL σ μ) (hs : μ.1 24 = 4) (b : Int32) : RelD (p_X7_takeInTitle σ b) (p_X8_titleByte μ b) := by
  have hMt : OkM (p_X8_titleByte μ b) := okm_titleByte b h.2.1
  obtain ⟨c, hM, h3, h4, h5, h6, h7⟩ := h
  have ht := h7 hs
  have h32 := hM.2.2.2.2.2.2.2.2.2.1
  obtain ⟨q1, q2⟩ := h32
  unfold p_X7_takeInTitle p_X7_takeInTitle_s1
  by_cases c7 : b = 7
  · have em : p_X8_titleByte μ b = si (sa (si μ 31 (μ.1 32)) 6 (fil (0 : Int32).toInt ((μ.1 32).toInt - 1) (μ.2.2 7) (μ.2.2 6))) 24 0 := by
      unfold p_X8_titleByte p_X8_titleByte_s2
      rw [if_pos c7, tl_cl μ b (μ.1 32) ⟨q1, q2⟩ 16 (si μ 31 (μ.1 32)) 0 rfl (by decide) (by decide) (by show (μ.1 32).toInt - (0 : Int) ≤ _; omega)]; rfl
    rw [em] at hMt ⊢
    rw [if_pos (by rw [c7]; decide), if_pos c7]
    obtain ⟨i1, i2, i3⟩ := cf_cl (subTT σ) 16 (subTT σ) 0 (by decide) (by decide) (by decide)
    have ed : q_X6_copyFrom_TT σ = sa (si (sa (si σ 16 (σ.1 17)) 5 (fil (0 : Int32).toInt 15 (σ.2.2 6) (σ.2.2 5))) 17 (σ.1 17)) 6 (σ.2.2 6) := by
      unfold q_X6_copyFrom_TT p_X6_copyFrom
      generalize (p_X6_copyFrom_l1 (subTT σ) 16 (subTT σ) 0).1 = T at i1 i2 i3
      show putTT σ (si T 0 (T.1 1)) = _
      have w0 : (si T 0 (T.1 1)).1 0 = σ.1 17 := by show T.1 1 = σ.1 17; rw [i1]; rfl
      have w1 : (si T 0 (T.1 1)).1 1 = σ.1 17 := by show T.1 1 = σ.1 17; rw [i1]; rfl
      have w2 : (si T 0 (T.1 1)).2.2 0 = fil (0 : Int32).toInt 15 (σ.2.2 6) (σ.2.2 5) := i3
      have w3 : (si T 0 (T.1 1)).2.2 1 = σ.2.2 6 := i2
      unfold putTT
      rw [w0, w1, w2, w3]
    rw [ed]
    obtain ⟨ca, cd, cg, ci, cl, cn⟩ := c
    refine ⟨⟨ca, cd, cg, ci, ⟨ht.1, fun k hk => ?_⟩, cn⟩, hMt, rfl, R2.lit 0 (by decide), Or.inl hj, fun z => absurd z (by show ¬ (0 : Int32) = 2; decide), fun z => absurd z (by show ¬ (0 : Int32) = 4; decide)⟩
    replace hk : k < (μ.1 32).toInt.toNat := hk
    show fil (0 : Int32).toInt 15 (σ.2.2 6) (σ.2.2 5) k = fil (0 : Int32).toInt ((μ.1 32).toInt - 1) (μ.2.2 7) (μ.2.2 6) k
    rw [fil_in (show (0 : Int32).toInt ≤ (k : Int) from by show (0 : Int) ≤ _; omega) (by omega), fil_in (show (0 : Int32).toInt ≤ (k : Int) from by show (0 : Int) ≤ _; omega) (by omega)]
    exact ht.2 k hk
  by_cases c32 : b < 32
  · have em : p_X8_titleByte μ b = μ := by unfold p_X8_titleByte p_X8_titleByte_s2; rw [if_neg c7, if_pos c32]
    rw [em, if_pos c32, if_neg c7]
    exact ⟨c, hM, h3, h4, h5, h6, h7⟩
  rw [if_neg c32]
  have e17 : (subT15 σ).1 0 = μ.1 32 := ht.1
  by_cases c16 : 16 ≤ μ.1 32
  · have em : p_X8_titleByte μ b = μ := by unfold p_X8_titleByte p_X8_titleByte_s2; rw [if_neg c7, if_neg c32, if_pos c16]
    have ed : q_X6_add_T15 σ b = putT15 σ (subT15 σ) := by
      unfold q_X6_add_T15 p_X6_add p_X6_add_s1
      rw [e17, if_neg (by rw [ti_lt]; show ¬ (μ.1 32).toInt < 0; omega), if_pos c16]
    rw [em, ed]
    exact ⟨c, hM, h3, h4, h5, h6, h7⟩
  · have em : p_X8_titleByte μ b = si (sa μ 7 (upd (μ.2.2 7) (μ.1 32 : Int32).toNatClampNeg b)) 32 (μ.1 32 + 1) := by unfold p_X8_titleByte p_X8_titleByte_s2; rw [if_neg c7, if_neg c32, if_neg c16]
    have ed : q_X6_add_T15 σ b = putT15 σ (si (sa (subT15 σ) 0 (upd ((subT15 σ).2.2 0) (μ.1 32).toNatClampNeg b)) 0 (μ.1 32 + 1)) := by
      unfold q_X6_add_T15 p_X6_add p_X6_add_s1
      rw [e17, if_neg (by rw [ti_lt]; show ¬ (μ.1 32).toInt < 0; omega), if_neg c16]
    rw [em] at hMt ⊢
    rw [ed]
    have e1 := suc_i (x := μ.1 32) (by omega) (by omega)
    refine ⟨c, hMt, h3, h4, h5, fun z => absurd (hs.symm.trans z) (by decide), fun _ => ⟨rfl, fun k hk => ?_⟩⟩
    replace hk : k < (μ.1 32 + 1).toInt.toNat := hk
    show (if k = (μ.1 32).toNatClampNeg then b else σ.2.2 6 k) = (if k = (μ.1 32).toNatClampNeg then b else μ.2.2 7 k)
    by_cases y : k = (μ.1 32).toNatClampNeg
    · rw [if_pos y, if_pos y]
    · rw [if_neg y, if_neg y]; rw [tn] at y; exact ht.2 k (by omega)
theorem tk_s2 (h : RelD σ μ) (hj : NL σ μ) (h0 : ¬ μ.1 24 = 0) (b : Int32) (hb : R2 32 126 b ∨ (μ.1 24 = 4 ∧ R2 0 126 b)) : RelD (dS2 σ b) (p_X8_sequenceByte μ b) := by
  have hst := h.2.2.1
  have z64 : (64 : Int32).toInt = 64 := rfl
  unfold dS2 p_X8_sequenceByte p_X8_sequenceByte_s1
  rw [hst]
  by_cases s1 : μ.1 24 = 1
  · rw [if_pos s1, if_pos s1]; exact tk_escape h hj b
  rw [if_neg s1, if_neg s1]
  by_cases s4 : μ.1 24 = 4
  · have n2 : ¬ μ.1 24 = 2 := by rw [s4]; decide
    rw [if_pos s4, if_neg n2, if_pos s4]; exact tk_title h hj s4 b
  have hb' : R2 32 126 b := hb.resolve_right (fun z => s4 z.1)
  by_cases s2 : μ.1 24 = 2
  · rw [if_neg s4, if_pos s2, if_pos s2]; exact tk_seq h hj s2 b hb'
  · rw [if_neg s4, if_neg s2, if_neg s2, if_neg s4]
    have s3 : μ.1 24 = 3 := by
      obtain ⟨r1, r2⟩ := h.2.2.2.1
      rw [ti_eq] at h0 s1 s2 s4 ⊢
      have z0 : (0 : Int32).toInt = 0 := rfl
      have z1 : (1 : Int32).toInt = 1 := rfl
      have z2 : (2 : Int32).toInt = 2 := rfl
      have z3 : (3 : Int32).toInt = 3 := rfl
      have z4 : (4 : Int32).toInt = 4 := rfl
      omega
    by_cases y : 64 ≤ b
    · rw [if_pos y, if_neg (by rw [ti_lt]; rw [ti_le] at y; omega)]
      exact relD_s0 h.1 h.2.1 hj 0 (Or.inl rfl)
    · rw [if_neg y, if_pos (by rw [ti_lt]; rw [ti_le] at y; omega)]
      unfold p_X7_takeBeforeEnd
      rw [if_pos (hst.trans s3)]; exact h
theorem tk_r1 (h : RelD σ μ) (hj : NL σ μ) (b : Int32) (hb : R2 0 255 b) : RelD (dR1 σ b) (mR1 μ b) := by
  obtain ⟨b1, b2⟩ := hb
  have hst := h.2.2.1
  have z32 : (32 : Int32).toInt = 32 := rfl
  have z127 : (127 : Int32).toInt = 127 := rfl
  have z128 : (128 : Int32).toInt = 128 := rfl
  unfold dR1 mR1
  by_cases c24 : b = 24
  · rw [if_pos c24, if_pos c24]; exact relD_s0 h.1 h.2.1 hj 0 (Or.inl rfl)
  rw [if_neg c24, if_neg c24]
  by_cases c26 : b = 26
  · rw [if_pos c26, if_pos c26]; exact relD_s0 h.1 h.2.1 hj 0 (Or.inl rfl)
  rw [if_neg c26, if_neg c26]
  by_cases c27 : b = 27
  · rw [if_pos c27, if_pos c27]; exact relD_s0 h.1 h.2.1 hj 1 (Or.inr (Or.inl rfl))
  rw [if_neg c27, if_neg c27, hst]
  by_cases c127 : b = 127
  · rw [if_pos c127]
    have e1 : p_X7_takeInGround σ b = σ := by rw [c127]; rfl
    have n127 : ¬ b < 127 := by rw [c127]; decide
    rw [if_pos (by rw [c127]; decide), e1]
    by_cases y : μ.1 24 = 0
    · rw [if_pos y]; exact h
    · rw [if_neg y, if_neg n127]; exact h
  rw [if_neg c127]
  have n127 : ¬ b.toInt = 127 := by rw [ti_eq] at c127; omega
  unfold mS2
  by_cases c32 : 32 ≤ b
  · rw [if_pos c32, if_pos c32]
    rw [ti_le] at c32
    by_cases s0 : μ.1 24 = 0
    · rw [if_pos s0, if_pos s0]; exact tk_ground h s0 b ⟨by omega, b2⟩ c127
    · rw [if_neg s0, if_neg s0]
      by_cases y : b < 127
      · rw [if_pos y, if_neg (by rw [ti_le]; rw [ti_lt] at y; omega)]
        rw [ti_lt] at y
        exact tk_s2 h hj s0 b (Or.inl ⟨by omega, by omega⟩)
      · rw [if_neg y, if_pos (by rw [ti_le]; rw [ti_lt] at y; omega)]; exact h
  · rw [if_neg c32, if_neg c32]
    rw [ti_le] at c32
    by_cases s4 : μ.1 24 = 4
    · have s0 : ¬ μ.1 24 = 0 := by rw [s4]; decide
      rw [if_pos s4, if_pos s4, if_neg s0, if_neg s0, if_pos (by rw [ti_lt]; omega), if_neg (by rw [ti_le]; omega)]
      exact tk_s2 h hj s0 b (Or.inr ⟨s4, by omega, by omega⟩)
    · rw [if_neg s4, if_neg s4]
      exact h.st (tk_control h.1 h.2.1 b ⟨b1, by omega⟩) (okm_control b h.2.1)
theorem tk_take (h : RelD σ μ) (b : Int32) (hb : R2 0 255 b) : RelD (p_X7_take σ b) (p_X8_take μ b) := by
  have hd : ∀ s : St, p_X7_take_s1 σ b = s → p_X7_take_r1 σ b = dR1 s b := fun s e => by subst e; rfl
  have hm : ∀ s : St, p_X8_take_s1 μ b = s → p_X8_take_r1 μ b = mR1 s b := fun s e => by subst e; rfl
  unfold p_X7_take p_X8_take
  by_cases hj : NL σ μ
  · have e12 : σ.1 12 ≤ 0 := by rw [hj.1]; decide
    have e33 : μ.1 33 ≤ 0 := by rw [hj.2]; decide
    have s1 : p_X7_take_s1 σ b = σ := by unfold p_X7_take_s1; rw [if_pos e12]
    have s2 : p_X8_take_s1 μ b = μ := by
      unfold p_X8_take_s1
      by_cases y : μ.1 24 = 0
      · rw [if_pos y, if_pos e33]
      · rw [if_neg y]
    rw [if_pos e12, hd _ s1, hm _ s2, if_pos e33]
    have e : (if μ.1 24 = 0 then mR1 μ b else mR1 μ b) = mR1 μ b := by
      by_cases y : μ.1 24 = 0
      · rw [if_pos y]
      · rw [if_neg y]
    rw [e]
    exact tk_r1 h hj b hb
  · obtain ⟨j1, ⟨j2, j3⟩, ⟨j4, j5⟩, j6, j7, j8, j9, j10, j11⟩ := h.2.2.2.2.1.resolve_left hj
    have z0 : (0 : Int32).toInt = 0 := rfl
    have z128 : (128 : Int32).toInt = 128 := rfl
    have z191 : (191 : Int32).toInt = 191 := rfl
    have n12 : ¬ σ.1 12 ≤ 0 := by rw [ti_le]; omega
    have n33 : ¬ μ.1 33 ≤ 0 := by rw [ti_le]; omega
    rw [if_neg n12, if_pos j1, if_neg n33]
    have hM0 : OkM (si μ 33 0) := okm_si _ _ (by decide) h.2.1
    have r0 : RelD (q_X1_drop_L σ) (si μ 33 0) := ⟨h.1, hM0, h.2.2.1, h.2.2.2.1, Or.inl ⟨rfl, rfl⟩, fun z => absurd (j1.symm.trans z) (by decide), fun z => absurd (j1.symm.trans z) (by decide)⟩
    have x := st_print r0.1 hM0 65533 (by decide)
    have r1 := r0.st x (okm_print _ hM0)
    have hj1 : NL (p_X5_print (q_X1_drop_L σ) 65533) (p_X8_print (si μ 33 0) 65533) := NL.st (σ := q_X1_drop_L σ) (μ := si μ 33 0) ⟨rfl, rfl⟩ x
    by_cases y : b < 128
    · have s1 : p_X7_take_s1 σ b = p_X5_print (q_X1_drop_L σ) 65533 := by unfold p_X7_take_s1; rw [if_neg n12, if_pos y]
      have s2 : p_X8_take_s1 μ b = p_X8_print (si μ 33 0) 65533 := by unfold p_X8_take_s1; rw [if_pos j1, if_neg n33, if_pos y]
      rw [if_pos y, if_pos y, hd _ s1, hm _ s2]; exact tk_r1 r1 hj1 b hb
    · rw [if_neg y, if_neg y]
      by_cases w : 191 < b
      · have s1 : p_X7_take_s1 σ b = p_X5_print (q_X1_drop_L σ) 65533 := by unfold p_X7_take_s1; rw [if_neg n12, if_neg y, if_pos w]
        have s2 : p_X8_take_s1 μ b = p_X8_print (si μ 33 0) 65533 := by unfold p_X8_take_s1; rw [if_pos j1, if_neg n33, if_neg y, if_pos w]
        rw [if_pos w, if_pos w, hd _ s1, hm _ s2]; exact tk_r1 r1 hj1 b hb
      · rw [if_neg w, if_neg w]
        rw [ti_lt] at y w
        exact tk_further h j1 hj b ⟨by omega, by omega⟩
end TAKE3
