/-! ===== a byte on both sides ===== -/
def RJ (σ μ : St) : Prop := (σ.1 12 = 0 ∧ μ.1 33 = 0) ∨ (μ.1 24 = 0 ∧ R2 2 4 (μ.1 33) ∧ R2 1 3 (μ.1 34) ∧ (μ.1 34).toInt < (μ.1 33).toInt ∧ (σ.1 12).toInt = (μ.1 33).toInt - (μ.1 34).toInt ∧ σ.1 13 = μ.1 35 ∧ σ.1 14 = (if μ.1 33 = 2 then 128 else (if μ.1 33 = 3 then 2048 else 65536)) ∧ 0 ≤ (μ.1 35).toInt ∧ (μ.1 35).toInt ≤ (if (μ.1 34).toInt = 1 then 31 else if (μ.1 34).toInt = 2 then 2047 else 131071))
def RT (σ μ : St) : Prop := RS (σ.1 17) (σ.2.2 6) (μ.1 32) (μ.2.2 7)
def RelD (σ μ : St) : Prop := RelC σ μ ∧ OkM μ ∧ σ.1 0 = μ.1 24 ∧ R2 0 4 (μ.1 24) ∧ RJ σ μ ∧ (μ.1 24 = 2 → RK σ μ) ∧ (μ.1 24 = 4 → RT σ μ)
def NL (σ μ : St) : Prop := σ.1 12 = 0 ∧ μ.1 33 = 0
section TAKE
variable {σ μ σ' μ' : St}
theorem RelD.st (h : RelD σ μ) (s : Sim σ μ σ' μ') (hM : OkM μ') : RelD σ' μ' := by
  obtain ⟨_, _, h3, h4, h5, h6, h7⟩ := h
  have hk := fun z => RK.st (h6 z) s
  obtain ⟨c, ⟨d0, d12, d13, d14, d15, d17, db, d4, d6⟩, ⟨m24, m33, m34, m35, m37, m32, mb, m7, m8⟩⟩ := s
  refine ⟨c, hM, ?_, ?_, ?_, ?_, ?_⟩
  · rw [d0, m24]; exact h3
  · rw [m24]; exact h4
  · unfold RJ; rw [d12, m33, m24, m34, d13, m35, d14]; exact h5
  · rw [m24]; exact hk
  · unfold RT; rw [m24, d17, d6, m32, m7]; exact h7
theorem relD_stage (h : RelC σ μ) (hM : OkM μ) (hj : NL σ μ) (v : Int32) (hv : R2 0 4 v) (h2 : v = 2 → RK σ μ) (h4 : v = 4 → RT σ μ) : RelD (si σ 0 v) (si μ 24 v) :=
  ⟨h, okm_si _ _ (by decide) hM, rfl, hv, Or.inl hj, h2, h4⟩
theorem relD_s0 (h : RelC σ μ) (hM : OkM μ) (hj : NL σ μ) (v : Int32) (hv : v = 0 ∨ v = 1 ∨ v = 3) : RelD (si σ 0 v) (si μ 24 v) := by
  refine relD_stage h hM hj v ?_ ?_ ?_
  · rcases hv with rfl | rfl | rfl
    · exact R2.lit _ (by decide)
    · exact R2.lit _ (by decide)
    · exact R2.lit _ (by decide)
  · rcases hv with rfl | rfl | rfl <;> intro z <;> exact absurd z (by decide)
  · rcases hv with rfl | rfl | rfl <;> intro z <;> exact absurd z (by decide)
theorem NL.st (h : NL σ μ) (s : Sim σ μ σ' μ') : NL σ' μ' := ⟨s.2.1.2.1.trans h.1, s.2.2.2.1.trans h.2⟩
/-- a letter begins -/
theorem lb1 : ∀ n : Fin 256, 194 ≤ n.val → n.val < 224 → iN n &&& 31 = iN n - 192 ∧ 0 ≤ (iN n - 192).toInt ∧ (iN n - 192).toInt ≤ 31 := by decide +kernel
theorem lb2 : ∀ n : Fin 256, 224 ≤ n.val → n.val < 240 → iN n &&& 15 = iN n - 224 ∧ 0 ≤ (iN n - 224).toInt ∧ (iN n - 224).toInt ≤ 31 := by decide +kernel
theorem lb3 : ∀ n : Fin 256, 240 ≤ n.val → n.val < 245 → iN n &&& 7 = iN n - 240 ∧ 0 ≤ (iN n - 240).toInt ∧ (iN n - 240).toInt ≤ 31 := by decide +kernel
theorem iN_i : ∀ n : Fin 256, (iN n).toInt = (n.val : Int) := by decide +kernel
theorem tk_begin (h : RelD σ μ) (hs : μ.1 24 = 0) (p q l by' le : Int32) (hle : le = (if by' = 2 then 128 else (if by' = 3 then 2048 else 65536))) (hb : R2 2 4 by') (hp : p.toInt = by'.toInt - 1) (hq : q = l) (h0 : 0 ≤ l.toInt) (h1 : l.toInt ≤ 31) :
    RelD (putL σ (p_X1_start (subL σ) p q le)) (si (si (si μ 33 by') 34 1) 35 l) := by
  obtain ⟨c, hM, h3, h4, h5, h6, h7⟩ := h
  refine ⟨c, okm_si _ _ (by decide) (okm_si _ _ (by decide) (okm_si _ _ (by decide) hM)), h3, h4, Or.inr ⟨hs, hb, R2.lit 1 (by decide), ?_, ?_, hq, hle, h0, ?_⟩, h6, h7⟩
  · show (1 : Int32).toInt < by'.toInt; have := hb.1; show (1 : Int) < _; omega
  · show p.toInt = by'.toInt - (1 : Int32).toInt; exact hp
  · show l.toInt ≤ (if (1 : Int32).toInt = 1 then 31 else if (1 : Int32).toInt = 2 then 2047 else 131071); rw [if_pos (by decide)]; exact h1
theorem tk_ground (h : RelD σ μ) (hs : μ.1 24 = 0) (b : Int32) (hb : R2 32 255 b) (hn : ¬ b = 127) : RelD (p_X7_takeInGround σ b) (p_X8_letterByte μ b) := by
  obtain ⟨n, ln, en⟩ := iN_of (hi := 255) (x := b) ⟨by have := hb.1; omega, hb.2⟩
  have ei : b.toInt = (n : Int) := by rw [en]; exact iN_i ⟨n, ln⟩
  obtain ⟨b1, b2⟩ := hb
  have hM := h.2.1
  have pr : ∀ c : Int32, 0 ≤ c.toInt → RelD (p_X5_print σ c) (p_X8_print μ c) := fun c hc => h.st (st_print h.1 hM c hc) (okm_print c hM)
  unfold p_X7_takeInGround p_X7_takeInGround_s1 p_X8_letterByte p_X8_letterByte_s3
  by_cases a : 127 ≤ b
  · rw [if_pos a, if_pos a]
    rw [ti_le] at a; replace a : 127 ≤ b.toInt := a
    have a' : ¬ b ≤ 127 := by
      rw [ti_le]; rw [ti_eq] at hn; replace hn : ¬ b.toInt = 127 := hn; show ¬ b.toInt ≤ 127; omega
    by_cases c : b < 194
    · rw [if_pos c, if_neg a', if_pos c]; exact pr _ (by decide)
    · rw [if_neg c, if_neg c]
      rw [ti_lt] at c; replace c : ¬ b.toInt < 194 := c
      by_cases d : b ≤ 244
      · have d' : ¬ 244 < b := by rw [ti_lt]; rw [ti_le] at d; omega
        rw [if_neg d', if_pos d]
        rw [ti_le] at d; replace d : b.toInt ≤ 244 := d
        unfold q_X1_begin_L p_X1_begin p_X1_begin_s1 p_X8_letterByte_t1 p_X8_letterByte_t2
        by_cases e : 224 ≤ b
        · rw [if_pos e, if_pos e, if_pos e]
          rw [ti_le] at e; replace e : 224 ≤ b.toInt := e
          by_cases f : 240 ≤ b
          · rw [if_pos f, if_pos f, if_pos f]
            rw [ti_le] at f; replace f : 240 ≤ b.toInt := f
            have x := lb3 ⟨n, ln⟩ (by show 240 ≤ n; omega) (by show n < 245; omega)
            rw [en]
            exact tk_begin h hs _ _ _ 4 _ (by decide) (R2.lit 4 (by decide)) (by decide) x.1 x.2.1 x.2.2
          · rw [if_neg f, if_neg f, if_neg f]
            rw [ti_le] at f; replace f : ¬ 240 ≤ b.toInt := f
            have x := lb2 ⟨n, ln⟩ (by show 224 ≤ n; omega) (by show n < 240; omega)
            rw [en]
            exact tk_begin h hs _ _ _ 3 _ (by decide) (R2.lit 3 (by decide)) (by decide) x.1 x.2.1 x.2.2
        · rw [if_neg e, if_neg e, if_neg e]
          rw [ti_le] at e; replace e : ¬ 224 ≤ b.toInt := e
          have x := lb1 ⟨n, ln⟩ (by show 194 ≤ n; omega) (by show n < 224; omega)
          rw [en]
          exact tk_begin h hs _ _ _ 2 _ (by decide) (R2.lit 2 (by decide)) (by decide) x.1 x.2.1 x.2.2
      · have d' : 244 < b := by rw [ti_lt]; rw [ti_le] at d; omega
        rw [if_pos d', if_neg a', if_neg d]; exact pr _ (by decide)
  · rw [if_neg a, if_neg a]; exact pr b (by omega)
/-- a letter goes on -/
theorem shl_or {L b : Int32} (h0 : 0 ≤ L.toInt) (h1 : L.toInt ≤ 131071) (hb : R2 128 191 b) : (L <<< (6 &&& 31)) ||| (b &&& 63) = (64 * L + b) - 128 := by
  obtain ⟨b1, b2⟩ := hb
  have z64 : (64 : Int32).toInt = 64 := rfl
  have z128 : (128 : Int32).toInt = 128 := rfl
  have e1 : (64 * L).toInt = 64 * L.toInt := ti_mul (by rw [z64]; omega) (by rw [z64]; omega)
  have e2 : (64 * L + b).toInt = 64 * L.toInt + b.toInt := by rw [ti_add (by omega) (by omega), e1]
  have e3 : ((64 * L + b) - 128).toInt = 64 * L.toInt + b.toInt - 128 := by rw [ti_sub (by omega) (by omega), e2, z128]
  obtain ⟨n, ln, en⟩ := iN_of (hi := 255) (x := b) ⟨by omega, by omega⟩
  have hc : ∀ n : Fin 256, 128 ≤ n.val → n.val ≤ 191 → (iN n &&& 63).toBitVec.toNat = n.val - 128 := by decide +kernel
  have ei : b.toInt = (n : Int) := by rw [en]; exact iN_i ⟨n, ln⟩
  have c1 : (b &&& 63).toBitVec.toNat = n - 128 := by rw [en]; exact hc ⟨n, ln⟩ (by show 128 ≤ n; omega) (by show n ≤ 191; omega)
  have l1 : (L.toBitVec.toNat : Int) = L.toInt := by
    have := BitVec.toInt_eq_toNat_cond L.toBitVec
    have e : L.toInt = L.toBitVec.toInt := rfl
    have lt := L.toBitVec.isLt
    rw [e]; rw [e] at h0 h1
    split at this <;> omega
  rw [ti_eq, e3]
  have s1 : (L <<< (6 &&& 31)).toBitVec = L.toBitVec <<< 6 := rfl
  have s2 : ((L <<< (6 &&& 31)) ||| (b &&& 63)).toBitVec.toNat = L.toBitVec.toNat * 64 + (n - 128) := by
    rw [Int32.toBitVec_or, BitVec.toNat_or, s1, BitVec.toNat_shiftLeft, c1, Nat.mod_eq_of_lt (by rw [Nat.shiftLeft_eq]; omega), ← Nat.shiftLeft_add_eq_or_of_lt (by omega), Nat.shiftLeft_eq]
  have s3 : ((L <<< (6 &&& 31)) ||| (b &&& 63)).toInt = (((L <<< (6 &&& 31)) ||| (b &&& 63)).toBitVec.toNat : Int) := by
    have := BitVec.toInt_eq_toNat_cond ((L <<< (6 &&& 31)) ||| (b &&& 63)).toBitVec
    have e : ((L <<< (6 &&& 31)) ||| (b &&& 63)).toInt = ((L <<< (6 &&& 31)) ||| (b &&& 63)).toBitVec.toInt := rfl
    rw [e, this, if_pos (by rw [s2]; omega)]
  rw [s3, s2]; omega
theorem tk_further (h : RelD σ μ) (hs : μ.1 24 = 0) (hj : ¬ NL σ μ) (b : Int32) (hb : R2 128 191 b) : RelD (p_X7_takeFurther σ b) (p_X8_further μ b) := by
  obtain ⟨c, hM, h3, h4, h5, h6, h7⟩ := h
  obtain ⟨j1, ⟨j2, j3⟩, ⟨j4, j5⟩, j6, j7, j8, j9, j10, j11⟩ := h5.resolve_left hj
  have z2 : (2 : Int32).toInt = 2 := rfl
  have z3 : (3 : Int32).toInt = 3 := rfl
  have z1 : (1 : Int32).toInt = 1 := rfl
  have z0 : (0 : Int32).toInt = 0 := rfl
  have L1 : (μ.1 35).toInt ≤ 131071 := by
    by_cases a : (μ.1 34).toInt = 1
    · rw [if_pos a] at j11; omega
    · rw [if_neg a] at j11
      by_cases a2 : (μ.1 34).toInt = 2
      · rw [if_pos a2] at j11; omega
      · rw [if_neg a2] at j11; exact j11
  have es := shl_or j10 L1 hb
  have e1 := suc_i (x := μ.1 34) (by omega) (by omega)
  obtain ⟨b1, b2⟩ := hb
  have z64 : (64 : Int32).toInt = 64 := rfl
  have z128 : (128 : Int32).toInt = 128 := rfl
  have f1 : (64 * μ.1 35).toInt = 64 * (μ.1 35).toInt := ti_mul (by rw [z64]; omega) (by rw [z64]; omega)
  have f2 : (64 * μ.1 35 + b).toInt = 64 * (μ.1 35).toInt + b.toInt := by rw [ti_add (by omega) (by omega), f1]
  have f3 : ((64 * μ.1 35 + b) - 128).toInt = 64 * (μ.1 35).toInt + b.toInt - 128 := by rw [ti_sub (by omega) (by omega), f2, z128]
  have ex : q_X1_add_L σ b = si (si (si σ 12 (σ.1 12 - 1)) 13 ((64 * μ.1 35 + b) - 128)) 14 (σ.1 14) := by
    show putL σ (si (si (subL σ) 1 (((σ.1 13) <<< (6 &&& 31)) ||| (b &&& 63))) 0 ((σ.1 12) - 1)) = _
    rw [j8, es]; rfl
  have em : (σ.1 12 - 1).toInt = (μ.1 33).toInt - (μ.1 34).toInt - 1 := by rw [ti_sub (by omega) (by omega), j7, z1]
  unfold p_X7_takeFurther p_X7_takeFurther_s1 p_X8_further
  rw [ex]
  generalize hl : (64 * μ.1 35 + b) - 128 = l at *
  have c1 : RelC (si (si (si σ 12 (σ.1 12 - 1)) 13 l) 14 (σ.1 14)) (si (si (si μ 35 l) 34 (μ.1 34 + 1)) 33 0) := c
  by_cases a : μ.1 33 ≤ μ.1 34 + 1
  · rw [if_pos a]
    rw [ti_le] at a
    have em0 : σ.1 12 - 1 = 0 := by rw [ti_eq]; omega
    rw [if_pos (show (si (si (si σ 12 (σ.1 12 - 1)) 13 l) 14 (σ.1 14)).1 12 = 0 from em0)]
    have ew : q_X1_whole_L (si (si (si σ 12 (σ.1 12 - 1)) 13 l) 14 (σ.1 14)) = p_X8_further_t3 μ b := by
      show (if l < σ.1 14 then 65533 else (if (if l < 55296 then false else (if 57343 < l then false else true)) = true then 65533 else (if l ≤ 1114111 then l else 65533))) = _
      unfold p_X8_further_t3 p_X8_further_t2 p_X8_further_t1
      rw [hl, j9]
      generalize (if μ.1 33 = 2 then (128 : Int32) else if μ.1 33 = 3 then 2048 else 65536) = le
      by_cases x1 : l < le
      · rw [if_pos x1, if_pos x1, if_pos rfl]
      · rw [if_neg x1, if_neg x1]
        by_cases x2 : l < 55296
        · rw [if_pos x2, if_pos x2, if_neg (by decide)]
          by_cases x3 : l ≤ 1114111
          · rw [if_pos x3, if_pos x3, if_neg (by decide)]
          · rw [if_neg x3, if_neg x3, if_pos rfl]
        · rw [if_neg x2, if_neg x2]
          by_cases x4 : 57343 < l
          · have n4 : ¬ l ≤ 57343 := by rw [ti_le]; rw [ti_lt] at x4; omega
            by_cases x3 : l ≤ 1114111
            · rw [if_pos x4, if_neg (by decide), if_pos x3, if_neg n4, if_pos x3, if_neg (by decide)]
            · rw [if_pos x4, if_neg (by decide), if_neg x3, if_neg n4, if_neg x3, if_pos rfl]
          · have n4 : l ≤ 57343 := by rw [ti_le]; rw [ti_lt] at x4; omega
            rw [if_neg x4, if_pos rfl, if_pos n4, if_pos rfl]
    rw [ew]
    have hM1 : OkM (si (si (si μ 35 l) 34 (μ.1 34 + 1)) 33 0) := okm_3533 _ _ _ hM
    have hc : 0 ≤ (p_X8_further_t3 μ b).toInt := by
      unfold p_X8_further_t3
      by_cases y : p_X8_further_t2 μ b = true
      · rw [if_pos y]; decide
      · rw [if_neg y, hl]; omega
    have r1 : RelD (si (si (si σ 12 (σ.1 12 - 1)) 13 l) 14 (σ.1 14)) (si (si (si μ 35 l) 34 (μ.1 34 + 1)) 33 0) := ⟨c1, hM1, h3, h4, Or.inl ⟨em0, rfl⟩, h6, h7⟩
    exact r1.st (st_print c1 hM1 _ hc) (okm_print _ hM1)
  · rw [if_neg a]
    rw [ti_le] at a
    have em0 : ¬ σ.1 12 - 1 = 0 := by rw [ti_eq]; omega
    rw [if_neg (show ¬ (si (si (si σ 12 (σ.1 12 - 1)) 13 l) 14 (σ.1 14)).1 12 = 0 from em0)]
    refine ⟨c, okm_si _ _ (by decide) (okm_si _ _ (by decide) hM), h3, h4, Or.inr ⟨j1, ⟨j2, j3⟩, ⟨?_, ?_⟩, ?_, ?_, rfl, j9, ?_, ?_⟩, h6, h7⟩
    · show 1 ≤ (μ.1 34 + 1).toInt; omega
    · show (μ.1 34 + 1).toInt ≤ 3; omega
    · show (μ.1 34 + 1).toInt < (μ.1 33).toInt; omega
    · show (σ.1 12 - 1).toInt = (μ.1 33).toInt - (μ.1 34 + 1).toInt; omega
    · show 0 ≤ l.toInt; omega
    · show l.toInt ≤ (if (μ.1 34 + 1).toInt = 1 then 31 else if (μ.1 34 + 1).toInt = 2 then 2047 else 131071)
      rw [if_neg (by omega)]
      by_cases a1 : (μ.1 34).toInt = 1
      · rw [if_pos a1] at j11; rw [if_pos (by omega)]; omega
      · rw [if_neg a1] at j11
        by_cases a2 : (μ.1 34).toInt = 2
        · rw [if_pos a2] at j11; rw [if_neg (by omega)]; omega
        · omega
/-- a control -/
theorem tk_control (h : RelC σ μ) (hM : OkM μ) (b : Int32) (hb : R2 0 31 b) : Sim σ μ (p_X7_control σ b) (p_X8_control μ b) := by
  obtain ⟨b1, b2⟩ := hb
  have z0 : (0 : Int32).toInt = 0 := rfl
  have z1 : (1 : Int32).toInt = 1 := rfl
  unfold p_X7_control p_X7_control_s1
  by_cases c7 : b = 7
  · subst c7
    have em : p_X8_control μ 7 = si μ 26 (μ.1 26 + 1) := rfl
    rw [if_pos rfl, em, h.1.2.2.2.2.2.2.2.2.2.2.2.2.2.1]
    exact st_bell h _
  rw [if_neg c7]
  have s1 : p_X8_control_s1 μ b = μ := by unfold p_X8_control_s1; rw [if_neg c7]
  by_cases c8 : b = 8
  · subst c8
    have em : p_X8_control μ 8 = p_X8_place μ (μ.1 5) (if μ.1 6 ≤ 0 then 0 else μ.1 6 - 1) := rfl
    rw [if_pos rfl, em]
    have x := st_moveLeft h hM 1 (R2.lit 1 (by decide))
    obtain ⟨c1, c2⟩ := hM.2.2.1
    have e : (μ.1 6 - 1).toInt = (μ.1 6).toInt - 1 := by rw [ti_sub (by omega) (by omega), z1]
    have ea : p_X8_atLeast μ (μ.1 6 - 1) 0 = (if μ.1 6 ≤ 0 then 0 else μ.1 6 - 1) := by
      unfold p_X8_atLeast p_X8_atLeast_t1
      by_cases y : μ.1 6 ≤ 0
      · rw [if_pos y, if_pos (by rw [ti_le]; rw [ti_le] at y; omega)]
      · rw [if_neg y]
        by_cases w : μ.1 6 - 1 ≤ 0
        · rw [if_pos w, ti_eq]; rw [ti_le] at w y; omega
        · rw [if_neg w]
    rw [ea] at x; exact x
  rw [if_neg c8]
  have s3 : p_X8_control_s3 μ b = μ := by unfold p_X8_control_s3; rw [if_neg c8, s1]
  by_cases c9 : b = 9
  · subst c9
    have em : p_X8_control μ 9 = p_X8_place μ (μ.1 5) (p_X8_control_l6 μ 9 12 (μ.1 6) 0 (μ.1 6 + 1)).1 := by
      unfold p_X8_control p_X8_control_s9 p_X8_control_s8 p_X8_control_s7
      rw [if_neg (by decide), if_pos (by decide), if_pos rfl, s3]
    rw [if_pos rfl, em]
    exact st_tab h hM
  rw [if_neg c9]
  have s7 : p_X8_control_s7 μ b = μ := by unfold p_X8_control_s7; rw [if_neg c9, s3]
  have fd : ∀ c : Int32, R2 10 12 c → c = b → p_X8_control μ b = p_X8_feeding μ := by
    intro c hc e
    obtain ⟨q1, q2⟩ := hc
    rw [e] at q1 q2
    have n13 : ¬ b = 13 := by rw [ti_eq]; show ¬ b.toInt = 13; omega
    unfold p_X8_control p_X8_control_s9 p_X8_control_s8
    rw [if_neg n13, if_neg (by rw [ti_lt]; show ¬ b.toInt < 10; omega), if_neg (by rw [ti_lt]; show ¬ 12 < b.toInt; omega), s7]
  by_cases c10 : b = 10
  · rw [if_pos c10, fd 10 (R2.lit 10 (by decide)) c10.symm]; exact st_feed h hM
  rw [if_neg c10]
  by_cases c11 : b = 11
  · rw [if_pos c11, fd 11 (R2.lit 11 (by decide)) c11.symm]; exact st_feed h hM
  rw [if_neg c11]
  by_cases c12 : b = 12
  · rw [if_pos c12, fd 12 (R2.lit 12 (by decide)) c12.symm]; exact st_feed h hM
  rw [if_neg c12]
  have s8 : p_X8_control_s8 μ b = μ := by
    unfold p_X8_control_s8
    rw [s7]
    by_cases y : b < 10
    · rw [if_pos y]
    · rw [if_neg y, if_pos]
      rw [ti_lt] at y ⊢; rw [ti_eq] at c10 c11 c12
      replace y : ¬ b.toInt < 10 := y
      replace c10 : ¬ b.toInt = 10 := c10
      replace c11 : ¬ b.toInt = 11 := c11
      replace c12 : ¬ b.toInt = 12 := c12
      show 12 < b.toInt; omega
  by_cases c13 : b = 13
  · have em : p_X8_control μ b = p_X8_place μ (μ.1 5) 0 := by unfold p_X8_control p_X8_control_s9; rw [if_pos c13, s8]
    rw [if_pos c13, em]
    exact st_mtc h 0 0 (by decide)
  · have em : p_X8_control μ b = μ := by unfold p_X8_control p_X8_control_s9; rw [if_neg c13, s8]
    rw [if_neg c13, em]
    exact Sim.rf h
end TAKE
