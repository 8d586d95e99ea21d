/-! ===== the screen's steps on both sides ===== -/
section OPS
variable {σ μ : St}
theorem m12 {x : Int32} {lo hi : Int} (h : R2 lo hi x) (h1 : -100000 ≤ lo) (h2 : hi ≤ 100000) : (x * 12).toInt = 12 * x.toInt := by
  obtain ⟨a, b⟩ := h
  rw [ti_mul (by show _ ≤ x.toInt * 12; omega) (by show x.toInt * 12 ≤ _; omega)]
  show x.toInt * 12 = _; omega
theorem rs_i (h : RelC σ μ) (hM : OkM μ) : (p_X5_regionStart σ).toInt = 12 * (μ.1 7).toInt := by
  unfold p_X5_regionStart; rw [h.1.1]; exact m12 hM.2.2.2.1 (by decide) (by decide)
theorem re_i (h : RelC σ μ) (hM : OkM μ) : (p_X5_regionEnd σ).toInt = 12 * (μ.1 8).toInt + 11 := by
  unfold p_X5_regionEnd; rw [h.1.2.1]
  have e := m12 hM.2.2.2.2.1 (by decide) (by decide)
  obtain ⟨a, b⟩ := hM.2.2.2.2.1
  rw [ti_add (by show _ ≤ (μ.1 8 * 12).toInt + 11; omega) (by show (μ.1 8 * 12).toInt + 11 ≤ _; omega), e]; rfl
theorem ws_i (h : RelC σ μ) (hM : OkM μ) : (p_X5_rowStart σ).toInt = 12 * (μ.1 5).toInt := by
  unfold p_X5_rowStart; rw [h.1.2.2.1]; exact m12 hM.2.1 (by decide) (by decide)
theorem we_i (h : RelC σ μ) (hM : OkM μ) : (p_X5_rowEnd σ).toInt = 12 * (μ.1 5).toInt + 11 := by
  unfold p_X5_rowEnd
  have e := ws_i h hM
  obtain ⟨a, b⟩ := hM.2.1
  rw [ti_add (by show _ ≤ (p_X5_rowStart σ).toInt + 11; omega) (by show (p_X5_rowStart σ).toInt + 11 ≤ _; omega), e]; rfl
theorem ce_i (h : RelC σ μ) (hM : OkM μ) : (p_X5_cell σ).toInt = 12 * (μ.1 5).toInt + (μ.1 6).toInt := by
  unfold p_X5_cell; rw [h.1.2.2.2.1]
  have e := ws_i h hM
  obtain ⟨a, b⟩ := hM.2.1
  obtain ⟨c, d⟩ := hM.2.2.1
  rw [ti_add (by omega) (by omega), e]
theorem st_pullR (h : RelC σ μ) (hM : OkM μ) (a d r n : Int32) (ha : a.toInt = 12 * r.toInt) (hr : R2 0 7 r) (hd : d.toInt = 12 * n.toInt) (hn : R2 0 9999 n) : Sim σ μ (q_X3_pull_pg σ a (p_X5_regionEnd σ) d) (p_X8_shiftRows μ r n) := by
  obtain ⟨r1, r2⟩ := hr
  obtain ⟨n1, n2⟩ := hn
  obtain ⟨b1, b2⟩ := hM.2.2.2.2.1
  have e := re_i h hM
  rw [pull_sh σ a _ d (by omega) (by omega) (by omega) ⟨by omega, by omega⟩, ha, hd, e]
  exact st_sh h hM (rows_sh μ r n hM ⟨r1, r2⟩ ⟨by omega, by omega⟩) (by omega) (by omega)
theorem st_pushR (h : RelC σ μ) (hM : OkM μ) (a d r m : Int32) (ha : a.toInt = 12 * r.toInt) (hr : R2 0 7 r) (hd : d.toInt = -(12 * m.toInt)) (hm : R2 (-9999) 0 m) : Sim σ μ (q_X3_push_pg σ a (p_X5_regionEnd σ) d) (p_X8_shiftRows μ r m) := by
  obtain ⟨r1, r2⟩ := hr
  obtain ⟨n1, n2⟩ := hm
  obtain ⟨b1, b2⟩ := hM.2.2.2.2.1
  have e := re_i h hM
  rw [push_sh σ a _ d (by omega) (by omega) (by omega) ⟨by omega, by omega⟩, ha, hd, e, Int.neg_neg]
  exact st_sh h hM (rows_sh μ r m hM ⟨r1, r2⟩ ⟨by omega, by omega⟩) (by omega) (by omega)
theorem st_pullC (h : RelC σ μ) (hM : OkM μ) (n : Int32) (hn : R2 0 9999 n) : Sim σ μ (q_X3_pull_pg σ (p_X5_cell σ) (p_X5_rowEnd σ) n) (p_X8_shiftCells μ n) := by
  obtain ⟨n1, n2⟩ := hn
  obtain ⟨b1, b2⟩ := hM.2.1
  obtain ⟨c1, c2⟩ := hM.2.2.1
  have e := we_i h hM
  have e2 := ce_i h hM
  rw [pull_sh σ _ _ n (by omega) (by omega) (by omega) ⟨by omega, by omega⟩, e, e2]
  exact st_sh h hM (cells_sh μ n hM ⟨by omega, by omega⟩) (by omega) (by omega)
theorem st_pushC (h : RelC σ μ) (hM : OkM μ) (n m : Int32) (hn : n.toInt = -m.toInt) (hm : R2 (-9999) 0 m) : Sim σ μ (q_X3_push_pg σ (p_X5_cell σ) (p_X5_rowEnd σ) n) (p_X8_shiftCells μ m) := by
  obtain ⟨n1, n2⟩ := hm
  obtain ⟨b1, b2⟩ := hM.2.1
  obtain ⟨c1, c2⟩ := hM.2.2.1
  have e := we_i h hM
  have e2 := ce_i h hM
  rw [push_sh σ _ _ n (by omega) (by omega) (by omega) ⟨by omega, by omega⟩, e, e2, hn, Int.neg_neg]
  exact st_sh h hM (cells_sh μ m hM ⟨by omega, by omega⟩) (by omega) (by omega)
theorem st_clear (h : RelC σ μ) (hM : OkM μ) (a b a' b' : Int32) (ha : a.toInt = a'.toInt) (hb : b.toInt = b'.toInt) (h1 : R2 0 96 a') (h2 : b'.toInt ≤ 95) : Sim σ μ (q_X3_clear_pg σ a b) (p_X8_clear μ a' b') := by
  obtain ⟨c1, c2⟩ := h1
  rw [clear_sh σ a b (by omega) (by omega) (by omega), ha, hb]
  exact st_sh h hM (mclear_sh μ a' b' hM ⟨c1, c2⟩ h2) (by omega) (by omega)
theorem st_feed (h : RelC σ μ) (hM : OkM μ) : Sim σ μ (p_X5_feedRow σ) (p_X8_feeding μ) := by
  have x : Sim σ μ (p_X5_feedRow_s1 σ) (p_X8_feeding_s1 μ) := by
    unfold p_X5_feedRow_s1 p_X8_feeding_s1
    rw [h.1.2.2.1, h.1.2.1]
    by_cases h1 : μ.1 5 = μ.1 8
    · rw [if_pos h1, if_pos h1]
      exact st_pullR h hM _ 12 (μ.1 7) 1 (rs_i h hM) hM.2.2.2.1 (by decide) (R2.lit 1 (by decide))
    · rw [if_neg h1, if_neg h1]
      by_cases h2 : 7 ≤ μ.1 5
      · rw [if_pos h2, if_pos h2]; exact Sim.rf h
      · rw [if_neg h2, if_neg h2]; exact st_row h _
  exact x.tr (st_full x.1 false)
theorem st_back (h : RelC σ μ) (hM : OkM μ) : Sim σ μ (p_X5_backRow σ) (p_X8_backing μ) := by
  have x : Sim σ μ (p_X5_backRow_s1 σ) (p_X8_backing_s1 μ) := by
    unfold p_X5_backRow_s1 p_X8_backing_s1
    rw [h.1.2.2.1, h.1.1]
    by_cases h1 : μ.1 5 = μ.1 7
    · rw [if_pos h1, if_pos h1]
      exact st_pushR h hM _ 12 (μ.1 7) (-1) (rs_i h hM) hM.2.2.2.1 (by decide) (R2.lit (-1) (by decide))
    · rw [if_neg h1, if_neg h1]
      by_cases h2 : μ.1 5 ≤ 0
      · rw [if_pos h2, if_pos h2]; exact Sim.rf h
      · rw [if_neg h2, if_neg h2]; exact st_row h _
  exact x.tr (st_full x.1 false)
theorem st_ps1 (h : RelC σ μ) (hM : OkM μ) (c : Int32) : Sim σ μ (p_X5_print_s1 σ c) (p_X8_print_s1 μ c) := by
  unfold p_X5_print_s1 p_X8_print_s1
  rw [h.1.2.2.2.2.1]
  by_cases h1 : μ.2.1 9 = true
  · rw [if_pos h1, if_pos h1]
    have x := st_col h (0 : Int32)
    exact x.tr (st_feed x.1 (okm_col (R2.lit 0 (by decide)) hM))
  · rw [if_neg h1, if_neg h1]; exact Sim.rf h
theorem st_ps2 (h : RelC σ μ) (hM : OkM μ) (c : Int32) : Sim σ μ (p_X5_print_s2 σ c) (p_X8_print_s2 μ c) := by
  have x := st_ps1 h hM c
  have hM1 := okm_ps1 c hM
  unfold p_X5_print_s2 p_X8_print_s2
  rw [x.1.1.2.2.2.2.2.2.1]
  by_cases h1 : (p_X8_print_s1 μ c).2.1 10 = true
  · rw [if_pos h1, if_pos h1]
    exact x.tr (st_pushC x.1 hM1 1 (-1) (by decide) (R2.lit (-1) (by decide)))
  · rw [if_neg h1, if_neg h1]; exact x
theorem at3 {g r c : Int32} (hg : R2 0 1 g) (hr : R2 0 7 r) (hc : R2 0 11 c) : (96 * g + 12 * r + c).toInt = 96 * g.toInt + (12 * r.toInt + c.toInt) := by
  obtain ⟨a1, a2⟩ := hg
  obtain ⟨b1, b2⟩ := hr
  obtain ⟨c1, c2⟩ := hc
  have e1 : (96 * g).toInt = 96 * g.toInt := ti_mul (by show _ ≤ 96 * g.toInt; omega) (by show 96 * g.toInt ≤ _; omega)
  have e2 : (12 * r).toInt = 12 * r.toInt := ti_mul (by show _ ≤ 12 * r.toInt; omega) (by show 12 * r.toInt ≤ _; omega)
  have e3 : (96 * g + 12 * r).toInt = 96 * g.toInt + 12 * r.toInt := by rw [ti_add (by omega) (by omega), e1, e2]
  rw [ti_add (by omega) (by omega), e3]; omega
theorem st_put (h : RelC σ μ) (hM : OkM μ) (c l : Int32) : Sim σ μ (q_X3_put_pg σ (p_X5_cell σ) c l) (sa (sa μ 0 (upd (μ.2.2 0) (96 * μ.1 4 + 12 * μ.1 5 + μ.1 6 : Int32).toNatClampNeg c)) 1 (upd (μ.2.2 1) (96 * μ.1 4 + 12 * μ.1 5 + μ.1 6 : Int32).toNatClampNeg l)) := by
  obtain ⟨b1, b2⟩ := hM.2.1
  obtain ⟨c1, c2⟩ := hM.2.2.1
  have e2 := ce_i h hM
  rw [put_pg σ _ c l (by omega) (by omega), e2]
  refine st_pg (U := fun f => upd f (96 * (μ.1 4).toInt + (12 * (μ.1 5).toInt + (μ.1 6).toInt)).toNat c) (V := fun f => upd f (96 * (μ.1 4).toInt + (12 * (μ.1 5).toInt + (μ.1 6).toInt)).toNat l) h hM ⟨(FrA.sa (by decide)).tr (FrA.sa (by decide)), ?_, ?_⟩ (loc_upd _ _ c hM.1.1 (by omega) (by omega)) (loc_upd _ _ l hM.1.1 (by omega) (by omega))
  · show upd (μ.2.2 0) (96 * μ.1 4 + 12 * μ.1 5 + μ.1 6 : Int32).toNatClampNeg c = _
    rw [tn, at3 hM.1 hM.2.1 hM.2.2.1]
  · show upd (μ.2.2 1) (96 * μ.1 4 + 12 * μ.1 5 + μ.1 6 : Int32).toNatClampNeg l = _
    rw [tn, at3 hM.1 hM.2.1 hM.2.2.1]
theorem st_print (h : RelC σ μ) (hM : OkM μ) (c : Int32) (hc : 0 ≤ c.toInt) : Sim σ μ (p_X5_print σ c) (p_X8_print μ c) := by
  have x := st_ps2 h hM c
  have hM2 := okm_ps2 c hM
  have y : Sim σ μ (p_X5_print_s3 σ c) (p_X8_print_s3 μ c) := by
    unfold p_X5_print_s3 p_X8_print_s3
    generalize p_X5_print_s2 σ c = s at x
    generalize p_X8_print_s2 μ c = t at x hM2
    have z := st_put x.1 hM2 c (s.1 8)
    have ez : s.1 8 = p_X8_penNow (sa t 0 (upd (t.2.2 0) (96 * t.1 4 + 12 * t.1 5 + t.1 6 : Int32).toNatClampNeg c)) := x.1.2.1.1
    rw [← ez, x.1.1.2.2.2.1, x.1.1.2.2.2.2.2.2.2.1]
    by_cases h1 : 11 ≤ t.1 6
    · rw [if_pos h1, if_pos h1]; exact x.tr (z.tr (st_full z.1 _))
    · rw [if_neg h1, if_neg h1]; exact x.tr (z.tr (st_col z.1 _))
  exact y.tr (st_last y.1 c (Or.inr hc))
end OPS
