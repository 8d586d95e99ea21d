/-! ===== tab stops ===== -/
theorem bit_and1 (y : BitVec 32) : (y &&& 1#32 = 1#32) ↔ y.getLsbD 0 = true := by
  constructor
  · intro h
    have h2 := congrArg (fun z => BitVec.getLsbD z 0) h
    simp only [BitVec.getLsbD_and] at h2
    have h3 : (1#32 : BitVec 32).getLsbD 0 = true := by decide
    rw [h3, Bool.and_true] at h2
    exact h2
  · intro h
    refine BitVec.eq_of_getLsbD_eq (fun i hi => ?_)
    rw [BitVec.getLsbD_and]
    by_cases z : i = 0
    · subst z; rw [h]; decide
    · have h3 : (1#32 : BitVec 32).getLsbD i = false := by
        rw [BitVec.getLsbD_one]; simp [z]
      rw [h3, Bool.and_false]
theorem sh_bv : ∀ c : Fin 12, ((iN c &&& 31 : Int32).toBitVec.smod 32#32).toNat = c.val := by decide
theorem bit_get (t : Int32) (c : Nat) (hc : c < 12) : ((t >>> (iN c &&& 31)) &&& 1 = 1) ↔ t.toBitVec.getLsbD c = true := by
  have e : (t >>> (iN c &&& 31)).toBitVec = t.toBitVec.sshiftRight c := by
    rw [Int32.toBitVec_shiftRight]
    show t.toBitVec.sshiftRight ((iN c &&& 31 : Int32).toBitVec.smod 32#32).toNat = _
    rw [sh_bv ⟨c, hc⟩]
  rw [← Int32.toBitVec_inj, Int32.toBitVec_and, e]
  refine (bit_and1 _).trans ?_
  rw [BitVec.getLsbD_sshiftRight, if_pos (by omega)]
  simp
theorem set_bit : ∀ d : Fin 12, ∀ c : Fin 12, (1 <<< (iN d &&& 31) : Int32).toBitVec.getLsbD c.val = decide (c.val = d.val) := by decide
theorem clr_bit : ∀ d : Fin 12, ∀ c : Fin 12, ((1 <<< (iN d &&& 31)) ^^^ (-1) : Int32).toBitVec.getLsbD c.val = !decide (c.val = d.val) := by decide
section TABS
variable {σ μ : St}
theorem tab_eq (h : RelC σ μ) (x : Int32) (hx : R2 0 11 x) : (p_X5_hasTabStop σ x = true) ↔ ¬ μ.2.2 4 x.toNatClampNeg = 0 := by
  obtain ⟨c, lc, ec⟩ := iN_of (hi := 11) hx
  obtain ⟨x1, x2⟩ := hx
  unfold p_X5_hasTabStop p_X5_hasTabStop_t1
  rw [if_neg (by rw [ti_lt]; show ¬ x.toInt < 0; omega), if_neg (by rw [ti_le]; show ¬ 12 ≤ x.toInt; omega)]
  have ex : x.toNatClampNeg = c := by
    rw [ec]
    have : ∀ c : Fin 12, (iN c).toNatClampNeg = c.val := by decide
    exact this ⟨c, lc⟩
  rw [ex]
  refine Iff.trans ?_ (h.2.2.1 c lc)
  rw [ec]
  refine Iff.trans ?_ (bit_get _ c lc)
  by_cases z : ((σ.1 3) >>> (iN c &&& 31)) &&& 1 = 1
  · rw [if_pos z]; exact ⟨fun _ => z, fun _ => rfl⟩
  · rw [if_neg z]; exact ⟨fun y => absurd y (by decide), fun y => absurd y z⟩
theorem st_tabs (h : RelC σ μ) (t : Int32) (f : Nat → Int32) (hg : RG t f) : Sim σ μ (si σ 3 t) (sa μ 4 f) := by
  obtain ⟨⟨a1, a2, a3, a4, a5, a6, a7, a8, a9, a10, a11, a12, a13, a14, a15, a16⟩, hd, _, hi, hl, hn⟩ := h
  exact ⟨⟨⟨a1, a2, a3, a4, a5, a6, a7, a8, a9, a10, a11, a12, a13, a14, a15, a16⟩, hd, hg, hi, hl, hn⟩, FrD.rf σ, FrM.rf μ⟩
theorem st_setTab (h : RelC σ μ) (hM : OkM μ) : Sim σ μ (p_X5_setTabStop σ) (sa μ 4 (upd (μ.2.2 4) (μ.1 6 : Int32).toNatClampNeg (vp_nar .boolean 1))) := by
  unfold p_X5_setTabStop
  rw [h.1.2.2.2.1]
  obtain ⟨d, ld, ed⟩ := iN_of (hi := 11) hM.2.2.1
  have ex : (μ.1 6).toNatClampNeg = d := by
    rw [ed]
    have : ∀ c : Fin 12, (iN c).toNatClampNeg = c.val := by decide
    exact this ⟨d, ld⟩
  refine st_tabs h _ _ (fun c hc => ?_)
  rw [ex, ed, Int32.toBitVec_or, BitVec.getLsbD_or, set_bit ⟨d, ld⟩ ⟨c, hc⟩]
  show _ ↔ ¬ (if c = d then vp_nar .boolean 1 else μ.2.2 4 c) = 0
  by_cases z : c = d
  · rw [if_pos z, show decide (c = d) = true from by simp [z], Bool.or_true]
    exact ⟨fun _ => by decide, fun _ => rfl⟩
  · rw [if_neg z, show decide (c = d) = false from by simp [z], Bool.or_false]
    exact h.2.2.1 c hc
theorem rg_clr (h : RG (σ.1 3) (μ.2.2 4)) (hM : OkM μ) : RG ((σ.1 3) &&& ((1 <<< ((μ.1 6) &&& 31)) ^^^ (-1))) (fun c => if c = (μ.1 6).toNatClampNeg then 0 else μ.2.2 4 c) := by
  obtain ⟨d, ld, ed⟩ := iN_of (hi := 11) hM.2.2.1
  have ex : (μ.1 6).toNatClampNeg = d := by
    rw [ed]
    have : ∀ c : Fin 12, (iN c).toNatClampNeg = c.val := by decide
    exact this ⟨d, ld⟩
  intro c hc
  rw [ex, ed, Int32.toBitVec_and, BitVec.getLsbD_and, clr_bit ⟨d, ld⟩ ⟨c, hc⟩]
  show _ ↔ ¬ (if c = d then 0 else μ.2.2 4 c) = 0
  by_cases z : c = d
  · rw [if_pos z, show decide (c = d) = true from by simp [z], Bool.not_true, Bool.and_false]
    exact ⟨fun y => absurd y (by decide), fun y => absurd rfl y⟩
  · rw [if_neg z, show decide (c = d) = false from by simp [z], Bool.not_false, Bool.and_true]
    exact h c hc
/-- the model's loop that takes stops away -/
theorem set3_cl (τ : St) (p1 p2 : Int32) (v col : Int32) (hc0 : R2 0 11 col) : ∀ (n : Nat) (s : St) (x : Int32), s.2.2 8 0 = v → s.1 6 = col → 0 ≤ x.toInt → x.toInt ≤ 12 → 12 - x.toInt ≤ n →
    (p_X8_set_l3 τ p1 p2 n s x).1 = sa s 4 (fun c => if (v = 3 ∨ (v = 0 ∧ (c : Int) = col.toInt)) ∧ x.toInt ≤ (c : Int) ∧ (c : Int) ≤ 11 then 0 else s.2.2 4 c) := by
  intro n
  have sa_id : ∀ (s : St) (f : Nat → Int32), f = s.2.2 4 → s = sa s 4 f := by
    intro s f hf
    subst hf
    refine Prod.ext rfl (Prod.ext rfl ?_)
    funext j
    show s.2.2 j = if j = 4 then s.2.2 4 else s.2.2 j
    by_cases z : j = 4
    · rw [if_pos z, z]
    · rw [if_neg z]
  induction n with
  | zero => intro s x h8 h6 h0 h1 h2; exact sa_id s _ (funext (fun c => by rw [if_neg (by omega)]))
  | succ n ih =>
    intro s x h8 h6 h0 h1 h2
    unfold p_X8_set_l3
    by_cases hc : 12 ≤ x
    · rw [if_pos hc]; rw [ti_le] at hc; replace hc : 12 ≤ x.toInt := hc
      exact sa_id _ _ (funext (fun c => by rw [if_neg (by omega)]))
    · rw [if_neg hc]; rw [ti_le] at hc; replace hc : ¬ 12 ≤ x.toInt := hc
      have e1 := suc_i (x := x) (by omega) (by omega)
      have hs : p_X8_set_s2 τ p1 p2 s x = if (v = 3 ∨ (v = 0 ∧ x = col)) then sa s 4 (upd (s.2.2 4) x.toNatClampNeg 0) else s := by
        unfold p_X8_set_s2
        rw [show s.2.2 8 (0 : Int32).toNatClampNeg = v from h8, h6, show vp_nar .boolean 0 = 0 from rfl]
        by_cases a : v = 3
        · rw [if_pos a, if_pos (Or.inl a)]
        · rw [if_neg a]
          by_cases b : v = 0
          · rw [if_pos b]
            by_cases c : x = col
            · rw [if_pos c, if_pos (Or.inr ⟨b, c⟩)]
            · rw [if_neg c, if_neg (fun z => z.elim a (fun y => c y.2))]
          · rw [if_neg b, if_neg (fun z => z.elim a (fun y => b y.1))]
      have g8 : (p_X8_set_s2 τ p1 p2 s x).2.2 8 0 = v := by
        rw [hs]; by_cases q : (v = 3 ∨ (v = 0 ∧ x = col))
        · rw [if_pos q]; exact h8
        · rw [if_neg q]; exact h8
      have g6 : (p_X8_set_s2 τ p1 p2 s x).1 6 = col := by
        rw [hs]; by_cases q : (v = 3 ∨ (v = 0 ∧ x = col))
        · rw [if_pos q]; exact h6
        · rw [if_neg q]; exact h6
      rw [ih _ (x + 1) g8 g6 (by omega) (by omega) (by omega), hs, e1]
      have xc : x = col ↔ x.toInt = col.toInt := ti_eq
      by_cases q : (v = 3 ∨ (v = 0 ∧ x = col))
      · rw [if_pos q]
        refine Prod.ext rfl (Prod.ext rfl ?_)
        funext j
        by_cases z : j = 4
        · subst z
          show (fun c : Nat => if (v = 3 ∨ (v = 0 ∧ (c : Int) = col.toInt)) ∧ x.toInt + 1 ≤ (c : Int) ∧ (c : Int) ≤ 11 then 0 else (if c = x.toInt.toNat then 0 else s.2.2 4 c)) = (fun c : Nat => if (v = 3 ∨ (v = 0 ∧ (c : Int) = col.toInt)) ∧ x.toInt ≤ (c : Int) ∧ (c : Int) ≤ 11 then 0 else s.2.2 4 c)
          funext c
          by_cases y : c = x.toInt.toNat
          · have q' : v = 3 ∨ (v = 0 ∧ (c : Int) = col.toInt) := q.imp id (fun w => ⟨w.1, by have := xc.mp w.2; omega⟩)
            rw [if_neg (by omega), if_pos y, if_pos ⟨q', by omega, by omega⟩]
          · by_cases w : (v = 3 ∨ (v = 0 ∧ (c : Int) = col.toInt)) ∧ x.toInt ≤ (c : Int) ∧ (c : Int) ≤ 11
            · rw [if_pos w, if_pos ⟨w.1, by omega, w.2.2⟩]
            · rw [if_neg w, if_neg (fun u => w ⟨u.1, by omega, u.2.2⟩), if_neg y]
        · show (if j = 4 then _ else (if j = 4 then _ else s.2.2 j)) = (if j = 4 then _ else s.2.2 j)
          rw [if_neg z, if_neg z, if_neg z]
      · rw [if_neg q]
        congr 1
        funext c
        by_cases w : (v = 3 ∨ (v = 0 ∧ (c : Int) = col.toInt)) ∧ x.toInt ≤ (c : Int) ∧ (c : Int) ≤ 11
        · have : ¬ (c : Int) = x.toInt := fun z => q (w.1.imp id (fun u => ⟨u.1, xc.mpr (by omega)⟩))
          rw [if_pos w, if_pos ⟨w.1, by omega, w.2.2⟩]
        · rw [if_neg w, if_neg (fun u => w ⟨u.1, by omega, u.2.2⟩)]
theorem st_remTab (h : RelC σ μ) (hM : OkM μ) (v : Int32) (hv : μ.2.2 8 0 = v) (p1 p2 : Int32) : Sim σ μ (p_X5_removeTabStops σ v) (p_X8_set_l3 μ p1 p2 12 μ 0).1 := by
  rw [set3_cl μ p1 p2 v (μ.1 6) hM.2.2.1 12 μ 0 hv rfl (by decide) (by decide) (by decide)]
  unfold p_X5_removeTabStops p_X5_removeTabStops_s1
  have z0 : (0 : Int32).toInt = 0 := rfl
  obtain ⟨c1, c2⟩ := hM.2.2.1
  by_cases a : v = 0
  · rw [if_pos a, h.1.2.2.2.1]
    refine st_tabs h _ _ ?_
    have r := rg_clr h.2.2.1 hM
    intro c hc
    rw [r c hc]
    have e : (if (v = 3 ∨ (v = 0 ∧ (c : Int) = (μ.1 6).toInt)) ∧ (0 : Int32).toInt ≤ (c : Int) ∧ (c : Int) ≤ 11 then 0 else μ.2.2 4 c) = (if c = (μ.1 6).toNatClampNeg then 0 else μ.2.2 4 c) := by
      rw [tn]
      by_cases y : c = (μ.1 6).toInt.toNat
      · rw [if_pos y, if_pos ⟨Or.inr ⟨a, by omega⟩, by rw [z0]; omega, by omega⟩]
      · rw [if_neg y, if_neg (fun u => u.1.elim (fun w => by rw [a] at w; exact absurd w (by decide)) (fun w => y (by have := w.2; omega)))]
    show ¬ (if c = (μ.1 6).toNatClampNeg then 0 else μ.2.2 4 c) = 0 ↔ ¬ (if (v = 3 ∨ (v = 0 ∧ (c : Int) = (μ.1 6).toInt)) ∧ (0 : Int32).toInt ≤ (c : Int) ∧ (c : Int) ≤ 11 then 0 else μ.2.2 4 c) = 0
    rw [e]
  · rw [if_neg a]
    by_cases b : v = 3
    · rw [if_pos b]
      refine st_tabs h _ _ (fun c hc => ?_)
      rw [if_pos ⟨Or.inl b, by rw [z0]; omega, by omega⟩]
      exact ⟨fun y => absurd y (by simp), fun y => absurd rfl y⟩
    · rw [if_neg b]
      obtain ⟨⟨a1, a2, a3, a4, a5, a6, a7, a8, a9, a10, a11, a12, a13, a14, a15, a16⟩, hd, hg, hi, hl, hn⟩ := h
      refine ⟨⟨⟨a1, a2, a3, a4, a5, a6, a7, a8, a9, a10, a11, a12, a13, a14, a15, a16⟩, hd, ?_, hi, hl, hn⟩, FrD.rf σ, FrM.rf μ⟩
      intro c hc
      show _ ↔ ¬ (if (v = 3 ∨ (v = 0 ∧ (c : Int) = (μ.1 6).toInt)) ∧ (0 : Int32).toInt ≤ (c : Int) ∧ (c : Int) ≤ 11 then 0 else μ.2.2 4 c) = 0
      rw [if_neg (fun u => u.1.elim b (fun w => a w.1))]
      exact hg c hc
theorem tab_fnd (τ : St) (p1 : Int32) : ∀ (n : Nat) (x2 x4 : Int32), (p_X8_control_l6 τ p1 n x2 1 x4).1 = x2 := by
  intro n
  induction n with
  | zero => intro x2 x4; rfl
  | succ n ih =>
    intro x2 x4
    unfold p_X8_control_l6
    by_cases hc : 12 ≤ x4
    · rw [if_pos hc]
    · rw [if_neg hc]; exact ih x2 (x4 + 1)
theorem tab_cl (h : RelC σ μ) (τ : St) (p1 : Int32) (hτ : (p_X8_control_s3 τ p1).2.2 4 = μ.2.2 4) : ∀ (n N : Nat) (x2 x4 : Int32), 1 ≤ x4.toInt → x4.toInt ≤ 12 → x2.toInt = x4.toInt - 1 → 12 - x4.toInt ≤ n → 12 - x4.toInt ≤ N →
    (if p_X5_moveToTabStop_l1 σ N x4 < 11 then p_X5_moveToTabStop_l1 σ N x4 else 11) = (p_X8_control_l6 τ p1 n x2 0 x4).1 := by
  intro n
  induction n with
  | zero =>
    intro N x2 x4 h1 h2 hx hn hN
    have e : x4 = 12 := by rw [ti_eq]; show x4.toInt = 12; omega
    have e2 : x2 = 11 := by rw [ti_eq]; show x2.toInt = 11; omega
    subst e; subst e2
    show (if p_X5_moveToTabStop_l1 σ N 12 < 11 then p_X5_moveToTabStop_l1 σ N 12 else 11) = 11
    cases N with
    | zero => rfl
    | succ N => rfl
  | succ n ih =>
    intro N x2 x4 h1 h2 hx hn hN
    unfold p_X8_control_l6
    by_cases hc : 12 ≤ x4
    · rw [if_pos hc]; rw [ti_le] at hc; replace hc : 12 ≤ x4.toInt := hc
      have e : x4 = 12 := by rw [ti_eq]; show x4.toInt = 12; omega
      have e2 : x2 = 11 := by rw [ti_eq]; show x2.toInt = 11; omega
      subst e; subst e2
      cases N with
      | zero => rfl
      | succ N => rfl
    · rw [if_neg hc]; rw [ti_le] at hc; replace hc : ¬ 12 ≤ x4.toInt := hc
      have e1 := suc_i (x := x4) (by omega) (by omega)
      have tq := tab_eq h x4 ⟨by omega, by omega⟩
      have ex : p_X8_control_x4 τ p1 x2 0 x4 = x4 := by unfold p_X8_control_x4; rw [if_pos rfl]
      have et : p_X8_control_t5 τ p1 x2 0 x4 = (if μ.2.2 4 (x4 : Int32).toNatClampNeg = 0 then false else true) := by unfold p_X8_control_t5; rw [if_pos rfl, hτ]
      rw [ex, et]
      cases N with
      | zero => exact absurd hN (by omega)
      | succ N =>
        unfold p_X5_moveToTabStop_l1
        by_cases f : μ.2.2 4 (x4 : Int32).toNatClampNeg = 0
        · rw [if_pos f]
          have nt : ¬ p_X5_hasTabStop σ x4 = true := fun z => tq.mp z f
          by_cases l : 11 ≤ x4
          · rw [if_pos l, if_neg (by rw [ti_lt]; rw [ti_le] at l; omega)]
            rw [ti_le] at l; replace l : 11 ≤ x4.toInt := l
            have e : x4 = 11 := by rw [ti_eq]; show x4.toInt = 11; omega
            subst e
            have w := ih 1 11 12 (by decide) (by decide) (by decide) (by show 12 - 12 ≤ (n : Int); omega) (by decide)
            exact (by rfl : (11 : Int32) = (if p_X5_moveToTabStop_l1 σ 1 12 < 11 then p_X5_moveToTabStop_l1 σ 1 12 else 11)).trans w
          · rw [if_neg l, if_neg nt]
            exact ih N x4 (x4 + 1) (by omega) (by rw [ti_le] at l; replace l : ¬ 11 ≤ x4.toInt := l; omega) (by omega) (by omega) (by omega)
        · rw [if_neg f]
          have nt : p_X5_hasTabStop σ x4 = true := tq.mpr f
          refine Eq.trans ?_ (tab_fnd τ p1 n x4 (x4 + 1)).symm
          by_cases l : 11 ≤ x4
          · rw [if_pos l, if_neg (by rw [ti_lt]; rw [ti_le] at l; omega)]
            rw [ti_eq]; rw [ti_le] at l; replace l : 11 ≤ x4.toInt := l
            show 11 = x4.toInt; omega
          · rw [if_neg l, if_pos nt, if_pos (by rw [ti_lt]; rw [ti_le] at l; omega)]
theorem st_tab (h : RelC σ μ) (hM : OkM μ) : Sim σ μ (p_X5_moveToTabStop σ) (p_X8_place μ (μ.1 5) (p_X8_control_l6 μ 9 12 (μ.1 6) 0 (μ.1 6 + 1)).1) := by
  unfold p_X5_moveToTabStop
  rw [h.1.2.2.2.1]
  obtain ⟨c1, c2⟩ := hM.2.2.1
  have e1 := suc_i (x := μ.1 6) (by omega) (by omega)
  exact st_mtc h _ _ (tab_cl h μ 9 rfl 12 2147483660 (μ.1 6) (μ.1 6 + 1) (by omega) (by omega) (by omega) (by omega) (by omega))
end TABS
