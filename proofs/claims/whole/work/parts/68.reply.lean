/-! ===== replies ===== -/
def FrP (a b : St) : Prop := (∀ k : Nat, k ≠ 28 → a.1 k = b.1 k) ∧ a.2.1 = b.2.1 ∧ ∀ j : Nat, j ≠ 5 → a.2.2 j = b.2.2 j
theorem FrP.rf (a : St) : FrP a a := ⟨fun _ _ => rfl, rfl, fun _ _ => rfl⟩
theorem FrP.tr {a b c : St} (h : FrP a b) (g : FrP b c) : FrP a c := ⟨fun k hk => (h.1 k hk).trans (g.1 k hk), h.2.1.trans g.2.1, fun j hj => (h.2.2 j hj).trans (g.2.2 j hj)⟩
theorem FrP.pt (a : St) (v : Int32) : FrP (p_X8_put a v) a := by
  refine ⟨fun k hk => ?_, rfl, fun j hj => ?_⟩
  · show (if k = 28 then _ else a.1 k) = a.1 k; rw [if_neg hk]
  · show (if j = 5 then _ else a.2.2 j) = a.2.2 j; rw [if_neg hj]
section REP
variable {σ μ : St}
theorem st_rep {μ' τ : St} (h : RelC σ μ) (f : FrP μ' μ) (hr : RS (τ.1 0) (τ.2.2 0) (μ'.1 28) (μ'.2.2 5)) : Sim σ μ (putR σ τ) μ' := by
  obtain ⟨⟨a1, a2, a3, a4, a5, a6, a7, a8, a9, a10, a11, a12, a13, a14, a15, a16⟩, ⟨d1, d2, d3, d4, d5, d6, d7, d8⟩, hg, hi, hl, hn⟩ := h
  obtain ⟨f1, f2, f3⟩ := f
  refine ⟨⟨?_, ?_, ?_, ?_, ?_, hr⟩, FrD.rf σ, ⟨f1 _ (by decide), f1 _ (by decide), f1 _ (by decide), f1 _ (by decide), f1 _ (by decide), f1 _ (by decide), by rw [f2], f3 _ (by decide), f3 _ (by decide)⟩⟩
  · unfold RA
    rw [f2, f1 7 (by decide), f1 8 (by decide), f1 5 (by decide), f1 6 (by decide), f1 4 (by decide), f1 18 (by decide), f1 19 (by decide), f1 26 (by decide), f1 25 (by decide)]
    exact ⟨a1, a2, a3, a4, a5, a6, a7, a8, a9, a10, a11, a12, a13, a14, a15, a16⟩
  · unfold RD
    rw [f1 13 (by decide), f1 14 (by decide), f1 15 (by decide), f1 16 (by decide), f1 17 (by decide), f1 20 (by decide)]
    exact ⟨d1, d2, d3, d4, d5, d6, d7, d8⟩
  · rw [f3 4 (by decide)]; exact hg
  · unfold RI; rw [f3 0 (by decide), f3 1 (by decide)]; exact hi
  · rw [f1 31 (by decide), f3 6 (by decide)]; exact hl
def QR (τ μ : St) (w : Int) : Prop := RS (τ.1 0) (τ.2.2 0) (μ.1 28) (μ.2.2 5) ∧ (μ.1 28).toInt = w
theorem qr_add {τ : St} {w : Int} (h : QR τ μ w) (h0 : 0 ≤ w) (h1 : w ≤ 63) (b : Int32) : QR (p_X4_add τ b) (p_X8_put μ b) (w + 1) := by
  obtain ⟨⟨e, hk⟩, hw⟩ := h
  have e1 := suc_i (x := μ.1 28) (by omega) (by omega)
  have ea : p_X4_add τ b = si (sa τ 0 (upd (τ.2.2 0) (τ.1 0 : Int32).toNatClampNeg b)) 0 ((τ.1 0) + 1) := by
    unfold p_X4_add p_X4_add_s1
    rw [e, if_neg (by rw [ti_lt]; show ¬ (μ.1 28).toInt < 0; omega), if_neg (by rw [ti_le]; show ¬ 64 ≤ (μ.1 28).toInt; omega)]
  rw [ea]
  refine ⟨⟨?_, ?_⟩, ?_⟩
  · show τ.1 0 + 1 = μ.1 28 + 1; rw [e]
  · intro k hk2
    replace hk2 : k < (μ.1 28 + 1).toInt.toNat := hk2
    show (if k = (τ.1 0).toNatClampNeg then b else τ.2.2 0 k) = (if k = (μ.1 28).toNatClampNeg then b else μ.2.2 5 k)
    rw [e]
    by_cases z : k = (μ.1 28).toNatClampNeg
    · rw [if_pos z, if_pos z]
    · rw [if_neg z, if_neg z]; rw [tn] at z; exact hk k (by omega)
  · show (μ.1 28 + 1).toInt = _; omega
theorem st_well (h : RelC σ μ) (hM : OkM μ) : Sim σ μ (q_X4_addWell_R σ) (p_X8_answer μ 5) := by
  have h8 := hM.2.2.2.2.2.2.2.1
  obtain ⟨w1, w2⟩ := h8
  have q0 : QR (subR σ) μ (μ.1 28).toInt := ⟨h.2.2.2.2.2, rfl⟩
  have e4 : (μ.1 28 + 4).toInt = (μ.1 28).toInt + 4 := ti_add (by show _ ≤ (μ.1 28).toInt + 4; omega) (by show (μ.1 28).toInt + 4 ≤ _; omega)
  have em : p_X8_answer μ 5 = p_X8_answer_s1 μ 5 := rfl
  unfold q_X4_addWell_R
  rw [em]
  have es : (subR σ).1 0 = μ.1 28 := h.2.2.2.2.2.1
  by_cases z : 64 < μ.1 28 + 4
  · have e1 : p_X8_answer_s1 μ 5 = μ := by unfold p_X8_answer_s1; rw [if_pos rfl, if_pos z]
    have e2 : p_X4_addWell (subR σ) = subR σ := by
      unfold p_X4_addWell p_X4_addWell_s1 p_X4_hasRoom p_X4_hasRoom_t1
      rw [es, if_pos z, if_neg (by decide)]
    rw [e1, e2]
    exact st_rep h (FrP.rf μ) q0.1
  · have e1 : p_X8_answer_s1 μ 5 = (p_X8_put ((p_X8_put ((p_X8_put (p_X8_put μ 27) 91)) 48)) 110) := by unfold p_X8_answer_s1; rw [if_pos rfl, if_neg z]
    have e2 : p_X4_addWell (subR σ) = (p_X4_add ((p_X4_add ((p_X4_add (p_X4_add (subR σ) 27) 91)) 48)) 110) := by
      unfold p_X4_addWell p_X4_addWell_s1 p_X4_hasRoom p_X4_hasRoom_t1
      rw [es, if_neg z, if_pos rfl]
    rw [e1, e2]
    rw [ti_lt, e4] at z; replace z : ¬ 64 < (μ.1 28).toInt + 4 := z
    have q4 := qr_add (qr_add (qr_add (qr_add q0 (by omega) (by omega) 27) (by omega) (by omega) 91) (by omega) (by omega) 48) (by omega) (by omega) 110
    exact st_rep h ((FrP.pt _ _).tr ((FrP.pt _ _).tr ((FrP.pt _ _).tr (FrP.pt _ _)))) q4.1
theorem st_pos (h : RelC σ μ) (hM : OkM μ) : Sim σ μ (q_X4_addPosition_R σ (p_X5_rowToTell σ) (σ.1 7 + 1)) (p_X8_answer μ 6) := by
  obtain ⟨w1, w2⟩ := hM.2.2.2.2.2.2.2.1
  have q0 : QR (subR σ) μ (μ.1 28).toInt := ⟨h.2.2.2.2.2, rfl⟩
  have es : (subR σ).1 0 = μ.1 28 := h.2.2.2.2.2.1
  have e0 : p_X8_answer_s1 μ 6 = μ := rfl
  have er : p_X5_rowToTell σ = p_X8_answer_t2 μ 6 := by
    unfold p_X5_rowToTell p_X5_rowToTell_t1 p_X8_answer_t2
    rw [e0, h.1.2.2.2.2.2.1, h.1.1, h.1.2.2.1]
  unfold q_X4_addPosition_R
  rw [h.1.2.2.2.1, er]
  have c4 : p_X8_answer_s4 μ 6 = if μ.1 6 + 1 ≤ 9 then (p_X8_put ((p_X8_put ((p_X8_put (p_X8_put μ 27) 91)) (48 + (p_X8_answer_t2 μ 6)))) 59) else p_X8_put (p_X8_put ((p_X8_put ((p_X8_put (p_X8_put μ 27) 91)) (48 + (p_X8_answer_t2 μ 6)))) 59) (48 + (μ.1 6 + 1) / 10) := by
    unfold p_X8_answer_s4; rw [e0]; rfl
  have ea : p_X8_answer μ 6 = (if μ.1 28 + (6 + (b2i (p_X8_answer_t3 μ 6))) ≤ 64 then (p_X8_put ((p_X8_put (p_X8_answer_s4 μ 6) (48 + ((((p_X8_answer_s4 μ 6).1 6) + 1) - (((p_X8_answer_s4 μ 6).1 6) + 1) / 10 * 10)))) 82) else μ) := by
    unfold p_X8_answer; rw [if_pos rfl, e0]
  have t3 : p_X8_answer_t3 μ 6 = if μ.1 6 + 1 ≤ 9 then false else true := by unfold p_X8_answer_t3; rw [e0]
  rw [ea, t3, c4]
  unfold p_X4_addPosition p_X4_addPosition_t2 p_X4_addPosition_s3 p_X4_addPosition_t1 p_X4_hasRoom p_X4_hasRoom_t1
  rw [es]
  by_cases z : μ.1 6 + 1 ≤ 9
  · simp only [if_pos z]
    rw [show (6 + b2i false : Int32) = 6 from by decide]
    simp only [show (false = true) = False from by simp, if_false]
    have e6 : (μ.1 28 + 6).toInt = (μ.1 28).toInt + 6 := ti_add (by show _ ≤ (μ.1 28).toInt + 6; omega) (by show (μ.1 28).toInt + 6 ≤ _; omega)
    by_cases y : μ.1 28 + 6 ≤ 64
    · have y' : ¬ 64 < μ.1 28 + 6 := by rw [ti_lt]; rw [ti_le] at y; omega
      rw [if_pos y, if_neg y', if_pos rfl]
      rw [ti_le, e6] at y; replace y : (μ.1 28).toInt + 6 ≤ 64 := y
      have q4 := qr_add (qr_add (qr_add (qr_add q0 (by omega) (by omega) 27) (by omega) (by omega) 91) (by omega) (by omega) (48 + p_X8_answer_t2 μ 6)) (by omega) (by omega) 59
      have q6 := qr_add (qr_add q4 (by omega) (by omega) (48 + ((μ.1 6 + 1) - (μ.1 6 + 1) / 10 * 10))) (by omega) (by omega) 82
      exact st_rep h ((FrP.pt _ _).tr ((FrP.pt _ _).tr ((FrP.pt _ _).tr ((FrP.pt _ _).tr ((FrP.pt _ _).tr (FrP.pt _ _)))))) q6.1
    · have y' : 64 < μ.1 28 + 6 := by rw [ti_lt]; rw [ti_le] at y; omega
      rw [if_neg y, if_pos y', if_neg (by decide)]
      exact st_rep h (FrP.rf μ) q0.1
  · simp only [if_neg z]
    rw [show (6 + b2i true : Int32) = 7 from by decide]
    simp only [if_true]
    have e6 : (μ.1 28 + 7).toInt = (μ.1 28).toInt + 7 := ti_add (by show _ ≤ (μ.1 28).toInt + 7; omega) (by show (μ.1 28).toInt + 7 ≤ _; omega)
    by_cases y : μ.1 28 + 7 ≤ 64
    · have y' : ¬ 64 < μ.1 28 + 7 := by rw [ti_lt]; rw [ti_le] at y; omega
      rw [if_pos y, if_neg y', if_pos rfl]
      rw [ti_le, e6] at y; replace y : (μ.1 28).toInt + 7 ≤ 64 := y
      have q4 := qr_add (qr_add (qr_add (qr_add q0 (by omega) (by omega) 27) (by omega) (by omega) 91) (by omega) (by omega) (48 + p_X8_answer_t2 μ 6)) (by omega) (by omega) 59
      have q6 := qr_add (qr_add (qr_add q4 (by omega) (by omega) (48 + (μ.1 6 + 1) / 10)) (by omega) (by omega) (48 + ((μ.1 6 + 1) - (μ.1 6 + 1) / 10 * 10))) (by omega) (by omega) 82
      exact st_rep h ((FrP.pt _ _).tr ((FrP.pt _ _).tr ((FrP.pt _ _).tr ((FrP.pt _ _).tr ((FrP.pt _ _).tr ((FrP.pt _ _).tr (FrP.pt _ _))))))) q6.1
    · have y' : 64 < μ.1 28 + 7 := by rw [ti_lt]; rw [ti_le] at y; omega
      rw [if_neg y, if_pos y', if_neg (by decide)]
      exact st_rep h (FrP.rf μ) q0.1
theorem st_answer (h : RelC σ μ) (hM : OkM μ) (p : Int32) : Sim σ μ (p_X7_answer σ p) (p_X8_answer μ p) := by
  unfold p_X7_answer p_X7_answer_s1
  by_cases a : p = 5
  · subst a; rw [if_pos rfl]; exact st_well h hM
  · rw [if_neg a]
    by_cases b : p = 6
    · subst b; rw [if_pos rfl]; exact st_pos h hM
    · have e : p_X8_answer μ p = μ := by unfold p_X8_answer p_X8_answer_s1; rw [if_neg b, if_neg a]
      rw [if_neg b, e]; exact Sim.rf h
end REP
/-! ===== repeat, and the loops over the numbers ===== -/
section LOOPS
theorem st_rep_l (τ τ' : St) (b n : Int32) (hn : R2 1 9999 n) : ∀ (m : Nat) (s t : St) (x : Int32), RelC s t → OkM t → 0 ≤ (t.1 25).toInt → 0 ≤ x.toInt → x.toInt ≤ 24 → Sim s t (p_X5_repeat_l1 τ n m s x).1 (p_X8_set_l1 τ' b n m t x).1 := by
  intro m
  obtain ⟨n1, n2⟩ := hn
  induction m with
  | zero => intro s t x h hM hp h0 h1; exact Sim.rf h
  | succ m ih =>
    intro s t x h hM hp h0 h1
    unfold p_X5_repeat_l1 p_X8_set_l1
    have z24 : (24 : Int32).toInt = 24 := rfl
    have hmin : (if 24 < n then 24 else n : Int32) ≤ x ↔ (n ≤ x ∨ 24 ≤ x) := by
      by_cases a : 24 < n
      · rw [if_pos a]; rw [ti_lt] at a; rw [ti_le, ti_le]; omega
      · rw [if_neg a]; rw [ti_lt] at a; rw [ti_le, ti_le]; omega
    by_cases a : n ≤ x
    · rw [if_pos a, if_pos (hmin.mpr (Or.inl a))]; exact Sim.rf h
    · by_cases b2 : 24 ≤ x
      · rw [if_neg a, if_pos b2, if_pos (hmin.mpr (Or.inr b2))]; exact Sim.rf h
      · rw [if_neg a, if_neg b2, if_neg (fun z => (hmin.mp z).elim a b2), if_neg (by rw [ti_lt]; show ¬ (t.1 25).toInt < 0; omega), h.1.2.2.2.2.2.2.2.2.2.2.2.2.2.2.1]
        have e1 := suc_i (x := x) (by omega) (by omega)
        have y := st_print h hM (t.1 25) hp
        rw [ti_le] at b2
        exact y.tr (ih _ _ (x + 1) y.1 (okm_print _ hM) hp (by omega) (by omega))
variable {σ μ : St}
theorem st_repeat (h : RelC σ μ) (hM : OkM μ) (b n : Int32) (hn : R2 1 9999 n) : Sim σ μ (p_X5_repeat σ n) (p_X8_set_l1 μ b n 24 μ 0).1 := by
  unfold p_X5_repeat
  rw [h.1.2.2.2.2.2.2.2.2.2.2.2.2.2.2.1]
  by_cases a : μ.1 25 = -1
  · rw [if_pos a]
    have e : (p_X8_set_l1 μ b n 24 μ 0).1 = μ := by
      show (p_X8_set_l1 μ b n (23 + 1) μ 0).1 = μ
      unfold p_X8_set_l1
      rw [if_neg (by rw [ti_le]; show ¬ n.toInt ≤ 0; have := hn.1; omega), if_neg (by decide), a, if_pos (by decide)]
    rw [e]; exact Sim.rf h
  · rw [if_neg a]
    have hp := h.1.2.2.2.2.2.2.2.2.2.2.2.2.2.2.2.resolve_left a
    exact st_rep_l σ μ b n hn 24 σ μ 0 h hM hp (by decide) (by decide)
theorem st_priv_l (τ τ' : St) (b : Int32) : ∀ (m : Nat) (s t : St) (x : Int32), RelC s t → OkM t → RK s t → 0 ≤ x.toInt → x.toInt ≤ 6 → Sim s t (p_X7_doPrivate_l2 τ b m s x).1 (p_X8_privately_l6 τ' b m t x).1 := by
  intro m
  induction m with
  | zero => intro s t x h hM hk h0 h1; exact Sim.rf h
  | succ m ih =>
    intro s t x h hM hk h0 h1
    unfold p_X7_doPrivate_l2 p_X8_privately_l6
    rw [kept_eq hk]
    have k6 := kept6m hM
    by_cases a : p_X8_kept t ≤ x
    · rw [if_pos a, if_pos a]; exact Sim.rf h
    · rw [if_neg a, if_neg a]
      rw [ti_le] at a
      have k62 := k6.2
      have e1 := suc_i (x := x) (by omega) (by omega)
      have y := st_switch h hM b x (q_X2_valueAt_N s x) τ' (val_eq hk ⟨h0, by omega⟩).symm
      exact y.tr (ih _ _ (x + 1) y.1 (okm_pv5 τ' b x hM) (hk.st y) (by omega) (by omega))
theorem st_private (h : RelC σ μ) (hM : OkM μ) (hk : RK σ μ) (b : Int32) : Sim σ μ (p_X7_doPrivate σ b) (p_X8_privately μ b) := by
  have x := st_priv_l σ μ b 6 σ μ 0 h hM hk (by decide) (by decide)
  unfold p_X7_doPrivate p_X8_privately
  by_cases a : b = 104
  · rw [if_pos a, if_pos a]; exact x
  · rw [if_neg a, if_neg a]
    by_cases c : b = 108
    · rw [if_pos c, if_pos c]; exact x
    · rw [if_neg c, if_neg c]; exact Sim.rf h
theorem st_ins_l (τ τ' : St) (on : Bool) (b n : Int32) (hb : (if b = 104 then true else false) = on) : ∀ (m : Nat) (s t : St) (x : Int32), RelC s t → OkM t → RK s t → 0 ≤ x.toInt → x.toInt ≤ 6 → Sim s t (p_X7_switchInsert_l2 τ on m s x).1 (p_X8_set_l6 τ' b n m t x).1 := by
  intro m
  induction m with
  | zero => intro s t x h hM hk h0 h1; exact Sim.rf h
  | succ m ih =>
    intro s t x h hM hk h0 h1
    unfold p_X7_switchInsert_l2 p_X8_set_l6
    rw [kept_eq hk]
    have k6 := kept6m hM
    by_cases a : p_X8_kept t ≤ x
    · rw [if_pos a, if_pos a]; exact Sim.rf h
    · rw [if_neg a, if_neg a]
      rw [ti_le] at a
      have k62 := k6.2
      have e1 := suc_i (x := x) (by omega) (by omega)
      have y : Sim s t (p_X7_switchInsert_s1 τ on s x) (p_X8_set_s5 τ' b n t x) := by
        unfold p_X7_switchInsert_s1 p_X8_set_s5 p_X8_set_t4
        rw [val_eq hk ⟨h0, by omega⟩, hb]
        by_cases c : t.2.2 8 x.toNatClampNeg = 4
        · rw [if_pos c, if_pos c]; exact st_insert h on
        · rw [if_neg c, if_neg c]; exact Sim.rf h
      have hM2 : OkM (p_X8_set_s5 τ' b n t x) := okm_ite (fun _ => okm_sb _ _ hM) (fun _ => hM)
      exact y.tr (ih _ _ (x + 1) y.1 hM2 (hk.st y) (by omega) (by omega))
theorem st_insertAll (h : RelC σ μ) (hM : OkM μ) (hk : RK σ μ) (on : Bool) (b n : Int32) (hb : (if b = 104 then true else false) = on) : Sim σ μ (p_X7_switchInsert σ on) (p_X8_set_l6 μ b n 6 μ 0).1 :=
  st_ins_l σ μ on b n hb 6 σ μ 0 h hM hk (by decide) (by decide)
theorem st_pnt_l (τ τ' : St) (b n : Int32) : ∀ (m : Nat) (s t : St) (x : Int32), RelC s t → OkM t → RK s t → (if 1 < q_X2_kept_N τ then q_X2_kept_N τ else 1) = p_X8_kept t → 0 ≤ x.toInt → x.toInt ≤ 6 → Sim s t (p_X7_paintAll_l1 τ m s x).1 (p_X8_set_l8 τ' b n m t x).1 := by
  intro m
  induction m with
  | zero => intro s t x h hM hk he h0 h1; exact Sim.rf h
  | succ m ih =>
    intro s t x h hM hk he h0 h1
    unfold p_X7_paintAll_l1 p_X8_set_l8
    rw [he]
    have k6 := kept6m hM
    by_cases a : p_X8_kept t ≤ x
    · rw [if_pos a, if_pos a]; exact Sim.rf h
    · rw [if_neg a, if_neg a]
      rw [ti_le] at a
      have k62 := k6.2
      have e1 := suc_i (x := x) (by omega) (by omega)
      rw [val_eq hk ⟨h0, by omega⟩]
      have y := st_paint h (t.2.2 8 x.toNatClampNeg)
      have ek : p_X8_kept (p_X8_dip t (t.2.2 8 x.toNatClampNeg)) = p_X8_kept t := by
        unfold p_X8_kept p_X8_kept_t1; rw [y.2.2.2.2.2.2.1]
      exact y.tr (ih _ _ (x + 1) y.1 (okm_dip _ hM) (hk.st y) (by rw [ek]; exact he) (by omega) (by omega))
theorem st_paintAll (h : RelC σ μ) (hM : OkM μ) (hk : RK σ μ) (b n : Int32) : Sim σ μ (p_X7_paintAll σ) (p_X8_set_l8 μ b n 6 (p_X8_set_s7 μ b n) 0).1 := by
  have z0 : (0 : Int32).toInt = 0 := rfl
  have z1 : (1 : Int32).toInt = 1 := rfl
  have z6 : (6 : Int32).toInt = 6 := rfl
  have hb := hM.2.2.2.2.2.2.2.2.2.2.1
  unfold p_X7_paintAll p_X8_set_s7
  by_cases a : μ.1 37 = 0
  · rw [if_pos a]
    have ek : p_X8_kept μ = 0 := by unfold p_X8_kept p_X8_kept_t1; rw [a]; rfl
    have el : (if 1 < q_X2_kept_N σ then q_X2_kept_N σ else 1) = 1 := by rw [kept_eq hk, ek]; rfl
    have ev : q_X2_valueAt_N σ 0 = 0 := by rw [val_eq hk (R2.lit 0 (by decide))]; exact hk.2.2.2 a
    have e1 : (p_X7_paintAll_l1 σ 6 σ 0).1 = q_X0_paint_C8 σ 0 := by
      show (p_X7_paintAll_l1 σ (4 + 1 + 1) σ 0).1 = _
      unfold p_X7_paintAll_l1
      rw [el, if_neg (by decide), ev]
      unfold p_X7_paintAll_l1
      rw [el, if_pos (by decide)]
    have e2 : (p_X8_set_l8 μ b n 6 (p_X8_setPen μ 0) 0).1 = p_X8_dip μ 0 := by
      show (p_X8_set_l8 μ b n (5 + 1) (p_X8_setPen μ 0) 0).1 = _
      unfold p_X8_set_l8
      have : p_X8_kept (p_X8_setPen μ 0) = 0 := ek
      rw [this, if_pos (by decide)]; rfl
    rw [e1, e2]
    exact st_paint h 0
  · rw [if_neg a]
    refine st_pnt_l σ μ b n 6 σ μ 0 h hM hk ?_ (by decide) (by decide)
    rw [kept_eq hk]
    have k1 : 1 ≤ (p_X8_kept μ).toInt := by
      unfold p_X8_kept p_X8_kept_t1
      by_cases c : 6 ≤ μ.1 37
      · rw [if_pos c]; decide
      · rw [if_neg c]; rw [ti_eq] at a; have := hb.1; omega
    by_cases c : 1 < p_X8_kept μ
    · rw [if_pos c]
    · rw [if_neg c, ti_eq]; rw [ti_lt] at c; omega
end LOOPS
