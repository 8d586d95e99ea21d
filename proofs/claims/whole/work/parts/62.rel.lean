/-! ===== the relation between the desk's state and the model's ===== -/
def RA (i : Nat → Int32) (b : Nat → Bool) (m : Nat → Int32) (c : Nat → Bool) : Prop :=
  i 1 = m 7 ∧ i 2 = m 8 ∧ i 6 = m 5 ∧ i 7 = m 6 ∧ b 3 = c 9 ∧ b 4 = c 11 ∧ b 0 = c 10 ∧ b 1 = c 12 ∧ (b 2 = true ↔ m 4 = 1) ∧ i 9 = m 18 ∧ i 10 = m 19 ∧ b 5 = c 21 ∧ b 6 = c 22 ∧ i 4 = m 26 ∧ i 5 = m 25 ∧ (m 25 = -1 ∨ 0 ≤ (m 25).toInt)
def pn (a b c d e : Int32) : Int32 := (((a + 2 * b) + 4 * c) + 8 * d) + 128 * e
def RD (i m : Nat → Int32) : Prop := i 8 = pn (m 13) (m 14) (m 15) (m 16) (m 17) ∧ R2 0 1 (m 13) ∧ R2 0 1 (m 14) ∧ R2 0 1 (m 15) ∧ R2 0 15 (m 16) ∧ R2 0 15 (m 17) ∧ i 11 = m 20 ∧ R2 0 2047 (m 20)
def RG (t : Int32) (f : Nat → Int32) : Prop := ∀ c : Nat, c < 12 → (t.toBitVec.getLsbD c = true ↔ ¬ f c = 0)
def RI (F G : Nat → Nat → Int32) : Prop := ∀ k : Nat, k < 96 → F 0 k = G 0 k ∧ F 1 k = G 1 k ∧ F 2 k = G 0 (96 + k) ∧ F 3 k = G 1 (96 + k)
def RS (n : Int32) (f : Nat → Int32) (m : Int32) (g : Nat → Int32) : Prop := n = m ∧ ∀ k : Nat, k < m.toInt.toNat → f k = g k
def RelC (σ μ : St) : Prop := RA σ.1 σ.2.1 μ.1 μ.2.1 ∧ RD σ.1 μ.1 ∧ RG (σ.1 3) (μ.2.2 4) ∧ RI σ.2.2 μ.2.2 ∧ RS (σ.1 16) (σ.2.2 5) (μ.1 31) (μ.2.2 6) ∧ RS (σ.1 18) (σ.2.2 7) (μ.1 28) (μ.2.2 5)
def FrD (a b : St) : Prop := a.1 0 = b.1 0 ∧ a.1 12 = b.1 12 ∧ a.1 13 = b.1 13 ∧ a.1 14 = b.1 14 ∧ a.1 15 = b.1 15 ∧ a.1 17 = b.1 17 ∧ a.2.1 7 = b.2.1 7 ∧ a.2.2 4 = b.2.2 4 ∧ a.2.2 6 = b.2.2 6
def FrM (a b : St) : Prop := a.1 24 = b.1 24 ∧ a.1 33 = b.1 33 ∧ a.1 34 = b.1 34 ∧ a.1 35 = b.1 35 ∧ a.1 37 = b.1 37 ∧ a.1 32 = b.1 32 ∧ a.2.1 38 = b.2.1 38 ∧ a.2.2 7 = b.2.2 7 ∧ a.2.2 8 = b.2.2 8
theorem FrD.rf (a : St) : FrD a a := ⟨rfl, rfl, rfl, rfl, rfl, rfl, rfl, rfl, rfl⟩
theorem FrM.rf (a : St) : FrM a a := ⟨rfl, rfl, rfl, rfl, rfl, rfl, rfl, rfl, rfl⟩
theorem FrD.tr {a b c : St} (h : FrD a b) (g : FrD b c) : FrD a c :=
  ⟨h.1.trans g.1, h.2.1.trans g.2.1, h.2.2.1.trans g.2.2.1, h.2.2.2.1.trans g.2.2.2.1, h.2.2.2.2.1.trans g.2.2.2.2.1, h.2.2.2.2.2.1.trans g.2.2.2.2.2.1, h.2.2.2.2.2.2.1.trans g.2.2.2.2.2.2.1, h.2.2.2.2.2.2.2.1.trans g.2.2.2.2.2.2.2.1, h.2.2.2.2.2.2.2.2.trans g.2.2.2.2.2.2.2.2⟩
theorem FrM.tr {a b c : St} (h : FrM a b) (g : FrM b c) : FrM a c :=
  ⟨h.1.trans g.1, h.2.1.trans g.2.1, h.2.2.1.trans g.2.2.1, h.2.2.2.1.trans g.2.2.2.1, h.2.2.2.2.1.trans g.2.2.2.2.1, h.2.2.2.2.2.1.trans g.2.2.2.2.2.1, h.2.2.2.2.2.2.1.trans g.2.2.2.2.2.2.1, h.2.2.2.2.2.2.2.1.trans g.2.2.2.2.2.2.2.1, h.2.2.2.2.2.2.2.2.trans g.2.2.2.2.2.2.2.2⟩
/-- one step of both: the relation stands, and nothing else is touched -/
def Sim (σ μ σ' μ' : St) : Prop := RelC σ' μ' ∧ FrD σ' σ ∧ FrM μ' μ
theorem Sim.rf {σ μ : St} (h : RelC σ μ) : Sim σ μ σ μ := ⟨h, FrD.rf σ, FrM.rf μ⟩
theorem Sim.tr {σ μ a b c d : St} (h : Sim σ μ a b) (g : Sim a b c d) : Sim σ μ c d := ⟨g.1, g.2.1.tr h.2.1, g.2.2.tr h.2.2⟩
theorem fm_fra {a b : St} (h : FrA a b) : FrM a b := ⟨by rw [h.1], by rw [h.1], by rw [h.1], by rw [h.1], by rw [h.1], by rw [h.1], by rw [h.2.1], h.2.2 7 (by decide), h.2.2 8 (by decide)⟩
theorem st_place {σ μ : St} (h : RelC σ μ) (r c : Int32) : Sim σ μ (q_X0_place_C8 σ r c) (p_X8_place μ r c) := by
  obtain ⟨⟨a1, a2, a3, a4, a5, a6, a7, a8, a9, a10, a11, a12, a13, a14, a15, a16⟩, hd, hg, hi, hl, hn⟩ := h
  exact ⟨⟨⟨a1, a2, rfl, rfl, rfl, a6, a7, a8, a9, a10, a11, a12, a13, a14, a15, a16⟩, hd, hg, hi, hl, hn⟩, FrD.rf σ, FrM.rf μ⟩
theorem st_full {σ μ : St} (h : RelC σ μ) (v : Bool) : Sim σ μ (sb σ 3 v) (sb μ 9 v) := by
  obtain ⟨⟨a1, a2, a3, a4, a5, a6, a7, a8, a9, a10, a11, a12, a13, a14, a15, a16⟩, hd, hg, hi, hl, hn⟩ := h
  exact ⟨⟨⟨a1, a2, a3, a4, rfl, a6, a7, a8, a9, a10, a11, a12, a13, a14, a15, a16⟩, hd, hg, hi, hl, hn⟩, FrD.rf σ, FrM.rf μ⟩
theorem st_row {σ μ : St} (h : RelC σ μ) (v : Int32) : Sim σ μ (si σ 6 v) (si μ 5 v) := by
  obtain ⟨⟨a1, a2, a3, a4, a5, a6, a7, a8, a9, a10, a11, a12, a13, a14, a15, a16⟩, hd, hg, hi, hl, hn⟩ := h
  exact ⟨⟨⟨a1, a2, rfl, a4, a5, a6, a7, a8, a9, a10, a11, a12, a13, a14, a15, a16⟩, hd, hg, hi, hl, hn⟩, FrD.rf σ, FrM.rf μ⟩
theorem st_col {σ μ : St} (h : RelC σ μ) (v : Int32) : Sim σ μ (si σ 7 v) (si μ 6 v) := by
  obtain ⟨⟨a1, a2, a3, a4, a5, a6, a7, a8, a9, a10, a11, a12, a13, a14, a15, a16⟩, hd, hg, hi, hl, hn⟩ := h
  exact ⟨⟨⟨a1, a2, a3, rfl, a5, a6, a7, a8, a9, a10, a11, a12, a13, a14, a15, a16⟩, hd, hg, hi, hl, hn⟩, FrD.rf σ, FrM.rf μ⟩
theorem st_insert {σ μ : St} (h : RelC σ μ) (v : Bool) : Sim σ μ (sb σ 0 v) (sb μ 10 v) := by
  obtain ⟨⟨a1, a2, a3, a4, a5, a6, a7, a8, a9, a10, a11, a12, a13, a14, a15, a16⟩, hd, hg, hi, hl, hn⟩ := h
  exact ⟨⟨⟨a1, a2, a3, a4, a5, a6, rfl, a8, a9, a10, a11, a12, a13, a14, a15, a16⟩, hd, hg, hi, hl, hn⟩, FrD.rf σ, FrM.rf μ⟩
theorem st_wrap {σ μ : St} (h : RelC σ μ) (v : Bool) : Sim σ μ (sb σ 1 v) (sb μ 12 v) := by
  obtain ⟨⟨a1, a2, a3, a4, a5, a6, a7, a8, a9, a10, a11, a12, a13, a14, a15, a16⟩, hd, hg, hi, hl, hn⟩ := h
  exact ⟨⟨⟨a1, a2, a3, a4, a5, a6, a7, rfl, a9, a10, a11, a12, a13, a14, a15, a16⟩, hd, hg, hi, hl, hn⟩, FrD.rf σ, FrM.rf μ⟩
theorem st_origin {σ μ : St} (h : RelC σ μ) (v : Bool) : Sim σ μ (sb σ 4 v) (sb μ 11 v) := by
  obtain ⟨⟨a1, a2, a3, a4, a5, a6, a7, a8, a9, a10, a11, a12, a13, a14, a15, a16⟩, hd, hg, hi, hl, hn⟩ := h
  exact ⟨⟨⟨a1, a2, a3, a4, a5, rfl, a7, a8, a9, a10, a11, a12, a13, a14, a15, a16⟩, hd, hg, hi, hl, hn⟩, FrD.rf σ, FrM.rf μ⟩
theorem st_region {σ μ : St} (h : RelC σ μ) (v w : Int32) : Sim σ μ (si (si σ 1 v) 2 w) (si (si μ 7 v) 8 w) := by
  obtain ⟨⟨a1, a2, a3, a4, a5, a6, a7, a8, a9, a10, a11, a12, a13, a14, a15, a16⟩, hd, hg, hi, hl, hn⟩ := h
  exact ⟨⟨⟨rfl, rfl, a3, a4, a5, a6, a7, a8, a9, a10, a11, a12, a13, a14, a15, a16⟩, hd, hg, hi, hl, hn⟩, FrD.rf σ, FrM.rf μ⟩
theorem st_bell {σ μ : St} (h : RelC σ μ) (v : Int32) : Sim σ μ (si σ 4 v) (si μ 26 v) := by
  obtain ⟨⟨a1, a2, a3, a4, a5, a6, a7, a8, a9, a10, a11, a12, a13, a14, a15, a16⟩, hd, hg, hi, hl, hn⟩ := h
  exact ⟨⟨⟨a1, a2, a3, a4, a5, a6, a7, a8, a9, a10, a11, a12, a13, rfl, a15, a16⟩, hd, hg, hi, hl, hn⟩, FrD.rf σ, FrM.rf μ⟩
theorem st_last {σ μ : St} (h : RelC σ μ) (v : Int32) (hv : v = -1 ∨ 0 ≤ v.toInt) : Sim σ μ (si σ 5 v) (si μ 25 v) := by
  obtain ⟨⟨a1, a2, a3, a4, a5, a6, a7, a8, a9, a10, a11, a12, a13, a14, a15, a16⟩, hd, hg, hi, hl, hn⟩ := h
  exact ⟨⟨⟨a1, a2, a3, a4, a5, a6, a7, a8, a9, a10, a11, a12, a13, a14, rfl, hv⟩, hd, hg, hi, hl, hn⟩, FrD.rf σ, FrM.rf μ⟩
/-- what a page's change is on both sides -/
def LocU (O : Nat) (u U : (Nat → Int32) → (Nat → Int32)) : Prop := (∀ f g : Nat → Int32, (∀ k : Nat, k < 96 → f k = g (O + k)) → ∀ k : Nat, k < 96 → u f k = U g (O + k)) ∧ (∀ (g : Nat → Int32) (j : Nat), j < O ∨ O + 96 ≤ j → U g j = g j)
def pgD (σ : St) (u v : (Nat → Int32) → (Nat → Int32)) : St := (σ.1, σ.2.1, fun j => if j = (if σ.2.1 2 = true then 2 else 0) then u (σ.2.2 j) else if j = (if σ.2.1 2 = true then 3 else 1) then v (σ.2.2 j) else σ.2.2 j)
def PgM (μ μ' : St) (U V : (Nat → Int32) → (Nat → Int32)) : Prop := FrA μ' μ ∧ μ'.2.2 0 = U (μ.2.2 0) ∧ μ'.2.2 1 = V (μ.2.2 1)
theorem pgD_a (σ : St) (u v : (Nat → Int32) → (Nat → Int32)) (j : Nat) (hj : 4 ≤ j) : (pgD σ u v).2.2 j = σ.2.2 j := by
  show (if j = (if σ.2.1 2 = true then 2 else 0) then u (σ.2.2 j) else if j = (if σ.2.1 2 = true then 3 else 1) then v (σ.2.2 j) else σ.2.2 j) = σ.2.2 j
  rw [if_neg (by split <;> omega), if_neg (by split <;> omega)]
theorem st_pg {σ μ μ' : St} {u v U V : (Nat → Int32) → (Nat → Int32)} (h : RelC σ μ) (hM : OkM μ) (hp : PgM μ μ' U V) (hu : LocU (96 * (μ.1 4).toInt).toNat u U) (hv : LocU (96 * (μ.1 4).toInt).toNat v V) : Sim σ μ (pgD σ u v) μ' := by
  obtain ⟨⟨a1, a2, a3, a4, a5, a6, a7, a8, a9, a10, a11, a12, a13, a14, a15, a16⟩, hd, hg, hi, hl, hn⟩ := h
  obtain ⟨fr, p0, p1⟩ := hp
  refine ⟨⟨?_, ?_, ?_, ?_, ?_, ?_⟩, ⟨rfl, rfl, rfl, rfl, rfl, rfl, rfl, pgD_a σ u v 4 (by decide), pgD_a σ u v 6 (by decide)⟩, fm_fra fr⟩
  · rw [fr.1, fr.2.1]; exact ⟨a1, a2, a3, a4, a5, a6, a7, a8, a9, a10, a11, a12, a13, a14, a15, a16⟩
  · rw [fr.1]; exact hd
  · rw [fr.2.2 4 (by decide)]; exact hg
  · intro k hk
    rw [p0, p1]
    by_cases h2 : σ.2.1 2 = true
    · have e1 : (μ.1 4).toInt = 1 := by rw [a9.mp h2]; rfl
      rw [e1] at hu hv
      obtain ⟨x0, x1, x2, x3⟩ := hi k hk
      have z0 : (pgD σ u v).2.2 0 = σ.2.2 0 := by simp only [pgD, h2]; rfl
      have z1 : (pgD σ u v).2.2 1 = σ.2.2 1 := by simp only [pgD, h2]; rfl
      have z2 : (pgD σ u v).2.2 2 = u (σ.2.2 2) := by simp only [pgD, h2]; rfl
      have z3 : (pgD σ u v).2.2 3 = v (σ.2.2 3) := by simp only [pgD, h2]; rfl
      rw [z0, z1, z2, z3, hu.2 _ k (Or.inl hk), hv.2 _ k (Or.inl hk)]
      exact ⟨x0, x1, hu.1 _ _ (fun k hk => (hi k hk).2.2.1) k hk, hv.1 _ _ (fun k hk => (hi k hk).2.2.2) k hk⟩
    · have e0 : (μ.1 4).toInt = 0 := by
        have h9 : ¬ μ.1 4 = 1 := fun z => h2 (a9.mpr z)
        rw [ti_eq] at h9
        have q1 := hM.1.1
        have q2 := hM.1.2
        have q3 : (1 : Int32).toInt = 1 := rfl
        omega
      rw [e0] at hu hv
      obtain ⟨x0, x1, x2, x3⟩ := hi k hk
      have h3 : σ.2.1 2 = false := by simpa using h2
      have z0 : (pgD σ u v).2.2 0 = u (σ.2.2 0) := by simp only [pgD, h3]; rfl
      have z1 : (pgD σ u v).2.2 1 = v (σ.2.2 1) := by simp only [pgD, h3]; rfl
      have z2 : (pgD σ u v).2.2 2 = σ.2.2 2 := by simp only [pgD, h3]; rfl
      have z3 : (pgD σ u v).2.2 3 = σ.2.2 3 := by simp only [pgD, h3]; rfl
      rw [z0, z1, z2, z3, hu.2 _ (96 + k) (Or.inr (by omega)), hv.2 _ (96 + k) (Or.inr (by omega))]
      have y0 := hu.1 _ _ (fun k hk => by show σ.2.2 0 k = μ.2.2 0 (0 + k); rw [Nat.zero_add]; exact (hi k hk).1) k hk
      have y1 := hv.1 _ _ (fun k hk => by show σ.2.2 1 k = μ.2.2 1 (0 + k); rw [Nat.zero_add]; exact (hi k hk).2.1) k hk
      refine ⟨y0.trans ?_, y1.trans ?_, x2, x3⟩
      · show U (μ.2.2 0) (0 + k) = _; rw [Nat.zero_add]
      · show V (μ.2.2 1) (0 + k) = _; rw [Nat.zero_add]
  · rw [fr.1, fr.2.2 6 (by decide), pgD_a σ u v 5 (by decide)]; exact hl
  · rw [fr.1, fr.2.2 5 (by decide), pgD_a σ u v 7 (by decide)]; exact hn
theorem loc_shf (P A B D : Int) (v : Int32) (hP : 0 ≤ P) (hA : 0 ≤ A) (hB : B ≤ 95) : LocU (96 * P).toNat (shf A B D v) (shf (96 * P + A) (96 * P + B) D v) := by
  refine ⟨fun f g h k hk => ?_, fun g j hj => ?_⟩
  · unfold shf
    by_cases h1 : A ≤ (k : Int) ∧ (k : Int) ≤ B
    · by_cases h2 : A ≤ (k : Int) + D ∧ (k : Int) + D ≤ B
      · rw [if_pos h1, if_pos h2, if_pos (by omega), if_pos (by omega), h _ (by omega)]; congr 1; omega
      · rw [if_pos h1, if_neg h2, if_pos (by omega), if_neg (by omega)]
    · rw [if_neg h1, if_neg (by omega)]; exact h k hk
  · unfold shf; rw [if_neg (by omega)]
theorem st_sh {σ μ μ' : St} {A B D : Int} (h : RelC σ μ) (hM : OkM μ) (hs : ShM μ μ' A B D) (hA : 0 ≤ A) (hB : B ≤ 95) : Sim σ μ (shD σ A B D) μ' :=
  st_pg (u := shf A B D 32) (v := shf A B D 0) h hM hs (loc_shf _ A B D 32 hM.1.1 hA hB) (loc_shf _ A B D 0 hM.1.1 hA hB)
theorem loc_upd (P A : Int) (c : Int32) (hP : 0 ≤ P) (hA : 0 ≤ A) (hB : A ≤ 95) : LocU (96 * P).toNat (fun f => upd f A.toNat c) (fun f => upd f (96 * P + A).toNat c) := by
  refine ⟨fun f g h k hk => ?_, fun g j hj => ?_⟩
  · show (if k = A.toNat then c else f k) = (if (96 * P).toNat + k = (96 * P + A).toNat then c else g ((96 * P).toNat + k))
    by_cases h1 : k = A.toNat
    · rw [if_pos h1, if_pos (by omega)]
    · rw [if_neg h1, if_neg (by omega)]; exact h k hk
  · show (if j = (96 * P + A).toNat then c else g j) = g j
    rw [if_neg (by omega)]
theorem put_pg (σ : St) (a c l : Int32) (h0 : 0 ≤ a.toInt) (h1 : a.toInt ≤ 95) : q_X3_put_pg σ a c l = pgD σ (fun f => upd f a.toInt.toNat c) (fun f => upd f a.toInt.toNat l) := by
  have na : ¬ a < 0 := by rw [ti_lt]; show ¬ a.toInt < 0; omega
  have nb : a < 96 := by rw [ti_lt]; show a.toInt < 96; omega
  have e : ∀ s : St, p_X3_put s a c l = sa (sa s 0 (upd (s.2.2 0) (a : Int32).toNatClampNeg c)) 1 (upd (s.2.2 1) (a : Int32).toNatClampNeg l) := fun s => by unfold p_X3_put; rw [if_neg na, if_pos nb]
  unfold q_X3_put_pg q_X3_put_P3 q_X3_put_P2 pgD
  rw [e, e]
  refine Prod.ext rfl (Prod.ext rfl ?_)
  funext j
  by_cases h : σ.2.1 2 = true
  · simp only [h, if_true, putP3]
    show (if j = 3 then upd (σ.2.2 3) (a : Int32).toNatClampNeg l else if j = 2 then upd (σ.2.2 2) (a : Int32).toNatClampNeg c else σ.2.2 j) = _
    by_cases h2 : j = 2
    · subst h2; rw [if_neg (by decide), if_pos rfl, if_pos rfl]; rfl
    · by_cases h4 : j = 3
      · subst h4; rw [if_pos rfl, if_neg (by decide), if_pos rfl]; rfl
      · rw [if_neg h4, if_neg h2, if_neg h2, if_neg h4]
  · simp only [h, putP2]
    show (if j = 1 then upd (σ.2.2 1) (a : Int32).toNatClampNeg l else if j = 0 then upd (σ.2.2 0) (a : Int32).toNatClampNeg c else σ.2.2 j) = _
    by_cases h2' : j = 0
    · subst h2'; rw [if_neg (by decide), if_pos rfl, if_pos (by rfl)]; rfl
    · by_cases h4 : j = 1
      · subst h4; rw [if_pos rfl, if_neg (by decide), if_pos (by rfl)]; rfl
      · rw [if_neg h4, if_neg h2', if_neg (by simpa using h2'), if_neg (by simpa using h4)]
