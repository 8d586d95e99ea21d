/-! ===== closed forms of the loops over arrays ===== -/
def shf (A B D : Int) (v : Int32) (f : Nat → Int32) : Nat → Int32 := fun k => if A ≤ (k : Int) ∧ (k : Int) ≤ B then (if A ≤ (k : Int) + D ∧ (k : Int) + D ≤ B then f ((k : Int) + D).toNat else v) else f k
def fil (A B : Int) (g f : Nat → Int32) : Nat → Int32 := fun k => if A ≤ (k : Int) ∧ (k : Int) ≤ B then g k else f k
theorem tn (x : Int32) : x.toNatClampNeg = x.toInt.toNat := rfl
theorem shf_up {X B D : Int} {v w : Int32} {f : Nat → Int32} (hX : 0 ≤ X) (hB : X ≤ B) (hD : 0 ≤ D) (hw : w = if X + D ≤ B then f (X + D).toNat else v) : shf (X + 1) B D v (upd f X.toNat w) = shf X B D v f := by
  subst hw
  funext k
  unfold shf upd
  by_cases hk : k = X.toNat
  · have e : (k : Int) = X := by omega
    by_cases h2 : X + D ≤ B
    · rw [if_neg (by omega), if_pos hk, if_pos h2, if_pos (by omega), if_pos (by omega), e]
    · rw [if_neg (by omega), if_pos hk, if_neg h2, if_pos (by omega), if_neg (by omega)]
  · by_cases h1 : X ≤ (k : Int) ∧ (k : Int) ≤ B
    · by_cases h2 : (k : Int) + D ≤ B
      · rw [if_pos (by omega), if_pos (by omega), if_neg (by omega), if_pos h1, if_pos (by omega)]
      · rw [if_pos (by omega), if_neg (by omega), if_pos h1, if_neg (by omega)]
    · rw [if_neg (by omega), if_neg hk, if_neg h1]
theorem shf_dn {A X D : Int} {v w : Int32} {f : Nat → Int32} (hA : 0 ≤ A) (hB : A ≤ X) (hD : 0 ≤ D) (hw : w = if A ≤ X - D then f (X - D).toNat else v) : shf A (X - 1) (-D) v (upd f X.toNat w) = shf A X (-D) v f := by
  subst hw
  funext k
  unfold shf upd
  by_cases hk : k = X.toNat
  · have e : (k : Int) = X := by omega
    by_cases h2 : A ≤ X - D
    · rw [if_neg (by omega), if_pos hk, if_pos h2, if_pos (by omega), if_pos (by omega), e, Int.sub_eq_add_neg]
    · rw [if_neg (by omega), if_pos hk, if_neg h2, if_pos (by omega), if_neg (by omega)]
  · by_cases h1 : A ≤ (k : Int) ∧ (k : Int) ≤ X
    · by_cases h2 : A ≤ (k : Int) + -D
      · rw [if_pos (by omega), if_pos (by omega), if_neg (by omega), if_pos h1, if_pos (by omega)]
      · rw [if_pos (by omega), if_neg (by omega), if_pos h1, if_neg (by omega)]
    · rw [if_neg (by omega), if_neg hk, if_neg h1]
theorem shf_nil {A B D : Int} {v : Int32} {f : Nat → Int32} (h : B < A) : shf A B D v f = f := by
  funext k; unfold shf; rw [if_neg (by omega)]
theorem fil_nil {A B : Int} {g f : Nat → Int32} (h : B < A) : fil A B g f = f := by
  funext k; unfold fil; rw [if_neg (by omega)]
theorem fil_up {X B : Int} {w : Int32} {g f : Nat → Int32} (hX : 0 ≤ X) (hB : X ≤ B) (hw : w = g X.toNat) : fil (X + 1) B g (upd f X.toNat w) = fil X B g f := by
  subst hw
  funext k
  unfold fil upd
  by_cases hk : k = X.toNat
  · rw [if_neg (by omega), if_pos hk, if_pos (by omega), hk]
  · by_cases h1 : X ≤ (k : Int) ∧ (k : Int) ≤ B
    · rw [if_pos (by omega), if_pos h1]
    · rw [if_neg (by omega), if_neg hk, if_neg h1]
theorem fil_app {X Z B : Int} {g f : Nat → Int32} (h1 : X ≤ Z + 1) (h2 : Z ≤ B) : fil (Z + 1) B g (fil X Z g f) = fil X B g f := by
  funext k
  unfold fil
  by_cases hk : X ≤ (k : Int) ∧ (k : Int) ≤ B
  · by_cases hz : (k : Int) ≤ Z
    · rw [if_neg (by omega), if_pos (by omega), if_pos hk]
    · rw [if_pos (by omega), if_pos hk]
  · rw [if_neg (by omega), if_neg (by omega), if_neg hk]
/-- pull: the shown arrays -/
theorem pull_cl (σ : St) (p1 p2 p3 : Int32) (hp2 : p2.toInt ≤ 95) (hd : R2 0 1000000 p3) : ∀ (n : Nat) (s : St) (x : Int32), 0 ≤ x.toInt → x.toInt ≤ 96 → p2.toInt + 1 - x.toInt ≤ n →
    (p_X3_pull_l4 σ p1 p2 p3 n s x).1.2.2 0 = shf x.toInt p2.toInt p3.toInt 32 (s.2.2 0) ∧ (p_X3_pull_l4 σ p1 p2 p3 n s x).1.2.2 1 = shf x.toInt p2.toInt p3.toInt 0 (s.2.2 1) := by
  obtain ⟨d1, d2⟩ := hd
  intro n
  induction n with
  | zero => intro s x h0 h1 h2; exact ⟨(shf_nil (by omega)).symm, (shf_nil (by omega)).symm⟩
  | succ n ih =>
    intro s x h0 h1 h2
    unfold p_X3_pull_l4
    by_cases hc : p2 < x
    · rw [if_pos hc]; rw [ti_lt] at hc
      exact ⟨(shf_nil hc).symm, (shf_nil hc).symm⟩
    · rw [if_neg hc]; rw [ti_lt] at hc
      have e1 : (x + 1).toInt = x.toInt + 1 := ti_add (by show _ ≤ x.toInt + 1; omega) (by show x.toInt + 1 ≤ _; omega)
      have e3 : (x + p3).toInt = x.toInt + p3.toInt := ti_add (by omega) (by omega)
      have e4 : (p2 - x).toInt = p2.toInt - x.toInt := ti_sub (by omega) (by omega)
      obtain ⟨i1, i2⟩ := ih (sa (sa s 0 (upd (s.2.2 0) (x : Int32).toNatClampNeg (p_X3_pull_t2 σ p1 p2 p3 s x))) 1 (upd (s.2.2 1) (x : Int32).toNatClampNeg (p_X3_pull_t3 σ p1 p2 p3 s x))) (x + 1) (by omega) (by omega) (by omega)
      rw [i1, i2, e1]
      refine ⟨shf_up h0 (by omega) d1 ?_, shf_up h0 (by omega) d1 ?_⟩
      · unfold p_X3_pull_t2 p_X3_pull_t1
        by_cases h : p2 - x < p3
        · rw [if_pos h, if_neg (by decide)]; rw [ti_lt, e4] at h; rw [if_neg (by omega)]
        · rw [if_neg h, if_pos rfl]; rw [ti_lt, e4] at h; rw [if_pos (by omega), tn, e3]
      · unfold p_X3_pull_t3 p_X3_pull_t1
        by_cases h : p2 - x < p3
        · rw [if_pos h, if_neg (by decide)]; rw [ti_lt, e4] at h; rw [if_neg (by omega)]
        · rw [if_neg h, if_pos rfl]; rw [ti_lt, e4] at h; rw [if_pos (by omega), tn, e3]
theorem push_cl (σ : St) (p1 p2 p3 : Int32) (hp1 : 0 ≤ p1.toInt) (hd : R2 0 1000000 p3) : ∀ (n : Nat) (s : St) (x : Int32), -1 ≤ x.toInt → x.toInt ≤ 95 → x.toInt + 1 - p1.toInt ≤ n →
    (p_X3_push_l4 σ p1 p2 p3 n s x).1.2.2 0 = shf p1.toInt x.toInt (-p3.toInt) 32 (s.2.2 0) ∧ (p_X3_push_l4 σ p1 p2 p3 n s x).1.2.2 1 = shf p1.toInt x.toInt (-p3.toInt) 0 (s.2.2 1) := by
  obtain ⟨d1, d2⟩ := hd
  intro n
  induction n with
  | zero => intro s x h0 h1 h2; exact ⟨(shf_nil (by omega)).symm, (shf_nil (by omega)).symm⟩
  | succ n ih =>
    intro s x h0 h1 h2
    unfold p_X3_push_l4
    by_cases hc : x < p1
    · rw [if_pos hc]; rw [ti_lt] at hc
      exact ⟨(shf_nil hc).symm, (shf_nil hc).symm⟩
    · rw [if_neg hc]; rw [ti_lt] at hc
      have e1 : (x + -1).toInt = x.toInt - 1 := ti_add (by show _ ≤ x.toInt + -1; omega) (by show x.toInt + -1 ≤ _; omega)
      have e3 : (x - p3).toInt = x.toInt - p3.toInt := ti_sub (by omega) (by omega)
      have e4 : (x - p1).toInt = x.toInt - p1.toInt := ti_sub (by omega) (by omega)
      obtain ⟨i1, i2⟩ := ih (sa (sa s 0 (upd (s.2.2 0) (x : Int32).toNatClampNeg (p_X3_push_t2 σ p1 p2 p3 s x))) 1 (upd (s.2.2 1) (x : Int32).toNatClampNeg (p_X3_push_t3 σ p1 p2 p3 s x))) (x + -1) (by omega) (by omega) (by omega)
      rw [i1, i2, e1]
      refine ⟨shf_dn hp1 (by omega) d1 ?_, shf_dn hp1 (by omega) d1 ?_⟩
      · unfold p_X3_push_t2 p_X3_push_t1
        by_cases h : x - p1 < p3
        · rw [if_pos h, if_neg (by decide)]; rw [ti_lt, e4] at h; rw [if_neg (by omega)]
        · rw [if_neg h, if_pos rfl]; rw [ti_lt, e4] at h; rw [if_pos (by omega), tn, e3]
      · unfold p_X3_push_t3 p_X3_push_t1
        by_cases h : x - p1 < p3
        · rw [if_pos h, if_neg (by decide)]; rw [ti_lt, e4] at h; rw [if_neg (by omega)]
        · rw [if_neg h, if_pos rfl]; rw [ti_lt, e4] at h; rw [if_pos (by omega), tn, e3]
theorem clear_cl (σ : St) (p1 p2 : Int32) (hp2 : p2.toInt ≤ 95) : ∀ (n : Nat) (s : St) (x : Int32), 0 ≤ x.toInt → x.toInt ≤ 96 → p2.toInt + 1 - x.toInt ≤ n →
    (p_X3_clear_l1 σ p1 p2 n s x).1.2.2 0 = shf x.toInt p2.toInt 1000 32 (s.2.2 0) ∧ (p_X3_clear_l1 σ p1 p2 n s x).1.2.2 1 = shf x.toInt p2.toInt 1000 0 (s.2.2 1) := by
  intro n
  induction n with
  | zero => intro s x h0 h1 h2; exact ⟨(shf_nil (by omega)).symm, (shf_nil (by omega)).symm⟩
  | succ n ih =>
    intro s x h0 h1 h2
    unfold p_X3_clear_l1
    by_cases hc : p2 < x
    · rw [if_pos hc]; rw [ti_lt] at hc
      exact ⟨(shf_nil hc).symm, (shf_nil hc).symm⟩
    · rw [if_neg hc]; rw [ti_lt] at hc
      have e1 : (x + 1).toInt = x.toInt + 1 := ti_add (by show _ ≤ x.toInt + 1; omega) (by show x.toInt + 1 ≤ _; omega)
      obtain ⟨i1, i2⟩ := ih (sa (sa s 0 (upd (s.2.2 0) (x : Int32).toNatClampNeg 32)) 1 (upd (s.2.2 1) (x : Int32).toNatClampNeg 0)) (x + 1) (by omega) (by omega) (by omega)
      rw [i1, i2, e1]
      exact ⟨shf_up h0 (by omega) (by decide) (by rw [if_neg (by omega)]), shf_up h0 (by omega) (by decide) (by rw [if_neg (by omega)])⟩
/-- the desk's page after a shift -/
def shD (σ : St) (A B D : Int) : St := (σ.1, σ.2.1, fun j => if j = (if σ.2.1 2 = true then 2 else 0) then shf A B D 32 (σ.2.2 j) else if j = (if σ.2.1 2 = true then 3 else 1) then shf A B D 0 (σ.2.2 j) else σ.2.2 j)
theorem shD_of {σ : St} {A B D : Int} {T3 T2 : St} (h3 : T3.2.2 0 = shf A B D 32 (σ.2.2 2) ∧ T3.2.2 1 = shf A B D 0 (σ.2.2 3)) (h2 : T2.2.2 0 = shf A B D 32 (σ.2.2 0) ∧ T2.2.2 1 = shf A B D 0 (σ.2.2 1)) :
    (σ.1, σ.2.1, (if σ.2.1 2 = true then putP3 σ T3 else putP2 σ T2).2.2) = shD σ A B D := by
  unfold shD
  refine Prod.ext rfl (Prod.ext rfl ?_)
  funext j
  by_cases h : σ.2.1 2 = true
  · simp only [h, if_true, putP3]
    show (if j = 3 then T3.2.2 1 else if j = 2 then T3.2.2 0 else σ.2.2 j) = _
    by_cases h2 : j = 2
    · subst h2; rw [if_neg (by decide), if_pos rfl, if_pos rfl]; exact h3.1
    · by_cases h4 : j = 3
      · subst h4; rw [if_pos rfl, if_neg (by decide), if_pos rfl]; exact h3.2
      · rw [if_neg h4, if_neg h2, if_neg h2, if_neg h4]
  · simp only [h, putP2]
    show (if j = 1 then T2.2.2 1 else if j = 0 then T2.2.2 0 else σ.2.2 j) = _
    by_cases h2' : j = 0
    · subst h2'; rw [if_neg (by decide), if_pos rfl, if_pos (by rfl)]; exact h2.1
    · by_cases h4 : j = 1
      · subst h4; rw [if_pos rfl, if_neg (by decide), if_pos (by rfl)]; exact h2.2
      · rw [if_neg h4, if_neg h2', if_neg (by simpa using h2'), if_neg (by simpa using h4)]
theorem pull_sh (σ : St) (a b d : Int32) (ha : 0 ≤ a.toInt) (ha2 : a.toInt ≤ 96) (hb : b.toInt ≤ 95) (hd : R2 0 1000000 d) : q_X3_pull_pg σ a b d = shD σ a.toInt b.toInt d.toInt := by
  have na : ¬ a < 0 := by rw [ti_lt]; show ¬ a.toInt < 0; omega
  have nb : ¬ 96 ≤ b := by rw [ti_le]; show ¬ 96 ≤ b.toInt; omega
  have nd : 0 ≤ d := by rw [ti_le]; exact hd.1
  have e : ∀ s : St, p_X3_pull s a b d = (p_X3_pull_l4 s a b d 96 s a).1 := fun s => by unfold p_X3_pull; rw [if_neg na, if_neg nb, if_pos nd]
  unfold q_X3_pull_pg q_X3_pull_P3 q_X3_pull_P2
  rw [e, e]
  exact shD_of (pull_cl _ a b d hb hd 96 (subP3 σ) a ha ha2 (by omega)) (pull_cl _ a b d hb hd 96 (subP2 σ) a ha ha2 (by omega))
theorem push_sh (σ : St) (a b d : Int32) (ha : 0 ≤ a.toInt) (hb0 : -1 ≤ b.toInt) (hb : b.toInt ≤ 95) (hd : R2 0 1000000 d) : q_X3_push_pg σ a b d = shD σ a.toInt b.toInt (-d.toInt) := by
  have na : ¬ a < 0 := by rw [ti_lt]; show ¬ a.toInt < 0; omega
  have nb : ¬ 96 ≤ b := by rw [ti_le]; show ¬ 96 ≤ b.toInt; omega
  have nd : 0 ≤ d := by rw [ti_le]; exact hd.1
  have e : ∀ s : St, p_X3_push s a b d = (p_X3_push_l4 s a b d 96 s b).1 := fun s => by unfold p_X3_push; rw [if_neg na, if_neg nb, if_pos nd]
  unfold q_X3_push_pg q_X3_push_P3 q_X3_push_P2
  rw [e, e]
  exact shD_of (push_cl _ a b d ha hd 96 (subP3 σ) b hb0 hb (by omega)) (push_cl _ a b d ha hd 96 (subP2 σ) b hb0 hb (by omega))
theorem clear_sh (σ : St) (a b : Int32) (ha : 0 ≤ a.toInt) (ha2 : a.toInt ≤ 96) (hb : b.toInt ≤ 95) : q_X3_clear_pg σ a b = shD σ a.toInt b.toInt 1000 := by
  have na : ¬ a < 0 := by rw [ti_lt]; show ¬ a.toInt < 0; omega
  have nb : b < 96 := by rw [ti_lt]; show b.toInt < 96; omega
  have e : ∀ s : St, p_X3_clear s a b = (p_X3_clear_l1 s a b 96 s a).1 := fun s => by unfold p_X3_clear; rw [if_neg na, if_pos nb]
  unfold q_X3_clear_pg q_X3_clear_P3 q_X3_clear_P2
  rw [e, e]
  exact shD_of (clear_cl _ a b hb 96 (subP3 σ) a ha ha2 (by omega)) (clear_cl _ a b hb 96 (subP2 σ) a ha ha2 (by omega))
