theorem R2.s {lo hi : Int} {x : Int32} (h : R2 lo hi x) (h1 : -1000 ≤ lo) (h2 : hi ≤ 1000) : R2 (lo + 1) (hi + 1) (x + 1) := by
  have a := h.1
  have b := h.2
  have z : (1 : Int32).toInt = 1 := by decide
  have e := ti_add (a := x) (b := 1) (by omega) (by omega)
  exact ⟨by omega, by omega⟩
theorem R2.w {lo hi lo' hi' : Int} {x : Int32} (h : R2 lo hi x) (h1 : lo' ≤ lo) (h2 : hi ≤ hi') : R2 lo' hi' x := ⟨Int.le_trans h1 h.1, Int.le_trans h.2 h2⟩
/-- what stays in its range -/
def OkM (σ : St) : Prop := R2 0 1 (σ.1 4) ∧ R2 0 7 (σ.1 5) ∧ R2 0 11 (σ.1 6) ∧ R2 0 7 (σ.1 7) ∧ R2 0 7 (σ.1 8) ∧ R2 0 7 (σ.1 18) ∧ R2 0 11 (σ.1 19) ∧ R2 0 64 (σ.1 28) ∧ R2 0 16 (σ.1 31) ∧ R2 0 16 (σ.1 32) ∧ R2 0 100 (σ.1 37) ∧ (∀ i : Nat, i < 6 → R2 0 9999 (σ.2.2 8 i))
/-- only the pages' rows and their copies (arrays 0 to 3) differ -/
def FrA (a b : St) : Prop := a.1 = b.1 ∧ a.2.1 = b.2.1 ∧ ∀ j : Nat, 4 ≤ j → a.2.2 j = b.2.2 j
theorem FrA.rf (a : St) : FrA a a := ⟨rfl, rfl, fun _ _ => rfl⟩
theorem FrA.tr {a b c : St} (h : FrA a b) (g : FrA b c) : FrA a c := ⟨h.1.trans g.1, h.2.1.trans g.2.1, fun j hj => (h.2.2 j hj).trans (g.2.2 j hj)⟩
theorem FrA.sa {a : St} {k : Nat} {f : Nat → Int32} (hk : k < 4) : FrA (sa a k f) a := ⟨rfl, rfl, fun j hj => by show (if j = k then f else a.2.2 j) = a.2.2 j; rw [if_neg (by omega)]⟩
theorem okm_fr {a b : St} (h : FrA a b) (hM : OkM b) : OkM a := by
  unfold OkM
  rw [h.1, h.2.2 8 (by decide)]
  exact hM
theorem fr_blank (σ : St) (a : Int32) : FrA (p_X8_blank σ a) σ := (FrA.sa (by decide)).tr (FrA.sa (by decide))
theorem fr_recall (σ : St) (a b : Int32) : FrA (p_X8_recall σ a b) σ := (FrA.sa (by decide)).tr (FrA.sa (by decide))
theorem fr_rem_l (σ : St) : ∀ (n : Nat) (s : St) (x : Int32), FrA (p_X8_remember_l1 σ n s x).1 s := by
  intro n
  induction n with
  | zero => intro s x; exact FrA.rf s
  | succ n ih =>
    intro s x
    rw [p_X8_remember_l1]
    by_cases h : (96 : Int32) ≤ x
    · rw [if_pos h]; exact FrA.rf s
    · rw [if_neg h]; exact (ih _ _).tr ((FrA.sa (by decide)).tr (FrA.sa (by decide)))
theorem fr_rem (σ : St) : FrA (p_X8_remember σ) σ := fr_rem_l σ 96 σ 0
theorem fr_sr2 (σ : St) (p1 p2 : Int32) (s : St) (x3 : Int32) : ∀ (n : Nat) (q : St) (x : Int32), FrA (p_X8_shiftRows_l2 σ p1 p2 s x3 n q x).1 q := by
  intro n
  induction n with
  | zero => intro q x; exact FrA.rf q
  | succ n ih =>
    intro q x
    rw [p_X8_shiftRows_l2]
    by_cases h : (12 : Int32) ≤ x
    · rw [if_pos h]; exact FrA.rf q
    · rw [if_neg h]; exact (ih _ _).tr (fr_recall _ _ _)
theorem fr_sr3 (σ : St) (p1 p2 : Int32) : ∀ (n : Nat) (s : St) (x : Int32), FrA (p_X8_shiftRows_l3 σ p1 p2 n s x).1 s := by
  intro n
  induction n with
  | zero => intro s x; exact FrA.rf s
  | succ n ih =>
    intro s x
    rw [p_X8_shiftRows_l3]
    by_cases h : s.1 8 < x
    · rw [if_pos h]; exact FrA.rf s
    · rw [if_neg h]; exact (ih _ _).tr (fr_sr2 _ _ _ _ _ _ _ _)
theorem fr_shiftRows (σ : St) (p1 p2 : Int32) : FrA (p_X8_shiftRows σ p1 p2) σ := (fr_sr3 σ p1 p2 8 _ _).tr (fr_rem σ)
theorem fr_sc2 (σ : St) (p1 : Int32) : ∀ (n : Nat) (s : St) (x : Int32), FrA (p_X8_shiftCells_l2 σ p1 n s x).1 s := by
  intro n
  induction n with
  | zero => intro s x; exact FrA.rf s
  | succ n ih =>
    intro s x
    rw [p_X8_shiftCells_l2]
    by_cases h : (12 : Int32) ≤ x
    · rw [if_pos h]; exact FrA.rf s
    · rw [if_neg h]; exact (ih _ _).tr (fr_recall _ _ _)
theorem fr_shiftCells (σ : St) (p1 : Int32) : FrA (p_X8_shiftCells σ p1) σ := (fr_sc2 σ p1 12 _ _).tr (fr_rem σ)
theorem fr_cl1 (σ : St) (p1 p2 : Int32) : ∀ (n : Nat) (s : St) (x : Int32), FrA (p_X8_clear_l1 σ p1 p2 n s x).1 s := by
  intro n
  induction n with
  | zero => intro s x; exact FrA.rf s
  | succ n ih =>
    intro s x
    rw [p_X8_clear_l1]
    by_cases h : p2 < x
    · rw [if_pos h]; exact FrA.rf s
    · rw [if_neg h]; exact (ih _ _).tr (fr_blank _ _)
theorem fr_clear (σ : St) (p1 p2 : Int32) : FrA (p_X8_clear σ p1 p2) σ := fr_cl1 σ p1 p2 96 σ p1
theorem okm_sb {σ : St} (k : Nat) (v : Bool) (h : OkM σ) : OkM (sb σ k v) := h
theorem okm_row {σ : St} {v : Int32} (hv : R2 0 7 v) (h : OkM σ) : OkM (si σ 5 v) := ⟨h.1, hv, h.2.2⟩
theorem okm_col {σ : St} {v : Int32} (hv : R2 0 11 v) (h : OkM σ) : OkM (si σ 6 v) := ⟨h.1, h.2.1, hv, h.2.2.2⟩
theorem okm_place {σ : St} {r c : Int32} (hr : R2 0 7 r) (hc : R2 0 11 c) (h : OkM σ) : OkM (p_X8_place σ r c) := okm_sb _ _ (okm_col hc (okm_row hr h))
theorem okm_setPen {σ : St} {v : Int32} (h : OkM σ) : OkM (p_X8_setPen σ v) := h
theorem okm_save {σ : St} (h : OkM σ) : OkM (p_X8_save σ) := ⟨h.1, h.2.1, h.2.2.1, h.2.2.2.1, h.2.2.2.2.1, h.2.1, h.2.2.1, h.2.2.2.2.2.2.2⟩
theorem okm_bring {σ : St} (h : OkM σ) : OkM (p_X8_bring σ) := okm_sb _ _ (okm_setPen (okm_sb _ _ (okm_place h.2.2.2.2.2.1 h.2.2.2.2.2.2.1 h)))
theorem okm_ite {c : Prop} [Decidable c] {a b : St} (h1 : c → OkM a) (h2 : ¬ c → OkM b) : OkM (if c then a else b) := by
  by_cases h : c
  · rw [if_pos h]; exact h1 h
  · rw [if_neg h]; exact h2 h
theorem R2.ite {c : Prop} [Decidable c] {lo hi : Int} {a b : Int32} (h1 : c → R2 lo hi a) (h2 : ¬ c → R2 lo hi b) : R2 lo hi (if c then a else b) := by
  by_cases h : c
  · rw [if_pos h]; exact h1 h
  · rw [if_neg h]; exact h2 h
theorem R2.lit (n : Int32) {lo hi : Int} (h : decide (lo ≤ n.toInt ∧ n.toInt ≤ hi) = true) : R2 lo hi n := (of_decide_eq_true h : lo ≤ n.toInt ∧ n.toInt ≤ hi)
theorem at_in {g r c : Int32} (hg : R2 0 1 g) (hr : R2 0 7 r) (hc : R2 0 11 c) : vp_in (96 * g + 12 * r + c) 192 := by
  have z : (12 : Int32).toInt = 12 := by decide
  have z9 : (96 : Int32).toInt = 96 := by decide
  have a := hr.1
  have b := hr.2
  have a2 := hc.1
  have b2 := hc.2
  have a3 := hg.1
  have b3 := hg.2
  have e1 : (12 * r).toInt = 12 * r.toInt := by rw [ti_mul (by rw [z]; omega) (by rw [z]; omega), z]
  have e2 : (96 * g).toInt = 96 * g.toInt := by rw [ti_mul (by rw [z9]; omega) (by rw [z9]; omega), z9]
  have e3 := ti_add (a := 96 * g) (b := 12 * r) (by omega) (by omega)
  have e4 := ti_add (a := 96 * g + 12 * r) (b := c) (by omega) (by omega)
  exact vp_in_iff.mpr (by omega)

def p_X8_feeding_s1 (σ : St) : St := (if σ.1 5 = σ.1 8 then (p_X8_shiftRows σ (σ.1 7) 1) else (if 7 ≤ σ.1 5 then σ else si σ 5 ((σ.1 5) + 1)))
def p_X8_feeding (σ : St) : St := sb (p_X8_feeding_s1 σ) 9 false
set_option maxHeartbeats 4000000 in
set_option maxRecDepth 100000 in
theorem c_X8_feeding (l : Launch) (K : KX) (ad : Nat → Nat) (σ : St) (hM : OkM σ) : Mt l K yX8_feeding cX8_feeding 1 none { frames := 2, cells := 0, slots := 0, locals := 48 } [.ref (ad 0)] (WdM K ad σ) none (WdM K ad (p_X8_feeding σ)) := by
  refine Mt.v (by decide +kernel) (Nat.le_of_ble_eq_true rfl) (fun X C hret => ?_)
  show WD X K 1 0 0 (WdM K ad σ) [(0, .ref (ad 0))] 0 []
  refine wd_aload_n C dX8_feeding_0 rfl 0 rfl ?_
  refine gfM_0_5 (x := σ.1 5) C tw_824 rfl dX8_feeding_1 ?_
  refine wd_aload_n C dX8_feeding_4 rfl 0 rfl ?_
  refine gfM_0_8 (x := σ.1 8) C tw_827 rfl dX8_feeding_5 ?_
  have J_8 : WD X K 1 0 0 (WdM K ad (p_X8_feeding_s1 σ)) [(0, .ref (ad 0))] 42 [] := by
    refine wd_aload_n C dX8_feeding_42 rfl 0 rfl ?_
    refine wd_iconst (v := 0) C dX8_feeding_43 (by decide) ?_
    refine pfM_0_9 C tw_828 false dX8_feeding_44 ?_
    have e9 : p_X8_feeding σ = sb (p_X8_feeding_s1 σ) 9 false := by rfl
    exact hret _ _ _ (by rw [e9] <;> rfl) dX8_feeding_47
  refine wd_icmp_ne C 23 dX8_feeding_8 (by decide) (fun c_8 => ?_) (fun c_8 => ?_)
  · refine wd_aload_n C dX8_feeding_23 rfl 0 rfl ?_
    refine gfM_0_5 (x := σ.1 5) C tw_824 rfl dX8_feeding_24 ?_
    refine wd_bipush (v := 7) C dX8_feeding_27 (by decide) ?_
    refine wd_icmp_ge C 42 dX8_feeding_29 (by decide) (fun c_29 => ?_) (fun c_29 => ?_)
    · have ej_0 : p_X8_feeding_s1 σ = σ := by unfold p_X8_feeding_s1; rw [if_neg c_8, if_pos c_29]
      rw [ej_0] at J_8
      exact wd_lv [0] _ rfl J_8
    · refine wd_aload_n C dX8_feeding_32 rfl 0 rfl ?_
      refine wd_aload_n C dX8_feeding_33 rfl 0 rfl ?_
      refine gfM_0_5 (x := σ.1 5) C tw_824 rfl dX8_feeding_34 ?_
      refine wd_iconst (v := 1) C dX8_feeding_37 (by decide) ?_
      refine wd_iadd C dX8_feeding_38 ?_
      refine pfM_0_5 C tw_824 ((σ.1 5) + 1) dX8_feeding_39 ?_
      have ej_0 : p_X8_feeding_s1 σ = si σ 5 ((σ.1 5) + 1) := by unfold p_X8_feeding_s1; rw [if_neg c_8, if_neg c_29]
      rw [ej_0] at J_8
      exact wd_lv [0] _ rfl J_8
  · refine wd_aload_n C dX8_feeding_11 rfl 0 rfl ?_
    refine wd_aload_n C dX8_feeding_12 rfl 0 rfl ?_
    refine gfM_0_7 (x := σ.1 7) C tw_826 rfl dX8_feeding_13 ?_
    refine wd_iconst (v := 1) C dX8_feeding_16 (by decide) ?_
    refine wd_callV C 2 (c_X8_shiftRows _ K ad σ (σ.1 7) 1 (hM.1) (hM.2.2.2.2.1) (hM.2.2.2.1)) 0 (wcM_0 K ad _) rfl rfl tw_970 tw_972 tw_38 tw_72 tw_973 (by decide +kernel) rfl (by decide) (Nat.le_of_ble_eq_true rfl) dX8_feeding_17 _ rfl ?_
    refine wd_goto C 42 dX8_feeding_20 (by decide) ?_
    have ej_0 : p_X8_feeding_s1 σ = (p_X8_shiftRows σ (σ.1 7) 1) := by unfold p_X8_feeding_s1; rw [if_pos c_8]
    rw [ej_0] at J_8
    exact wd_lv [0] _ rfl J_8
theorem okm_feeding {σ : St} (hM : OkM σ) : OkM (p_X8_feeding σ) := by
  unfold p_X8_feeding p_X8_feeding_s1
  refine okm_sb _ _ (okm_ite (fun _ => okm_fr (fr_shiftRows _ _ _) hM) fun _ => okm_ite (fun _ => hM) fun h => okm_row ?_ hM)
  rw [ti_le] at h
  have z : (7 : Int32).toInt = 7 := by decide
  have a := hM.2.1.1
  have b := hM.2.1.2
  exact (show R2 0 6 (σ.1 5) from ⟨a, by omega⟩).s (by decide) (by decide) |>.w (by decide) (by decide)
def p_X8_backing_s1 (σ : St) : St := (if σ.1 5 = σ.1 7 then (p_X8_shiftRows σ (σ.1 7) (-1)) else (if σ.1 5 ≤ 0 then σ else si σ 5 ((σ.1 5) - 1)))
def p_X8_backing (σ : St) : St := sb (p_X8_backing_s1 σ) 9 false
set_option maxHeartbeats 4000000 in
set_option maxRecDepth 100000 in
theorem c_X8_backing (l : Launch) (K : KX) (ad : Nat → Nat) (σ : St) (hM : OkM σ) : Mt l K yX8_backing cX8_backing 1 none { frames := 2, cells := 0, slots := 0, locals := 48 } [.ref (ad 0)] (WdM K ad σ) none (WdM K ad (p_X8_backing σ)) := by
  refine Mt.v (by decide +kernel) (Nat.le_of_ble_eq_true rfl) (fun X C hret => ?_)
  show WD X K 1 0 0 (WdM K ad σ) [(0, .ref (ad 0))] 0 []
  refine wd_aload_n C dX8_backing_0 rfl 0 rfl ?_
  refine gfM_0_5 (x := σ.1 5) C tw_824 rfl dX8_backing_1 ?_
  refine wd_aload_n C dX8_backing_4 rfl 0 rfl ?_
  refine gfM_0_7 (x := σ.1 7) C tw_826 rfl dX8_backing_5 ?_
  have J_8 : WD X K 1 0 0 (WdM K ad (p_X8_backing_s1 σ)) [(0, .ref (ad 0))] 40 [] := by
    refine wd_aload_n C dX8_backing_40 rfl 0 rfl ?_
    refine wd_iconst (v := 0) C dX8_backing_41 (by decide) ?_
    refine pfM_0_9 C tw_828 false dX8_backing_42 ?_
    have e9 : p_X8_backing σ = sb (p_X8_backing_s1 σ) 9 false := by rfl
    exact hret _ _ _ (by rw [e9] <;> rfl) dX8_backing_45
  refine wd_icmp_ne C 23 dX8_backing_8 (by decide) (fun c_8 => ?_) (fun c_8 => ?_)
  · refine wd_aload_n C dX8_backing_23 rfl 0 rfl ?_
    refine gfM_0_5 (x := σ.1 5) C tw_824 rfl dX8_backing_24 ?_
    refine wd_if_le C 40 dX8_backing_27 (by decide) (fun c_27 => ?_) (fun c_27 => ?_)
    · have ej_0 : p_X8_backing_s1 σ = σ := by unfold p_X8_backing_s1; rw [if_neg c_8, if_pos c_27]
      rw [ej_0] at J_8
      exact wd_lv [0] _ rfl J_8
    · refine wd_aload_n C dX8_backing_30 rfl 0 rfl ?_
      refine wd_aload_n C dX8_backing_31 rfl 0 rfl ?_
      refine gfM_0_5 (x := σ.1 5) C tw_824 rfl dX8_backing_32 ?_
      refine wd_iconst (v := 1) C dX8_backing_35 (by decide) ?_
      refine wd_isub C dX8_backing_36 ?_
      refine pfM_0_5 C tw_824 ((σ.1 5) - 1) dX8_backing_37 ?_
      have ej_0 : p_X8_backing_s1 σ = si σ 5 ((σ.1 5) - 1) := by unfold p_X8_backing_s1; rw [if_neg c_8, if_neg c_27]
      rw [ej_0] at J_8
      exact wd_lv [0] _ rfl J_8
  · refine wd_aload_n C dX8_backing_11 rfl 0 rfl ?_
    refine wd_aload_n C dX8_backing_12 rfl 0 rfl ?_
    refine gfM_0_7 (x := σ.1 7) C tw_826 rfl dX8_backing_13 ?_
    refine wd_iconst (v := (-1)) C dX8_backing_16 (by decide) ?_
    refine wd_callV C 2 (c_X8_shiftRows _ K ad σ (σ.1 7) (-1) (hM.1) (hM.2.2.2.2.1) (hM.2.2.2.1)) 0 (wcM_0 K ad _) rfl rfl tw_970 tw_972 tw_38 tw_72 tw_973 (by decide +kernel) rfl (by decide) (Nat.le_of_ble_eq_true rfl) dX8_backing_17 _ rfl ?_
    refine wd_goto C 40 dX8_backing_20 (by decide) ?_
    have ej_0 : p_X8_backing_s1 σ = (p_X8_shiftRows σ (σ.1 7) (-1)) := by unfold p_X8_backing_s1; rw [if_pos c_8]
    rw [ej_0] at J_8
    exact wd_lv [0] _ rfl J_8
theorem okm_backing {σ : St} (hM : OkM σ) : OkM (p_X8_backing σ) := by
  unfold p_X8_backing p_X8_backing_s1
  refine okm_sb _ _ (okm_ite (fun _ => okm_fr (fr_shiftRows _ _ _) hM) fun _ => okm_ite (fun _ => hM) fun h => okm_row ?_ hM)
  rw [ti_le] at h
  have z : (0 : Int32).toInt = 0 := by decide
  have z1 : (1 : Int32).toInt = 1 := by decide
  have a := hM.2.1.1
  have b := hM.2.1.2
  have e := ti_sub (a := σ.1 5) (b := 1) (by omega) (by omega)
  exact ⟨by omega, by omega⟩
def p_X8_print_s1 (σ : St) (p1 : Int32) : St := (if σ.2.1 9 = true then (p_X8_feeding (si σ 6 0)) else σ)
def p_X8_print_s2 (σ : St) (p1 : Int32) : St := (if (p_X8_print_s1 σ p1).2.1 10 = true then (p_X8_shiftCells (p_X8_print_s1 σ p1) (-1)) else (p_X8_print_s1 σ p1))
def p_X8_print_s3 (σ : St) (p1 : Int32) : St := (if 11 ≤ (p_X8_print_s2 σ p1).1 6 then sb (sa (sa (p_X8_print_s2 σ p1) 0 (upd ((p_X8_print_s2 σ p1).2.2 0) (((96 * ((p_X8_print_s2 σ p1).1 4)) + (12 * ((p_X8_print_s2 σ p1).1 5))) + ((p_X8_print_s2 σ p1).1 6) : Int32).toNatClampNeg p1)) 1 (upd ((p_X8_print_s2 σ p1).2.2 1) (((96 * ((p_X8_print_s2 σ p1).1 4)) + (12 * ((p_X8_print_s2 σ p1).1 5))) + ((p_X8_print_s2 σ p1).1 6) : Int32).toNatClampNeg ((p_X8_penNow (sa (p_X8_print_s2 σ p1) 0 (upd ((p_X8_print_s2 σ p1).2.2 0) (((96 * ((p_X8_print_s2 σ p1).1 4)) + (12 * ((p_X8_print_s2 σ p1).1 5))) + ((p_X8_print_s2 σ p1).1 6) : Int32).toNatClampNeg p1)))))) 9 ((p_X8_print_s2 σ p1).2.1 12) else si (sa (sa (p_X8_print_s2 σ p1) 0 (upd ((p_X8_print_s2 σ p1).2.2 0) (((96 * ((p_X8_print_s2 σ p1).1 4)) + (12 * ((p_X8_print_s2 σ p1).1 5))) + ((p_X8_print_s2 σ p1).1 6) : Int32).toNatClampNeg p1)) 1 (upd ((p_X8_print_s2 σ p1).2.2 1) (((96 * ((p_X8_print_s2 σ p1).1 4)) + (12 * ((p_X8_print_s2 σ p1).1 5))) + ((p_X8_print_s2 σ p1).1 6) : Int32).toNatClampNeg ((p_X8_penNow (sa (p_X8_print_s2 σ p1) 0 (upd ((p_X8_print_s2 σ p1).2.2 0) (((96 * ((p_X8_print_s2 σ p1).1 4)) + (12 * ((p_X8_print_s2 σ p1).1 5))) + ((p_X8_print_s2 σ p1).1 6) : Int32).toNatClampNeg p1)))))) 6 (((p_X8_print_s2 σ p1).1 6) + 1))
def p_X8_print (σ : St) (p1 : Int32) : St := si (p_X8_print_s3 σ p1) 25 p1
theorem okm_ps1 {σ : St} (p1 : Int32) (hM : OkM σ) : OkM (p_X8_print_s1 σ p1) := by
  unfold p_X8_print_s1
  exact okm_ite (fun _ => okm_feeding (okm_col (R2.lit 0 (by decide)) hM)) fun _ => hM
theorem okm_ps2 {σ : St} (p1 : Int32) (hM : OkM σ) : OkM (p_X8_print_s2 σ p1) := by
  unfold p_X8_print_s2
  exact okm_ite (fun _ => okm_fr (fr_shiftCells _ _) (okm_ps1 p1 hM)) fun _ => okm_ps1 p1 hM
set_option maxHeartbeats 4000000 in
set_option maxRecDepth 100000 in
theorem c_X8_print (l : Launch) (K : KX) (ad : Nat → Nat) (σ : St) (p1 : Int32) (hM : OkM σ) : Mt l K yX8_print cX8_print 3 none { frames := 3, cells := 0, slots := 0, locals := 68 } [.ref (ad 0), .int p1] (WdM K ad σ) none (WdM K ad (p_X8_print σ p1)) := by
  refine Mt.v (by decide +kernel) (Nat.le_of_ble_eq_true rfl) (fun X C hret => ?_)
  show WD X K 3 0 0 (WdM K ad σ) [(0, .ref (ad 0)), (1, .int p1)] 0 []
  refine wd_aload_n C dX8_print_0 rfl 0 rfl ?_
  refine gfM_0_9 (x := σ.2.1 9) C tw_828 rfl dX8_print_1 ?_
  have J_4 : WD X K 3 0 0 (WdM K ad (p_X8_print_s1 σ p1)) [(0, .ref (ad 0)), (1, .int p1)] 16 [] := by
    refine wd_aload_n C dX8_print_16 rfl 0 rfl ?_
    refine gfM_0_10 (x := (p_X8_print_s1 σ p1).2.1 10) C tw_829 rfl dX8_print_17 ?_
    have J_20 : WD X K 3 0 0 (WdM K ad (p_X8_print_s2 σ p1)) [(0, .ref (ad 0)), (1, .int p1)] 28 [] := by
      refine wd_bipush (v := 96) C dX8_print_28 (by decide) ?_
      refine wd_aload_n C dX8_print_30 rfl 0 rfl ?_
      refine gfM_0_4 (x := (p_X8_print_s2 σ p1).1 4) C tw_823 rfl dX8_print_31 ?_
      refine wd_imul C dX8_print_34 ?_
      refine wd_bipush (v := 12) C dX8_print_35 (by decide) ?_
      refine wd_aload_n C dX8_print_37 rfl 0 rfl ?_
      refine gfM_0_5 (x := (p_X8_print_s2 σ p1).1 5) C tw_824 rfl dX8_print_38 ?_
      refine wd_imul C dX8_print_41 ?_
      refine wd_iadd C dX8_print_42 ?_
      refine wd_aload_n C dX8_print_43 rfl 0 rfl ?_
      refine gfM_0_6 (x := (p_X8_print_s2 σ p1).1 6) C tw_825 rfl dX8_print_44 ?_
      refine wd_iadd C dX8_print_47 ?_
      refine wd_istore_n C [(2, .int (((96 * ((p_X8_print_s2 σ p1).1 4)) + (12 * ((p_X8_print_s2 σ p1).1 5))) + ((p_X8_print_s2 σ p1).1 6))), (0, .ref (ad 0)), (1, .int p1)] dX8_print_48 rfl (by decide) rfl ?_
      refine wd_aload_n C dX8_print_49 rfl 1 rfl ?_
      refine gfM_0_0 C tw_819 dX8_print_50 ?_
      refine wd_iload_n C dX8_print_53 rfl 0 rfl ?_
      refine wd_iload_n C dX8_print_54 rfl 2 rfl ?_
      refine asM_1 (f := (p_X8_print_s2 σ p1).2.2 0) C (at_in (okm_ps2 p1 hM).1 (okm_ps2 p1 hM).2.1 (okm_ps2 p1 hM).2.2.1) rfl dX8_print_55 ?_
      refine wd_aload_n C dX8_print_56 rfl 1 rfl ?_
      refine gfM_0_1 C tw_820 dX8_print_57 ?_
      refine wd_iload_n C dX8_print_60 rfl 0 rfl ?_
      refine wd_aload_n C dX8_print_61 rfl 1 rfl ?_
      refine wd_callV C 0 (c_X8_penNow _ K ad (sa (p_X8_print_s2 σ p1) 0 (upd ((p_X8_print_s2 σ p1).2.2 0) (((96 * ((p_X8_print_s2 σ p1).1 4)) + (12 * ((p_X8_print_s2 σ p1).1 5))) + ((p_X8_print_s2 σ p1).1 6) : Int32).toNatClampNeg p1))) 0 (wcM_0 K ad _) rfl rfl tw_815 tw_817 tw_33 tw_72 tw_818 (by decide +kernel) rfl (by decide) (Nat.le_of_ble_eq_true rfl) dX8_print_62 _ rfl ?_
      refine asM_2 (f := (p_X8_print_s2 σ p1).2.2 1) C (at_in (okm_ps2 p1 hM).1 (okm_ps2 p1 hM).2.1 (okm_ps2 p1 hM).2.2.1) rfl dX8_print_65 ?_
      refine wd_aload_n C dX8_print_66 rfl 1 rfl ?_
      refine gfM_0_6 (x := (p_X8_print_s2 σ p1).1 6) C tw_825 rfl dX8_print_67 ?_
      refine wd_bipush (v := 11) C dX8_print_70 (by decide) ?_
      have J_72 : WD X K 3 0 0 (WdM K ad (p_X8_print_s3 σ p1)) [(0, .ref (ad 0)), (1, .int p1), (2, .int (((96 * ((p_X8_print_s2 σ p1).1 4)) + (12 * ((p_X8_print_s2 σ p1).1 5))) + ((p_X8_print_s2 σ p1).1 6)))] 96 [] := by
        refine wd_aload_n C dX8_print_96 rfl 0 rfl ?_
        refine wd_iload_n C dX8_print_97 rfl 1 rfl ?_
        refine pfM_0_25 C tw_844 p1 dX8_print_98 ?_
        have e9 : p_X8_print σ p1 = si (p_X8_print_s3 σ p1) 25 p1 := by rfl
        exact hret _ _ _ (by rw [e9] <;> rfl) dX8_print_101
      refine wd_icmp_ge C 88 dX8_print_72 (by decide) (fun c_72 => ?_) (fun c_72 => ?_)
      · refine wd_aload_n C dX8_print_88 rfl 1 rfl ?_
        refine wd_aload_n C dX8_print_89 rfl 1 rfl ?_
        refine gfM_0_12 (x := (p_X8_print_s2 σ p1).2.1 12) C tw_831 rfl dX8_print_90 ?_
        refine pfM_0_9 C tw_828 ((p_X8_print_s2 σ p1).2.1 12) dX8_print_93 ?_
        have ej_0 : p_X8_print_s3 σ p1 = sb (sa (sa (p_X8_print_s2 σ p1) 0 (upd ((p_X8_print_s2 σ p1).2.2 0) (((96 * ((p_X8_print_s2 σ p1).1 4)) + (12 * ((p_X8_print_s2 σ p1).1 5))) + ((p_X8_print_s2 σ p1).1 6) : Int32).toNatClampNeg p1)) 1 (upd ((p_X8_print_s2 σ p1).2.2 1) (((96 * ((p_X8_print_s2 σ p1).1 4)) + (12 * ((p_X8_print_s2 σ p1).1 5))) + ((p_X8_print_s2 σ p1).1 6) : Int32).toNatClampNeg ((p_X8_penNow (sa (p_X8_print_s2 σ p1) 0 (upd ((p_X8_print_s2 σ p1).2.2 0) (((96 * ((p_X8_print_s2 σ p1).1 4)) + (12 * ((p_X8_print_s2 σ p1).1 5))) + ((p_X8_print_s2 σ p1).1 6) : Int32).toNatClampNeg p1)))))) 9 ((p_X8_print_s2 σ p1).2.1 12) := by unfold p_X8_print_s3; rw [if_pos c_72]
        rw [ej_0] at J_72
        exact wd_lv [1, 2, 0] _ rfl J_72
      · refine wd_aload_n C dX8_print_75 rfl 1 rfl ?_
        refine wd_aload_n C dX8_print_76 rfl 1 rfl ?_
        refine gfM_0_6 (x := (p_X8_print_s2 σ p1).1 6) C tw_825 rfl dX8_print_77 ?_
        refine wd_iconst (v := 1) C dX8_print_80 (by decide) ?_
        refine wd_iadd C dX8_print_81 ?_
        refine pfM_0_6 C tw_825 (((p_X8_print_s2 σ p1).1 6) + 1) dX8_print_82 ?_
        refine wd_goto C 96 dX8_print_85 (by decide) ?_
        have ej_0 : p_X8_print_s3 σ p1 = si (sa (sa (p_X8_print_s2 σ p1) 0 (upd ((p_X8_print_s2 σ p1).2.2 0) (((96 * ((p_X8_print_s2 σ p1).1 4)) + (12 * ((p_X8_print_s2 σ p1).1 5))) + ((p_X8_print_s2 σ p1).1 6) : Int32).toNatClampNeg p1)) 1 (upd ((p_X8_print_s2 σ p1).2.2 1) (((96 * ((p_X8_print_s2 σ p1).1 4)) + (12 * ((p_X8_print_s2 σ p1).1 5))) + ((p_X8_print_s2 σ p1).1 6) : Int32).toNatClampNeg ((p_X8_penNow (sa (p_X8_print_s2 σ p1) 0 (upd ((p_X8_print_s2 σ p1).2.2 0) (((96 * ((p_X8_print_s2 σ p1).1 4)) + (12 * ((p_X8_print_s2 σ p1).1 5))) + ((p_X8_print_s2 σ p1).1 6) : Int32).toNatClampNeg p1)))))) 6 (((p_X8_print_s2 σ p1).1 6) + 1) := by unfold p_X8_print_s3; rw [if_neg c_72]
        rw [ej_0] at J_72
        exact wd_lv [1, 2, 0] _ rfl J_72
    refine wd_if_eqB (b := (p_X8_print_s1 σ p1).2.1 10) C 28 dX8_print_20 (by decide) (fun c_20 => ?_) (fun c_20 => ?_)
    · have ej_0 : p_X8_print_s2 σ p1 = (p_X8_print_s1 σ p1) := by unfold p_X8_print_s2; rw [if_neg c_20]
      rw [ej_0] at J_20
      exact wd_lv [0, 1] _ rfl J_20
    · refine wd_aload_n C dX8_print_23 rfl 0 rfl ?_
      refine wd_iconst (v := (-1)) C dX8_print_24 (by decide) ?_
      refine wd_callV C 1 (c_X8_shiftCells _ K ad (p_X8_print_s1 σ p1) (-1) ((okm_ps1 p1 hM).1) ((okm_ps1 p1 hM).2.1) ((okm_ps1 p1 hM).2.2.1)) 0 (wcM_0 K ad _) rfl rfl tw_982 tw_984 tw_41 tw_72 tw_985 (by decide +kernel) rfl (by decide) (Nat.le_of_ble_eq_true rfl) dX8_print_25 _ rfl ?_
      have ej_0 : p_X8_print_s2 σ p1 = (p_X8_shiftCells (p_X8_print_s1 σ p1) (-1)) := by unfold p_X8_print_s2; rw [if_pos c_20]
      rw [ej_0] at J_20
      exact wd_lv [0, 1] _ rfl J_20
  refine wd_if_eqB (b := σ.2.1 9) C 16 dX8_print_4 (by decide) (fun c_4 => ?_) (fun c_4 => ?_)
  · have ej_0 : p_X8_print_s1 σ p1 = σ := by unfold p_X8_print_s1; rw [if_neg c_4]
    rw [ej_0] at J_4
    exact wd_lv [0, 1] _ rfl J_4
  · refine wd_aload_n C dX8_print_7 rfl 0 rfl ?_
    refine wd_iconst (v := 0) C dX8_print_8 (by decide) ?_
    refine pfM_0_6 C tw_825 0 dX8_print_9 ?_
    refine wd_aload_n C dX8_print_12 rfl 0 rfl ?_
    refine wd_callV C 0 (c_X8_feeding _ K ad (si σ 6 0) (okm_col (R2.lit 0 (by decide)) hM)) 0 (wcM_0 K ad _) rfl rfl tw_966 tw_968 tw_37 tw_72 tw_969 (by decide +kernel) rfl (by decide) (Nat.le_of_ble_eq_true rfl) dX8_print_13 _ rfl ?_
    have ej_0 : p_X8_print_s1 σ p1 = (p_X8_feeding (si σ 6 0)) := by unfold p_X8_print_s1; rw [if_pos c_4]
    rw [ej_0] at J_4
    exact wd_lv [0, 1] _ rfl J_4
theorem okm_print {σ : St} (p1 : Int32) (hM : OkM σ) : OkM (p_X8_print σ p1) := by
  unfold p_X8_print
  show OkM (p_X8_print_s3 σ p1)
  unfold p_X8_print_s3
  have h2 := okm_ps2 p1 hM
  generalize p_X8_print_s2 σ p1 = τ at h2 ⊢
  refine okm_ite (fun _ => okm_sb _ _ (okm_fr ((FrA.sa (by decide)).tr (FrA.sa (by decide))) h2)) fun h => okm_col ?_ (okm_fr ((FrA.sa (by decide)).tr (FrA.sa (by decide))) h2)
  rw [ti_le] at h
  have z : (11 : Int32).toInt = 11 := by decide
  have a := h2.2.2.1.1
  have b := h2.2.2.1.2
  exact (show R2 0 10 (τ.1 6) from ⟨a, by omega⟩).s (by decide) (by decide) |>.w (by decide) (by decide)
