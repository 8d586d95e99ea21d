theorem pull_in {at_ by_ to_ : Int32} (h7 : ¬ (96 : Int32) ≤ to_) (h21 : ¬ to_ < at_) (h0 : 0 ≤ at_.toInt) (h11 : 0 ≤ by_) (hb : by_.toInt ≤ 1000000) (h : ¬ to_ - at_ < by_) : vp_in (at_ + by_) 96 := by
  simp only [ti_lt, ti_le] at *
  have z : (0 : Int32).toInt = 0 := by decide
  have z9 : (96 : Int32).toInt = 96 := by decide
  have d := ti_sub (a := to_) (b := at_) (by omega) (by omega)
  have e := ti_add (a := at_) (b := by_) (by omega) (by omega)
  exact vp_in_iff.mpr (by omega)
theorem push_in {at_ by_ to_ from_ : Int32} (h1 : ¬ from_ < 0) (h7 : ¬ (96 : Int32) ≤ to_) (h0 : at_.toInt ≤ to_.toInt) (h21 : ¬ at_ < from_) (h11 : 0 ≤ by_) (h : ¬ at_ - from_ < by_) : vp_in (at_ - by_) 96 := by
  simp only [ti_lt, ti_le] at *
  have z : (0 : Int32).toInt = 0 := by decide
  have z9 : (96 : Int32).toInt = 96 := by decide
  have d := ti_sub (a := at_) (b := from_) (by omega) (by omega)
  have r := ti_rng by_
  have e := ti_sub (a := at_) (b := by_) (by omega) (by omega)
  exact vp_in_iff.mpr (by omega)
def p_X3_put (σ : St) (p1 : Int32) (p2 : Int32) (p3 : Int32) : St := (if p1 < 0 then σ else (if p1 < 96 then sa (sa σ 0 (upd (σ.2.2 0) (p1 : Int32).toNatClampNeg p2)) 1 (upd (σ.2.2 1) (p1 : Int32).toNatClampNeg p3) else σ))
set_option maxHeartbeats 4000000 in
set_option maxRecDepth 100000 in
theorem c_X3_put (l : Launch) (K : KX) (ad : Nat → Nat) (σ : St) (p1 : Int32) (p2 : Int32) (p3 : Int32) : Mt l K yX3_put cX3_put 4 none { frames := 0, cells := 0, slots := 0, locals := 0 } [.ref (ad 0), .int p1, .int p2, .int p3] (WdP K ad σ) none (WdP K ad (p_X3_put σ p1 p2 p3)) := by
  refine Mt.v (by decide +kernel) (Nat.le_of_ble_eq_true rfl) (fun X C hret => ?_)
  show WD X K 4 0 0 (WdP K ad σ) [(0, .ref (ad 0)), (1, .int p1), (2, .int p2), (3, .int p3)] 0 []
  refine wd_iload_n C dX3_put_0 rfl 1 rfl ?_
  refine wd_if_lt C 10 dX3_put_1 (by decide) (fun c_1 => ?_) (fun c_1 => ?_)
  · have e9 : p_X3_put σ p1 p2 p3 = σ := by unfold p_X3_put; rw [if_pos c_1]
    exact hret _ _ _ (by rw [e9] <;> rfl) dX3_put_10
  · refine wd_iload_n C dX3_put_4 rfl 1 rfl ?_
    refine wd_bipush (v := 96) C dX3_put_5 (by decide) ?_
    refine wd_icmp_lt C 11 dX3_put_7 (by decide) (fun c_7 => ?_) (fun c_7 => ?_)
    · refine wd_aload_n C dX3_put_11 rfl 0 rfl ?_
      refine gfP_0_0 C tw_99 dX3_put_12 ?_
      refine wd_iload_n C dX3_put_15 rfl 1 rfl ?_
      refine wd_iload_n C dX3_put_16 rfl 2 rfl ?_
      refine asP_1 (f := σ.2.2 0) C (in_h c_1 c_7 (by decide)) rfl dX3_put_17 ?_
      refine wd_aload_n C dX3_put_18 rfl 0 rfl ?_
      refine gfP_0_1 C tw_101 dX3_put_19 ?_
      refine wd_iload_n C dX3_put_22 rfl 1 rfl ?_
      refine wd_iload_n C dX3_put_23 rfl 3 rfl ?_
      refine asP_2 (f := σ.2.2 1) C (in_h c_1 c_7 (by decide)) rfl dX3_put_24 ?_
      have e9 : p_X3_put σ p1 p2 p3 = sa (sa σ 0 (upd (σ.2.2 0) (p1 : Int32).toNatClampNeg p2)) 1 (upd (σ.2.2 1) (p1 : Int32).toNatClampNeg p3) := by unfold p_X3_put; rw [if_neg c_1, if_pos c_7]
      exact hret _ _ _ (by rw [e9] <;> rfl) dX3_put_25
    · have e9 : p_X3_put σ p1 p2 p3 = σ := by unfold p_X3_put; rw [if_neg c_1, if_neg c_7]
      exact hret _ _ _ (by rw [e9] <;> rfl) dX3_put_10
def p_X3_clear_l1 (σ : St) (p1 : Int32) (p2 : Int32) : Nat → St → Int32 → St × Int32
  | 0, s, x3 => (s, x3)
  | n + 1, s, x3 => (if p2 < x3 then (s, x3) else p_X3_clear_l1 σ p1 p2 n (sa (sa s 0 (upd (s.2.2 0) (x3 : Int32).toNatClampNeg 32)) 1 (upd (s.2.2 1) (x3 : Int32).toNatClampNeg 0)) (x3 + 1))
def p_X3_clear (σ : St) (p1 : Int32) (p2 : Int32) : St := (if p1 < 0 then σ else (if p2 < 96 then (p_X3_clear_l1 σ p1 p2 96 σ p1).1 else σ))
set_option maxHeartbeats 4000000 in
set_option maxRecDepth 100000 in
theorem c_X3_clear (l : Launch) (K : KX) (ad : Nat → Nat) (σ : St) (p1 : Int32) (p2 : Int32) : Mt l K yX3_clear cX3_clear 4 none { frames := 0, cells := 0, slots := 0, locals := 0 } [.ref (ad 0), .int p1, .int p2] (WdP K ad σ) none (WdP K ad (p_X3_clear σ p1 p2)) := by
  refine Mt.v (by decide +kernel) (Nat.le_of_ble_eq_true rfl) (fun X C hret => ?_)
  show WD X K 4 0 0 (WdP K ad σ) [(0, .ref (ad 0)), (1, .int p1), (2, .int p2)] 0 []
  refine wd_iload_n C dX3_clear_0 rfl 1 rfl ?_
  refine wd_if_lt C 10 dX3_clear_1 (by decide) (fun c_1 => ?_) (fun c_1 => ?_)
  · have e9 : p_X3_clear σ p1 p2 = σ := by unfold p_X3_clear; rw [if_pos c_1]
    exact hret _ _ _ (by rw [e9] <;> rfl) dX3_clear_10
  · refine wd_iload_n C dX3_clear_4 rfl 2 rfl ?_
    refine wd_bipush (v := 96) C dX3_clear_5 (by decide) ?_
    refine wd_icmp_lt C 11 dX3_clear_7 (by decide) (fun c_7 => ?_) (fun c_7 => ?_)
    · refine wd_iload_n C dX3_clear_11 rfl 1 rfl ?_
      refine wd_istore_n C [(3, .int p1), (0, .ref (ad 0)), (1, .int p1), (2, .int p2)] dX3_clear_12 rfl (by decide) rfl ?_
      have J_13 : WD X K 4 0 0 (WdP K ad ((p_X3_clear_l1 σ p1 p2 96 σ p1).1)) [(0, .ref (ad 0)), (1, .int p1), (2, .int p2), (3, .int ((p_X3_clear_l1 σ p1 p2 96 σ p1).2))] 39 [] := by
        have e9 : p_X3_clear σ p1 p2 = (p_X3_clear_l1 σ p1 p2 96 σ p1).1 := by unfold p_X3_clear; rw [if_neg c_1, if_pos c_7]
        exact hret _ _ _ (by rw [e9] <;> rfl) dX3_clear_39
      have L_13 : ∀ (n : Nat) (s : St) (x3 : Int32), p_X3_clear_l1 σ p1 p2 n s x3 = p_X3_clear_l1 σ p1 p2 96 σ p1 → 0 ≤ x3.toInt ∧ p2.toInt - x3.toInt < (n : Int) → WD X K 4 0 0 (WdP K ad s) [(0, .ref (ad 0)), (1, .int p1), (2, .int p2), (3, .int x3)] 13 [] := by
        intro n
        induction n with
        | zero =>
          intro s x3 hE hI
          refine wd_iload_n C dX3_clear_13 rfl 3 rfl ?_
          refine wd_iload_n C dX3_clear_14 rfl 2 rfl ?_
          refine wd_icmp_gt C 39 dX3_clear_15 (by decide) (fun c_15 => ?_) (fun c_15 => ?_)
          · have eL := hE
            rw [p_X3_clear_l1] at eL
            rw [← eL] at J_13
            exact wd_lv [0, 1, 2, 3] _ rfl J_13
          · exact absurd (ti_lt.mpr (by have := hI.2; omega)) c_15
        | succ n ih =>
          intro s x3 hE hI
          refine wd_iload_n C dX3_clear_13 rfl 3 rfl ?_
          refine wd_iload_n C dX3_clear_14 rfl 2 rfl ?_
          refine wd_icmp_gt C 39 dX3_clear_15 (by decide) (fun c_15 => ?_) (fun c_15 => ?_)
          · have eL := hE
            rw [p_X3_clear_l1, if_pos c_15] at eL
            rw [← eL] at J_13
            exact wd_lv [0, 1, 2, 3] _ rfl J_13
          · refine wd_aload_n C dX3_clear_18 rfl 0 rfl ?_
            refine gfP_0_0 C tw_99 dX3_clear_19 ?_
            refine wd_iload_n C dX3_clear_22 rfl 3 rfl ?_
            refine wd_bipush (v := 32) C dX3_clear_23 (by decide) ?_
            refine asP_1 (f := s.2.2 0) C (vp_in_iff.mpr (by have h0 := c_7; (try simp only [ti_lt, ti_le, ti_eq] at h0); have h1 := c_15; (try simp only [ti_lt, ti_le, ti_eq] at h1); have h2 := hI.1; (try simp only [ti_lt, ti_le, ti_eq] at h2); have z96 : (96 : Int32).toInt = 96 := (by decide); omega)) rfl dX3_clear_25 ?_
            refine wd_aload_n C dX3_clear_26 rfl 0 rfl ?_
            refine gfP_0_1 C tw_101 dX3_clear_27 ?_
            refine wd_iload_n C dX3_clear_30 rfl 3 rfl ?_
            refine wd_iconst (v := 0) C dX3_clear_31 (by decide) ?_
            refine asP_2 (f := s.2.2 1) C (vp_in_iff.mpr (by have h0 := c_7; (try simp only [ti_lt, ti_le, ti_eq] at h0); have h1 := c_15; (try simp only [ti_lt, ti_le, ti_eq] at h1); have h2 := hI.1; (try simp only [ti_lt, ti_le, ti_eq] at h2); have z96 : (96 : Int32).toInt = 96 := (by decide); omega)) rfl dX3_clear_32 ?_
            refine wd_iinc (v := x3 + 1) C [(3, .int (x3 + 1)), (0, .ref (ad 0)), (1, .int p1), (2, .int p2)] dX3_clear_33 3 rfl (by rfl) (by decide) rfl ?_
            refine wd_goto C 13 dX3_clear_36 (by decide) ?_
            have eL := hE
            rw [p_X3_clear_l1, if_neg c_15] at eL
            exact wd_lv [1, 2, 3, 0] _ rfl (ih (sa (sa s 0 (upd (s.2.2 0) (x3 : Int32).toNatClampNeg 32)) 1 (upd (s.2.2 1) (x3 : Int32).toNatClampNeg 0)) (x3 + 1) eL (by have h0 := c_7; (try simp only [ti_lt, ti_le, ti_eq] at h0); have h1 := c_15; (try simp only [ti_lt, ti_le, ti_eq] at h1); have h2 := hI.1; (try simp only [ti_lt, ti_le, ti_eq] at h2); have h3 := hI.2; (try simp only [ti_lt, ti_le, ti_eq] at h3); have z96 : (96 : Int32).toInt = 96 := (by decide); have z1 : (1 : Int32).toInt = 1 := (by decide); have e1 := ti_add (a := x3) (b := 1) (by omega) (by omega); constructor <;> omega))
      exact wd_lv [1, 2, 3, 0] _ rfl (L_13 96 σ p1 rfl (by have h0 := c_1; (try simp only [ti_lt, ti_le, ti_eq] at h0); have h1 := c_7; (try simp only [ti_lt, ti_le, ti_eq] at h1); have z0 : (0 : Int32).toInt = 0 := (by decide); have z96 : (96 : Int32).toInt = 96 := (by decide); constructor <;> omega))
    · have e9 : p_X3_clear σ p1 p2 = σ := by unfold p_X3_clear; rw [if_neg c_1, if_neg c_7]
      exact hret _ _ _ (by rw [e9] <;> rfl) dX3_clear_10
def p_X3_pull_t1 (σ : St) (p1 : Int32) (p2 : Int32) (p3 : Int32) (s : St) (x4 : Int32) : Bool := (if p2 - x4 < p3 then false else true)
def p_X3_pull_t2 (σ : St) (p1 : Int32) (p2 : Int32) (p3 : Int32) (s : St) (x4 : Int32) : Int32 := (if (p_X3_pull_t1 σ p1 p2 p3 s x4) = true then s.2.2 0 (x4 + p3 : Int32).toNatClampNeg else 32)
def p_X3_pull_t3 (σ : St) (p1 : Int32) (p2 : Int32) (p3 : Int32) (s : St) (x4 : Int32) : Int32 := (if (p_X3_pull_t1 σ p1 p2 p3 s x4) = true then s.2.2 1 (x4 + p3 : Int32).toNatClampNeg else 0)
def p_X3_pull_l4 (σ : St) (p1 : Int32) (p2 : Int32) (p3 : Int32) : Nat → St → Int32 → St × Int32
  | 0, s, x4 => (s, x4)
  | n + 1, s, x4 => (if p2 < x4 then (s, x4) else p_X3_pull_l4 σ p1 p2 p3 n (sa (sa s 0 (upd (s.2.2 0) (x4 : Int32).toNatClampNeg (p_X3_pull_t2 σ p1 p2 p3 s x4))) 1 (upd (s.2.2 1) (x4 : Int32).toNatClampNeg (p_X3_pull_t3 σ p1 p2 p3 s x4))) (x4 + 1))
def p_X3_pull (σ : St) (p1 : Int32) (p2 : Int32) (p3 : Int32) : St := (if p1 < 0 then σ else (if 96 ≤ p2 then σ else (if 0 ≤ p3 then (p_X3_pull_l4 σ p1 p2 p3 96 σ p1).1 else σ)))
set_option maxHeartbeats 4000000 in
set_option maxRecDepth 100000 in
theorem c_X3_pull (l : Launch) (K : KX) (ad : Nat → Nat) (σ : St) (p1 : Int32) (p2 : Int32) (p3 : Int32) (hb : p3.toInt ≤ 1000000) : Mt l K yX3_pull cX3_pull 6 none { frames := 0, cells := 0, slots := 0, locals := 0 } [.ref (ad 0), .int p1, .int p2, .int p3] (WdP K ad σ) none (WdP K ad (p_X3_pull σ p1 p2 p3)) := by
  refine Mt.v (by decide +kernel) (Nat.le_of_ble_eq_true rfl) (fun X C hret => ?_)
  show WD X K 6 0 0 (WdP K ad σ) [(0, .ref (ad 0)), (1, .int p1), (2, .int p2), (3, .int p3)] 0 []
  refine wd_iload_n C dX3_pull_0 rfl 1 rfl ?_
  refine wd_if_lt C 14 dX3_pull_1 (by decide) (fun c_1 => ?_) (fun c_1 => ?_)
  · have e9 : p_X3_pull σ p1 p2 p3 = σ := by unfold p_X3_pull; rw [if_pos c_1]
    exact hret _ _ _ (by rw [e9] <;> rfl) dX3_pull_14
  · refine wd_iload_n C dX3_pull_4 rfl 2 rfl ?_
    refine wd_bipush (v := 96) C dX3_pull_5 (by decide) ?_
    refine wd_icmp_ge C 14 dX3_pull_7 (by decide) (fun c_7 => ?_) (fun c_7 => ?_)
    · have e9 : p_X3_pull σ p1 p2 p3 = σ := by unfold p_X3_pull; rw [if_neg c_1, if_pos c_7]
      exact hret _ _ _ (by rw [e9] <;> rfl) dX3_pull_14
    · refine wd_iload_n C dX3_pull_10 rfl 3 rfl ?_
      refine wd_if_ge C 15 dX3_pull_11 (by decide) (fun c_11 => ?_) (fun c_11 => ?_)
      · refine wd_iload_n C dX3_pull_15 rfl 1 rfl ?_
        refine wd_istore C [(4, .int p1), (0, .ref (ad 0)), (1, .int p1), (2, .int p2), (3, .int p3)] dX3_pull_16 (by decide) rfl ?_
        have J_18 : WD X K 6 0 0 (WdP K ad ((p_X3_pull_l4 σ p1 p2 p3 96 σ p1).1)) [(0, .ref (ad 0)), (1, .int p1), (2, .int p2), (3, .int p3), (4, .int ((p_X3_pull_l4 σ p1 p2 p3 96 σ p1).2))] 96 [] := by
          have e9 : p_X3_pull σ p1 p2 p3 = (p_X3_pull_l4 σ p1 p2 p3 96 σ p1).1 := by unfold p_X3_pull; rw [if_neg c_1, if_neg c_7, if_pos c_11]
          exact hret _ _ _ (by rw [e9] <;> rfl) dX3_pull_96
        have L_18 : ∀ (n : Nat) (s : St) (x4 : Int32), p_X3_pull_l4 σ p1 p2 p3 n s x4 = p_X3_pull_l4 σ p1 p2 p3 96 σ p1 → 0 ≤ x4.toInt ∧ p2.toInt - x4.toInt < (n : Int) → WD X K 6 0 0 (WdP K ad s) [(0, .ref (ad 0)), (1, .int p1), (2, .int p2), (3, .int p3), (4, .int x4)] 18 [] := by
          intro n
          induction n with
          | zero =>
            intro s x4 hE hI
            refine wd_iload C dX3_pull_18 4 rfl ?_
            refine wd_iload_n C dX3_pull_20 rfl 2 rfl ?_
            refine wd_icmp_gt C 96 dX3_pull_21 (by decide) (fun c_21 => ?_) (fun c_21 => ?_)
            · have eL := hE
              rw [p_X3_pull_l4] at eL
              rw [← eL] at J_18
              exact wd_lv [0, 1, 2, 3, 4] _ rfl J_18
            · exact absurd (ti_lt.mpr (by have := hI.2; omega)) c_21
          | succ n ih =>
            intro s x4 hE hI
            refine wd_iload C dX3_pull_18 4 rfl ?_
            refine wd_iload_n C dX3_pull_20 rfl 2 rfl ?_
            refine wd_icmp_gt C 96 dX3_pull_21 (by decide) (fun c_21 => ?_) (fun c_21 => ?_)
            · have eL := hE
              rw [p_X3_pull_l4, if_pos c_21] at eL
              rw [← eL] at J_18
              exact wd_lv [0, 1, 2, 3, 4] _ rfl J_18
            · refine wd_iload_n C dX3_pull_24 rfl 3 rfl ?_
              refine wd_iload_n C dX3_pull_25 rfl 2 rfl ?_
              refine wd_iload C dX3_pull_26 4 rfl ?_
              refine wd_isub C dX3_pull_28 ?_
              have J_29 : WD X K 6 0 0 (WdP K ad s) [(0, .ref (ad 0)), (1, .int p1), (2, .int p2), (3, .int p3), (4, .int x4)] 37 [.int (b2i (p_X3_pull_t1 σ p1 p2 p3 s x4))] := by
                refine wd_istore C [(5, .int (b2i (p_X3_pull_t1 σ p1 p2 p3 s x4))), (0, .ref (ad 0)), (1, .int p1), (2, .int p2), (3, .int p3), (4, .int x4)] dX3_pull_37 (by decide) rfl ?_
                refine wd_aload_n C dX3_pull_39 rfl 1 rfl ?_
                refine gfP_0_0 C tw_99 dX3_pull_40 ?_
                refine wd_iload C dX3_pull_43 5 rfl ?_
                refine wd_iload C dX3_pull_45 0 rfl ?_
                have J_47 : WD X K 6 0 0 (WdP K ad s) [(0, .ref (ad 0)), (1, .int p1), (2, .int p2), (3, .int p3), (4, .int x4), (5, .int (b2i (p_X3_pull_t1 σ p1 p2 p3 s x4)))] 64 [.int (p_X3_pull_t2 σ p1 p2 p3 s x4), .int x4, .ref (ad 1)] := by
                  refine asP_1 (f := s.2.2 0) C (vp_in_iff.mpr (by have h0 := c_7; (try simp only [ti_lt, ti_le, ti_eq] at h0); have h1 := c_21; (try simp only [ti_lt, ti_le, ti_eq] at h1); have h2 := hI.1; (try simp only [ti_lt, ti_le, ti_eq] at h2); have z96 : (96 : Int32).toInt = 96 := (by decide); omega)) rfl dX3_pull_64 ?_
                  refine wd_aload_n C dX3_pull_65 rfl 0 rfl ?_
                  refine gfP_0_1 C tw_101 dX3_pull_66 ?_
                  refine wd_iload C dX3_pull_69 4 rfl ?_
                  refine wd_iload C dX3_pull_71 5 rfl ?_
                  have J_73 : WD X K 6 0 0 (WdP K ad (sa s 0 (upd (s.2.2 0) (x4 : Int32).toNatClampNeg (p_X3_pull_t2 σ p1 p2 p3 s x4)))) [(0, .ref (ad 0)), (1, .int p1), (2, .int p2), (3, .int p3), (4, .int x4), (5, .int (b2i (p_X3_pull_t1 σ p1 p2 p3 s x4)))] 89 [.int (p_X3_pull_t3 σ p1 p2 p3 s x4), .int x4, .ref (ad 2)] := by
                    refine asP_2 (f := s.2.2 1) C (vp_in_iff.mpr (by have h0 := c_7; (try simp only [ti_lt, ti_le, ti_eq] at h0); have h1 := c_21; (try simp only [ti_lt, ti_le, ti_eq] at h1); have h2 := hI.1; (try simp only [ti_lt, ti_le, ti_eq] at h2); have z96 : (96 : Int32).toInt = 96 := (by decide); omega)) rfl dX3_pull_89 ?_
                    refine wd_iinc (v := x4 + 1) C [(4, .int (x4 + 1)), (0, .ref (ad 0)), (1, .int p1), (2, .int p2), (3, .int p3), (5, .int (b2i (p_X3_pull_t1 σ p1 p2 p3 s x4)))] dX3_pull_90 4 rfl (by rfl) (by decide) rfl ?_
                    refine wd_goto C 18 dX3_pull_93 (by decide) ?_
                    have eL := hE
                    rw [p_X3_pull_l4, if_neg c_21] at eL
                    exact wd_lv [1, 2, 3, 4, 0] _ rfl (ih (sa (sa s 0 (upd (s.2.2 0) (x4 : Int32).toNatClampNeg (p_X3_pull_t2 σ p1 p2 p3 s x4))) 1 (upd (s.2.2 1) (x4 : Int32).toNatClampNeg (p_X3_pull_t3 σ p1 p2 p3 s x4))) (x4 + 1) eL (by have h0 := c_7; (try simp only [ti_lt, ti_le, ti_eq] at h0); have h1 := c_21; (try simp only [ti_lt, ti_le, ti_eq] at h1); have h2 := hI.1; (try simp only [ti_lt, ti_le, ti_eq] at h2); have h3 := hI.2; (try simp only [ti_lt, ti_le, ti_eq] at h3); have z96 : (96 : Int32).toInt = 96 := (by decide); have z1 : (1 : Int32).toInt = 1 := (by decide); have e1 := ti_add (a := x4) (b := 1) (by omega) (by omega); constructor <;> omega))
                  refine wd_if_eqB (b := (p_X3_pull_t1 σ p1 p2 p3 s x4)) C 88 dX3_pull_73 (by decide) (fun c_73 => ?_) (fun c_73 => ?_)
                  · refine wd_iconst (v := 0) C dX3_pull_88 (by decide) ?_
                    have ej_0 : p_X3_pull_t3 σ p1 p2 p3 s x4 = 0 := by unfold p_X3_pull_t3; rw [if_neg c_73]
                    rw [ej_0] at J_73
                    exact wd_lv [0, 1, 2, 3, 4, 5] _ rfl J_73
                  · refine wd_aload_n C dX3_pull_76 rfl 0 rfl ?_
                    refine gfP_0_1 C tw_101 dX3_pull_77 ?_
                    refine wd_iload C dX3_pull_80 4 rfl ?_
                    refine wd_iload_n C dX3_pull_82 rfl 3 rfl ?_
                    refine wd_iadd C dX3_pull_83 ?_
                    refine alP_2 (x := s.2.2 1 (x4 + p3 : Int32).toNatClampNeg) C (pull_in c_7 c_21 hI.1 c_11 hb (by have q := c_73; unfold p_X3_pull_t1 at q; intro z; rw [if_pos z] at q; cases q)) rfl dX3_pull_84 ?_
                    refine wd_goto C 89 dX3_pull_85 (by decide) ?_
                    have ej_0 : p_X3_pull_t3 σ p1 p2 p3 s x4 = s.2.2 1 (x4 + p3 : Int32).toNatClampNeg := by unfold p_X3_pull_t3; rw [if_pos c_73]
                    rw [ej_0] at J_73
                    exact wd_lv [0, 1, 2, 3, 4, 5] _ rfl J_73
                refine wd_if_eqB (b := (p_X3_pull_t1 σ p1 p2 p3 s x4)) C 62 dX3_pull_47 (by decide) (fun c_47 => ?_) (fun c_47 => ?_)
                · refine wd_bipush (v := 32) C dX3_pull_62 (by decide) ?_
                  have ej_0 : p_X3_pull_t2 σ p1 p2 p3 s x4 = 32 := by unfold p_X3_pull_t2; rw [if_neg c_47]
                  rw [ej_0] at J_47
                  exact wd_lv [1, 2, 3, 4, 5, 0] _ rfl J_47
                · refine wd_aload_n C dX3_pull_50 rfl 1 rfl ?_
                  refine gfP_0_0 C tw_99 dX3_pull_51 ?_
                  refine wd_iload C dX3_pull_54 5 rfl ?_
                  refine wd_iload_n C dX3_pull_56 rfl 4 rfl ?_
                  refine wd_iadd C dX3_pull_57 ?_
                  refine alP_1 (x := s.2.2 0 (x4 + p3 : Int32).toNatClampNeg) C (pull_in c_7 c_21 hI.1 c_11 hb (by have q := c_47; unfold p_X3_pull_t1 at q; intro z; rw [if_pos z] at q; cases q)) rfl dX3_pull_58 ?_
                  refine wd_goto C 64 dX3_pull_59 (by decide) ?_
                  have ej_0 : p_X3_pull_t2 σ p1 p2 p3 s x4 = s.2.2 0 (x4 + p3 : Int32).toNatClampNeg := by unfold p_X3_pull_t2; rw [if_pos c_47]
                  rw [ej_0] at J_47
                  exact wd_lv [1, 2, 3, 4, 5, 0] _ rfl J_47
              refine wd_icmp_gt C 36 dX3_pull_29 (by decide) (fun c_29 => ?_) (fun c_29 => ?_)
              · refine wd_iconst (v := 0) C dX3_pull_36 (by decide) ?_
                have ej_0 : p_X3_pull_t1 σ p1 p2 p3 s x4 = false := by unfold p_X3_pull_t1; rw [if_pos c_29]
                rw [ej_0] at J_29
                exact wd_lv [0, 1, 2, 3, 4] _ rfl J_29
              · refine wd_iconst (v := 1) C dX3_pull_32 (by decide) ?_
                refine wd_goto C 37 dX3_pull_33 (by decide) ?_
                have ej_0 : p_X3_pull_t1 σ p1 p2 p3 s x4 = true := by unfold p_X3_pull_t1; rw [if_neg c_29]
                rw [ej_0] at J_29
                exact wd_lv [0, 1, 2, 3, 4] _ rfl J_29
        exact wd_lv [1, 2, 3, 4, 0] _ rfl (L_18 96 σ p1 rfl (by have h0 := c_1; (try simp only [ti_lt, ti_le, ti_eq] at h0); have h1 := c_7; (try simp only [ti_lt, ti_le, ti_eq] at h1); have z0 : (0 : Int32).toInt = 0 := (by decide); have z96 : (96 : Int32).toInt = 96 := (by decide); constructor <;> omega))
      · have e9 : p_X3_pull σ p1 p2 p3 = σ := by unfold p_X3_pull; rw [if_neg c_1, if_neg c_7, if_neg c_11]
        exact hret _ _ _ (by rw [e9] <;> rfl) dX3_pull_14
def p_X3_push_t1 (σ : St) (p1 : Int32) (p2 : Int32) (p3 : Int32) (s : St) (x4 : Int32) : Bool := (if x4 - p1 < p3 then false else true)
def p_X3_push_t2 (σ : St) (p1 : Int32) (p2 : Int32) (p3 : Int32) (s : St) (x4 : Int32) : Int32 := (if (p_X3_push_t1 σ p1 p2 p3 s x4) = true then s.2.2 0 (x4 - p3 : Int32).toNatClampNeg else 32)
def p_X3_push_t3 (σ : St) (p1 : Int32) (p2 : Int32) (p3 : Int32) (s : St) (x4 : Int32) : Int32 := (if (p_X3_push_t1 σ p1 p2 p3 s x4) = true then s.2.2 1 (x4 - p3 : Int32).toNatClampNeg else 0)
def p_X3_push_l4 (σ : St) (p1 : Int32) (p2 : Int32) (p3 : Int32) : Nat → St → Int32 → St × Int32
  | 0, s, x4 => (s, x4)
  | n + 1, s, x4 => (if x4 < p1 then (s, x4) else p_X3_push_l4 σ p1 p2 p3 n (sa (sa s 0 (upd (s.2.2 0) (x4 : Int32).toNatClampNeg (p_X3_push_t2 σ p1 p2 p3 s x4))) 1 (upd (s.2.2 1) (x4 : Int32).toNatClampNeg (p_X3_push_t3 σ p1 p2 p3 s x4))) (x4 + (-1)))
def p_X3_push (σ : St) (p1 : Int32) (p2 : Int32) (p3 : Int32) : St := (if p1 < 0 then σ else (if 96 ≤ p2 then σ else (if 0 ≤ p3 then (p_X3_push_l4 σ p1 p2 p3 96 σ p2).1 else σ)))
set_option maxHeartbeats 4000000 in
set_option maxRecDepth 100000 in
theorem c_X3_push (l : Launch) (K : KX) (ad : Nat → Nat) (σ : St) (p1 : Int32) (p2 : Int32) (p3 : Int32) : Mt l K yX3_push cX3_push 6 none { frames := 0, cells := 0, slots := 0, locals := 0 } [.ref (ad 0), .int p1, .int p2, .int p3] (WdP K ad σ) none (WdP K ad (p_X3_push σ p1 p2 p3)) := by
  refine Mt.v (by decide +kernel) (Nat.le_of_ble_eq_true rfl) (fun X C hret => ?_)
  show WD X K 6 0 0 (WdP K ad σ) [(0, .ref (ad 0)), (1, .int p1), (2, .int p2), (3, .int p3)] 0 []
  refine wd_iload_n C dX3_push_0 rfl 1 rfl ?_
  refine wd_if_lt C 14 dX3_push_1 (by decide) (fun c_1 => ?_) (fun c_1 => ?_)
  · have e9 : p_X3_push σ p1 p2 p3 = σ := by unfold p_X3_push; rw [if_pos c_1]
    exact hret _ _ _ (by rw [e9] <;> rfl) dX3_push_14
  · refine wd_iload_n C dX3_push_4 rfl 2 rfl ?_
    refine wd_bipush (v := 96) C dX3_push_5 (by decide) ?_
    refine wd_icmp_ge C 14 dX3_push_7 (by decide) (fun c_7 => ?_) (fun c_7 => ?_)
    · have e9 : p_X3_push σ p1 p2 p3 = σ := by unfold p_X3_push; rw [if_neg c_1, if_pos c_7]
      exact hret _ _ _ (by rw [e9] <;> rfl) dX3_push_14
    · refine wd_iload_n C dX3_push_10 rfl 3 rfl ?_
      refine wd_if_ge C 15 dX3_push_11 (by decide) (fun c_11 => ?_) (fun c_11 => ?_)
      · refine wd_iload_n C dX3_push_15 rfl 2 rfl ?_
        refine wd_istore C [(4, .int p2), (0, .ref (ad 0)), (1, .int p1), (2, .int p2), (3, .int p3)] dX3_push_16 (by decide) rfl ?_
        have J_18 : WD X K 6 0 0 (WdP K ad ((p_X3_push_l4 σ p1 p2 p3 96 σ p2).1)) [(0, .ref (ad 0)), (1, .int p1), (2, .int p2), (3, .int p3), (4, .int ((p_X3_push_l4 σ p1 p2 p3 96 σ p2).2))] 96 [] := by
          have e9 : p_X3_push σ p1 p2 p3 = (p_X3_push_l4 σ p1 p2 p3 96 σ p2).1 := by unfold p_X3_push; rw [if_neg c_1, if_neg c_7, if_pos c_11]
          exact hret _ _ _ (by rw [e9] <;> rfl) dX3_push_96
        have L_18 : ∀ (n : Nat) (s : St) (x4 : Int32), p_X3_push_l4 σ p1 p2 p3 n s x4 = p_X3_push_l4 σ p1 p2 p3 96 σ p2 → x4.toInt ≤ p2.toInt ∧ x4.toInt - p1.toInt < (n : Int) → WD X K 6 0 0 (WdP K ad s) [(0, .ref (ad 0)), (1, .int p1), (2, .int p2), (3, .int p3), (4, .int x4)] 18 [] := by
          intro n
          induction n with
          | zero =>
            intro s x4 hE hI
            refine wd_iload C dX3_push_18 4 rfl ?_
            refine wd_iload_n C dX3_push_20 rfl 1 rfl ?_
            refine wd_icmp_lt C 96 dX3_push_21 (by decide) (fun c_21 => ?_) (fun c_21 => ?_)
            · have eL := hE
              rw [p_X3_push_l4] at eL
              rw [← eL] at J_18
              exact wd_lv [0, 1, 2, 3, 4] _ rfl J_18
            · exact absurd (ti_lt.mpr (by have := hI.2; omega)) c_21
          | succ n ih =>
            intro s x4 hE hI
            refine wd_iload C dX3_push_18 4 rfl ?_
            refine wd_iload_n C dX3_push_20 rfl 1 rfl ?_
            refine wd_icmp_lt C 96 dX3_push_21 (by decide) (fun c_21 => ?_) (fun c_21 => ?_)
            · have eL := hE
              rw [p_X3_push_l4, if_pos c_21] at eL
              rw [← eL] at J_18
              exact wd_lv [0, 1, 2, 3, 4] _ rfl J_18
            · refine wd_iload_n C dX3_push_24 rfl 3 rfl ?_
              refine wd_iload C dX3_push_25 4 rfl ?_
              refine wd_iload_n C dX3_push_27 rfl 1 rfl ?_
              refine wd_isub C dX3_push_28 ?_
              have J_29 : WD X K 6 0 0 (WdP K ad s) [(0, .ref (ad 0)), (1, .int p1), (2, .int p2), (3, .int p3), (4, .int x4)] 37 [.int (b2i (p_X3_push_t1 σ p1 p2 p3 s x4))] := by
                refine wd_istore C [(5, .int (b2i (p_X3_push_t1 σ p1 p2 p3 s x4))), (0, .ref (ad 0)), (1, .int p1), (2, .int p2), (3, .int p3), (4, .int x4)] dX3_push_37 (by decide) rfl ?_
                refine wd_aload_n C dX3_push_39 rfl 1 rfl ?_
                refine gfP_0_0 C tw_99 dX3_push_40 ?_
                refine wd_iload C dX3_push_43 5 rfl ?_
                refine wd_iload C dX3_push_45 0 rfl ?_
                have J_47 : WD X K 6 0 0 (WdP K ad s) [(0, .ref (ad 0)), (1, .int p1), (2, .int p2), (3, .int p3), (4, .int x4), (5, .int (b2i (p_X3_push_t1 σ p1 p2 p3 s x4)))] 64 [.int (p_X3_push_t2 σ p1 p2 p3 s x4), .int x4, .ref (ad 1)] := by
                  refine asP_1 (f := s.2.2 0) C (vp_in_iff.mpr (by have h0 := c_1; (try simp only [ti_lt, ti_le, ti_eq] at h0); have h1 := c_7; (try simp only [ti_lt, ti_le, ti_eq] at h1); have h2 := c_21; (try simp only [ti_lt, ti_le, ti_eq] at h2); have h3 := hI.1; (try simp only [ti_lt, ti_le, ti_eq] at h3); have z0 : (0 : Int32).toInt = 0 := (by decide); have z96 : (96 : Int32).toInt = 96 := (by decide); omega)) rfl dX3_push_64 ?_
                  refine wd_aload_n C dX3_push_65 rfl 0 rfl ?_
                  refine gfP_0_1 C tw_101 dX3_push_66 ?_
                  refine wd_iload C dX3_push_69 4 rfl ?_
                  refine wd_iload C dX3_push_71 5 rfl ?_
                  have J_73 : WD X K 6 0 0 (WdP K ad (sa s 0 (upd (s.2.2 0) (x4 : Int32).toNatClampNeg (p_X3_push_t2 σ p1 p2 p3 s x4)))) [(0, .ref (ad 0)), (1, .int p1), (2, .int p2), (3, .int p3), (4, .int x4), (5, .int (b2i (p_X3_push_t1 σ p1 p2 p3 s x4)))] 89 [.int (p_X3_push_t3 σ p1 p2 p3 s x4), .int x4, .ref (ad 2)] := by
                    refine asP_2 (f := s.2.2 1) C (vp_in_iff.mpr (by have h0 := c_1; (try simp only [ti_lt, ti_le, ti_eq] at h0); have h1 := c_7; (try simp only [ti_lt, ti_le, ti_eq] at h1); have h2 := c_21; (try simp only [ti_lt, ti_le, ti_eq] at h2); have h3 := hI.1; (try simp only [ti_lt, ti_le, ti_eq] at h3); have z0 : (0 : Int32).toInt = 0 := (by decide); have z96 : (96 : Int32).toInt = 96 := (by decide); omega)) rfl dX3_push_89 ?_
                    refine wd_iinc (v := x4 + (-1)) C [(4, .int (x4 + (-1))), (0, .ref (ad 0)), (1, .int p1), (2, .int p2), (3, .int p3), (5, .int (b2i (p_X3_push_t1 σ p1 p2 p3 s x4)))] dX3_push_90 4 rfl rfl (by decide) rfl ?_
                    refine wd_goto C 18 dX3_push_93 (by decide) ?_
                    have eL := hE
                    rw [p_X3_push_l4, if_neg c_21] at eL
                    exact wd_lv [1, 2, 3, 4, 0] _ rfl (ih (sa (sa s 0 (upd (s.2.2 0) (x4 : Int32).toNatClampNeg (p_X3_push_t2 σ p1 p2 p3 s x4))) 1 (upd (s.2.2 1) (x4 : Int32).toNatClampNeg (p_X3_push_t3 σ p1 p2 p3 s x4))) (x4 + (-1)) eL (by have h0 := c_1; (try simp only [ti_lt, ti_le, ti_eq] at h0); have h1 := c_7; (try simp only [ti_lt, ti_le, ti_eq] at h1); have h2 := c_21; (try simp only [ti_lt, ti_le, ti_eq] at h2); have h3 := hI.1; (try simp only [ti_lt, ti_le, ti_eq] at h3); have h4 := hI.2; (try simp only [ti_lt, ti_le, ti_eq] at h4); have z0 : (0 : Int32).toInt = 0 := (by decide); have z96 : (96 : Int32).toInt = 96 := (by decide); have m1 : (-1 : Int32).toInt = -1 := (by decide); have e1 := ti_add (a := x4) (b := (-1)) (by omega) (by omega); constructor <;> omega))
                  refine wd_if_eqB (b := (p_X3_push_t1 σ p1 p2 p3 s x4)) C 88 dX3_push_73 (by decide) (fun c_73 => ?_) (fun c_73 => ?_)
                  · refine wd_iconst (v := 0) C dX3_push_88 (by decide) ?_
                    have ej_0 : p_X3_push_t3 σ p1 p2 p3 s x4 = 0 := by unfold p_X3_push_t3; rw [if_neg c_73]
                    rw [ej_0] at J_73
                    exact wd_lv [0, 1, 2, 3, 4, 5] _ rfl J_73
                  · refine wd_aload_n C dX3_push_76 rfl 0 rfl ?_
                    refine gfP_0_1 C tw_101 dX3_push_77 ?_
                    refine wd_iload C dX3_push_80 4 rfl ?_
                    refine wd_iload_n C dX3_push_82 rfl 3 rfl ?_
                    refine wd_isub C dX3_push_83 ?_
                    refine alP_2 (x := s.2.2 1 (x4 - p3 : Int32).toNatClampNeg) C (push_in c_1 c_7 hI.1 c_21 c_11 (by have q := c_73; unfold p_X3_push_t1 at q; intro z; rw [if_pos z] at q; cases q)) rfl dX3_push_84 ?_
                    refine wd_goto C 89 dX3_push_85 (by decide) ?_
                    have ej_0 : p_X3_push_t3 σ p1 p2 p3 s x4 = s.2.2 1 (x4 - p3 : Int32).toNatClampNeg := by unfold p_X3_push_t3; rw [if_pos c_73]
                    rw [ej_0] at J_73
                    exact wd_lv [0, 1, 2, 3, 4, 5] _ rfl J_73
                refine wd_if_eqB (b := (p_X3_push_t1 σ p1 p2 p3 s x4)) C 62 dX3_push_47 (by decide) (fun c_47 => ?_) (fun c_47 => ?_)
                · refine wd_bipush (v := 32) C dX3_push_62 (by decide) ?_
                  have ej_0 : p_X3_push_t2 σ p1 p2 p3 s x4 = 32 := by unfold p_X3_push_t2; rw [if_neg c_47]
                  rw [ej_0] at J_47
                  exact wd_lv [1, 2, 3, 4, 5, 0] _ rfl J_47
                · refine wd_aload_n C dX3_push_50 rfl 1 rfl ?_
                  refine gfP_0_0 C tw_99 dX3_push_51 ?_
                  refine wd_iload C dX3_push_54 5 rfl ?_
                  refine wd_iload_n C dX3_push_56 rfl 4 rfl ?_
                  refine wd_isub C dX3_push_57 ?_
                  refine alP_1 (x := s.2.2 0 (x4 - p3 : Int32).toNatClampNeg) C (push_in c_1 c_7 hI.1 c_21 c_11 (by have q := c_47; unfold p_X3_push_t1 at q; intro z; rw [if_pos z] at q; cases q)) rfl dX3_push_58 ?_
                  refine wd_goto C 64 dX3_push_59 (by decide) ?_
                  have ej_0 : p_X3_push_t2 σ p1 p2 p3 s x4 = s.2.2 0 (x4 - p3 : Int32).toNatClampNeg := by unfold p_X3_push_t2; rw [if_pos c_47]
                  rw [ej_0] at J_47
                  exact wd_lv [1, 2, 3, 4, 5, 0] _ rfl J_47
              refine wd_icmp_gt C 36 dX3_push_29 (by decide) (fun c_29 => ?_) (fun c_29 => ?_)
              · refine wd_iconst (v := 0) C dX3_push_36 (by decide) ?_
                have ej_0 : p_X3_push_t1 σ p1 p2 p3 s x4 = false := by unfold p_X3_push_t1; rw [if_pos c_29]
                rw [ej_0] at J_29
                exact wd_lv [0, 1, 2, 3, 4] _ rfl J_29
              · refine wd_iconst (v := 1) C dX3_push_32 (by decide) ?_
                refine wd_goto C 37 dX3_push_33 (by decide) ?_
                have ej_0 : p_X3_push_t1 σ p1 p2 p3 s x4 = true := by unfold p_X3_push_t1; rw [if_neg c_29]
                rw [ej_0] at J_29
                exact wd_lv [0, 1, 2, 3, 4] _ rfl J_29
        exact wd_lv [1, 2, 3, 4, 0] _ rfl (L_18 96 σ p2 rfl (by have h0 := c_1; (try simp only [ti_lt, ti_le, ti_eq] at h0); have h1 := c_7; (try simp only [ti_lt, ti_le, ti_eq] at h1); have z0 : (0 : Int32).toInt = 0 := (by decide); have z96 : (96 : Int32).toInt = 96 := (by decide); constructor <;> omega))
      · have e9 : p_X3_push σ p1 p2 p3 = σ := by unfold p_X3_push; rw [if_neg c_1, if_neg c_7, if_neg c_11]
        exact hret _ _ _ (by rw [e9] <;> rfl) dX3_push_14
def p_X3_count_x1 (σ : St) (p1 : Int32) (p2 : Int32) (x3 : Int32) (x4 : Int32) : Int32 := (if σ.2.2 0 (x4 : Int32).toNatClampNeg = p1 then (if p2 < 0 then x3 + 1 else (if σ.2.2 1 (x4 : Int32).toNatClampNeg = p2 then x3 + 1 else x3)) else x3)
def p_X3_count_l2 (σ : St) (p1 : Int32) (p2 : Int32) : Nat → Int32 → Int32 → Int32 × Int32
  | 0, x3, x4 => (x3, x4)
  | n + 1, x3, x4 => (if 96 ≤ x4 then (x3, x4) else p_X3_count_l2 σ p1 p2 n (p_X3_count_x1 σ p1 p2 x3 x4) (x4 + 1))
def p_X3_count (σ : St) (p1 : Int32) (p2 : Int32) : Int32 := (p_X3_count_l2 σ p1 p2 96 0 0).1
set_option maxHeartbeats 4000000 in
set_option maxRecDepth 100000 in
theorem c_X3_count (l : Launch) (K : KX) (ad : Nat → Nat) (σ : St) (p1 : Int32) (p2 : Int32) : Mt l K yX3_count cX3_count 5 (some .int) { frames := 0, cells := 0, slots := 0, locals := 0 } [.ref (ad 0), .int p1, .int p2] (WdP K ad σ) (some (.int (p_X3_count σ p1 p2))) (WdP K ad σ) := by
  refine Mt.i (by decide +kernel) (Nat.le_of_ble_eq_true rfl) (fun X C hret => ?_)
  show WD X K 5 0 0 (WdP K ad σ) [(0, .ref (ad 0)), (1, .int p1), (2, .int p2)] 0 []
  refine wd_iconst (v := 0) C dX3_count_0 (by decide) ?_
  refine wd_istore_n C [(3, .int 0), (0, .ref (ad 0)), (1, .int p1), (2, .int p2)] dX3_count_1 rfl (by decide) rfl ?_
  refine wd_iconst (v := 0) C dX3_count_2 (by decide) ?_
  refine wd_istore C [(4, .int 0), (3, .int 0), (0, .ref (ad 0)), (1, .int p1), (2, .int p2)] dX3_count_3 (by decide) rfl ?_
  have J_5 : WD X K 5 0 0 (WdP K ad σ) [(0, .ref (ad 0)), (1, .int p1), (2, .int p2), (3, .int ((p_X3_count_l2 σ p1 p2 96 0 0).1)), (4, .int ((p_X3_count_l2 σ p1 p2 96 0 0).2))] 47 [] := by
    refine wd_iload_n C dX3_count_47 rfl 3 rfl ?_
    have e9 : p_X3_count σ p1 p2 = (p_X3_count_l2 σ p1 p2 96 0 0).1 := by rfl
    exact hret _ _ _ _ (by rw [e9]) rfl dX3_count_48
  have L_5 : ∀ (n : Nat) (x3 : Int32) (x4 : Int32), p_X3_count_l2 σ p1 p2 n x3 x4 = p_X3_count_l2 σ p1 p2 96 0 0 → 0 ≤ x4.toInt ∧ 96 - x4.toInt ≤ (n : Int) → WD X K 5 0 0 (WdP K ad σ) [(0, .ref (ad 0)), (1, .int p1), (2, .int p2), (3, .int x3), (4, .int x4)] 5 [] := by
    intro n
    induction n with
    | zero =>
      intro x3 x4 hE hI
      refine wd_iload C dX3_count_5 4 rfl ?_
      refine wd_bipush (v := 96) C dX3_count_7 (by decide) ?_
      refine wd_icmp_ge C 47 dX3_count_9 (by decide) (fun c_9 => ?_) (fun c_9 => ?_)
      · have eL := hE
        rw [p_X3_count_l2] at eL
        rw [← eL] at J_5
        exact wd_lv [0, 1, 2, 3, 4] _ rfl J_5
      · exact absurd (ti_le.mpr (by have h0 := hI.2; (try simp only [ti_lt, ti_le, ti_eq] at h0); have z96 : (96 : Int32).toInt = 96 := (by decide); omega)) c_9
    | succ n ih =>
      intro x3 x4 hE hI
      refine wd_iload C dX3_count_5 4 rfl ?_
      refine wd_bipush (v := 96) C dX3_count_7 (by decide) ?_
      refine wd_icmp_ge C 47 dX3_count_9 (by decide) (fun c_9 => ?_) (fun c_9 => ?_)
      · have eL := hE
        rw [p_X3_count_l2, if_pos c_9] at eL
        rw [← eL] at J_5
        exact wd_lv [0, 1, 2, 3, 4] _ rfl J_5
      · refine wd_aload_n C dX3_count_12 rfl 0 rfl ?_
        refine gfP_0_0 C tw_99 dX3_count_13 ?_
        refine wd_iload C dX3_count_16 4 rfl ?_
        refine alP_1 (x := σ.2.2 0 (x4 : Int32).toNatClampNeg) C (vp_in_iff.mpr (by have h0 := c_9; (try simp only [ti_lt, ti_le, ti_eq] at h0); have h1 := hI.1; (try simp only [ti_lt, ti_le, ti_eq] at h1); have z96 : (96 : Int32).toInt = 96 := (by decide); omega)) rfl dX3_count_18 ?_
        refine wd_iload_n C dX3_count_19 rfl 1 rfl ?_
        have J_20 : WD X K 5 0 0 (WdP K ad σ) [(0, .ref (ad 0)), (1, .int p1), (2, .int p2), (3, .int (p_X3_count_x1 σ p1 p2 x3 x4)), (4, .int x4)] 41 [] := by
          refine wd_iinc (v := x4 + 1) C [(4, .int (x4 + 1)), (0, .ref (ad 0)), (1, .int p1), (2, .int p2), (3, .int (p_X3_count_x1 σ p1 p2 x3 x4))] dX3_count_41 4 rfl (by rfl) (by decide) rfl ?_
          refine wd_goto C 5 dX3_count_44 (by decide) ?_
          have eL := hE
          rw [p_X3_count_l2, if_neg c_9] at eL
          exact wd_lv [1, 2, 3, 4, 0] _ rfl (ih (p_X3_count_x1 σ p1 p2 x3 x4) (x4 + 1) eL (by have h0 := c_9; (try simp only [ti_lt, ti_le, ti_eq] at h0); have h1 := hI.1; (try simp only [ti_lt, ti_le, ti_eq] at h1); have h2 := hI.2; (try simp only [ti_lt, ti_le, ti_eq] at h2); have z96 : (96 : Int32).toInt = 96 := (by decide); have z1 : (1 : Int32).toInt = 1 := (by decide); have e1 := ti_add (a := x4) (b := 1) (by omega) (by omega); constructor <;> omega))
        refine wd_icmp_ne C 41 dX3_count_20 (by decide) (fun c_20 => ?_) (fun c_20 => ?_)
        · have ej_0 : p_X3_count_x1 σ p1 p2 x3 x4 = x3 := by unfold p_X3_count_x1; rw [if_neg c_20]
          rw [ej_0] at J_20
          exact wd_lv [0, 1, 2, 3, 4] _ rfl J_20
        · refine wd_iload_n C dX3_count_23 rfl 2 rfl ?_
          refine wd_if_lt C 38 dX3_count_24 (by decide) (fun c_24 => ?_) (fun c_24 => ?_)
          · refine wd_iinc (v := x3 + 1) C [(3, .int (x3 + 1)), (0, .ref (ad 0)), (1, .int p1), (2, .int p2), (4, .int x4)] dX3_count_38 3 rfl (by rfl) (by decide) rfl ?_
            have ej_0 : p_X3_count_x1 σ p1 p2 x3 x4 = x3 + 1 := by unfold p_X3_count_x1; rw [if_pos c_20, if_pos c_24]
            rw [ej_0] at J_20
            exact wd_lv [1, 2, 3, 0, 4] _ rfl J_20
          · refine wd_aload_n C dX3_count_27 rfl 0 rfl ?_
            refine gfP_0_1 C tw_101 dX3_count_28 ?_
            refine wd_iload C dX3_count_31 4 rfl ?_
            refine alP_2 (x := σ.2.2 1 (x4 : Int32).toNatClampNeg) C (vp_in_iff.mpr (by have h0 := c_9; (try simp only [ti_lt, ti_le, ti_eq] at h0); have h1 := hI.1; (try simp only [ti_lt, ti_le, ti_eq] at h1); have z96 : (96 : Int32).toInt = 96 := (by decide); omega)) rfl dX3_count_33 ?_
            refine wd_iload_n C dX3_count_34 rfl 2 rfl ?_
            refine wd_icmp_ne C 41 dX3_count_35 (by decide) (fun c_35 => ?_) (fun c_35 => ?_)
            · have ej_0 : p_X3_count_x1 σ p1 p2 x3 x4 = x3 := by unfold p_X3_count_x1; rw [if_pos c_20, if_neg c_24, if_neg c_35]
              rw [ej_0] at J_20
              exact wd_lv [0, 1, 2, 3, 4] _ rfl J_20
            · refine wd_iinc (v := x3 + 1) C [(3, .int (x3 + 1)), (0, .ref (ad 0)), (1, .int p1), (2, .int p2), (4, .int x4)] dX3_count_38 3 rfl (by rfl) (by decide) rfl ?_
              have ej_0 : p_X3_count_x1 σ p1 p2 x3 x4 = x3 + 1 := by unfold p_X3_count_x1; rw [if_pos c_20, if_neg c_24, if_pos c_35]
              rw [ej_0] at J_20
              exact wd_lv [1, 2, 3, 0, 4] _ rfl J_20
  exact wd_lv [2, 3, 4, 1, 0] _ rfl (L_5 96 0 0 rfl (by constructor <;> decide))
