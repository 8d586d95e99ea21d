def p_X6_clear (σ : St) : St := si σ 0 0
set_option maxHeartbeats 4000000 in
set_option maxRecDepth 100000 in
theorem c_X6_clear (l : Launch) (K : KX) (ad : Nat → Nat) (σ : St) : Mt l K yX6_clear cX6_clear 1 none { frames := 0, cells := 0, slots := 0, locals := 0 } [.ref (ad 0)] (WdT K ad σ) none (WdT K ad (p_X6_clear σ)) := by
  refine Mt.v (by decide +kernel) (Nat.le_of_ble_eq_true rfl) (fun X C hret => ?_)
  show WD X K 1 0 0 (WdT K ad σ) [(0, .ref (ad 0))] 0 []
  refine wd_aload_n C dX6_clear_0 rfl 0 rfl ?_
  refine wd_iconst (v := 0) C dX6_clear_1 (by decide) ?_
  refine pfT_0_1 C tw_226 0 dX6_clear_2 ?_
  have e9 : p_X6_clear σ = si σ 0 0 := by rfl
  exact hret _ _ _ (by rw [e9] <;> rfl) dX6_clear_5
def p_X6_add_s1 (σ : St) (p1 : Int32) : St := (if σ.1 0 < 0 then σ else (if 16 ≤ σ.1 0 then σ else si (sa σ 0 (upd (σ.2.2 0) (σ.1 0 : Int32).toNatClampNeg p1)) 0 ((σ.1 0) + 1)))
def p_X6_add (σ : St) (p1 : Int32) : St := (p_X6_add_s1 σ p1)
set_option maxHeartbeats 4000000 in
set_option maxRecDepth 100000 in
theorem c_X6_add (l : Launch) (K : KX) (ad : Nat → Nat) (σ : St) (p1 : Int32) : Mt l K yX6_add cX6_add 2 none { frames := 0, cells := 0, slots := 0, locals := 0 } [.ref (ad 0), .int p1] (WdT K ad σ) none (WdT K ad (p_X6_add σ p1)) := by
  refine Mt.v (by decide +kernel) (Nat.le_of_ble_eq_true rfl) (fun X C hret => ?_)
  show WD X K 2 0 0 (WdT K ad σ) [(0, .ref (ad 0)), (1, .int p1)] 0 []
  refine wd_aload_n C dX6_add_0 rfl 0 rfl ?_
  refine gfT_0_1 (x := σ.1 0) C tw_226 rfl dX6_add_1 ?_
  have J_4 : WD X K 2 0 0 (WdT K ad (p_X6_add_s1 σ p1)) [(0, .ref (ad 0)), (1, .int p1)] 36 [] := by
    have e9 : p_X6_add σ p1 = (p_X6_add_s1 σ p1) := by rfl
    exact hret _ _ _ (by rw [e9] <;> rfl) dX6_add_36
  refine wd_if_lt C 36 dX6_add_4 (by decide) (fun c_4 => ?_) (fun c_4 => ?_)
  · have ej_0 : p_X6_add_s1 σ p1 = σ := by unfold p_X6_add_s1; rw [if_pos c_4]
    rw [ej_0] at J_4
    exact wd_lv [0, 1] _ rfl J_4
  · refine wd_aload_n C dX6_add_7 rfl 0 rfl ?_
    refine gfT_0_1 (x := σ.1 0) C tw_226 rfl dX6_add_8 ?_
    refine wd_bipush (v := 16) C dX6_add_11 (by decide) ?_
    refine wd_icmp_ge C 36 dX6_add_13 (by decide) (fun c_13 => ?_) (fun c_13 => ?_)
    · have ej_0 : p_X6_add_s1 σ p1 = σ := by unfold p_X6_add_s1; rw [if_neg c_4, if_pos c_13]
      rw [ej_0] at J_4
      exact wd_lv [0, 1] _ rfl J_4
    · refine wd_aload_n C dX6_add_16 rfl 0 rfl ?_
      refine gfT_0_0 C tw_225 dX6_add_17 ?_
      refine wd_aload_n C dX6_add_20 rfl 0 rfl ?_
      refine gfT_0_1 (x := σ.1 0) C tw_226 rfl dX6_add_21 ?_
      refine wd_iload_n C dX6_add_24 rfl 1 rfl ?_
      refine asT_1 (f := σ.2.2 0) C (in_g c_4 c_13 (by decide)) rfl dX6_add_25 ?_
      refine wd_aload_n C dX6_add_26 rfl 0 rfl ?_
      refine wd_dup C dX6_add_27 rfl ?_
      refine gfT_0_1 (x := σ.1 0) C tw_226 rfl dX6_add_28 ?_
      refine wd_iconst (v := 1) C dX6_add_31 (by decide) ?_
      refine wd_iadd C dX6_add_32 ?_
      refine pfT_0_1 C tw_226 ((σ.1 0) + 1) dX6_add_33 ?_
      have ej_0 : p_X6_add_s1 σ p1 = si (sa σ 0 (upd (σ.2.2 0) (σ.1 0 : Int32).toNatClampNeg p1)) 0 ((σ.1 0) + 1) := by unfold p_X6_add_s1; rw [if_neg c_4, if_neg c_13]
      rw [ej_0] at J_4
      exact wd_lv [0, 1] _ rfl J_4
def p_X6_copyFrom_l1 (σ : St) : Nat → St → Int32 → St × Int32
  | 0, s, x2 => (s, x2)
  | n + 1, s, x2 => (if 16 ≤ x2 then (s, x2) else p_X6_copyFrom_l1 σ n (sa s 0 (upd (s.2.2 0) (x2 : Int32).toNatClampNeg (s.2.2 1 (x2 : Int32).toNatClampNeg))) (x2 + 1))
def p_X6_copyFrom (σ : St) : St := si ((p_X6_copyFrom_l1 σ 16 σ 0).1) 0 (((p_X6_copyFrom_l1 σ 16 σ 0).1).1 1)
set_option maxHeartbeats 4000000 in
set_option maxRecDepth 100000 in
theorem c_X6_copyFrom (l : Launch) (K : KX) (ad : Nat → Nat) (σ : St) : Mt l K yX6_copyFrom cX6_copyFrom 3 none { frames := 0, cells := 0, slots := 0, locals := 0 } [.ref (ad 0), .ref (ad 2)] (WdTT K ad σ) none (WdTT K ad (p_X6_copyFrom σ)) := by
  refine Mt.v (by decide +kernel) (Nat.le_of_ble_eq_true rfl) (fun X C hret => ?_)
  show WD X K 3 0 0 (WdTT K ad σ) [(0, .ref (ad 0)), (1, .ref (ad 2))] 0 []
  refine wd_aload_n C dX6_copyFrom_0 rfl 1 rfl ?_
  refine wd_ifnonnull C 5 dX6_copyFrom_1 (by decide) ?_
  refine wd_iconst (v := 0) C dX6_copyFrom_5 (by decide) ?_
  refine wd_istore_n C [(2, .int 0), (0, .ref (ad 0)), (1, .ref (ad 2))] dX6_copyFrom_6 rfl (by decide) rfl ?_
  have J_7 : WD X K 3 0 0 (WdTT K ad ((p_X6_copyFrom_l1 σ 16 σ 0).1)) [(0, .ref (ad 0)), (1, .ref (ad 2)), (2, .int ((p_X6_copyFrom_l1 σ 16 σ 0).2))] 31 [] := by
    refine wd_aload_n C dX6_copyFrom_31 rfl 0 rfl ?_
    refine wd_aload_n C dX6_copyFrom_32 rfl 1 rfl ?_
    refine gfTT_2_1 (x := ((p_X6_copyFrom_l1 σ 16 σ 0).1).1 1) C tw_226 rfl dX6_copyFrom_33 ?_
    refine pfTT_0_1 C tw_226 (((p_X6_copyFrom_l1 σ 16 σ 0).1).1 1) dX6_copyFrom_36 ?_
    have e9 : p_X6_copyFrom σ = si ((p_X6_copyFrom_l1 σ 16 σ 0).1) 0 (((p_X6_copyFrom_l1 σ 16 σ 0).1).1 1) := by rfl
    exact hret _ _ _ (by rw [e9] <;> rfl) dX6_copyFrom_39
  have L_7 : ∀ (n : Nat) (s : St) (x2 : Int32), p_X6_copyFrom_l1 σ n s x2 = p_X6_copyFrom_l1 σ 16 σ 0 → 0 ≤ x2.toInt ∧ 16 - x2.toInt ≤ (n : Int) → WD X K 3 0 0 (WdTT K ad s) [(0, .ref (ad 0)), (1, .ref (ad 2)), (2, .int x2)] 7 [] := by
    intro n
    induction n with
    | zero =>
      intro s x2 hE hI
      refine wd_iload_n C dX6_copyFrom_7 rfl 2 rfl ?_
      refine wd_bipush (v := 16) C dX6_copyFrom_8 (by decide) ?_
      refine wd_icmp_ge C 31 dX6_copyFrom_10 (by decide) (fun c_10 => ?_) (fun c_10 => ?_)
      · have eL := hE
        rw [p_X6_copyFrom_l1] at eL
        rw [← eL] at J_7
        exact wd_lv [0, 1, 2] _ rfl J_7
      · exact absurd (ti_le.mpr (by have h0 := hI.2; (try simp only [ti_lt, ti_le, ti_eq] at h0); have z16 : (16 : Int32).toInt = 16 := (by decide); omega)) c_10
    | succ n ih =>
      intro s x2 hE hI
      refine wd_iload_n C dX6_copyFrom_7 rfl 2 rfl ?_
      refine wd_bipush (v := 16) C dX6_copyFrom_8 (by decide) ?_
      refine wd_icmp_ge C 31 dX6_copyFrom_10 (by decide) (fun c_10 => ?_) (fun c_10 => ?_)
      · have eL := hE
        rw [p_X6_copyFrom_l1, if_pos c_10] at eL
        rw [← eL] at J_7
        exact wd_lv [0, 1, 2] _ rfl J_7
      · refine wd_aload_n C dX6_copyFrom_13 rfl 0 rfl ?_
        refine gfTT_0_0 C tw_225 dX6_copyFrom_14 ?_
        refine wd_iload_n C dX6_copyFrom_17 rfl 2 rfl ?_
        refine wd_aload_n C dX6_copyFrom_18 rfl 1 rfl ?_
        refine gfTT_2_0 C tw_225 dX6_copyFrom_19 ?_
        refine wd_iload_n C dX6_copyFrom_22 rfl 2 rfl ?_
        refine alTT_3 (x := s.2.2 1 (x2 : Int32).toNatClampNeg) C (vp_in_iff.mpr (by have h0 := c_10; (try simp only [ti_lt, ti_le, ti_eq] at h0); have h1 := hI.1; (try simp only [ti_lt, ti_le, ti_eq] at h1); have z16 : (16 : Int32).toInt = 16 := (by decide); omega)) rfl dX6_copyFrom_23 ?_
        refine asTT_1 (f := s.2.2 0) C (vp_in_iff.mpr (by have h0 := c_10; (try simp only [ti_lt, ti_le, ti_eq] at h0); have h1 := hI.1; (try simp only [ti_lt, ti_le, ti_eq] at h1); have z16 : (16 : Int32).toInt = 16 := (by decide); omega)) rfl dX6_copyFrom_24 ?_
        refine wd_iinc (v := x2 + 1) C [(2, .int (x2 + 1)), (0, .ref (ad 0)), (1, .ref (ad 2))] dX6_copyFrom_25 2 rfl (by rfl) (by decide) rfl ?_
        refine wd_goto C 7 dX6_copyFrom_28 (by decide) ?_
        have eL := hE
        rw [p_X6_copyFrom_l1, if_neg c_10] at eL
        exact wd_lv [1, 2, 0] _ rfl (ih (sa s 0 (upd (s.2.2 0) (x2 : Int32).toNatClampNeg (s.2.2 1 (x2 : Int32).toNatClampNeg))) (x2 + 1) eL (by have h0 := c_10; (try simp only [ti_lt, ti_le, ti_eq] at h0); have h1 := hI.1; (try simp only [ti_lt, ti_le, ti_eq] at h1); have h2 := hI.2; (try simp only [ti_lt, ti_le, ti_eq] at h2); have z16 : (16 : Int32).toInt = 16 := (by decide); have z1 : (1 : Int32).toInt = 1 := (by decide); have e1 := ti_add (a := x2) (b := 1) (by omega) (by omega); constructor <;> omega))
  exact wd_lv [1, 2, 0] _ rfl (L_7 16 σ 0 rfl (by constructor <;> decide))
def p_X6_characterAt_t1 (σ : St) (p1 : Int32) : Int32 := (if p1 < 0 then (-1) else (if σ.1 0 ≤ p1 then (-1) else (if 16 ≤ p1 then (-1) else σ.2.2 0 (p1 : Int32).toNatClampNeg)))
def p_X6_characterAt (σ : St) (p1 : Int32) : Int32 := (p_X6_characterAt_t1 σ p1)
set_option maxHeartbeats 4000000 in
set_option maxRecDepth 100000 in
theorem c_X6_characterAt (l : Launch) (K : KX) (ad : Nat → Nat) (σ : St) (p1 : Int32) : Mt l K yX6_characterAt cX6_characterAt 2 (some .int) { frames := 0, cells := 0, slots := 0, locals := 0 } [.ref (ad 0), .int p1] (WdT K ad σ) (some (.int (p_X6_characterAt σ p1))) (WdT K ad σ) := by
  refine Mt.i (by decide +kernel) (Nat.le_of_ble_eq_true rfl) (fun X C hret => ?_)
  show WD X K 2 0 0 (WdT K ad σ) [(0, .ref (ad 0)), (1, .int p1)] 0 []
  refine wd_iload_n C dX6_characterAt_0 rfl 1 rfl ?_
  have J_1 : WD X K 2 0 0 (WdT K ad σ) [(0, .ref (ad 0)), (1, .int p1)] 28 [.int (p_X6_characterAt_t1 σ p1)] := by
    have e9 : p_X6_characterAt σ p1 = (p_X6_characterAt_t1 σ p1) := by rfl
    exact hret _ _ _ _ (by rw [e9]) rfl dX6_characterAt_28
  refine wd_if_lt C 27 dX6_characterAt_1 (by decide) (fun c_1 => ?_) (fun c_1 => ?_)
  · refine wd_iconst (v := (-1)) C dX6_characterAt_27 (by decide) ?_
    have ej_0 : p_X6_characterAt_t1 σ p1 = (-1) := by unfold p_X6_characterAt_t1; rw [if_pos c_1]
    rw [ej_0] at J_1
    exact wd_lv [0, 1] _ rfl J_1
  · refine wd_iload_n C dX6_characterAt_4 rfl 1 rfl ?_
    refine wd_aload_n C dX6_characterAt_5 rfl 0 rfl ?_
    refine gfT_0_1 (x := σ.1 0) C tw_226 rfl dX6_characterAt_6 ?_
    refine wd_icmp_ge C 27 dX6_characterAt_9 (by decide) (fun c_9 => ?_) (fun c_9 => ?_)
    · refine wd_iconst (v := (-1)) C dX6_characterAt_27 (by decide) ?_
      have ej_0 : p_X6_characterAt_t1 σ p1 = (-1) := by unfold p_X6_characterAt_t1; rw [if_neg c_1, if_pos c_9]
      rw [ej_0] at J_1
      exact wd_lv [0, 1] _ rfl J_1
    · refine wd_iload_n C dX6_characterAt_12 rfl 1 rfl ?_
      refine wd_bipush (v := 16) C dX6_characterAt_13 (by decide) ?_
      refine wd_icmp_ge C 27 dX6_characterAt_15 (by decide) (fun c_15 => ?_) (fun c_15 => ?_)
      · refine wd_iconst (v := (-1)) C dX6_characterAt_27 (by decide) ?_
        have ej_0 : p_X6_characterAt_t1 σ p1 = (-1) := by unfold p_X6_characterAt_t1; rw [if_neg c_1, if_neg c_9, if_pos c_15]
        rw [ej_0] at J_1
        exact wd_lv [0, 1] _ rfl J_1
      · refine wd_aload_n C dX6_characterAt_18 rfl 0 rfl ?_
        refine gfT_0_0 C tw_225 dX6_characterAt_19 ?_
        refine wd_iload_n C dX6_characterAt_22 rfl 1 rfl ?_
        refine alT_1 (x := σ.2.2 0 (p1 : Int32).toNatClampNeg) C (in_g c_1 c_15 (by decide)) rfl dX6_characterAt_23 ?_
        refine wd_goto C 28 dX6_characterAt_24 (by decide) ?_
        have ej_0 : p_X6_characterAt_t1 σ p1 = σ.2.2 0 (p1 : Int32).toNatClampNeg := by unfold p_X6_characterAt_t1; rw [if_neg c_1, if_neg c_9, if_neg c_15]
        rw [ej_0] at J_1
        exact wd_lv [0, 1] _ rfl J_1
