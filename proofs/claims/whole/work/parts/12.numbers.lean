def p_X2_begin_l1 (σ : St) : Nat → St → Int32 → St × Int32
  | 0, s, x1 => (s, x1)
  | n + 1, s, x1 => (if 6 ≤ x1 then (s, x1) else p_X2_begin_l1 σ n (sa s 0 (upd (s.2.2 0) (x1 : Int32).toNatClampNeg 0)) (x1 + 1))
def p_X2_begin (σ : St) : St := sb (si ((p_X2_begin_l1 σ 6 σ 0).1) 0 0) 0 false
set_option maxHeartbeats 4000000 in
set_option maxRecDepth 100000 in
theorem c_X2_begin (l : Launch) (K : KX) (ad : Nat → Nat) (σ : St) : Mt l K yX2_begin cX2_begin 2 none { frames := 0, cells := 0, slots := 0, locals := 0 } [.ref (ad 0)] (WdN K ad σ) none (WdN K ad (p_X2_begin σ)) := by
  refine Mt.v (by decide +kernel) (Nat.le_of_ble_eq_true rfl) (fun X C hret => ?_)
  show WD X K 2 0 0 (WdN K ad σ) [(0, .ref (ad 0))] 0 []
  refine wd_iconst (v := 0) C dX2_begin_0 (by decide) ?_
  refine wd_istore_n C [(1, .int 0), (0, .ref (ad 0))] dX2_begin_1 rfl (by decide) rfl ?_
  have J_2 : WD X K 2 0 0 (WdN K ad ((p_X2_begin_l1 σ 6 σ 0).1)) [(0, .ref (ad 0)), (1, .int ((p_X2_begin_l1 σ 6 σ 0).2))] 21 [] := by
    refine wd_aload_n C dX2_begin_21 rfl 0 rfl ?_
    refine wd_iconst (v := 0) C dX2_begin_22 (by decide) ?_
    refine pfN_0_1 C tw_209 0 dX2_begin_23 ?_
    refine wd_aload_n C dX2_begin_26 rfl 0 rfl ?_
    refine wd_iconst (v := 0) C dX2_begin_27 (by decide) ?_
    refine pfN_0_2 C tw_210 false dX2_begin_28 ?_
    have e9 : p_X2_begin σ = sb (si ((p_X2_begin_l1 σ 6 σ 0).1) 0 0) 0 false := by rfl
    exact hret _ _ _ (by rw [e9] <;> rfl) dX2_begin_31
  have L_2 : ∀ (n : Nat) (s : St) (x1 : Int32), p_X2_begin_l1 σ n s x1 = p_X2_begin_l1 σ 6 σ 0 → 0 ≤ x1.toInt ∧ 6 - x1.toInt ≤ (n : Int) → WD X K 2 0 0 (WdN K ad s) [(0, .ref (ad 0)), (1, .int x1)] 2 [] := by
    intro n
    induction n with
    | zero =>
      intro s x1 hE hI
      refine wd_iload_n C dX2_begin_2 rfl 1 rfl ?_
      refine wd_bipush (v := 6) C dX2_begin_3 (by decide) ?_
      refine wd_icmp_ge C 21 dX2_begin_5 (by decide) (fun c_5 => ?_) (fun c_5 => ?_)
      · have eL := hE
        rw [p_X2_begin_l1] at eL
        rw [← eL] at J_2
        exact wd_lv [0, 1] _ rfl J_2
      · exact absurd (ti_le.mpr (by have h0 := hI.2; (try simp only [ti_lt, ti_le, ti_eq] at h0); have z6 : (6 : Int32).toInt = 6 := (by decide); omega)) c_5
    | succ n ih =>
      intro s x1 hE hI
      refine wd_iload_n C dX2_begin_2 rfl 1 rfl ?_
      refine wd_bipush (v := 6) C dX2_begin_3 (by decide) ?_
      refine wd_icmp_ge C 21 dX2_begin_5 (by decide) (fun c_5 => ?_) (fun c_5 => ?_)
      · have eL := hE
        rw [p_X2_begin_l1, if_pos c_5] at eL
        rw [← eL] at J_2
        exact wd_lv [0, 1] _ rfl J_2
      · refine wd_aload_n C dX2_begin_8 rfl 0 rfl ?_
        refine gfN_0_0 C tw_208 dX2_begin_9 ?_
        refine wd_iload_n C dX2_begin_12 rfl 1 rfl ?_
        refine wd_iconst (v := 0) C dX2_begin_13 (by decide) ?_
        refine asN_1 (f := s.2.2 0) C (vp_in_iff.mpr (by have h0 := c_5; (try simp only [ti_lt, ti_le, ti_eq] at h0); have h1 := hI.1; (try simp only [ti_lt, ti_le, ti_eq] at h1); have z6 : (6 : Int32).toInt = 6 := (by decide); omega)) rfl dX2_begin_14 ?_
        refine wd_iinc (v := x1 + 1) C [(1, .int (x1 + 1)), (0, .ref (ad 0))] dX2_begin_15 1 rfl (by rfl) (by decide) rfl ?_
        refine wd_goto C 2 dX2_begin_18 (by decide) ?_
        have eL := hE
        rw [p_X2_begin_l1, if_neg c_5] at eL
        exact wd_lv [1, 0] _ rfl (ih (sa s 0 (upd (s.2.2 0) (x1 : Int32).toNatClampNeg 0)) (x1 + 1) eL (by have h0 := c_5; (try simp only [ti_lt, ti_le, ti_eq] at h0); have h1 := hI.1; (try simp only [ti_lt, ti_le, ti_eq] at h1); have h2 := hI.2; (try simp only [ti_lt, ti_le, ti_eq] at h2); have z6 : (6 : Int32).toInt = 6 := (by decide); have z1 : (1 : Int32).toInt = 1 := (by decide); have e1 := ti_add (a := x1) (b := 1) (by omega) (by omega); constructor <;> omega))
  exact wd_lv [1, 0] _ rfl (L_2 6 σ 0 rfl (by constructor <;> decide))
def p_X2_isUntouched_t1 (σ : St) : Bool := (if σ.1 0 = 0 then (if σ.2.1 0 = true then false else true) else false)
def p_X2_isUntouched (σ : St) : Bool := (p_X2_isUntouched_t1 σ)
set_option maxHeartbeats 4000000 in
set_option maxRecDepth 100000 in
theorem c_X2_isUntouched (l : Launch) (K : KX) (ad : Nat → Nat) (σ : St) : Mt l K yX2_isUntouched cX2_isUntouched 1 (some .boolean) { frames := 0, cells := 0, slots := 0, locals := 0 } [.ref (ad 0)] (WdN K ad σ) (some (.int (b2i (p_X2_isUntouched σ)))) (WdN K ad σ) := by
  refine Mt.z (by decide +kernel) (Nat.le_of_ble_eq_true rfl) (fun X C hret => ?_)
  show WD X K 1 0 0 (WdN K ad σ) [(0, .ref (ad 0))] 0 []
  refine wd_aload_n C dX2_isUntouched_0 rfl 0 rfl ?_
  refine gfN_0_1 (x := σ.1 0) C tw_209 rfl dX2_isUntouched_1 ?_
  have J_4 : WD X K 1 0 0 (WdN K ad σ) [(0, .ref (ad 0))] 19 [.int (b2i (p_X2_isUntouched_t1 σ))] := by
    have e9 : p_X2_isUntouched σ = (p_X2_isUntouched_t1 σ) := by rfl
    exact hret (p_X2_isUntouched_t1 σ) _ _ _ (by rw [e9]) rfl dX2_isUntouched_19
  refine wd_if_ne C 18 dX2_isUntouched_4 (by decide) (fun c_4 => ?_) (fun c_4 => ?_)
  · refine wd_iconst (v := 0) C dX2_isUntouched_18 (by decide) ?_
    have ej_0 : p_X2_isUntouched_t1 σ = false := by unfold p_X2_isUntouched_t1; rw [if_neg c_4]
    rw [ej_0] at J_4
    exact wd_lv [0] _ rfl J_4
  · refine wd_aload_n C dX2_isUntouched_7 rfl 0 rfl ?_
    refine gfN_0_2 (x := σ.2.1 0) C tw_210 rfl dX2_isUntouched_8 ?_
    refine wd_if_neB (b := σ.2.1 0) C 18 dX2_isUntouched_11 (by decide) (fun c_11 => ?_) (fun c_11 => ?_)
    · refine wd_iconst (v := 0) C dX2_isUntouched_18 (by decide) ?_
      have ej_0 : p_X2_isUntouched_t1 σ = false := by unfold p_X2_isUntouched_t1; rw [if_pos c_4, if_pos c_11]
      rw [ej_0] at J_4
      exact wd_lv [0] _ rfl J_4
    · refine wd_iconst (v := 1) C dX2_isUntouched_14 (by decide) ?_
      refine wd_goto C 19 dX2_isUntouched_15 (by decide) ?_
      have ej_0 : p_X2_isUntouched_t1 σ = true := by unfold p_X2_isUntouched_t1; rw [if_pos c_4, if_neg c_11]
      rw [ej_0] at J_4
      exact wd_lv [0] _ rfl J_4
def p_X2_addDigit_s1 (σ : St) (p1 : Int32) : St := (if 6 ≤ (if 1 < σ.1 0 then σ.1 0 else 1) - 1 then si σ 0 (if 1 < σ.1 0 then σ.1 0 else 1) else sa (si σ 0 (if 1 < σ.1 0 then σ.1 0 else 1)) 0 (upd (σ.2.2 0) ((if 1 < σ.1 0 then σ.1 0 else 1) - 1 : Int32).toNatClampNeg ((if ((σ.2.2 0 ((if 1 < σ.1 0 then σ.1 0 else 1) - 1 : Int32).toNatClampNeg) * 10) + p1 < 9999 then ((σ.2.2 0 ((if 1 < σ.1 0 then σ.1 0 else 1) - 1 : Int32).toNatClampNeg) * 10) + p1 else 9999))))
def p_X2_addDigit (σ : St) (p1 : Int32) : St := (p_X2_addDigit_s1 σ p1)
set_option maxHeartbeats 4000000 in
set_option maxRecDepth 100000 in
theorem c_X2_addDigit (l : Launch) (K : KX) (ad : Nat → Nat) (σ : St) (p1 : Int32) : Mt l K yX2_addDigit cX2_addDigit 3 none { frames := 1, cells := 0, slots := 0, locals := 21 } [.ref (ad 0), .int p1] (WdN K ad σ) none (WdN K ad (p_X2_addDigit σ p1)) := by
  refine Mt.v (by decide +kernel) (Nat.le_of_ble_eq_true rfl) (fun X C hret => ?_)
  show WD X K 3 0 0 (WdN K ad σ) [(0, .ref (ad 0)), (1, .int p1)] 0 []
  refine wd_aload_n C dX2_addDigit_0 rfl 0 rfl ?_
  refine wd_iconst (v := 1) C dX2_addDigit_1 (by decide) ?_
  refine wd_aload_n C dX2_addDigit_2 rfl 0 rfl ?_
  refine gfN_0_1 (x := σ.1 0) C tw_209 rfl dX2_addDigit_3 ?_
  refine wd_max C tw_459 (by decide) (Nat.le_of_ble_eq_true rfl) (by decide) (by decide) dX2_addDigit_6 ?_
  refine pfN_0_1 C tw_209 (if 1 < σ.1 0 then σ.1 0 else 1) dX2_addDigit_9 ?_
  refine wd_aload_n C dX2_addDigit_12 rfl 0 rfl ?_
  refine gfN_0_1 (x := (if 1 < σ.1 0 then σ.1 0 else 1)) C tw_209 rfl dX2_addDigit_13 ?_
  refine wd_iconst (v := 1) C dX2_addDigit_16 (by decide) ?_
  refine wd_isub C dX2_addDigit_17 ?_
  refine wd_istore_n C [(2, .int ((if 1 < σ.1 0 then σ.1 0 else 1) - 1)), (0, .ref (ad 0)), (1, .int p1)] dX2_addDigit_18 rfl (by decide) rfl ?_
  refine wd_iload_n C dX2_addDigit_19 rfl 0 rfl ?_
  refine wd_bipush (v := 6) C dX2_addDigit_20 (by decide) ?_
  have J_22 : WD X K 3 0 0 (WdN K ad (p_X2_addDigit_s1 σ p1)) [(0, .ref (ad 0)), (1, .int p1), (2, .int ((if 1 < σ.1 0 then σ.1 0 else 1) - 1))] 48 [] := by
    have e9 : p_X2_addDigit σ p1 = (p_X2_addDigit_s1 σ p1) := by rfl
    exact hret _ _ _ (by rw [e9] <;> rfl) dX2_addDigit_48
  refine wd_icmp_ge C 48 dX2_addDigit_22 (by decide) (fun c_22 => ?_) (fun c_22 => ?_)
  · have ej_0 : p_X2_addDigit_s1 σ p1 = si σ 0 (if 1 < σ.1 0 then σ.1 0 else 1) := by unfold p_X2_addDigit_s1; rw [if_pos c_22]
    rw [ej_0] at J_22
    exact wd_lv [1, 2, 0] _ rfl J_22
  · refine wd_aload_n C dX2_addDigit_25 rfl 1 rfl ?_
    refine gfN_0_0 C tw_208 dX2_addDigit_26 ?_
    refine wd_iload_n C dX2_addDigit_29 rfl 0 rfl ?_
    refine wd_sipush (v := 9999) C dX2_addDigit_30 (by decide) ?_
    refine wd_aload_n C dX2_addDigit_33 rfl 1 rfl ?_
    refine gfN_0_0 C tw_208 dX2_addDigit_34 ?_
    refine wd_iload_n C dX2_addDigit_37 rfl 0 rfl ?_
    refine alN_1 (x := σ.2.2 0 ((if 1 < σ.1 0 then σ.1 0 else 1) - 1 : Int32).toNatClampNeg) C (nb_ok c_22) rfl dX2_addDigit_38 ?_
    refine wd_bipush (v := 10) C dX2_addDigit_39 (by decide) ?_
    refine wd_imul C dX2_addDigit_41 ?_
    refine wd_iload_n C dX2_addDigit_42 rfl 2 rfl ?_
    refine wd_iadd C dX2_addDigit_43 ?_
    refine wd_min C tw_460 (by decide) (Nat.le_of_ble_eq_true rfl) (by decide) (by decide) dX2_addDigit_44 ?_
    refine asN_1 (f := σ.2.2 0) C (nb_ok c_22) rfl dX2_addDigit_47 ?_
    have ej_0 : p_X2_addDigit_s1 σ p1 = sa (si σ 0 (if 1 < σ.1 0 then σ.1 0 else 1)) 0 (upd (σ.2.2 0) ((if 1 < σ.1 0 then σ.1 0 else 1) - 1 : Int32).toNatClampNeg ((if ((σ.2.2 0 ((if 1 < σ.1 0 then σ.1 0 else 1) - 1 : Int32).toNatClampNeg) * 10) + p1 < 9999 then ((σ.2.2 0 ((if 1 < σ.1 0 then σ.1 0 else 1) - 1 : Int32).toNatClampNeg) * 10) + p1 else 9999))) := by unfold p_X2_addDigit_s1; rw [if_neg c_22]
    rw [ej_0] at J_22
    exact wd_lv [1, 2, 0] _ rfl J_22
def p_X2_next (σ : St) : St := si σ 0 ((if (if 1 < σ.1 0 then σ.1 0 else 1) + 1 < 7 then (if 1 < σ.1 0 then σ.1 0 else 1) + 1 else 7))
set_option maxHeartbeats 4000000 in
set_option maxRecDepth 100000 in
theorem c_X2_next (l : Launch) (K : KX) (ad : Nat → Nat) (σ : St) : Mt l K yX2_next cX2_next 1 none { frames := 1, cells := 0, slots := 0, locals := 21 } [.ref (ad 0)] (WdN K ad σ) none (WdN K ad (p_X2_next σ)) := by
  refine Mt.v (by decide +kernel) (Nat.le_of_ble_eq_true rfl) (fun X C hret => ?_)
  show WD X K 1 0 0 (WdN K ad σ) [(0, .ref (ad 0))] 0 []
  refine wd_aload_n C dX2_next_0 rfl 0 rfl ?_
  refine wd_bipush (v := 7) C dX2_next_1 (by decide) ?_
  refine wd_iconst (v := 1) C dX2_next_3 (by decide) ?_
  refine wd_aload_n C dX2_next_4 rfl 0 rfl ?_
  refine gfN_0_1 (x := σ.1 0) C tw_209 rfl dX2_next_5 ?_
  refine wd_max C tw_459 (by decide) (Nat.le_of_ble_eq_true rfl) (by decide) (by decide) dX2_next_8 ?_
  refine wd_iconst (v := 1) C dX2_next_11 (by decide) ?_
  refine wd_iadd C dX2_next_12 ?_
  refine wd_min C tw_460 (by decide) (Nat.le_of_ble_eq_true rfl) (by decide) (by decide) dX2_next_13 ?_
  refine pfN_0_1 C tw_209 ((if (if 1 < σ.1 0 then σ.1 0 else 1) + 1 < 7 then (if 1 < σ.1 0 then σ.1 0 else 1) + 1 else 7)) dX2_next_16 ?_
  have e9 : p_X2_next σ = si σ 0 ((if (if 1 < σ.1 0 then σ.1 0 else 1) + 1 < 7 then (if 1 < σ.1 0 then σ.1 0 else 1) + 1 else 7)) := by rfl
  exact hret _ _ _ (by rw [e9] <;> rfl) dX2_next_19
def p_X2_kept (σ : St) : Int32 := (if 6 < σ.1 0 then 6 else σ.1 0)
set_option maxHeartbeats 4000000 in
set_option maxRecDepth 100000 in
theorem c_X2_kept (l : Launch) (K : KX) (ad : Nat → Nat) (σ : St) : Mt l K yX2_kept cX2_kept 1 (some .int) { frames := 1, cells := 0, slots := 0, locals := 21 } [.ref (ad 0)] (WdN K ad σ) (some (.int (p_X2_kept σ))) (WdN K ad σ) := by
  refine Mt.i (by decide +kernel) (Nat.le_of_ble_eq_true rfl) (fun X C hret => ?_)
  show WD X K 1 0 0 (WdN K ad σ) [(0, .ref (ad 0))] 0 []
  refine wd_aload_n C dX2_kept_0 rfl 0 rfl ?_
  refine gfN_0_1 (x := σ.1 0) C tw_209 rfl dX2_kept_1 ?_
  refine wd_bipush (v := 6) C dX2_kept_4 (by decide) ?_
  refine wd_min C tw_460 (by decide) (Nat.le_of_ble_eq_true rfl) (by decide) (by decide) dX2_kept_6 ?_
  have e9 : p_X2_kept σ = (if 6 < σ.1 0 then 6 else σ.1 0) := by rfl
  exact hret _ _ _ _ (by rw [e9]) rfl dX2_kept_9
def p_X2_valueAt_t1 (σ : St) (p1 : Int32) : Int32 := (if p1 < 0 then 0 else (if 6 ≤ p1 then 0 else σ.2.2 0 (p1 : Int32).toNatClampNeg))
def p_X2_valueAt (σ : St) (p1 : Int32) : Int32 := (p_X2_valueAt_t1 σ p1)
set_option maxHeartbeats 4000000 in
set_option maxRecDepth 100000 in
theorem c_X2_valueAt (l : Launch) (K : KX) (ad : Nat → Nat) (σ : St) (p1 : Int32) : Mt l K yX2_valueAt cX2_valueAt 2 (some .int) { frames := 0, cells := 0, slots := 0, locals := 0 } [.ref (ad 0), .int p1] (WdN K ad σ) (some (.int (p_X2_valueAt σ p1))) (WdN K ad σ) := by
  refine Mt.i (by decide +kernel) (Nat.le_of_ble_eq_true rfl) (fun X C hret => ?_)
  show WD X K 2 0 0 (WdN K ad σ) [(0, .ref (ad 0)), (1, .int p1)] 0 []
  refine wd_iload_n C dX2_valueAt_0 rfl 1 rfl ?_
  have J_1 : WD X K 2 0 0 (WdN K ad σ) [(0, .ref (ad 0)), (1, .int p1)] 20 [.int (p_X2_valueAt_t1 σ p1)] := by
    have e9 : p_X2_valueAt σ p1 = (p_X2_valueAt_t1 σ p1) := by rfl
    exact hret _ _ _ _ (by rw [e9]) rfl dX2_valueAt_20
  refine wd_if_lt C 19 dX2_valueAt_1 (by decide) (fun c_1 => ?_) (fun c_1 => ?_)
  · refine wd_iconst (v := 0) C dX2_valueAt_19 (by decide) ?_
    have ej_0 : p_X2_valueAt_t1 σ p1 = 0 := by unfold p_X2_valueAt_t1; rw [if_pos c_1]
    rw [ej_0] at J_1
    exact wd_lv [0, 1] _ rfl J_1
  · refine wd_iload_n C dX2_valueAt_4 rfl 1 rfl ?_
    refine wd_bipush (v := 6) C dX2_valueAt_5 (by decide) ?_
    refine wd_icmp_ge C 19 dX2_valueAt_7 (by decide) (fun c_7 => ?_) (fun c_7 => ?_)
    · refine wd_iconst (v := 0) C dX2_valueAt_19 (by decide) ?_
      have ej_0 : p_X2_valueAt_t1 σ p1 = 0 := by unfold p_X2_valueAt_t1; rw [if_neg c_1, if_pos c_7]
      rw [ej_0] at J_1
      exact wd_lv [0, 1] _ rfl J_1
    · refine wd_aload_n C dX2_valueAt_10 rfl 0 rfl ?_
      refine gfN_0_0 C tw_208 dX2_valueAt_11 ?_
      refine wd_iload_n C dX2_valueAt_14 rfl 1 rfl ?_
      refine alN_1 (x := σ.2.2 0 (p1 : Int32).toNatClampNeg) C (in_g c_1 c_7 (by decide)) rfl dX2_valueAt_15 ?_
      refine wd_goto C 20 dX2_valueAt_16 (by decide) ?_
      have ej_0 : p_X2_valueAt_t1 σ p1 = σ.2.2 0 (p1 : Int32).toNatClampNeg := by unfold p_X2_valueAt_t1; rw [if_neg c_1, if_neg c_7]
      rw [ej_0] at J_1
      exact wd_lv [0, 1] _ rfl J_1
