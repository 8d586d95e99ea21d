theorem rem_l1 (σ : St) : ∀ (n : Nat) (s : St) (x : Int32), (p_X8_remember_l1 σ n s x).1.1 = s.1 := by
  intro n
  induction n with
  | zero => intro s x; rfl
  | succ n ih =>
    intro s x
    rw [p_X8_remember_l1]
    by_cases h : (96 : Int32) ≤ x
    · rw [if_pos h]
    · rw [if_neg h, ih]; rfl
theorem rem_1 (σ : St) : (p_X8_remember σ).1 = σ.1 := rem_l1 σ 96 σ 0
theorem rec_1 (σ : St) (a b : Int32) : (p_X8_recall σ a b).1 = σ.1 := rfl
theorem bl_1 (σ : St) (a : Int32) : (p_X8_blank σ a).1 = σ.1 := rfl
def p_X8_shiftRows_t1 (σ : St) (p1 : Int32) (p2 : Int32) (s : St) (x3 : Int32) (sq : St) (x5q : Int32) : Int32 := (if x3 + p2 < p1 then (-1) else (if x3 + p2 ≤ sq.1 8 then (12 * (x3 + p2)) + x5q else (-1)))
def p_X8_shiftRows_l2 (σ : St) (p1 : Int32) (p2 : Int32) (s : St) (x3 : Int32) : Nat → St → Int32 → St × Int32
  | 0, sq, x5q => (sq, x5q)
  | n + 1, sq, x5q => (if 12 ≤ x5q then (sq, x5q) else p_X8_shiftRows_l2 σ p1 p2 s x3 n ((p_X8_recall sq ((12 * x3) + x5q) (p_X8_shiftRows_t1 σ p1 p2 s x3 sq x5q))) (x5q + 1))
def p_X8_shiftRows_l3 (σ : St) (p1 : Int32) (p2 : Int32) : Nat → St → Int32 → St × Int32
  | 0, s, x3 => (s, x3)
  | n + 1, s, x3 => (if s.1 8 < x3 then (s, x3) else p_X8_shiftRows_l3 σ p1 p2 n ((p_X8_shiftRows_l2 σ p1 p2 s x3 12 s 0).1) (x3 + 1))
def p_X8_shiftRows (σ : St) (p1 : Int32) (p2 : Int32) : St := (p_X8_shiftRows_l3 σ p1 p2 8 (p_X8_remember σ) p1).1
theorem sr_l (σ : St) (p1 p2 : Int32) (s : St) (x3 : Int32) : ∀ (n : Nat) (q : St) (x : Int32), (p_X8_shiftRows_l2 σ p1 p2 s x3 n q x).1.1 = q.1 := by
  intro n
  induction n with
  | zero => intro q x; rfl
  | succ n ih =>
    intro q x
    rw [p_X8_shiftRows_l2]
    by_cases h : (12 : Int32) ≤ x
    · rw [if_pos h]
    · rw [if_neg h, ih]; rfl
theorem sr_k {r c : Int32} (hr : R2 0 7 r) (hc : R2 0 11 c) : 0 ≤ (12 * r + c).toInt ∧ (12 * r + c).toInt < 96 := by
  rw [t12 hr hc]
  have a := hr.1
  have b := hr.2
  have a2 := hc.1
  have b2 := hc.2
  omega
theorem sr_f (σ : St) (p1 p2 : Int32) (s : St) (x3 : Int32) (sq : St) (x5q : Int32) (hr : 0 ≤ p1.toInt) (hb : R2 0 7 (sq.1 8)) (h5 : R2 0 11 x5q) : (p_X8_shiftRows_t1 σ p1 p2 s x3 sq x5q).toInt < 96 := by
  unfold p_X8_shiftRows_t1
  by_cases h1 : x3 + p2 < p1
  · rw [if_pos h1]; decide
  · rw [if_neg h1]
    by_cases h2 : x3 + p2 ≤ sq.1 8
    · rw [if_pos h2]
      rw [ti_lt] at h1; rw [ti_le] at h2
      have b := hb.2
      exact (sr_k ⟨by omega, by omega⟩ h5).2
    · rw [if_neg h2]; decide
set_option maxHeartbeats 4000000 in
set_option maxRecDepth 100000 in
theorem c_X8_shiftRows (l : Launch) (K : KX) (ad : Nat → Nat) (σ : St) (p1 : Int32) (p2 : Int32) (hg : R2 0 1 (σ.1 4)) (hb : R2 0 7 (σ.1 8)) (hr : R2 0 7 p1) : Mt l K yX8_shiftRows cX8_shiftRows 6 none { frames := 1, cells := 0, slots := 0, locals := 23 } [.ref (ad 0), .int p1, .int p2] (WdM K ad σ) none (WdM K ad (p_X8_shiftRows σ p1 p2)) := by
  refine Mt.v (by decide +kernel) (Nat.le_of_ble_eq_true rfl) (fun X C hret => ?_)
  show WD X K 6 0 0 (WdM K ad σ) [(0, .ref (ad 0)), (1, .int p1), (2, .int p2)] 0 []
  refine wd_aload_n C dX8_shiftRows_0 rfl 0 rfl ?_
  refine wd_callV C 0 (c_X8_remember _ K ad σ (hg)) 0 (wcM_0 K ad _) rfl rfl tw_974 tw_976 tw_39 tw_72 tw_977 (by decide +kernel) rfl (by decide) (Nat.le_of_ble_eq_true rfl) dX8_shiftRows_1 _ rfl ?_
  refine wd_iload_n C dX8_shiftRows_4 rfl 1 rfl ?_
  refine wd_istore_n C [(3, .int p1), (0, .ref (ad 0)), (1, .int p1), (2, .int p2)] dX8_shiftRows_5 rfl (by decide) rfl ?_
  have J_6 : WD X K 6 0 0 (WdM K ad ((p_X8_shiftRows_l3 σ p1 p2 8 (p_X8_remember σ) p1).1)) [(0, .ref (ad 0)), (1, .int p1), (2, .int p2), (3, .int ((p_X8_shiftRows_l3 σ p1 p2 8 (p_X8_remember σ) p1).2))] 79 [] := by
    have e9 : p_X8_shiftRows σ p1 p2 = (p_X8_shiftRows_l3 σ p1 p2 8 (p_X8_remember σ) p1).1 := by rfl
    exact hret _ _ _ (by rw [e9] <;> rfl) dX8_shiftRows_79
  have L_6 : ∀ (n : Nat) (s : St) (x3 : Int32), p_X8_shiftRows_l3 σ p1 p2 n s x3 = p_X8_shiftRows_l3 σ p1 p2 8 (p_X8_remember σ) p1 → 0 ≤ x3.toInt ∧ (σ.1 8).toInt - x3.toInt < (n : Int) ∧ s.1 = σ.1 → WD X K 6 0 0 (WdM K ad s) [(0, .ref (ad 0)), (1, .int p1), (2, .int p2), (3, .int x3)] 6 [] := by
    intro n
    induction n with
    | zero =>
      intro s x3 hE hI
      refine wd_iload_n C dX8_shiftRows_6 rfl 3 rfl ?_
      refine wd_aload_n C dX8_shiftRows_7 rfl 0 rfl ?_
      refine gfM_0_8 (x := s.1 8) C tw_827 rfl dX8_shiftRows_8 ?_
      refine wd_icmp_gt C 79 dX8_shiftRows_11 (by decide) (fun c_11 => ?_) (fun c_11 => ?_)
      · have eL := hE
        rw [p_X8_shiftRows_l3] at eL
        rw [← eL] at J_6
        exact wd_lv [0, 1, 2, 3] _ rfl J_6
      · exact absurd (ti_lt.mpr (by rw [hI.2.2]; have := hI.2.1; omega)) c_11
    | succ n ih =>
      intro s x3 hE hI
      refine wd_iload_n C dX8_shiftRows_6 rfl 3 rfl ?_
      refine wd_aload_n C dX8_shiftRows_7 rfl 0 rfl ?_
      refine gfM_0_8 (x := s.1 8) C tw_827 rfl dX8_shiftRows_8 ?_
      refine wd_icmp_gt C 79 dX8_shiftRows_11 (by decide) (fun c_11 => ?_) (fun c_11 => ?_)
      · have eL := hE
        rw [p_X8_shiftRows_l3, if_pos c_11] at eL
        rw [← eL] at J_6
        exact wd_lv [0, 1, 2, 3] _ rfl J_6
      · refine wd_iload_n C dX8_shiftRows_14 rfl 3 rfl ?_
        refine wd_iload_n C dX8_shiftRows_15 rfl 2 rfl ?_
        refine wd_iadd C dX8_shiftRows_16 ?_
        refine wd_istore C [(4, .int (x3 + p2)), (0, .ref (ad 0)), (1, .int p1), (2, .int p2), (3, .int x3)] dX8_shiftRows_17 (by decide) rfl ?_
        refine wd_iconst (v := 0) C dX8_shiftRows_19 (by decide) ?_
        refine wd_istore C [(5, .int 0), (4, .int (x3 + p2)), (0, .ref (ad 0)), (1, .int p1), (2, .int p2), (3, .int x3)] dX8_shiftRows_20 (by decide) rfl ?_
        have J_22 : WD X K 6 0 0 (WdM K ad ((p_X8_shiftRows_l2 σ p1 p2 s x3 12 s 0).1)) [(0, .ref (ad 0)), (1, .int p1), (2, .int p2), (3, .int x3), (4, .int (x3 + p2)), (5, .int ((p_X8_shiftRows_l2 σ p1 p2 s x3 12 s 0).2))] 73 [] := by
          refine wd_iinc (v := x3 + 1) C [(3, .int (x3 + 1)), (0, .ref (ad 0)), (1, .int p1), (2, .int p2), (4, .int (x3 + p2)), (5, .int ((p_X8_shiftRows_l2 σ p1 p2 s x3 12 s 0).2))] dX8_shiftRows_73 3 rfl (by rfl) (by decide) rfl ?_
          refine wd_goto C 6 dX8_shiftRows_76 (by decide) ?_
          have eL := hE
          rw [p_X8_shiftRows_l3, if_neg c_11] at eL
          exact wd_lv [1, 2, 3, 0] _ rfl (ih ((p_X8_shiftRows_l2 σ p1 p2 s x3 12 s 0).1) (x3 + 1) eL (by have q := c_11; rw [ti_lt, hI.2.2] at q; have h1 := hI.1; have h2 := hI.2.1; have b := hb.2; have z1 : (1 : Int32).toInt = 1 := (by decide); have e1 := ti_add (a := x3) (b := 1) (by omega) (by omega); exact ⟨by omega, by omega, (sr_l σ p1 p2 s x3 _ _ _).trans hI.2.2⟩))
        have L_22 : ∀ (n : Nat) (sq : St) (x5q : Int32), p_X8_shiftRows_l2 σ p1 p2 s x3 n sq x5q = p_X8_shiftRows_l2 σ p1 p2 s x3 12 s 0 → 0 ≤ x5q.toInt ∧ 12 - x5q.toInt ≤ (n : Int) ∧ sq.1 = σ.1 → WD X K 6 0 0 (WdM K ad sq) [(0, .ref (ad 0)), (1, .int p1), (2, .int p2), (3, .int x3), (4, .int (x3 + p2)), (5, .int x5q)] 22 [] := by
          intro n
          induction n with
          | zero =>
            intro sq x5q hEq hIq
            refine wd_iload C dX8_shiftRows_22 5 rfl ?_
            refine wd_bipush (v := 12) C dX8_shiftRows_24 (by decide) ?_
            refine wd_icmp_ge C 73 dX8_shiftRows_26 (by decide) (fun c_26 => ?_) (fun c_26 => ?_)
            · have eL := hEq
              rw [p_X8_shiftRows_l2] at eL
              rw [← eL] at J_22
              exact wd_lv [0, 1, 2, 3, 4, 5] _ rfl J_22
            · exact absurd (ti_le.mpr (by have h0 := hIq.2.1; (try simp only [ti_lt, ti_le, ti_eq] at h0); have z12 : (12 : Int32).toInt = 12 := (by decide); omega)) c_26
          | succ n ihq =>
            intro sq x5q hEq hIq
            refine wd_iload C dX8_shiftRows_22 5 rfl ?_
            refine wd_bipush (v := 12) C dX8_shiftRows_24 (by decide) ?_
            refine wd_icmp_ge C 73 dX8_shiftRows_26 (by decide) (fun c_26 => ?_) (fun c_26 => ?_)
            · have eL := hEq
              rw [p_X8_shiftRows_l2, if_pos c_26] at eL
              rw [← eL] at J_22
              exact wd_lv [0, 1, 2, 3, 4, 5] _ rfl J_22
            · refine wd_aload_n C dX8_shiftRows_29 rfl 0 rfl ?_
              refine wd_bipush (v := 12) C dX8_shiftRows_30 (by decide) ?_
              refine wd_iload_n C dX8_shiftRows_32 rfl 3 rfl ?_
              refine wd_imul C dX8_shiftRows_33 ?_
              refine wd_iload C dX8_shiftRows_34 5 rfl ?_
              refine wd_iadd C dX8_shiftRows_36 ?_
              refine wd_iload C dX8_shiftRows_37 4 rfl ?_
              refine wd_iload_n C dX8_shiftRows_39 rfl 1 rfl ?_
              have J_40 : WD X K 6 0 0 (WdM K ad sq) [(0, .ref (ad 0)), (1, .int p1), (2, .int p2), (3, .int x3), (4, .int (x3 + p2)), (5, .int x5q)] 64 [.int (p_X8_shiftRows_t1 σ p1 p2 s x3 sq x5q), .int ((12 * x3) + x5q), .ref (ad 0)] := by
                refine wd_callV C 2 (c_X8_recall _ K ad sq ((12 * x3) + x5q) (p_X8_shiftRows_t1 σ p1 p2 s x3 sq x5q) (by rw [hIq.2.2]; exact hg) (sr_k ⟨hI.1, by have q := c_11; rw [ti_lt, hI.2.2] at q; have := hb.2; omega⟩ ⟨hIq.1, by have h0 := c_26; (try simp only [ti_lt, ti_le, ti_eq] at h0); have z12 : (12 : Int32).toInt = 12 := (by decide); omega⟩) (sr_f σ p1 p2 s x3 sq x5q hr.1 (by rw [hIq.2.2]; exact hb) ⟨hIq.1, by have h0 := c_26; (try simp only [ti_lt, ti_le, ti_eq] at h0); have z12 : (12 : Int32).toInt = 12 := (by decide); omega⟩)) 0 (wcM_0 K ad _) rfl rfl tw_978 tw_980 tw_40 tw_72 tw_981 (by decide +kernel) rfl (by decide) (Nat.le_of_ble_eq_true rfl) dX8_shiftRows_64 _ rfl ?_
                refine wd_iinc (v := x5q + 1) C [(5, .int (x5q + 1)), (0, .ref (ad 0)), (1, .int p1), (2, .int p2), (3, .int x3), (4, .int (x3 + p2))] dX8_shiftRows_67 5 rfl (by rfl) (by decide) rfl ?_
                refine wd_goto C 22 dX8_shiftRows_70 (by decide) ?_
                have eL := hEq
                rw [p_X8_shiftRows_l2, if_neg c_26] at eL
                exact wd_lv [1, 2, 3, 4, 5, 0] _ rfl (ihq ((p_X8_recall sq ((12 * x3) + x5q) (p_X8_shiftRows_t1 σ p1 p2 s x3 sq x5q))) (x5q + 1) eL (by have h0 := c_26; (try simp only [ti_lt, ti_le, ti_eq] at h0); have h1 := hIq.1; (try simp only [ti_lt, ti_le, ti_eq] at h1); have h2 := hIq.2.1; (try simp only [ti_lt, ti_le, ti_eq] at h2); have z12 : (12 : Int32).toInt = 12 := (by decide); have z1 : (1 : Int32).toInt = 1 := (by decide); have e1 := ti_add (a := x5q) (b := 1) (by omega) (by omega); exact ⟨by omega, by omega, hIq.2.2⟩))
              refine wd_icmp_lt C 52 dX8_shiftRows_40 (by decide) (fun c_40 => ?_) (fun c_40 => ?_)
              · refine wd_iconst (v := (-1)) C dX8_shiftRows_52 (by decide) ?_
                refine wd_goto C 64 dX8_shiftRows_53 (by decide) ?_
                have ej_0 : p_X8_shiftRows_t1 σ p1 p2 s x3 sq x5q = (-1) := by unfold p_X8_shiftRows_t1; rw [if_pos c_40]
                rw [ej_0] at J_40
                exact wd_lv [0, 1, 2, 3, 4, 5] _ rfl J_40
              · refine wd_iload C dX8_shiftRows_43 4 rfl ?_
                refine wd_aload_n C dX8_shiftRows_45 rfl 0 rfl ?_
                refine gfM_0_8 (x := sq.1 8) C tw_827 rfl dX8_shiftRows_46 ?_
                refine wd_icmp_le C 56 dX8_shiftRows_49 (by decide) (fun c_49 => ?_) (fun c_49 => ?_)
                · refine wd_bipush (v := 12) C dX8_shiftRows_56 (by decide) ?_
                  refine wd_iload C dX8_shiftRows_58 4 rfl ?_
                  refine wd_imul C dX8_shiftRows_60 ?_
                  refine wd_iload C dX8_shiftRows_61 5 rfl ?_
                  refine wd_iadd C dX8_shiftRows_63 ?_
                  have ej_0 : p_X8_shiftRows_t1 σ p1 p2 s x3 sq x5q = (12 * (x3 + p2)) + x5q := by unfold p_X8_shiftRows_t1; rw [if_neg c_40, if_pos c_49]
                  rw [ej_0] at J_40
                  exact wd_lv [0, 1, 2, 3, 4, 5] _ rfl J_40
                · refine wd_iconst (v := (-1)) C dX8_shiftRows_52 (by decide) ?_
                  refine wd_goto C 64 dX8_shiftRows_53 (by decide) ?_
                  have ej_0 : p_X8_shiftRows_t1 σ p1 p2 s x3 sq x5q = (-1) := by unfold p_X8_shiftRows_t1; rw [if_neg c_40, if_neg c_49]
                  rw [ej_0] at J_40
                  exact wd_lv [0, 1, 2, 3, 4, 5] _ rfl J_40
        exact wd_lv [2, 3, 4, 5, 1, 0] _ rfl (L_22 12 s 0 rfl (⟨by decide, by decide, hI.2.2⟩))
  exact wd_lv [1, 2, 3, 0] _ rfl (L_6 8 (p_X8_remember σ) p1 rfl (⟨hr.1, by have := hr.1; have := hb.2; omega, rem_1 σ⟩))
def p_X8_shiftCells_t1 (σ : St) (p1 : Int32) (s : St) (x2 : Int32) : Int32 := (if x2 + p1 < s.1 6 then (-1) else (if x2 + p1 < 12 then (12 * (s.1 5)) + (x2 + p1) else (-1)))
def p_X8_shiftCells_l2 (σ : St) (p1 : Int32) : Nat → St → Int32 → St × Int32
  | 0, s, x2 => (s, x2)
  | n + 1, s, x2 => (if 12 ≤ x2 then (s, x2) else p_X8_shiftCells_l2 σ p1 n ((p_X8_recall s ((12 * (s.1 5)) + x2) (p_X8_shiftCells_t1 σ p1 s x2))) (x2 + 1))
def p_X8_shiftCells (σ : St) (p1 : Int32) : St := (p_X8_shiftCells_l2 σ p1 12 (p_X8_remember σ) ((p_X8_remember σ).1 6)).1
theorem sc_f (σ : St) (p1 : Int32) (s : St) (x2 : Int32) (hr : R2 0 7 (s.1 5)) (hc : 0 ≤ (s.1 6).toInt) : (p_X8_shiftCells_t1 σ p1 s x2).toInt < 96 := by
  unfold p_X8_shiftCells_t1
  by_cases h1 : x2 + p1 < s.1 6
  · rw [if_pos h1]; decide
  · rw [if_neg h1]
    by_cases h2 : x2 + p1 < 12
    · rw [if_pos h2]
      rw [ti_lt] at h1 h2
      have z : (12 : Int32).toInt = 12 := by decide
      exact (sr_k hr ⟨by omega, by omega⟩).2
    · rw [if_neg h2]; decide
set_option maxHeartbeats 4000000 in
set_option maxRecDepth 100000 in
theorem c_X8_shiftCells (l : Launch) (K : KX) (ad : Nat → Nat) (σ : St) (p1 : Int32) (hg : R2 0 1 (σ.1 4)) (hr : R2 0 7 (σ.1 5)) (hc : R2 0 11 (σ.1 6)) : Mt l K yX8_shiftCells cX8_shiftCells 4 none { frames := 1, cells := 0, slots := 0, locals := 23 } [.ref (ad 0), .int p1] (WdM K ad σ) none (WdM K ad (p_X8_shiftCells σ p1)) := by
  refine Mt.v (by decide +kernel) (Nat.le_of_ble_eq_true rfl) (fun X C hret => ?_)
  show WD X K 4 0 0 (WdM K ad σ) [(0, .ref (ad 0)), (1, .int p1)] 0 []
  refine wd_aload_n C dX8_shiftCells_0 rfl 0 rfl ?_
  refine wd_callV C 0 (c_X8_remember _ K ad σ (hg)) 0 (wcM_0 K ad _) rfl rfl tw_974 tw_976 tw_39 tw_72 tw_977 (by decide +kernel) rfl (by decide) (Nat.le_of_ble_eq_true rfl) dX8_shiftCells_1 _ rfl ?_
  refine wd_aload_n C dX8_shiftCells_4 rfl 0 rfl ?_
  refine gfM_0_6 (x := (p_X8_remember σ).1 6) C tw_825 rfl dX8_shiftCells_5 ?_
  refine wd_istore_n C [(2, .int ((p_X8_remember σ).1 6)), (0, .ref (ad 0)), (1, .int p1)] dX8_shiftCells_8 rfl (by decide) rfl ?_
  have J_9 : WD X K 4 0 0 (WdM K ad ((p_X8_shiftCells_l2 σ p1 12 (p_X8_remember σ) ((p_X8_remember σ).1 6)).1)) [(0, .ref (ad 0)), (1, .int p1), (2, .int ((p_X8_shiftCells_l2 σ p1 12 (p_X8_remember σ) ((p_X8_remember σ).1 6)).2))] 65 [] := by
    have e9 : p_X8_shiftCells σ p1 = (p_X8_shiftCells_l2 σ p1 12 (p_X8_remember σ) ((p_X8_remember σ).1 6)).1 := by rfl
    exact hret _ _ _ (by rw [e9] <;> rfl) dX8_shiftCells_65
  have L_9 : ∀ (n : Nat) (s : St) (x2 : Int32), p_X8_shiftCells_l2 σ p1 n s x2 = p_X8_shiftCells_l2 σ p1 12 (p_X8_remember σ) ((p_X8_remember σ).1 6) → 0 ≤ x2.toInt ∧ 12 - x2.toInt ≤ (n : Int) ∧ True ∧ s.1 = σ.1 → WD X K 4 0 0 (WdM K ad s) [(0, .ref (ad 0)), (1, .int p1), (2, .int x2)] 9 [] := by
    intro n
    induction n with
    | zero =>
      intro s x2 hE hI
      refine wd_iload_n C dX8_shiftCells_9 rfl 2 rfl ?_
      refine wd_bipush (v := 12) C dX8_shiftCells_10 (by decide) ?_
      refine wd_icmp_ge C 65 dX8_shiftCells_12 (by decide) (fun c_12 => ?_) (fun c_12 => ?_)
      · have eL := hE
        rw [p_X8_shiftCells_l2] at eL
        rw [← eL] at J_9
        exact wd_lv [0, 1, 2] _ rfl J_9
      · exact absurd (ti_le.mpr (by have h0 := hI.2.1; (try simp only [ti_lt, ti_le, ti_eq] at h0); have z12 : (12 : Int32).toInt = 12 := (by decide); omega)) c_12
    | succ n ih =>
      intro s x2 hE hI
      refine wd_iload_n C dX8_shiftCells_9 rfl 2 rfl ?_
      refine wd_bipush (v := 12) C dX8_shiftCells_10 (by decide) ?_
      refine wd_icmp_ge C 65 dX8_shiftCells_12 (by decide) (fun c_12 => ?_) (fun c_12 => ?_)
      · have eL := hE
        rw [p_X8_shiftCells_l2, if_pos c_12] at eL
        rw [← eL] at J_9
        exact wd_lv [0, 1, 2] _ rfl J_9
      · refine wd_iload_n C dX8_shiftCells_15 rfl 2 rfl ?_
        refine wd_iload_n C dX8_shiftCells_16 rfl 1 rfl ?_
        refine wd_iadd C dX8_shiftCells_17 ?_
        refine wd_istore_n C [(3, .int (x2 + p1)), (0, .ref (ad 0)), (1, .int p1), (2, .int x2)] dX8_shiftCells_18 rfl (by decide) rfl ?_
        refine wd_aload_n C dX8_shiftCells_19 rfl 1 rfl ?_
        refine wd_bipush (v := 12) C dX8_shiftCells_20 (by decide) ?_
        refine wd_aload_n C dX8_shiftCells_22 rfl 1 rfl ?_
        refine gfM_0_5 (x := s.1 5) C tw_824 rfl dX8_shiftCells_23 ?_
        refine wd_imul C dX8_shiftCells_26 ?_
        refine wd_iload_n C dX8_shiftCells_27 rfl 3 rfl ?_
        refine wd_iadd C dX8_shiftCells_28 ?_
        refine wd_iload_n C dX8_shiftCells_29 rfl 0 rfl ?_
        refine wd_aload_n C dX8_shiftCells_30 rfl 1 rfl ?_
        refine gfM_0_6 (x := s.1 6) C tw_825 rfl dX8_shiftCells_31 ?_
        have J_34 : WD X K 4 0 0 (WdM K ad s) [(0, .ref (ad 0)), (1, .int p1), (2, .int x2), (3, .int (x2 + p1))] 56 [.int (p_X8_shiftCells_t1 σ p1 s x2), .int ((12 * (s.1 5)) + x2), .ref (ad 0)] := by
          refine wd_callV C 2 (c_X8_recall _ K ad s ((12 * (s.1 5)) + x2) (p_X8_shiftCells_t1 σ p1 s x2) (by rw [hI.2.2.2]; exact hg) (sr_k (by rw [hI.2.2.2]; exact hr) ⟨hI.1, by have h0 := c_12; (try simp only [ti_lt, ti_le, ti_eq] at h0); have z12 : (12 : Int32).toInt = 12 := (by decide); omega⟩) (sc_f σ p1 s x2 (by rw [hI.2.2.2]; exact hr) (by rw [hI.2.2.2]; exact hc.1))) 0 (wcM_0 K ad _) rfl rfl tw_978 tw_980 tw_40 tw_72 tw_981 (by decide +kernel) rfl (by decide) (Nat.le_of_ble_eq_true rfl) dX8_shiftCells_56 _ rfl ?_
          refine wd_iinc (v := x2 + 1) C [(2, .int (x2 + 1)), (0, .ref (ad 0)), (1, .int p1), (3, .int (x2 + p1))] dX8_shiftCells_59 2 rfl (by rfl) (by decide) rfl ?_
          refine wd_goto C 9 dX8_shiftCells_62 (by decide) ?_
          have eL := hE
          rw [p_X8_shiftCells_l2, if_neg c_12] at eL
          exact wd_lv [1, 2, 0] _ rfl (ih ((p_X8_recall s ((12 * (s.1 5)) + x2) (p_X8_shiftCells_t1 σ p1 s x2))) (x2 + 1) eL (by have h0 := c_12; (try simp only [ti_lt, ti_le, ti_eq] at h0); have h1 := hI.1; (try simp only [ti_lt, ti_le, ti_eq] at h1); have h2 := hI.2.1; (try simp only [ti_lt, ti_le, ti_eq] at h2); have z12 : (12 : Int32).toInt = 12 := (by decide); have z1 : (1 : Int32).toInt = 1 := (by decide); have e1 := ti_add (a := x2) (b := 1) (by omega) (by omega); exact ⟨by omega, by omega, trivial, hI.2.2.2⟩))
        refine wd_icmp_lt C 43 dX8_shiftCells_34 (by decide) (fun c_34 => ?_) (fun c_34 => ?_)
        · refine wd_iconst (v := (-1)) C dX8_shiftCells_43 (by decide) ?_
          refine wd_goto C 56 dX8_shiftCells_44 (by decide) ?_
          have ej_0 : p_X8_shiftCells_t1 σ p1 s x2 = (-1) := by unfold p_X8_shiftCells_t1; rw [if_pos c_34]
          rw [ej_0] at J_34
          exact wd_lv [1, 2, 3, 0] _ rfl J_34
        · refine wd_iload_n C dX8_shiftCells_37 rfl 0 rfl ?_
          refine wd_bipush (v := 12) C dX8_shiftCells_38 (by decide) ?_
          refine wd_icmp_lt C 47 dX8_shiftCells_40 (by decide) (fun c_40 => ?_) (fun c_40 => ?_)
          · refine wd_bipush (v := 12) C dX8_shiftCells_47 (by decide) ?_
            refine wd_aload_n C dX8_shiftCells_49 rfl 1 rfl ?_
            refine gfM_0_5 (x := s.1 5) C tw_824 rfl dX8_shiftCells_50 ?_
            refine wd_imul C dX8_shiftCells_53 ?_
            refine wd_iload_n C dX8_shiftCells_54 rfl 0 rfl ?_
            refine wd_iadd C dX8_shiftCells_55 ?_
            have ej_0 : p_X8_shiftCells_t1 σ p1 s x2 = (12 * (s.1 5)) + (x2 + p1) := by unfold p_X8_shiftCells_t1; rw [if_neg c_34, if_pos c_40]
            rw [ej_0] at J_34
            exact wd_lv [1, 2, 3, 0] _ rfl J_34
          · refine wd_iconst (v := (-1)) C dX8_shiftCells_43 (by decide) ?_
            refine wd_goto C 56 dX8_shiftCells_44 (by decide) ?_
            have ej_0 : p_X8_shiftCells_t1 σ p1 s x2 = (-1) := by unfold p_X8_shiftCells_t1; rw [if_neg c_34, if_neg c_40]
            rw [ej_0] at J_34
            exact wd_lv [1, 2, 3, 0] _ rfl J_34
  exact wd_lv [1, 2, 0] _ rfl (L_9 12 (p_X8_remember σ) ((p_X8_remember σ).1 6) rfl (⟨by rw [rem_1]; exact hc.1, by rw [rem_1]; have := hc.1; omega, trivial, rem_1 σ⟩))
def p_X8_clear_l1 (σ : St) (p1 : Int32) (p2 : Int32) : Nat → St → Int32 → St × Int32
  | 0, s, x3 => (s, x3)
  | n + 1, s, x3 => (if p2 < x3 then (s, x3) else p_X8_clear_l1 σ p1 p2 n ((p_X8_blank s ((96 * (s.1 4)) + x3))) (x3 + 1))
def p_X8_clear (σ : St) (p1 : Int32) (p2 : Int32) : St := (p_X8_clear_l1 σ p1 p2 96 σ p1).1
set_option maxHeartbeats 4000000 in
set_option maxRecDepth 100000 in
theorem c_X8_clear (l : Launch) (K : KX) (ad : Nat → Nat) (σ : St) (p1 : Int32) (p2 : Int32) (hg : R2 0 1 (σ.1 4)) (h1 : 0 ≤ p1.toInt) (h2 : p2.toInt ≤ 95) : Mt l K yX8_clear cX8_clear 4 none { frames := 1, cells := 0, slots := 0, locals := 21 } [.ref (ad 0), .int p1, .int p2] (WdM K ad σ) none (WdM K ad (p_X8_clear σ p1 p2)) := by
  refine Mt.v (by decide +kernel) (Nat.le_of_ble_eq_true rfl) (fun X C hret => ?_)
  show WD X K 4 0 0 (WdM K ad σ) [(0, .ref (ad 0)), (1, .int p1), (2, .int p2)] 0 []
  refine wd_iload_n C dX8_clear_0 rfl 1 rfl ?_
  refine wd_istore_n C [(3, .int p1), (0, .ref (ad 0)), (1, .int p1), (2, .int p2)] dX8_clear_1 rfl (by decide) rfl ?_
  have J_2 : WD X K 4 0 0 (WdM K ad ((p_X8_clear_l1 σ p1 p2 96 σ p1).1)) [(0, .ref (ad 0)), (1, .int p1), (2, .int p2), (3, .int ((p_X8_clear_l1 σ p1 p2 96 σ p1).2))] 26 [] := by
    have e9 : p_X8_clear σ p1 p2 = (p_X8_clear_l1 σ p1 p2 96 σ p1).1 := by rfl
    exact hret _ _ _ (by rw [e9] <;> rfl) dX8_clear_26
  have L_2 : ∀ (n : Nat) (s : St) (x3 : Int32), p_X8_clear_l1 σ p1 p2 n s x3 = p_X8_clear_l1 σ p1 p2 96 σ p1 → 0 ≤ x3.toInt ∧ p2.toInt - x3.toInt < (n : Int) ∧ s.1 = σ.1 → WD X K 4 0 0 (WdM K ad s) [(0, .ref (ad 0)), (1, .int p1), (2, .int p2), (3, .int x3)] 2 [] := by
    intro n
    induction n with
    | zero =>
      intro s x3 hE hI
      refine wd_iload_n C dX8_clear_2 rfl 3 rfl ?_
      refine wd_iload_n C dX8_clear_3 rfl 2 rfl ?_
      refine wd_icmp_gt C 26 dX8_clear_4 (by decide) (fun c_4 => ?_) (fun c_4 => ?_)
      · have eL := hE
        rw [p_X8_clear_l1] at eL
        rw [← eL] at J_2
        exact wd_lv [0, 1, 2, 3] _ rfl J_2
      · exact absurd (ti_lt.mpr (by have := hI.2.1; omega)) c_4
    | succ n ih =>
      intro s x3 hE hI
      refine wd_iload_n C dX8_clear_2 rfl 3 rfl ?_
      refine wd_iload_n C dX8_clear_3 rfl 2 rfl ?_
      refine wd_icmp_gt C 26 dX8_clear_4 (by decide) (fun c_4 => ?_) (fun c_4 => ?_)
      · have eL := hE
        rw [p_X8_clear_l1, if_pos c_4] at eL
        rw [← eL] at J_2
        exact wd_lv [0, 1, 2, 3] _ rfl J_2
      · refine wd_aload_n C dX8_clear_7 rfl 0 rfl ?_
        refine wd_bipush (v := 96) C dX8_clear_8 (by decide) ?_
        refine wd_aload_n C dX8_clear_10 rfl 0 rfl ?_
        refine gfM_0_4 (x := s.1 4) C tw_823 rfl dX8_clear_11 ?_
        refine wd_imul C dX8_clear_14 ?_
        refine wd_iload_n C dX8_clear_15 rfl 3 rfl ?_
        refine wd_iadd C dX8_clear_16 ?_
        refine wd_callV C 1 (c_X8_blank _ K ad s ((96 * (s.1 4)) + x3) (pgix (by rw [hI.2.2]; exact hg) hI.1 (by have h0 := c_4; (try simp only [ti_lt, ti_le, ti_eq] at h0); have h1 := h2; (try simp only [ti_lt, ti_le, ti_eq] at h1); omega))) 0 (wcM_0 K ad _) rfl rfl tw_799 tw_801 tw_29 tw_72 tw_802 (by decide +kernel) rfl (by decide) (Nat.le_of_ble_eq_true rfl) dX8_clear_17 _ rfl ?_
        refine wd_iinc (v := x3 + 1) C [(3, .int (x3 + 1)), (0, .ref (ad 0)), (1, .int p1), (2, .int p2)] dX8_clear_20 3 rfl (by rfl) (by decide) rfl ?_
        refine wd_goto C 2 dX8_clear_23 (by decide) ?_
        have eL := hE
        rw [p_X8_clear_l1, if_neg c_4] at eL
        exact wd_lv [1, 2, 3, 0] _ rfl (ih ((p_X8_blank s ((96 * (s.1 4)) + x3))) (x3 + 1) eL (by have h0 := c_4; (try simp only [ti_lt, ti_le, ti_eq] at h0); have h1 := hI.1; (try simp only [ti_lt, ti_le, ti_eq] at h1); have h2 := hI.2.1; (try simp only [ti_lt, ti_le, ti_eq] at h2); have h3 := h2; (try simp only [ti_lt, ti_le, ti_eq] at h3); have z1 : (1 : Int32).toInt = 1 := (by decide); have e1 := ti_add (a := x3) (b := 1) (by omega) (by omega); exact ⟨by omega, by omega, hI.2.2⟩))
  exact wd_lv [1, 2, 3, 0] _ rfl (L_2 96 σ p1 rfl (⟨h1, by omega, rfl⟩))
