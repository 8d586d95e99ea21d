def p_X8_control_s1 (σ : St) (p1 : Int32) : St := (if p1 = 7 then si σ 26 ((σ.1 26) + 1) else σ)
def p_X8_control_t2 (σ : St) (p1 : Int32) : Int32 := (if (p_X8_control_s1 σ p1).1 6 ≤ 0 then 0 else ((p_X8_control_s1 σ p1).1 6) - 1)
def p_X8_control_s3 (σ : St) (p1 : Int32) : St := (if p1 = 8 then (p_X8_place (p_X8_control_s1 σ p1) ((p_X8_control_s1 σ p1).1 5) (p_X8_control_t2 σ p1)) else (p_X8_control_s1 σ p1))
def p_X8_control_x4 (σ : St) (p1 : Int32) (x2 : Int32) (x3 : Int32) (x4 : Int32) : Int32 := (if x3 = 0 then x4 else x2)
def p_X8_control_t5 (σ : St) (p1 : Int32) (x2 : Int32) (x3 : Int32) (x4 : Int32) : Bool := (if x3 = 0 then (if ((p_X8_control_s3 σ p1).2.2 4) (x4 : Int32).toNatClampNeg = 0 then false else true) else true)
def p_X8_control_l6 (σ : St) (p1 : Int32) : Nat → Int32 → Int32 → Int32 → Int32 × Int32 × Int32
  | 0, x2, x3, x4 => (x2, x3, x4)
  | n + 1, x2, x3, x4 => (if 12 ≤ x4 then (x2, x3, x4) else p_X8_control_l6 σ p1 n (p_X8_control_x4 σ p1 x2 x3 x4) (b2i (p_X8_control_t5 σ p1 x2 x3 x4)) (x4 + 1))
def p_X8_control_s7 (σ : St) (p1 : Int32) : St := (if p1 = 9 then (p_X8_place (p_X8_control_s3 σ p1) ((p_X8_control_s3 σ p1).1 5) ((p_X8_control_l6 σ p1 12 ((p_X8_control_s3 σ p1).1 6) 0 (((p_X8_control_s3 σ p1).1 6) + 1)).1)) else (p_X8_control_s3 σ p1))
def p_X8_control_s8 (σ : St) (p1 : Int32) : St := (if p1 < 10 then (p_X8_control_s7 σ p1) else (if 12 < p1 then (p_X8_control_s7 σ p1) else (p_X8_feeding (p_X8_control_s7 σ p1))))
def p_X8_control_s9 (σ : St) (p1 : Int32) : St := (if p1 = 13 then (p_X8_place (p_X8_control_s8 σ p1) ((p_X8_control_s8 σ p1).1 5) 0) else (p_X8_control_s8 σ p1))
def p_X8_control (σ : St) (p1 : Int32) : St := (p_X8_control_s9 σ p1)
theorem okm_cs1 {σ : St} (p1 : Int32) (hM : OkM σ) : OkM (p_X8_control_s1 σ p1) := by
  unfold p_X8_control_s1
  exact okm_ite (fun _ => okm_si _ _ (by decide) hM) fun _ => hM
theorem okm_cs3 {σ : St} (p1 : Int32) (hM : OkM σ) : OkM (p_X8_control_s3 σ p1) := by
  unfold p_X8_control_s3
  have h1 := okm_cs1 p1 hM
  refine okm_ite (fun _ => okm_place h1.2.1 ?_ h1) fun _ => h1
  unfold p_X8_control_t2
  generalize p_X8_control_s1 σ p1 = τ at h1 ⊢
  refine R2.ite (fun _ => R2.lit 0 (by decide)) fun h => ?_
  rw [ti_le] at h
  have z : (0 : Int32).toInt = 0 := by decide
  have z1 : (1 : Int32).toInt = 1 := by decide
  have a := h1.2.2.1.1
  have b := h1.2.2.1.2
  have e := ti_sub (a := τ.1 6) (b := 1) (by omega) (by omega)
  exact ⟨by omega, by omega⟩
theorem ct_l (σ : St) (p1 : Int32) : ∀ (n : Nat) (x2 x3 x4 : Int32), R2 0 11 x2 → R2 0 12 x4 → R2 0 11 (p_X8_control_l6 σ p1 n x2 x3 x4).1 := by
  intro n
  induction n with
  | zero => intro x2 x3 x4 h _; exact h
  | succ n ih =>
    intro x2 x3 x4 h h4
    rw [p_X8_control_l6]
    by_cases hc : (12 : Int32) ≤ x4
    · rw [if_pos hc]; exact h
    · rw [if_neg hc]
      rw [ti_le] at hc
      have z : (12 : Int32).toInt = 12 := by decide
      have a := h4.1
      have h5 : R2 0 11 x4 := ⟨a, by omega⟩
      refine ih _ _ _ ?_ ((h5.s (by decide) (by decide)).w (by decide) (by decide))
      unfold p_X8_control_x4
      exact R2.ite (fun _ => h5) fun _ => h
theorem okm_cs7 {σ : St} (p1 : Int32) (hM : OkM σ) : OkM (p_X8_control_s7 σ p1) := by
  unfold p_X8_control_s7
  have h3 := okm_cs3 p1 hM
  exact okm_ite (fun _ => okm_place h3.2.1 (ct_l σ p1 _ _ _ _ h3.2.2.1 ((h3.2.2.1.s (by decide) (by decide)).w (by decide) (by decide))) h3) fun _ => h3
set_option maxHeartbeats 4000000 in
set_option maxRecDepth 100000 in
theorem c_X8_control (l : Launch) (K : KX) (ad : Nat → Nat) (σ : St) (p1 : Int32) (hM : OkM σ) : Mt l K yX8_control cX8_control 5 none { frames := 3, cells := 0, slots := 0, locals := 68 } [.ref (ad 0), .int p1] (WdM K ad σ) none (WdM K ad (p_X8_control σ p1)) := by
  refine Mt.v (by decide +kernel) (Nat.le_of_ble_eq_true rfl) (fun X C hret => ?_)
  show WD X K 5 0 0 (WdM K ad σ) [(0, .ref (ad 0)), (1, .int p1)] 0 []
  refine wd_iload_n C dX8_control_0 rfl 1 rfl ?_
  refine wd_bipush (v := 7) C dX8_control_1 (by decide) ?_
  have J_3 : WD X K 5 0 0 (WdM K ad (p_X8_control_s1 σ p1)) [(0, .ref (ad 0)), (1, .int p1)] 16 [] := by
    refine wd_iload_n C dX8_control_16 rfl 1 rfl ?_
    refine wd_bipush (v := 8) C dX8_control_17 (by decide) ?_
    have J_19 : WD X K 5 0 0 (WdM K ad (p_X8_control_s3 σ p1)) [(0, .ref (ad 0)), (1, .int p1)] 47 [] := by
      refine wd_iload_n C dX8_control_47 rfl 1 rfl ?_
      refine wd_bipush (v := 9) C dX8_control_48 (by decide) ?_
      have J_50 : WD X K 5 0 0 (WdM K ad (p_X8_control_s7 σ p1)) [(0, .ref (ad 0)), (1, .int p1)] 117 [] := by
        refine wd_iload_n C dX8_control_117 rfl 1 rfl ?_
        refine wd_bipush (v := 10) C dX8_control_118 (by decide) ?_
        have J_120 : WD X K 5 0 0 (WdM K ad (p_X8_control_s8 σ p1)) [(0, .ref (ad 0)), (1, .int p1)] 133 [] := by
          refine wd_iload_n C dX8_control_133 rfl 1 rfl ?_
          refine wd_bipush (v := 13) C dX8_control_134 (by decide) ?_
          have J_136 : WD X K 5 0 0 (WdM K ad (p_X8_control_s9 σ p1)) [(0, .ref (ad 0)), (1, .int p1)] 148 [] := by
            have e9 : p_X8_control σ p1 = (p_X8_control_s9 σ p1) := by rfl
            exact hret _ _ _ (by rw [e9] <;> rfl) dX8_control_148
          refine wd_icmp_ne C 148 dX8_control_136 (by decide) (fun c_136 => ?_) (fun c_136 => ?_)
          · have ej_0 : p_X8_control_s9 σ p1 = (p_X8_control_s8 σ p1) := by unfold p_X8_control_s9; rw [if_neg c_136]
            rw [ej_0] at J_136
            exact wd_lv [0, 1] _ rfl J_136
          · refine wd_aload_n C dX8_control_139 rfl 0 rfl ?_
            refine wd_aload_n C dX8_control_140 rfl 0 rfl ?_
            refine gfM_0_5 (x := (p_X8_control_s8 σ p1).1 5) C tw_824 rfl dX8_control_141 ?_
            refine wd_iconst (v := 0) C dX8_control_144 (by decide) ?_
            refine wd_callV C 2 (c_X8_place _ K ad (p_X8_control_s8 σ p1) ((p_X8_control_s8 σ p1).1 5) 0) 0 (wcM_0 K ad _) rfl rfl tw_803 tw_805 tw_30 tw_72 tw_806 (by decide +kernel) rfl (by decide) (Nat.le_of_ble_eq_true rfl) dX8_control_145 _ rfl ?_
            have ej_0 : p_X8_control_s9 σ p1 = (p_X8_place (p_X8_control_s8 σ p1) ((p_X8_control_s8 σ p1).1 5) 0) := by unfold p_X8_control_s9; rw [if_pos c_136]
            rw [ej_0] at J_136
            exact wd_lv [0, 1] _ rfl J_136
        refine wd_icmp_lt C 133 dX8_control_120 (by decide) (fun c_120 => ?_) (fun c_120 => ?_)
        · have ej_0 : p_X8_control_s8 σ p1 = (p_X8_control_s7 σ p1) := by unfold p_X8_control_s8; rw [if_pos c_120]
          rw [ej_0] at J_120
          exact wd_lv [0, 1] _ rfl J_120
        · refine wd_iload_n C dX8_control_123 rfl 1 rfl ?_
          refine wd_bipush (v := 12) C dX8_control_124 (by decide) ?_
          refine wd_icmp_gt C 133 dX8_control_126 (by decide) (fun c_126 => ?_) (fun c_126 => ?_)
          · have ej_0 : p_X8_control_s8 σ p1 = (p_X8_control_s7 σ p1) := by unfold p_X8_control_s8; rw [if_neg c_120, if_pos c_126]
            rw [ej_0] at J_120
            exact wd_lv [0, 1] _ rfl J_120
          · refine wd_aload_n C dX8_control_129 rfl 0 rfl ?_
            refine wd_callV C 0 (c_X8_feeding _ K ad (p_X8_control_s7 σ p1) (okm_cs7 p1 hM)) 0 (wcM_0 K ad _) rfl rfl tw_966 tw_968 tw_37 tw_72 tw_969 (by decide +kernel) rfl (by decide) (Nat.le_of_ble_eq_true rfl) dX8_control_130 _ rfl ?_
            have ej_0 : p_X8_control_s8 σ p1 = (p_X8_feeding (p_X8_control_s7 σ p1)) := by unfold p_X8_control_s8; rw [if_neg c_120, if_neg c_126]
            rw [ej_0] at J_120
            exact wd_lv [0, 1] _ rfl J_120
      refine wd_icmp_ne C 117 dX8_control_50 (by decide) (fun c_50 => ?_) (fun c_50 => ?_)
      · have ej_0 : p_X8_control_s7 σ p1 = (p_X8_control_s3 σ p1) := by unfold p_X8_control_s7; rw [if_neg c_50]
        rw [ej_0] at J_50
        exact wd_lv [0, 1] _ rfl J_50
      · refine wd_aload_n C dX8_control_53 rfl 0 rfl ?_
        refine gfM_0_6 (x := (p_X8_control_s3 σ p1).1 6) C tw_825 rfl dX8_control_54 ?_
        refine wd_istore_n C [(2, .int ((p_X8_control_s3 σ p1).1 6)), (0, .ref (ad 0)), (1, .int p1)] dX8_control_57 rfl (by decide) rfl ?_
        refine wd_iconst (v := 0) C dX8_control_58 (by decide) ?_
        refine wd_istore_n C [(3, .int 0), (2, .int ((p_X8_control_s3 σ p1).1 6)), (0, .ref (ad 0)), (1, .int p1)] dX8_control_59 rfl (by decide) rfl ?_
        refine wd_aload_n C dX8_control_60 rfl 2 rfl ?_
        refine gfM_0_6 (x := (p_X8_control_s3 σ p1).1 6) C tw_825 rfl dX8_control_61 ?_
        refine wd_iconst (v := 1) C dX8_control_64 (by decide) ?_
        refine wd_iadd C dX8_control_65 ?_
        refine wd_istore C [(4, .int (((p_X8_control_s3 σ p1).1 6) + 1)), (3, .int 0), (2, .int ((p_X8_control_s3 σ p1).1 6)), (0, .ref (ad 0)), (1, .int p1)] dX8_control_66 (by decide) rfl ?_
        have J_68 : WD X K 5 0 0 (WdM K ad (p_X8_control_s3 σ p1)) [(0, .ref (ad 0)), (1, .int p1), (2, .int ((p_X8_control_l6 σ p1 12 ((p_X8_control_s3 σ p1).1 6) 0 (((p_X8_control_s3 σ p1).1 6) + 1)).1)), (3, .int ((p_X8_control_l6 σ p1 12 ((p_X8_control_s3 σ p1).1 6) 0 (((p_X8_control_s3 σ p1).1 6) + 1)).2.1)), (4, .int ((p_X8_control_l6 σ p1 12 ((p_X8_control_s3 σ p1).1 6) 0 (((p_X8_control_s3 σ p1).1 6) + 1)).2.2))] 108 [] := by
          refine wd_aload_n C dX8_control_108 rfl 0 rfl ?_
          refine wd_aload_n C dX8_control_109 rfl 0 rfl ?_
          refine gfM_0_5 (x := (p_X8_control_s3 σ p1).1 5) C tw_824 rfl dX8_control_110 ?_
          refine wd_iload_n C dX8_control_113 rfl 2 rfl ?_
          refine wd_callV C 2 (c_X8_place _ K ad (p_X8_control_s3 σ p1) ((p_X8_control_s3 σ p1).1 5) ((p_X8_control_l6 σ p1 12 ((p_X8_control_s3 σ p1).1 6) 0 (((p_X8_control_s3 σ p1).1 6) + 1)).1)) 0 (wcM_0 K ad _) rfl rfl tw_803 tw_805 tw_30 tw_72 tw_806 (by decide +kernel) rfl (by decide) (Nat.le_of_ble_eq_true rfl) dX8_control_114 _ rfl ?_
          have ej_0 : p_X8_control_s7 σ p1 = (p_X8_place (p_X8_control_s3 σ p1) ((p_X8_control_s3 σ p1).1 5) ((p_X8_control_l6 σ p1 12 ((p_X8_control_s3 σ p1).1 6) 0 (((p_X8_control_s3 σ p1).1 6) + 1)).1)) := by unfold p_X8_control_s7; rw [if_pos c_50]
          rw [ej_0] at J_50
          exact wd_lv [0, 1] _ rfl J_50
        have L_68 : ∀ (n : Nat) (x2 : Int32) (x3 : Int32) (x4 : Int32), p_X8_control_l6 σ p1 n x2 x3 x4 = p_X8_control_l6 σ p1 12 ((p_X8_control_s3 σ p1).1 6) 0 (((p_X8_control_s3 σ p1).1 6) + 1) → 0 ≤ x4.toInt ∧ 12 - x4.toInt ≤ (n : Int) → WD X K 5 0 0 (WdM K ad (p_X8_control_s3 σ p1)) [(0, .ref (ad 0)), (1, .int p1), (2, .int x2), (3, .int x3), (4, .int x4)] 68 [] := by
          intro n
          induction n with
          | zero =>
            intro x2 x3 x4 hE hI
            refine wd_iload C dX8_control_68 4 rfl ?_
            refine wd_bipush (v := 12) C dX8_control_70 (by decide) ?_
            refine wd_icmp_ge C 108 dX8_control_72 (by decide) (fun c_72 => ?_) (fun c_72 => ?_)
            · have eL := hE
              rw [p_X8_control_l6] at eL
              rw [← eL] at J_68
              exact wd_lv [0, 1, 2, 3, 4] _ rfl J_68
            · exact absurd (ti_le.mpr (by have h0 := hI.2; (try simp only [ti_lt, ti_le, ti_eq] at h0); have z12 : (12 : Int32).toInt = 12 := (by decide); omega)) c_72
          | succ n ih =>
            intro x2 x3 x4 hE hI
            refine wd_iload C dX8_control_68 4 rfl ?_
            refine wd_bipush (v := 12) C dX8_control_70 (by decide) ?_
            refine wd_icmp_ge C 108 dX8_control_72 (by decide) (fun c_72 => ?_) (fun c_72 => ?_)
            · have eL := hE
              rw [p_X8_control_l6, if_pos c_72] at eL
              rw [← eL] at J_68
              exact wd_lv [0, 1, 2, 3, 4] _ rfl J_68
            · refine wd_iload_n C dX8_control_75 rfl 3 rfl ?_
              have J_76 : WD X K 5 0 0 (WdM K ad (p_X8_control_s3 σ p1)) [(0, .ref (ad 0)), (1, .int p1), (2, .int (p_X8_control_x4 σ p1 x2 x3 x4)), (3, .int x3), (4, .int x4)] 82 [] := by
                refine wd_iload_n C dX8_control_82 rfl 3 rfl ?_
                have J_83 : WD X K 5 0 0 (WdM K ad (p_X8_control_s3 σ p1)) [(0, .ref (ad 0)), (1, .int p1), (2, .int (p_X8_control_x4 σ p1 x2 x3 x4)), (3, .int x3), (4, .int x4)] 101 [.int (b2i (p_X8_control_t5 σ p1 x2 x3 x4))] := by
                  refine wd_istore_n C [(3, .int (b2i (p_X8_control_t5 σ p1 x2 x3 x4))), (0, .ref (ad 0)), (1, .int p1), (2, .int (p_X8_control_x4 σ p1 x2 x3 x4)), (4, .int x4)] dX8_control_101 rfl (by decide) rfl ?_
                  refine wd_iinc (v := x4 + 1) C [(4, .int (x4 + 1)), (3, .int (b2i (p_X8_control_t5 σ p1 x2 x3 x4))), (0, .ref (ad 0)), (1, .int p1), (2, .int (p_X8_control_x4 σ p1 x2 x3 x4))] dX8_control_102 4 rfl (by rfl) (by decide) rfl ?_
                  refine wd_goto C 68 dX8_control_105 (by decide) ?_
                  have eL := hE
                  rw [p_X8_control_l6, if_neg c_72] at eL
                  exact wd_lv [2, 3, 4, 1, 0] _ rfl (ih (p_X8_control_x4 σ p1 x2 x3 x4) (b2i (p_X8_control_t5 σ p1 x2 x3 x4)) (x4 + 1) eL (by have h0 := c_72; (try simp only [ti_lt, ti_le, ti_eq] at h0); have h1 := hI.1; (try simp only [ti_lt, ti_le, ti_eq] at h1); have h2 := hI.2; (try simp only [ti_lt, ti_le, ti_eq] at h2); have z12 : (12 : Int32).toInt = 12 := (by decide); have z1 : (1 : Int32).toInt = 1 := (by decide); have e1 := ti_add (a := x4) (b := 1) (by omega) (by omega); constructor <;> omega))
                refine wd_if_ne C 96 dX8_control_83 (by decide) (fun c_83 => ?_) (fun c_83 => ?_)
                · refine wd_iconst (v := 1) C dX8_control_96 (by decide) ?_
                  refine wd_goto C 101 dX8_control_97 (by decide) ?_
                  have ej_0 : p_X8_control_t5 σ p1 x2 x3 x4 = true := by unfold p_X8_control_t5; rw [if_neg c_83]
                  rw [ej_0] at J_83
                  exact wd_lv [0, 1, 2, 3, 4] _ rfl J_83
                · refine wd_aload_n C dX8_control_86 rfl 0 rfl ?_
                  refine gfM_0_23 C tw_842 dX8_control_87 ?_
                  refine wd_iload C dX8_control_90 4 rfl ?_
                  refine alM_5 (x := ((p_X8_control_s3 σ p1).2.2 4) (x4 : Int32).toNatClampNeg) C (vp_in_iff.mpr (by have h0 := c_72; (try simp only [ti_lt, ti_le, ti_eq] at h0); have h1 := hI.1; (try simp only [ti_lt, ti_le, ti_eq] at h1); have z12 : (12 : Int32).toInt = 12 := (by decide); omega)) rfl dX8_control_92 ?_
                  refine wd_if_eq C 100 dX8_control_93 (by decide) (fun c_93 => ?_) (fun c_93 => ?_)
                  · refine wd_iconst (v := 0) C dX8_control_100 (by decide) ?_
                    have ej_0 : p_X8_control_t5 σ p1 x2 x3 x4 = false := by unfold p_X8_control_t5; rw [if_pos c_83, if_pos c_93]
                    rw [ej_0] at J_83
                    exact wd_lv [0, 1, 2, 3, 4] _ rfl J_83
                  · refine wd_iconst (v := 1) C dX8_control_96 (by decide) ?_
                    refine wd_goto C 101 dX8_control_97 (by decide) ?_
                    have ej_0 : p_X8_control_t5 σ p1 x2 x3 x4 = true := by unfold p_X8_control_t5; rw [if_pos c_83, if_neg c_93]
                    rw [ej_0] at J_83
                    exact wd_lv [0, 1, 2, 3, 4] _ rfl J_83
              refine wd_if_ne C 82 dX8_control_76 (by decide) (fun c_76 => ?_) (fun c_76 => ?_)
              · have ej_0 : p_X8_control_x4 σ p1 x2 x3 x4 = x2 := by unfold p_X8_control_x4; rw [if_neg c_76]
                rw [ej_0] at J_76
                exact wd_lv [0, 1, 2, 3, 4] _ rfl J_76
              · refine wd_iload C dX8_control_79 4 rfl ?_
                refine wd_istore_n C [(2, .int x4), (0, .ref (ad 0)), (1, .int p1), (3, .int x3), (4, .int x4)] dX8_control_81 rfl (by decide) rfl ?_
                have ej_0 : p_X8_control_x4 σ p1 x2 x3 x4 = x4 := by unfold p_X8_control_x4; rw [if_pos c_76]
                rw [ej_0] at J_76
                exact wd_lv [1, 2, 0, 3, 4] _ rfl J_76
        exact wd_lv [3, 4, 2, 1, 0] _ rfl (L_68 12 ((p_X8_control_s3 σ p1).1 6) 0 (((p_X8_control_s3 σ p1).1 6) + 1) rfl (by have a := ((okm_cs3 p1 hM).2.2.1.s (by decide) (by decide)).1; exact ⟨by omega, by omega⟩))
    refine wd_icmp_ne C 47 dX8_control_19 (by decide) (fun c_19 => ?_) (fun c_19 => ?_)
    · have ej_0 : p_X8_control_s3 σ p1 = (p_X8_control_s1 σ p1) := by unfold p_X8_control_s3; rw [if_neg c_19]
      rw [ej_0] at J_19
      exact wd_lv [0, 1] _ rfl J_19
    · refine wd_aload_n C dX8_control_22 rfl 0 rfl ?_
      refine wd_aload_n C dX8_control_23 rfl 0 rfl ?_
      refine gfM_0_5 (x := (p_X8_control_s1 σ p1).1 5) C tw_824 rfl dX8_control_24 ?_
      refine wd_aload_n C dX8_control_27 rfl 0 rfl ?_
      refine gfM_0_6 (x := (p_X8_control_s1 σ p1).1 6) C tw_825 rfl dX8_control_28 ?_
      have J_31 : WD X K 5 0 0 (WdM K ad (p_X8_control_s1 σ p1)) [(0, .ref (ad 0)), (1, .int p1)] 44 [.int (p_X8_control_t2 σ p1), .int ((p_X8_control_s1 σ p1).1 5), .ref (ad 0)] := by
        refine wd_callV C 2 (c_X8_place _ K ad (p_X8_control_s1 σ p1) ((p_X8_control_s1 σ p1).1 5) (p_X8_control_t2 σ p1)) 0 (wcM_0 K ad _) rfl rfl tw_803 tw_805 tw_30 tw_72 tw_806 (by decide +kernel) rfl (by decide) (Nat.le_of_ble_eq_true rfl) dX8_control_44 _ rfl ?_
        have ej_0 : p_X8_control_s3 σ p1 = (p_X8_place (p_X8_control_s1 σ p1) ((p_X8_control_s1 σ p1).1 5) (p_X8_control_t2 σ p1)) := by unfold p_X8_control_s3; rw [if_pos c_19]
        rw [ej_0] at J_19
        exact wd_lv [0, 1] _ rfl J_19
      refine wd_if_le C 43 dX8_control_31 (by decide) (fun c_31 => ?_) (fun c_31 => ?_)
      · refine wd_iconst (v := 0) C dX8_control_43 (by decide) ?_
        have ej_0 : p_X8_control_t2 σ p1 = 0 := by unfold p_X8_control_t2; rw [if_pos c_31]
        rw [ej_0] at J_31
        exact wd_lv [0, 1] _ rfl J_31
      · refine wd_aload_n C dX8_control_34 rfl 0 rfl ?_
        refine gfM_0_6 (x := (p_X8_control_s1 σ p1).1 6) C tw_825 rfl dX8_control_35 ?_
        refine wd_iconst (v := 1) C dX8_control_38 (by decide) ?_
        refine wd_isub C dX8_control_39 ?_
        refine wd_goto C 44 dX8_control_40 (by decide) ?_
        have ej_0 : p_X8_control_t2 σ p1 = ((p_X8_control_s1 σ p1).1 6) - 1 := by unfold p_X8_control_t2; rw [if_neg c_31]
        rw [ej_0] at J_31
        exact wd_lv [0, 1] _ rfl J_31
  refine wd_icmp_ne C 16 dX8_control_3 (by decide) (fun c_3 => ?_) (fun c_3 => ?_)
  · have ej_0 : p_X8_control_s1 σ p1 = σ := by unfold p_X8_control_s1; rw [if_neg c_3]
    rw [ej_0] at J_3
    exact wd_lv [0, 1] _ rfl J_3
  · refine wd_aload_n C dX8_control_6 rfl 0 rfl ?_
    refine wd_aload_n C dX8_control_7 rfl 0 rfl ?_
    refine gfM_0_26 (x := σ.1 26) C tw_845 rfl dX8_control_8 ?_
    refine wd_iconst (v := 1) C dX8_control_11 (by decide) ?_
    refine wd_iadd C dX8_control_12 ?_
    refine pfM_0_26 C tw_845 ((σ.1 26) + 1) dX8_control_13 ?_
    have ej_0 : p_X8_control_s1 σ p1 = si σ 26 ((σ.1 26) + 1) := by unfold p_X8_control_s1; rw [if_pos c_3]
    rw [ej_0] at J_3
    exact wd_lv [0, 1] _ rfl J_3
theorem okm_control {σ : St} (p1 : Int32) (hM : OkM σ) : OkM (p_X8_control σ p1) := by
  unfold p_X8_control p_X8_control_s9
  have h7 := okm_cs7 p1 hM
  have h8 : OkM (p_X8_control_s8 σ p1) := by
    unfold p_X8_control_s8
    exact okm_ite (fun _ => h7) fun _ => okm_ite (fun _ => h7) fun _ => okm_feeding h7
  exact okm_ite (fun _ => okm_place h8.2.1 (R2.lit 0 (by decide)) h8) fun _ => h8
def p_X8_titleByte_l1 (σ : St) (p1 : Int32) : Nat → St → Int32 → St × Int32
  | 0, s, x2 => (s, x2)
  | n + 1, s, x2 => (if s.1 32 ≤ x2 then (s, x2) else p_X8_titleByte_l1 σ p1 n (sa s 6 (upd (s.2.2 6) (x2 : Int32).toNatClampNeg (s.2.2 7 (x2 : Int32).toNatClampNeg))) (x2 + 1))
def p_X8_titleByte_s2 (σ : St) (p1 : Int32) : St := (if p1 = 7 then si ((p_X8_titleByte_l1 σ p1 16 (si σ 31 (σ.1 32)) 0).1) 24 0 else (if p1 < 32 then σ else (if 16 ≤ σ.1 32 then σ else si (sa σ 7 (upd (σ.2.2 7) (σ.1 32 : Int32).toNatClampNeg p1)) 32 ((σ.1 32) + 1))))
def p_X8_titleByte (σ : St) (p1 : Int32) : St := (p_X8_titleByte_s2 σ p1)
set_option maxHeartbeats 4000000 in
set_option maxRecDepth 100000 in
theorem c_X8_titleByte (l : Launch) (K : KX) (ad : Nat → Nat) (σ : St) (p1 : Int32) (hM : OkM σ) : Mt l K yX8_titleByte cX8_titleByte 3 none { frames := 0, cells := 0, slots := 0, locals := 0 } [.ref (ad 0), .int p1] (WdM K ad σ) none (WdM K ad (p_X8_titleByte σ p1)) := by
  refine Mt.v (by decide +kernel) (Nat.le_of_ble_eq_true rfl) (fun X C hret => ?_)
  show WD X K 3 0 0 (WdM K ad σ) [(0, .ref (ad 0)), (1, .int p1)] 0 []
  refine wd_iload_n C dX8_titleByte_0 rfl 1 rfl ?_
  refine wd_bipush (v := 7) C dX8_titleByte_1 (by decide) ?_
  have J_3 : WD X K 3 0 0 (WdM K ad (p_X8_titleByte_s2 σ p1)) [(0, .ref (ad 0)), (1, .int p1)] 85 [] := by
    have e9 : p_X8_titleByte σ p1 = (p_X8_titleByte_s2 σ p1) := by rfl
    exact hret _ _ _ (by rw [e9] <;> rfl) dX8_titleByte_85
  refine wd_icmp_ne C 50 dX8_titleByte_3 (by decide) (fun c_3 => ?_) (fun c_3 => ?_)
  · refine wd_iload_n C dX8_titleByte_50 rfl 1 rfl ?_
    refine wd_bipush (v := 32) C dX8_titleByte_51 (by decide) ?_
    refine wd_icmp_lt C 85 dX8_titleByte_53 (by decide) (fun c_53 => ?_) (fun c_53 => ?_)
    · have ej_0 : p_X8_titleByte_s2 σ p1 = σ := by unfold p_X8_titleByte_s2; rw [if_neg c_3, if_pos c_53]
      rw [ej_0] at J_3
      exact wd_lv [0, 1] _ rfl J_3
    · refine wd_aload_n C dX8_titleByte_56 rfl 0 rfl ?_
      refine gfM_0_32 (x := σ.1 32) C tw_851 rfl dX8_titleByte_57 ?_
      refine wd_bipush (v := 16) C dX8_titleByte_60 (by decide) ?_
      refine wd_icmp_ge C 85 dX8_titleByte_62 (by decide) (fun c_62 => ?_) (fun c_62 => ?_)
      · have ej_0 : p_X8_titleByte_s2 σ p1 = σ := by unfold p_X8_titleByte_s2; rw [if_neg c_3, if_neg c_53, if_pos c_62]
        rw [ej_0] at J_3
        exact wd_lv [0, 1] _ rfl J_3
      · refine wd_aload_n C dX8_titleByte_65 rfl 0 rfl ?_
        refine gfM_0_30 C tw_849 dX8_titleByte_66 ?_
        refine wd_aload_n C dX8_titleByte_69 rfl 0 rfl ?_
        refine gfM_0_32 (x := σ.1 32) C tw_851 rfl dX8_titleByte_70 ?_
        refine wd_iload_n C dX8_titleByte_73 rfl 1 rfl ?_
        refine asM_8 (f := σ.2.2 7) C (vp_in_iff.mpr (by have a := hM.2.2.2.2.2.2.2.2.2.1.1; have h := c_62; rw [ti_le] at h; have z : (16 : Int32).toInt = 16 := (by decide); omega)) rfl dX8_titleByte_74 ?_
        refine wd_aload_n C dX8_titleByte_75 rfl 0 rfl ?_
        refine wd_aload_n C dX8_titleByte_76 rfl 0 rfl ?_
        refine gfM_0_32 (x := σ.1 32) C tw_851 rfl dX8_titleByte_77 ?_
        refine wd_iconst (v := 1) C dX8_titleByte_80 (by decide) ?_
        refine wd_iadd C dX8_titleByte_81 ?_
        refine pfM_0_32 C tw_851 ((σ.1 32) + 1) dX8_titleByte_82 ?_
        have ej_0 : p_X8_titleByte_s2 σ p1 = si (sa σ 7 (upd (σ.2.2 7) (σ.1 32 : Int32).toNatClampNeg p1)) 32 ((σ.1 32) + 1) := by unfold p_X8_titleByte_s2; rw [if_neg c_3, if_neg c_53, if_neg c_62]
        rw [ej_0] at J_3
        exact wd_lv [0, 1] _ rfl J_3
  · refine wd_aload_n C dX8_titleByte_6 rfl 0 rfl ?_
    refine wd_aload_n C dX8_titleByte_7 rfl 0 rfl ?_
    refine gfM_0_32 (x := σ.1 32) C tw_851 rfl dX8_titleByte_8 ?_
    refine pfM_0_31 C tw_850 (σ.1 32) dX8_titleByte_11 ?_
    refine wd_iconst (v := 0) C dX8_titleByte_14 (by decide) ?_
    refine wd_istore_n C [(2, .int 0), (0, .ref (ad 0)), (1, .int p1)] dX8_titleByte_15 rfl (by decide) rfl ?_
    have J_16 : WD X K 3 0 0 (WdM K ad ((p_X8_titleByte_l1 σ p1 16 (si σ 31 (σ.1 32)) 0).1)) [(0, .ref (ad 0)), (1, .int p1), (2, .int ((p_X8_titleByte_l1 σ p1 16 (si σ 31 (σ.1 32)) 0).2))] 42 [] := by
      refine wd_aload_n C dX8_titleByte_42 rfl 0 rfl ?_
      refine wd_iconst (v := 0) C dX8_titleByte_43 (by decide) ?_
      refine pfM_0_24 C tw_843 0 dX8_titleByte_44 ?_
      refine wd_goto C 85 dX8_titleByte_47 (by decide) ?_
      have ej_0 : p_X8_titleByte_s2 σ p1 = si ((p_X8_titleByte_l1 σ p1 16 (si σ 31 (σ.1 32)) 0).1) 24 0 := by unfold p_X8_titleByte_s2; rw [if_pos c_3]
      rw [ej_0] at J_3
      exact wd_lv [0, 1] _ rfl J_3
    have L_16 : ∀ (n : Nat) (s : St) (x2 : Int32), p_X8_titleByte_l1 σ p1 n s x2 = p_X8_titleByte_l1 σ p1 16 (si σ 31 (σ.1 32)) 0 → 0 ≤ x2.toInt ∧ 16 - x2.toInt ≤ (n : Int) ∧ s.1 = (si σ 31 (σ.1 32)).1 → WD X K 3 0 0 (WdM K ad s) [(0, .ref (ad 0)), (1, .int p1), (2, .int x2)] 16 [] := by
      intro n
      induction n with
      | zero =>
        intro s x2 hE hI
        refine wd_iload_n C dX8_titleByte_16 rfl 2 rfl ?_
        refine wd_aload_n C dX8_titleByte_17 rfl 0 rfl ?_
        refine gfM_0_32 (x := s.1 32) C tw_851 rfl dX8_titleByte_18 ?_
        refine wd_icmp_ge C 42 dX8_titleByte_21 (by decide) (fun c_21 => ?_) (fun c_21 => ?_)
        · have eL := hE
          rw [p_X8_titleByte_l1] at eL
          rw [← eL] at J_16
          exact wd_lv [0, 1, 2] _ rfl J_16
        · exact absurd (ti_le.mpr (by rw [hI.2.2]; show (σ.1 32).toInt ≤ x2.toInt; have c : (σ.1 32).toInt ≤ 16 := hM.2.2.2.2.2.2.2.2.2.1.2; have h2 := hI.2.1; omega)) c_21
      | succ n ih =>
        intro s x2 hE hI
        refine wd_iload_n C dX8_titleByte_16 rfl 2 rfl ?_
        refine wd_aload_n C dX8_titleByte_17 rfl 0 rfl ?_
        refine gfM_0_32 (x := s.1 32) C tw_851 rfl dX8_titleByte_18 ?_
        refine wd_icmp_ge C 42 dX8_titleByte_21 (by decide) (fun c_21 => ?_) (fun c_21 => ?_)
        · have eL := hE
          rw [p_X8_titleByte_l1, if_pos c_21] at eL
          rw [← eL] at J_16
          exact wd_lv [0, 1, 2] _ rfl J_16
        · refine wd_aload_n C dX8_titleByte_24 rfl 0 rfl ?_
          refine gfM_0_29 C tw_848 dX8_titleByte_25 ?_
          refine wd_iload_n C dX8_titleByte_28 rfl 2 rfl ?_
          refine wd_aload_n C dX8_titleByte_29 rfl 0 rfl ?_
          refine gfM_0_30 C tw_849 dX8_titleByte_30 ?_
          refine wd_iload_n C dX8_titleByte_33 rfl 2 rfl ?_
          refine alM_8 (x := s.2.2 7 (x2 : Int32).toNatClampNeg) C (vp_in_iff.mpr (by have q : ¬ (s.1 32).toInt ≤ x2.toInt := (fun z => c_21 (ti_le.mpr z)); rw [hI.2.2] at q; have c : (σ.1 32).toInt ≤ 16 := hM.2.2.2.2.2.2.2.2.2.1.2; have q2 : ¬ (σ.1 32).toInt ≤ x2.toInt := q; have h1 := hI.1; omega)) rfl dX8_titleByte_34 ?_
          refine asM_7 (f := s.2.2 6) C (vp_in_iff.mpr (by have q : ¬ (s.1 32).toInt ≤ x2.toInt := (fun z => c_21 (ti_le.mpr z)); rw [hI.2.2] at q; have c : (σ.1 32).toInt ≤ 16 := hM.2.2.2.2.2.2.2.2.2.1.2; have q2 : ¬ (σ.1 32).toInt ≤ x2.toInt := q; have h1 := hI.1; omega)) rfl dX8_titleByte_35 ?_
          refine wd_iinc (v := x2 + 1) C [(2, .int (x2 + 1)), (0, .ref (ad 0)), (1, .int p1)] dX8_titleByte_36 2 rfl (by rfl) (by decide) rfl ?_
          refine wd_goto C 16 dX8_titleByte_39 (by decide) ?_
          have eL := hE
          rw [p_X8_titleByte_l1, if_neg c_21] at eL
          exact wd_lv [1, 2, 0] _ rfl (ih (sa s 6 (upd (s.2.2 6) (x2 : Int32).toNatClampNeg (s.2.2 7 (x2 : Int32).toNatClampNeg))) (x2 + 1) eL (by have q : ¬ (s.1 32).toInt ≤ x2.toInt := (fun z => c_21 (ti_le.mpr z)); rw [hI.2.2] at q; have c : (σ.1 32).toInt ≤ 16 := hM.2.2.2.2.2.2.2.2.2.1.2; have q2 : ¬ (σ.1 32).toInt ≤ x2.toInt := q; have h1 := hI.1; have h2 := hI.2.1; have z1 : (1 : Int32).toInt = 1 := (by decide); have e1 := ti_add (a := x2) (b := 1) (by omega) (by omega); exact ⟨by omega, by omega, hI.2.2⟩))
    exact wd_lv [1, 2, 0] _ rfl (L_16 16 (si σ 31 (σ.1 32)) 0 rfl (⟨by decide, by decide, rfl⟩))
theorem tt_l (σ : St) (p1 : Int32) : ∀ (n : Nat) (s : St) (x : Int32), (p_X8_titleByte_l1 σ p1 n s x).1.1 = s.1 ∧ (p_X8_titleByte_l1 σ p1 n s x).1.2.2 8 = s.2.2 8 := by
  intro n
  induction n with
  | zero => intro s x; exact ⟨rfl, rfl⟩
  | succ n ih =>
    intro s x
    rw [p_X8_titleByte_l1]
    by_cases h : s.1 32 ≤ x
    · rw [if_pos h]; exact ⟨rfl, rfl⟩
    · rw [if_neg h]; exact ⟨(ih _ _).1, (ih _ _).2⟩
theorem okm_titleByte {σ : St} (p1 : Int32) (hM : OkM σ) : OkM (p_X8_titleByte σ p1) := by
  unfold p_X8_titleByte p_X8_titleByte_s2
  have c := hM.2.2.2.2.2.2.2.2.2.1
  refine okm_ite (fun _ => okm_si _ _ (by decide) (okm_of (tt_l σ p1 _ _ _).1 (tt_l σ p1 _ _ _).2 (okm_ts c hM))) fun _ => okm_ite (fun _ => hM) fun _ => okm_ite (fun _ => hM) fun h => ?_
  rw [ti_le] at h
  have z : (16 : Int32).toInt = 16 := by decide
  have a := c.1
  exact okm_cs (((show R2 0 15 (σ.1 32) from ⟨a, by omega⟩).s (by decide) (by decide)).w (by decide) (by decide)) hM
def p_X8_letterByte_t1 (σ : St) (p1 : Int32) : Int32 := (if 224 ≤ p1 then (if 240 ≤ p1 then 4 else 3) else 2)
def p_X8_letterByte_t2 (σ : St) (p1 : Int32) : Int32 := (if 224 ≤ p1 then (if 240 ≤ p1 then p1 - 240 else p1 - 224) else p1 - 192)
def p_X8_letterByte_s3 (σ : St) (p1 : Int32) : St := (if 127 ≤ p1 then (if p1 < 194 then (p_X8_print σ 65533) else (if p1 ≤ 244 then si (si (si σ 33 (p_X8_letterByte_t1 σ p1)) 34 1) 35 (p_X8_letterByte_t2 σ p1) else (p_X8_print σ 65533))) else (p_X8_print σ p1))
def p_X8_letterByte (σ : St) (p1 : Int32) : St := (p_X8_letterByte_s3 σ p1)
set_option maxHeartbeats 4000000 in
set_option maxRecDepth 100000 in
theorem c_X8_letterByte (l : Launch) (K : KX) (ad : Nat → Nat) (σ : St) (p1 : Int32) (hM : OkM σ) : Mt l K yX8_letterByte cX8_letterByte 2 none { frames := 4, cells := 0, slots := 0, locals := 90 } [.ref (ad 0), .int p1] (WdM K ad σ) none (WdM K ad (p_X8_letterByte σ p1)) := by
  refine Mt.v (by decide +kernel) (Nat.le_of_ble_eq_true rfl) (fun X C hret => ?_)
  show WD X K 2 0 0 (WdM K ad σ) [(0, .ref (ad 0)), (1, .int p1)] 0 []
  refine wd_iload_n C dX8_letterByte_0 rfl 1 rfl ?_
  refine wd_bipush (v := 127) C dX8_letterByte_1 (by decide) ?_
  have J_3 : WD X K 2 0 0 (WdM K ad (p_X8_letterByte_s3 σ p1)) [(0, .ref (ad 0)), (1, .int p1)] 108 [] := by
    have e9 : p_X8_letterByte σ p1 = (p_X8_letterByte_s3 σ p1) := by rfl
    exact hret _ _ _ (by rw [e9] <;> rfl) dX8_letterByte_108
  refine wd_icmp_ge C 14 dX8_letterByte_3 (by decide) (fun c_3 => ?_) (fun c_3 => ?_)
  · refine wd_iload_n C dX8_letterByte_14 rfl 1 rfl ?_
    refine wd_sipush (v := 194) C dX8_letterByte_15 (by decide) ?_
    refine wd_icmp_lt C 28 dX8_letterByte_18 (by decide) (fun c_18 => ?_) (fun c_18 => ?_)
    · refine wd_aload_n C dX8_letterByte_28 rfl 0 rfl ?_
      refine wd_ldc C tw_961 dX8_letterByte_29 ?_
      refine wd_callV C 1 (c_X8_print _ K ad σ 65533 (hM)) 0 (wcM_0 K ad _) rfl rfl tw_962 tw_964 tw_36 tw_72 tw_965 (by decide +kernel) rfl (by decide) (Nat.le_of_ble_eq_true rfl) dX8_letterByte_31 _ rfl ?_
      refine wd_goto C 108 dX8_letterByte_34 (by decide) ?_
      have ej_0 : p_X8_letterByte_s3 σ p1 = (p_X8_print σ 65533) := by unfold p_X8_letterByte_s3; rw [if_pos c_3, if_pos c_18]
      rw [ej_0] at J_3
      exact wd_lv [0, 1] _ rfl J_3
    · refine wd_iload_n C dX8_letterByte_21 rfl 1 rfl ?_
      refine wd_sipush (v := 244) C dX8_letterByte_22 (by decide) ?_
      refine wd_icmp_le C 37 dX8_letterByte_25 (by decide) (fun c_25 => ?_) (fun c_25 => ?_)
      · refine wd_aload_n C dX8_letterByte_37 rfl 0 rfl ?_
        refine wd_iload_n C dX8_letterByte_38 rfl 1 rfl ?_
        refine wd_sipush (v := 224) C dX8_letterByte_39 (by decide) ?_
        have J_42 : WD X K 2 0 0 (WdM K ad σ) [(0, .ref (ad 0)), (1, .int p1)] 61 [.int (p_X8_letterByte_t1 σ p1), .ref (ad 0)] := by
          refine pfM_0_33 C tw_852 (p_X8_letterByte_t1 σ p1) dX8_letterByte_61 ?_
          refine wd_aload_n C dX8_letterByte_64 rfl 0 rfl ?_
          refine wd_iconst (v := 1) C dX8_letterByte_65 (by decide) ?_
          refine pfM_0_34 C tw_853 1 dX8_letterByte_66 ?_
          refine wd_aload_n C dX8_letterByte_69 rfl 0 rfl ?_
          refine wd_iload_n C dX8_letterByte_70 rfl 1 rfl ?_
          refine wd_sipush (v := 224) C dX8_letterByte_71 (by decide) ?_
          have J_74 : WD X K 2 0 0 (WdM K ad (si (si σ 33 (p_X8_letterByte_t1 σ p1)) 34 1)) [(0, .ref (ad 0)), (1, .int p1)] 105 [.int (p_X8_letterByte_t2 σ p1), .ref (ad 0)] := by
            refine pfM_0_35 C tw_854 (p_X8_letterByte_t2 σ p1) dX8_letterByte_105 ?_
            have ej_0 : p_X8_letterByte_s3 σ p1 = si (si (si σ 33 (p_X8_letterByte_t1 σ p1)) 34 1) 35 (p_X8_letterByte_t2 σ p1) := by unfold p_X8_letterByte_s3; rw [if_pos c_3, if_neg c_18, if_pos c_25]
            rw [ej_0] at J_3
            exact wd_lv [0, 1] _ rfl J_3
          refine wd_icmp_ge C 85 dX8_letterByte_74 (by decide) (fun c_74 => ?_) (fun c_74 => ?_)
          · refine wd_iload_n C dX8_letterByte_85 rfl 1 rfl ?_
            refine wd_sipush (v := 240) C dX8_letterByte_86 (by decide) ?_
            refine wd_icmp_ge C 100 dX8_letterByte_89 (by decide) (fun c_89 => ?_) (fun c_89 => ?_)
            · refine wd_iload_n C dX8_letterByte_100 rfl 1 rfl ?_
              refine wd_sipush (v := 240) C dX8_letterByte_101 (by decide) ?_
              refine wd_isub C dX8_letterByte_104 ?_
              have ej_0 : p_X8_letterByte_t2 σ p1 = p1 - 240 := by unfold p_X8_letterByte_t2; rw [if_pos c_74, if_pos c_89]
              rw [ej_0] at J_74
              exact wd_lv [0, 1] _ rfl J_74
            · refine wd_iload_n C dX8_letterByte_92 rfl 1 rfl ?_
              refine wd_sipush (v := 224) C dX8_letterByte_93 (by decide) ?_
              refine wd_isub C dX8_letterByte_96 ?_
              refine wd_goto C 105 dX8_letterByte_97 (by decide) ?_
              have ej_0 : p_X8_letterByte_t2 σ p1 = p1 - 224 := by unfold p_X8_letterByte_t2; rw [if_pos c_74, if_neg c_89]
              rw [ej_0] at J_74
              exact wd_lv [0, 1] _ rfl J_74
          · refine wd_iload_n C dX8_letterByte_77 rfl 1 rfl ?_
            refine wd_sipush (v := 192) C dX8_letterByte_78 (by decide) ?_
            refine wd_isub C dX8_letterByte_81 ?_
            refine wd_goto C 105 dX8_letterByte_82 (by decide) ?_
            have ej_0 : p_X8_letterByte_t2 σ p1 = p1 - 192 := by unfold p_X8_letterByte_t2; rw [if_neg c_74]
            rw [ej_0] at J_74
            exact wd_lv [0, 1] _ rfl J_74
        refine wd_icmp_ge C 49 dX8_letterByte_42 (by decide) (fun c_42 => ?_) (fun c_42 => ?_)
        · refine wd_iload_n C dX8_letterByte_49 rfl 1 rfl ?_
          refine wd_sipush (v := 240) C dX8_letterByte_50 (by decide) ?_
          refine wd_icmp_ge C 60 dX8_letterByte_53 (by decide) (fun c_53 => ?_) (fun c_53 => ?_)
          · refine wd_iconst (v := 4) C dX8_letterByte_60 (by decide) ?_
            have ej_0 : p_X8_letterByte_t1 σ p1 = 4 := by unfold p_X8_letterByte_t1; rw [if_pos c_42, if_pos c_53]
            rw [ej_0] at J_42
            exact wd_lv [0, 1] _ rfl J_42
          · refine wd_iconst (v := 3) C dX8_letterByte_56 (by decide) ?_
            refine wd_goto C 61 dX8_letterByte_57 (by decide) ?_
            have ej_0 : p_X8_letterByte_t1 σ p1 = 3 := by unfold p_X8_letterByte_t1; rw [if_pos c_42, if_neg c_53]
            rw [ej_0] at J_42
            exact wd_lv [0, 1] _ rfl J_42
        · refine wd_iconst (v := 2) C dX8_letterByte_45 (by decide) ?_
          refine wd_goto C 61 dX8_letterByte_46 (by decide) ?_
          have ej_0 : p_X8_letterByte_t1 σ p1 = 2 := by unfold p_X8_letterByte_t1; rw [if_neg c_42]
          rw [ej_0] at J_42
          exact wd_lv [0, 1] _ rfl J_42
      · refine wd_aload_n C dX8_letterByte_28 rfl 0 rfl ?_
        refine wd_ldc C tw_961 dX8_letterByte_29 ?_
        refine wd_callV C 1 (c_X8_print _ K ad σ 65533 (hM)) 0 (wcM_0 K ad _) rfl rfl tw_962 tw_964 tw_36 tw_72 tw_965 (by decide +kernel) rfl (by decide) (Nat.le_of_ble_eq_true rfl) dX8_letterByte_31 _ rfl ?_
        refine wd_goto C 108 dX8_letterByte_34 (by decide) ?_
        have ej_0 : p_X8_letterByte_s3 σ p1 = (p_X8_print σ 65533) := by unfold p_X8_letterByte_s3; rw [if_pos c_3, if_neg c_18, if_neg c_25]
        rw [ej_0] at J_3
        exact wd_lv [0, 1] _ rfl J_3
  · refine wd_aload_n C dX8_letterByte_6 rfl 0 rfl ?_
    refine wd_iload_n C dX8_letterByte_7 rfl 1 rfl ?_
    refine wd_callV C 1 (c_X8_print _ K ad σ p1 (hM)) 0 (wcM_0 K ad _) rfl rfl tw_962 tw_964 tw_36 tw_72 tw_965 (by decide +kernel) rfl (by decide) (Nat.le_of_ble_eq_true rfl) dX8_letterByte_8 _ rfl ?_
    refine wd_goto C 108 dX8_letterByte_11 (by decide) ?_
    have ej_0 : p_X8_letterByte_s3 σ p1 = (p_X8_print σ p1) := by unfold p_X8_letterByte_s3; rw [if_neg c_3]
    rw [ej_0] at J_3
    exact wd_lv [0, 1] _ rfl J_3
theorem okm_letterByte {σ : St} (p1 : Int32) (hM : OkM σ) : OkM (p_X8_letterByte σ p1) := by
  unfold p_X8_letterByte p_X8_letterByte_s3
  exact okm_ite (fun _ => okm_ite (fun _ => okm_print _ hM) fun _ => okm_ite (fun _ => okm_si _ _ (by decide) (okm_si _ _ (by decide) (okm_si _ _ (by decide) hM))) fun _ => okm_print _ hM) fun _ => okm_print _ hM
theorem okm_3533 {σ : St} (a b c : Int32) (hM : OkM σ) : OkM (si (si (si σ 35 a) 34 b) 33 c) := okm_si _ _ (by decide) (okm_si _ _ (by decide) (okm_si _ _ (by decide) hM))
def p_X8_further_t1 (σ : St) (p1 : Int32) : Int32 := (if σ.1 33 = 2 then 128 else (if σ.1 33 = 3 then 2048 else 65536))
def p_X8_further_t2 (σ : St) (p1 : Int32) : Bool := (if ((64 * (σ.1 35)) + p1) - 128 < (p_X8_further_t1 σ p1) then true else (if ((64 * (σ.1 35)) + p1) - 128 < 55296 then (if ((64 * (σ.1 35)) + p1) - 128 ≤ 1114111 then false else true) else (if ((64 * (σ.1 35)) + p1) - 128 ≤ 57343 then true else (if ((64 * (σ.1 35)) + p1) - 128 ≤ 1114111 then false else true))))
def p_X8_further_t3 (σ : St) (p1 : Int32) : Int32 := (if (p_X8_further_t2 σ p1) = true then 65533 else ((64 * (σ.1 35)) + p1) - 128)
def p_X8_further (σ : St) (p1 : Int32) : St := (if σ.1 33 ≤ (σ.1 34) + 1 then (p_X8_print (si (si (si σ 35 (((64 * (σ.1 35)) + p1) - 128)) 34 ((σ.1 34) + 1)) 33 0) (p_X8_further_t3 σ p1)) else si (si σ 35 (((64 * (σ.1 35)) + p1) - 128)) 34 ((σ.1 34) + 1))
set_option maxHeartbeats 4000000 in
set_option maxRecDepth 100000 in
theorem c_X8_further (l : Launch) (K : KX) (ad : Nat → Nat) (σ : St) (p1 : Int32) (hM : OkM σ) : Mt l K yX8_further cX8_further 4 none { frames := 4, cells := 0, slots := 0, locals := 90 } [.ref (ad 0), .int p1] (WdM K ad σ) none (WdM K ad (p_X8_further σ p1)) := by
  refine Mt.v (by decide +kernel) (Nat.le_of_ble_eq_true rfl) (fun X C hret => ?_)
  show WD X K 4 0 0 (WdM K ad σ) [(0, .ref (ad 0)), (1, .int p1)] 0 []
  refine wd_aload_n C dX8_further_0 rfl 0 rfl ?_
  refine wd_bipush (v := 64) C dX8_further_1 (by decide) ?_
  refine wd_aload_n C dX8_further_3 rfl 0 rfl ?_
  refine gfM_0_35 (x := σ.1 35) C tw_854 rfl dX8_further_4 ?_
  refine wd_imul C dX8_further_7 ?_
  refine wd_iload_n C dX8_further_8 rfl 1 rfl ?_
  refine wd_iadd C dX8_further_9 ?_
  refine wd_sipush (v := 128) C dX8_further_10 (by decide) ?_
  refine wd_isub C dX8_further_13 ?_
  refine pfM_0_35 C tw_854 (((64 * (σ.1 35)) + p1) - 128) dX8_further_14 ?_
  refine wd_aload_n C dX8_further_17 rfl 0 rfl ?_
  refine wd_aload_n C dX8_further_18 rfl 0 rfl ?_
  refine gfM_0_34 (x := σ.1 34) C tw_853 rfl dX8_further_19 ?_
  refine wd_iconst (v := 1) C dX8_further_22 (by decide) ?_
  refine wd_iadd C dX8_further_23 ?_
  refine pfM_0_34 C tw_853 ((σ.1 34) + 1) dX8_further_24 ?_
  refine wd_aload_n C dX8_further_27 rfl 0 rfl ?_
  refine gfM_0_34 (x := (σ.1 34) + 1) C tw_853 rfl dX8_further_28 ?_
  refine wd_aload_n C dX8_further_31 rfl 0 rfl ?_
  refine gfM_0_33 (x := σ.1 33) C tw_852 rfl dX8_further_32 ?_
  refine wd_icmp_ge C 39 dX8_further_35 (by decide) (fun c_35 => ?_) (fun c_35 => ?_)
  · refine wd_aload_n C dX8_further_39 rfl 0 rfl ?_
    refine gfM_0_33 (x := σ.1 33) C tw_852 rfl dX8_further_40 ?_
    refine wd_iconst (v := 2) C dX8_further_43 (by decide) ?_
    have J_44 : WD X K 4 0 0 (WdM K ad (si (si σ 35 (((64 * (σ.1 35)) + p1) - 128)) 34 ((σ.1 34) + 1))) [(0, .ref (ad 0)), (1, .int p1)] 69 [.int (p_X8_further_t1 σ p1)] := by
      refine wd_istore_n C [(2, .int (p_X8_further_t1 σ p1)), (0, .ref (ad 0)), (1, .int p1)] dX8_further_69 rfl (by decide) rfl ?_
      refine wd_aload_n C dX8_further_70 rfl 1 rfl ?_
      refine gfM_0_35 (x := ((64 * (σ.1 35)) + p1) - 128) C tw_854 rfl dX8_further_71 ?_
      refine wd_iload_n C dX8_further_74 rfl 0 rfl ?_
      have J_75 : WD X K 4 0 0 (WdM K ad (si (si σ 35 (((64 * (σ.1 35)) + p1) - 128)) 34 ((σ.1 34) + 1))) [(0, .ref (ad 0)), (1, .int p1), (2, .int (p_X8_further_t1 σ p1))] 110 [.int (b2i (p_X8_further_t2 σ p1))] := by
        refine wd_istore_n C [(3, .int (b2i (p_X8_further_t2 σ p1))), (0, .ref (ad 0)), (1, .int p1), (2, .int (p_X8_further_t1 σ p1))] dX8_further_110 rfl (by decide) rfl ?_
        refine wd_aload_n C dX8_further_111 rfl 1 rfl ?_
        refine wd_iconst (v := 0) C dX8_further_112 (by decide) ?_
        refine pfM_0_33 C tw_852 0 dX8_further_113 ?_
        refine wd_aload_n C dX8_further_116 rfl 1 rfl ?_
        refine wd_iload_n C dX8_further_117 rfl 0 rfl ?_
        have J_118 : WD X K 4 0 0 (WdM K ad (si (si (si σ 35 (((64 * (σ.1 35)) + p1) - 128)) 34 ((σ.1 34) + 1)) 33 0)) [(0, .ref (ad 0)), (1, .int p1), (2, .int (p_X8_further_t1 σ p1)), (3, .int (b2i (p_X8_further_t2 σ p1)))] 130 [.int (p_X8_further_t3 σ p1), .ref (ad 0)] := by
          refine wd_callV C 1 (c_X8_print _ K ad (si (si (si σ 35 (((64 * (σ.1 35)) + p1) - 128)) 34 ((σ.1 34) + 1)) 33 0) (p_X8_further_t3 σ p1) (okm_3533 _ _ _ hM)) 0 (wcM_0 K ad _) rfl rfl tw_962 tw_964 tw_36 tw_72 tw_965 (by decide +kernel) rfl (by decide) (Nat.le_of_ble_eq_true rfl) dX8_further_130 _ rfl ?_
          have e9 : p_X8_further σ p1 = (p_X8_print (si (si (si σ 35 (((64 * (σ.1 35)) + p1) - 128)) 34 ((σ.1 34) + 1)) 33 0) (p_X8_further_t3 σ p1)) := by unfold p_X8_further; rw [if_pos c_35]
          exact hret _ _ _ (by rw [e9] <;> rfl) dX8_further_133
        refine wd_if_eqB (b := (p_X8_further_t2 σ p1)) C 126 dX8_further_118 (by decide) (fun c_118 => ?_) (fun c_118 => ?_)
        · refine wd_aload_n C dX8_further_126 rfl 1 rfl ?_
          refine gfM_0_35 (x := ((64 * (σ.1 35)) + p1) - 128) C tw_854 rfl dX8_further_127 ?_
          have ej_0 : p_X8_further_t3 σ p1 = ((64 * (σ.1 35)) + p1) - 128 := by unfold p_X8_further_t3; rw [if_neg c_118]
          rw [ej_0] at J_118
          exact wd_lv [1, 2, 3, 0] _ rfl J_118
        · refine wd_ldc C tw_961 dX8_further_121 ?_
          refine wd_goto C 130 dX8_further_123 (by decide) ?_
          have ej_0 : p_X8_further_t3 σ p1 = 65533 := by unfold p_X8_further_t3; rw [if_pos c_118]
          rw [ej_0] at J_118
          exact wd_lv [1, 2, 3, 0] _ rfl J_118
      refine wd_icmp_lt C 105 dX8_further_75 (by decide) (fun c_75 => ?_) (fun c_75 => ?_)
      · refine wd_iconst (v := 1) C dX8_further_105 (by decide) ?_
        refine wd_goto C 110 dX8_further_106 (by decide) ?_
        have ej_0 : p_X8_further_t2 σ p1 = true := by unfold p_X8_further_t2; rw [if_pos c_75]
        rw [ej_0] at J_75
        exact wd_lv [1, 2, 0] _ rfl J_75
      · refine wd_aload_n C dX8_further_78 rfl 1 rfl ?_
        refine gfM_0_35 (x := ((64 * (σ.1 35)) + p1) - 128) C tw_854 rfl dX8_further_79 ?_
        refine wd_ldc C tw_958 dX8_further_82 ?_
        refine wd_icmp_lt C 96 dX8_further_84 (by decide) (fun c_84 => ?_) (fun c_84 => ?_)
        · refine wd_aload_n C dX8_further_96 rfl 1 rfl ?_
          refine gfM_0_35 (x := ((64 * (σ.1 35)) + p1) - 128) C tw_854 rfl dX8_further_97 ?_
          refine wd_ldc C tw_960 dX8_further_100 ?_
          refine wd_icmp_le C 109 dX8_further_102 (by decide) (fun c_102 => ?_) (fun c_102 => ?_)
          · refine wd_iconst (v := 0) C dX8_further_109 (by decide) ?_
            have ej_0 : p_X8_further_t2 σ p1 = false := by unfold p_X8_further_t2; rw [if_neg c_75, if_pos c_84, if_pos c_102]
            rw [ej_0] at J_75
            exact wd_lv [1, 2, 0] _ rfl J_75
          · refine wd_iconst (v := 1) C dX8_further_105 (by decide) ?_
            refine wd_goto C 110 dX8_further_106 (by decide) ?_
            have ej_0 : p_X8_further_t2 σ p1 = true := by unfold p_X8_further_t2; rw [if_neg c_75, if_pos c_84, if_neg c_102]
            rw [ej_0] at J_75
            exact wd_lv [1, 2, 0] _ rfl J_75
        · refine wd_aload_n C dX8_further_87 rfl 1 rfl ?_
          refine gfM_0_35 (x := ((64 * (σ.1 35)) + p1) - 128) C tw_854 rfl dX8_further_88 ?_
          refine wd_ldc C tw_959 dX8_further_91 ?_
          refine wd_icmp_le C 105 dX8_further_93 (by decide) (fun c_93 => ?_) (fun c_93 => ?_)
          · refine wd_iconst (v := 1) C dX8_further_105 (by decide) ?_
            refine wd_goto C 110 dX8_further_106 (by decide) ?_
            have ej_0 : p_X8_further_t2 σ p1 = true := by unfold p_X8_further_t2; rw [if_neg c_75, if_neg c_84, if_pos c_93]
            rw [ej_0] at J_75
            exact wd_lv [1, 2, 0] _ rfl J_75
          · refine wd_aload_n C dX8_further_96 rfl 1 rfl ?_
            refine gfM_0_35 (x := ((64 * (σ.1 35)) + p1) - 128) C tw_854 rfl dX8_further_97 ?_
            refine wd_ldc C tw_960 dX8_further_100 ?_
            refine wd_icmp_le C 109 dX8_further_102 (by decide) (fun c_102 => ?_) (fun c_102 => ?_)
            · refine wd_iconst (v := 0) C dX8_further_109 (by decide) ?_
              have ej_0 : p_X8_further_t2 σ p1 = false := by unfold p_X8_further_t2; rw [if_neg c_75, if_neg c_84, if_neg c_93, if_pos c_102]
              rw [ej_0] at J_75
              exact wd_lv [1, 2, 0] _ rfl J_75
            · refine wd_iconst (v := 1) C dX8_further_105 (by decide) ?_
              refine wd_goto C 110 dX8_further_106 (by decide) ?_
              have ej_0 : p_X8_further_t2 σ p1 = true := by unfold p_X8_further_t2; rw [if_neg c_75, if_neg c_84, if_neg c_93, if_neg c_102]
              rw [ej_0] at J_75
              exact wd_lv [1, 2, 0] _ rfl J_75
    refine wd_icmp_ne C 53 dX8_further_44 (by decide) (fun c_44 => ?_) (fun c_44 => ?_)
    · refine wd_aload_n C dX8_further_53 rfl 0 rfl ?_
      refine gfM_0_33 (x := σ.1 33) C tw_852 rfl dX8_further_54 ?_
      refine wd_iconst (v := 3) C dX8_further_57 (by decide) ?_
      refine wd_icmp_ne C 67 dX8_further_58 (by decide) (fun c_58 => ?_) (fun c_58 => ?_)
      · refine wd_ldc C tw_957 dX8_further_67 ?_
        have ej_0 : p_X8_further_t1 σ p1 = 65536 := by unfold p_X8_further_t1; rw [if_neg c_44, if_neg c_58]
        rw [ej_0] at J_44
        exact wd_lv [0, 1] _ rfl J_44
      · refine wd_sipush (v := 2048) C dX8_further_61 (by decide) ?_
        refine wd_goto C 69 dX8_further_64 (by decide) ?_
        have ej_0 : p_X8_further_t1 σ p1 = 2048 := by unfold p_X8_further_t1; rw [if_neg c_44, if_pos c_58]
        rw [ej_0] at J_44
        exact wd_lv [0, 1] _ rfl J_44
    · refine wd_sipush (v := 128) C dX8_further_47 (by decide) ?_
      refine wd_goto C 69 dX8_further_50 (by decide) ?_
      have ej_0 : p_X8_further_t1 σ p1 = 128 := by unfold p_X8_further_t1; rw [if_pos c_44]
      rw [ej_0] at J_44
      exact wd_lv [0, 1] _ rfl J_44
  · have e9 : p_X8_further σ p1 = si (si σ 35 (((64 * (σ.1 35)) + p1) - 128)) 34 ((σ.1 34) + 1) := by unfold p_X8_further; rw [if_neg c_35]
    exact hret _ _ _ (by rw [e9] <;> rfl) dX8_further_38
theorem okm_further {σ : St} (p1 : Int32) (hM : OkM σ) : OkM (p_X8_further σ p1) := by
  unfold p_X8_further
  exact okm_ite (fun _ => okm_print _ (okm_3533 _ _ _ hM)) fun _ => okm_si _ _ (by decide) (okm_si _ _ (by decide) hM)
