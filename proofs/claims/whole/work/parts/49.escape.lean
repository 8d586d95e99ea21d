def p_X8_escape_t1 (σ : St) (p1 : Int32) : Int32 := (if 48 ≤ p1 then 0 else 3)
def p_X8_escape_s2 (σ : St) (p1 : Int32) : St := (if p1 = 55 then (p_X8_save (si σ 24 (p_X8_escape_t1 σ p1))) else si σ 24 (p_X8_escape_t1 σ p1))
def p_X8_escape_s3 (σ : St) (p1 : Int32) : St := (if p1 = 56 then (p_X8_bring (p_X8_escape_s2 σ p1)) else (p_X8_escape_s2 σ p1))
def p_X8_escape_s4 (σ : St) (p1 : Int32) : St := (if p1 = 68 then (p_X8_feeding (p_X8_escape_s3 σ p1)) else (p_X8_escape_s3 σ p1))
def p_X8_escape_s5 (σ : St) (p1 : Int32) : St := (if p1 = 69 then (p_X8_feeding ((p_X8_place (p_X8_escape_s4 σ p1) ((p_X8_escape_s4 σ p1).1 5) 0))) else (p_X8_escape_s4 σ p1))
def p_X8_escape_s6 (σ : St) (p1 : Int32) : St := (if p1 = 72 then sa (p_X8_escape_s5 σ p1) 4 (upd ((p_X8_escape_s5 σ p1).2.2 4) ((p_X8_escape_s5 σ p1).1 6 : Int32).toNatClampNeg (vp_nar .boolean 1)) else (p_X8_escape_s5 σ p1))
def p_X8_escape_s7 (σ : St) (p1 : Int32) : St := (if p1 = 77 then (p_X8_backing (p_X8_escape_s6 σ p1)) else (p_X8_escape_s6 σ p1))
def p_X8_escape_s8 (σ : St) (p1 : Int32) : St := (if p1 = 99 then (p_X8_first (p_X8_escape_s7 σ p1)) else (p_X8_escape_s7 σ p1))
def p_X8_escape_l9 (σ : St) (p1 : Int32) : Nat → St → Int32 → St × Int32
  | 0, s, x2 => (s, x2)
  | n + 1, s, x2 => (if 6 ≤ x2 then (s, x2) else p_X8_escape_l9 σ p1 n (sa s 8 (upd (s.2.2 8) (x2 : Int32).toNatClampNeg 0)) (x2 + 1))
def p_X8_escape (σ : St) (p1 : Int32) : St := (if p1 = 91 then (p_X8_escape_l9 σ p1 6 (sb (si (si σ 24 2) 37 0) 38 false) 0).1 else (if p1 = 93 then si (si σ 24 4) 32 0 else (p_X8_escape_s8 σ p1)))
theorem okm_es2 {σ : St} (p1 : Int32) (hM : OkM σ) : OkM (p_X8_escape_s2 σ p1) := by
  unfold p_X8_escape_s2
  have h := okm_si (σ := σ) 24 (p_X8_escape_t1 σ p1) (by decide) hM
  exact okm_ite (fun _ => okm_save h) fun _ => h
theorem okm_es3 {σ : St} (p1 : Int32) (hM : OkM σ) : OkM (p_X8_escape_s3 σ p1) := by
  unfold p_X8_escape_s3
  exact okm_ite (fun _ => okm_bring (okm_es2 p1 hM)) fun _ => okm_es2 p1 hM
theorem okm_es4 {σ : St} (p1 : Int32) (hM : OkM σ) : OkM (p_X8_escape_s4 σ p1) := by
  unfold p_X8_escape_s4
  exact okm_ite (fun _ => okm_feeding (okm_es3 p1 hM)) fun _ => okm_es3 p1 hM
theorem okm_es4p {σ : St} (p1 : Int32) (hM : OkM σ) : OkM (p_X8_place (p_X8_escape_s4 σ p1) ((p_X8_escape_s4 σ p1).1 5) 0) := okm_place (okm_es4 p1 hM).2.1 (R2.lit 0 (by decide)) (okm_es4 p1 hM)
theorem okm_es5 {σ : St} (p1 : Int32) (hM : OkM σ) : OkM (p_X8_escape_s5 σ p1) := by
  unfold p_X8_escape_s5
  exact okm_ite (fun _ => okm_feeding (okm_es4p p1 hM)) fun _ => okm_es4 p1 hM
theorem okm_es6 {σ : St} (p1 : Int32) (hM : OkM σ) : OkM (p_X8_escape_s6 σ p1) := by
  unfold p_X8_escape_s6
  have h5 := okm_es5 p1 hM
  generalize p_X8_escape_s5 σ p1 = τ at h5 ⊢
  exact okm_ite (fun _ => okm_of (b := τ) rfl rfl h5) fun _ => h5
theorem okm_es7 {σ : St} (p1 : Int32) (hM : OkM σ) : OkM (p_X8_escape_s7 σ p1) := by
  unfold p_X8_escape_s7
  exact okm_ite (fun _ => okm_backing (okm_es6 p1 hM)) fun _ => okm_es6 p1 hM
set_option maxHeartbeats 4000000 in
set_option maxRecDepth 100000 in
theorem c_X8_escape (l : Launch) (K : KX) (ad : Nat → Nat) (σ : St) (p1 : Int32) (hM : OkM σ) : Mt l K yX8_escape cX8_escape 3 none { frames := 3, cells := 0, slots := 0, locals := 68 } [.ref (ad 0), .int p1] (WdM K ad σ) none (WdM K ad (p_X8_escape σ p1)) := by
  refine Mt.v (by decide +kernel) (Nat.le_of_ble_eq_true rfl) (fun X C hret => ?_)
  show WD X K 3 0 0 (WdM K ad σ) [(0, .ref (ad 0)), (1, .int p1)] 0 []
  refine wd_iload_n C dX8_escape_0 rfl 1 rfl ?_
  refine wd_bipush (v := 91) C dX8_escape_1 (by decide) ?_
  refine wd_icmp_ne C 43 dX8_escape_3 (by decide) (fun c_3 => ?_) (fun c_3 => ?_)
  · refine wd_iload_n C dX8_escape_43 rfl 1 rfl ?_
    refine wd_bipush (v := 93) C dX8_escape_44 (by decide) ?_
    refine wd_icmp_ne C 60 dX8_escape_46 (by decide) (fun c_46 => ?_) (fun c_46 => ?_)
    · refine wd_aload_n C dX8_escape_60 rfl 0 rfl ?_
      refine wd_iload_n C dX8_escape_61 rfl 1 rfl ?_
      refine wd_bipush (v := 48) C dX8_escape_62 (by decide) ?_
      have J_64 : WD X K 3 0 0 (WdM K ad σ) [(0, .ref (ad 0)), (1, .int p1)] 72 [.int (p_X8_escape_t1 σ p1), .ref (ad 0)] := by
        refine pfM_0_24 C tw_843 (p_X8_escape_t1 σ p1) dX8_escape_72 ?_
        refine wd_iload_n C dX8_escape_75 rfl 1 rfl ?_
        refine wd_bipush (v := 55) C dX8_escape_76 (by decide) ?_
        have J_78 : WD X K 3 0 0 (WdM K ad (p_X8_escape_s2 σ p1)) [(0, .ref (ad 0)), (1, .int p1)] 85 [] := by
          refine wd_iload_n C dX8_escape_85 rfl 1 rfl ?_
          refine wd_bipush (v := 56) C dX8_escape_86 (by decide) ?_
          have J_88 : WD X K 3 0 0 (WdM K ad (p_X8_escape_s3 σ p1)) [(0, .ref (ad 0)), (1, .int p1)] 95 [] := by
            refine wd_iload_n C dX8_escape_95 rfl 1 rfl ?_
            refine wd_bipush (v := 68) C dX8_escape_96 (by decide) ?_
            have J_98 : WD X K 3 0 0 (WdM K ad (p_X8_escape_s4 σ p1)) [(0, .ref (ad 0)), (1, .int p1)] 105 [] := by
              refine wd_iload_n C dX8_escape_105 rfl 1 rfl ?_
              refine wd_bipush (v := 69) C dX8_escape_106 (by decide) ?_
              have J_108 : WD X K 3 0 0 (WdM K ad (p_X8_escape_s5 σ p1)) [(0, .ref (ad 0)), (1, .int p1)] 124 [] := by
                refine wd_iload_n C dX8_escape_124 rfl 1 rfl ?_
                refine wd_bipush (v := 72) C dX8_escape_125 (by decide) ?_
                have J_127 : WD X K 3 0 0 (WdM K ad (p_X8_escape_s6 σ p1)) [(0, .ref (ad 0)), (1, .int p1)] 140 [] := by
                  refine wd_iload_n C dX8_escape_140 rfl 1 rfl ?_
                  refine wd_bipush (v := 77) C dX8_escape_141 (by decide) ?_
                  have J_143 : WD X K 3 0 0 (WdM K ad (p_X8_escape_s7 σ p1)) [(0, .ref (ad 0)), (1, .int p1)] 150 [] := by
                    refine wd_iload_n C dX8_escape_150 rfl 1 rfl ?_
                    refine wd_bipush (v := 99) C dX8_escape_151 (by decide) ?_
                    have J_153 : WD X K 3 0 0 (WdM K ad (p_X8_escape_s8 σ p1)) [(0, .ref (ad 0)), (1, .int p1)] 160 [] := by
                      have e9 : p_X8_escape σ p1 = (p_X8_escape_s8 σ p1) := by unfold p_X8_escape; rw [if_neg c_3, if_neg c_46]
                      exact hret _ _ _ (by rw [e9] <;> rfl) dX8_escape_160
                    refine wd_icmp_ne C 160 dX8_escape_153 (by decide) (fun c_153 => ?_) (fun c_153 => ?_)
                    · have ej_0 : p_X8_escape_s8 σ p1 = (p_X8_escape_s7 σ p1) := by unfold p_X8_escape_s8; rw [if_neg c_153]
                      rw [ej_0] at J_153
                      exact wd_lv [0, 1] _ rfl J_153
                    · refine wd_aload_n C dX8_escape_156 rfl 0 rfl ?_
                      refine wd_callV C 0 (c_X8_first _ K ad (p_X8_escape_s7 σ p1)) 0 (wcM_0 K ad _) rfl rfl tw_795 tw_797 tw_28 tw_72 tw_798 (by decide +kernel) rfl (by decide) (Nat.le_of_ble_eq_true rfl) dX8_escape_157 _ rfl ?_
                      have ej_0 : p_X8_escape_s8 σ p1 = (p_X8_first (p_X8_escape_s7 σ p1)) := by unfold p_X8_escape_s8; rw [if_pos c_153]
                      rw [ej_0] at J_153
                      exact wd_lv [0, 1] _ rfl J_153
                  refine wd_icmp_ne C 150 dX8_escape_143 (by decide) (fun c_143 => ?_) (fun c_143 => ?_)
                  · have ej_0 : p_X8_escape_s7 σ p1 = (p_X8_escape_s6 σ p1) := by unfold p_X8_escape_s7; rw [if_neg c_143]
                    rw [ej_0] at J_143
                    exact wd_lv [0, 1] _ rfl J_143
                  · refine wd_aload_n C dX8_escape_146 rfl 0 rfl ?_
                    refine wd_callV C 0 (c_X8_backing _ K ad (p_X8_escape_s6 σ p1) (okm_es6 p1 hM)) 0 (wcM_0 K ad _) rfl rfl tw_1006 tw_1008 tw_47 tw_72 tw_1009 (by decide +kernel) rfl (by decide) (Nat.le_of_ble_eq_true rfl) dX8_escape_147 _ rfl ?_
                    have ej_0 : p_X8_escape_s7 σ p1 = (p_X8_backing (p_X8_escape_s6 σ p1)) := by unfold p_X8_escape_s7; rw [if_pos c_143]
                    rw [ej_0] at J_143
                    exact wd_lv [0, 1] _ rfl J_143
                refine wd_icmp_ne C 140 dX8_escape_127 (by decide) (fun c_127 => ?_) (fun c_127 => ?_)
                · have ej_0 : p_X8_escape_s6 σ p1 = (p_X8_escape_s5 σ p1) := by unfold p_X8_escape_s6; rw [if_neg c_127]
                  rw [ej_0] at J_127
                  exact wd_lv [0, 1] _ rfl J_127
                · refine wd_aload_n C dX8_escape_130 rfl 0 rfl ?_
                  refine gfM_0_23 C tw_842 dX8_escape_131 ?_
                  refine wd_aload_n C dX8_escape_134 rfl 0 rfl ?_
                  refine gfM_0_6 (x := (p_X8_escape_s5 σ p1).1 6) C tw_825 rfl dX8_escape_135 ?_
                  refine wd_iconst (v := 1) C dX8_escape_138 (by decide) ?_
                  refine asM_5 (f := (p_X8_escape_s5 σ p1).2.2 4) C (vp_in_iff.mpr (by have a := (okm_es5 p1 hM).2.2.1.1; have b := (okm_es5 p1 hM).2.2.1.2; omega)) rfl dX8_escape_139 ?_
                  have ej_0 : p_X8_escape_s6 σ p1 = sa (p_X8_escape_s5 σ p1) 4 (upd ((p_X8_escape_s5 σ p1).2.2 4) ((p_X8_escape_s5 σ p1).1 6 : Int32).toNatClampNeg (vp_nar .boolean 1)) := by unfold p_X8_escape_s6; rw [if_pos c_127]
                  rw [ej_0] at J_127
                  exact wd_lv [0, 1] _ rfl J_127
              refine wd_icmp_ne C 124 dX8_escape_108 (by decide) (fun c_108 => ?_) (fun c_108 => ?_)
              · have ej_0 : p_X8_escape_s5 σ p1 = (p_X8_escape_s4 σ p1) := by unfold p_X8_escape_s5; rw [if_neg c_108]
                rw [ej_0] at J_108
                exact wd_lv [0, 1] _ rfl J_108
              · refine wd_aload_n C dX8_escape_111 rfl 0 rfl ?_
                refine wd_aload_n C dX8_escape_112 rfl 0 rfl ?_
                refine gfM_0_5 (x := (p_X8_escape_s4 σ p1).1 5) C tw_824 rfl dX8_escape_113 ?_
                refine wd_iconst (v := 0) C dX8_escape_116 (by decide) ?_
                refine wd_callV C 2 (c_X8_place _ K ad (p_X8_escape_s4 σ p1) ((p_X8_escape_s4 σ p1).1 5) 0) 0 (wcM_0 K ad _) rfl rfl tw_803 tw_805 tw_30 tw_72 tw_806 (by decide +kernel) rfl (by decide) (Nat.le_of_ble_eq_true rfl) dX8_escape_117 _ rfl ?_
                refine wd_aload_n C dX8_escape_120 rfl 0 rfl ?_
                refine wd_callV C 0 (c_X8_feeding _ K ad ((p_X8_place (p_X8_escape_s4 σ p1) ((p_X8_escape_s4 σ p1).1 5) 0)) (okm_es4p p1 hM)) 0 (wcM_0 K ad _) rfl rfl tw_966 tw_968 tw_37 tw_72 tw_969 (by decide +kernel) rfl (by decide) (Nat.le_of_ble_eq_true rfl) dX8_escape_121 _ rfl ?_
                have ej_0 : p_X8_escape_s5 σ p1 = (p_X8_feeding ((p_X8_place (p_X8_escape_s4 σ p1) ((p_X8_escape_s4 σ p1).1 5) 0))) := by unfold p_X8_escape_s5; rw [if_pos c_108]
                rw [ej_0] at J_108
                exact wd_lv [0, 1] _ rfl J_108
            refine wd_icmp_ne C 105 dX8_escape_98 (by decide) (fun c_98 => ?_) (fun c_98 => ?_)
            · have ej_0 : p_X8_escape_s4 σ p1 = (p_X8_escape_s3 σ p1) := by unfold p_X8_escape_s4; rw [if_neg c_98]
              rw [ej_0] at J_98
              exact wd_lv [0, 1] _ rfl J_98
            · refine wd_aload_n C dX8_escape_101 rfl 0 rfl ?_
              refine wd_callV C 0 (c_X8_feeding _ K ad (p_X8_escape_s3 σ p1) (okm_es3 p1 hM)) 0 (wcM_0 K ad _) rfl rfl tw_966 tw_968 tw_37 tw_72 tw_969 (by decide +kernel) rfl (by decide) (Nat.le_of_ble_eq_true rfl) dX8_escape_102 _ rfl ?_
              have ej_0 : p_X8_escape_s4 σ p1 = (p_X8_feeding (p_X8_escape_s3 σ p1)) := by unfold p_X8_escape_s4; rw [if_pos c_98]
              rw [ej_0] at J_98
              exact wd_lv [0, 1] _ rfl J_98
          refine wd_icmp_ne C 95 dX8_escape_88 (by decide) (fun c_88 => ?_) (fun c_88 => ?_)
          · have ej_0 : p_X8_escape_s3 σ p1 = (p_X8_escape_s2 σ p1) := by unfold p_X8_escape_s3; rw [if_neg c_88]
            rw [ej_0] at J_88
            exact wd_lv [0, 1] _ rfl J_88
          · refine wd_aload_n C dX8_escape_91 rfl 0 rfl ?_
            refine wd_callV C 0 (c_X8_bring _ K ad (p_X8_escape_s2 σ p1)) 0 (wcM_0 K ad _) rfl rfl tw_1002 tw_1004 tw_46 tw_72 tw_1005 (by decide +kernel) rfl (by decide) (Nat.le_of_ble_eq_true rfl) dX8_escape_92 _ rfl ?_
            have ej_0 : p_X8_escape_s3 σ p1 = (p_X8_bring (p_X8_escape_s2 σ p1)) := by unfold p_X8_escape_s3; rw [if_pos c_88]
            rw [ej_0] at J_88
            exact wd_lv [0, 1] _ rfl J_88
        refine wd_icmp_ne C 85 dX8_escape_78 (by decide) (fun c_78 => ?_) (fun c_78 => ?_)
        · have ej_0 : p_X8_escape_s2 σ p1 = si σ 24 (p_X8_escape_t1 σ p1) := by unfold p_X8_escape_s2; rw [if_neg c_78]
          rw [ej_0] at J_78
          exact wd_lv [0, 1] _ rfl J_78
        · refine wd_aload_n C dX8_escape_81 rfl 0 rfl ?_
          refine wd_callV C 0 (c_X8_save _ K ad (si σ 24 (p_X8_escape_t1 σ p1))) 0 (wcM_0 K ad _) rfl rfl tw_811 tw_813 tw_32 tw_72 tw_814 (by decide +kernel) rfl (by decide) (Nat.le_of_ble_eq_true rfl) dX8_escape_82 _ rfl ?_
          have ej_0 : p_X8_escape_s2 σ p1 = (p_X8_save (si σ 24 (p_X8_escape_t1 σ p1))) := by unfold p_X8_escape_s2; rw [if_pos c_78]
          rw [ej_0] at J_78
          exact wd_lv [0, 1] _ rfl J_78
      refine wd_icmp_ge C 71 dX8_escape_64 (by decide) (fun c_64 => ?_) (fun c_64 => ?_)
      · refine wd_iconst (v := 0) C dX8_escape_71 (by decide) ?_
        have ej_0 : p_X8_escape_t1 σ p1 = 0 := by unfold p_X8_escape_t1; rw [if_pos c_64]
        rw [ej_0] at J_64
        exact wd_lv [0, 1] _ rfl J_64
      · refine wd_iconst (v := 3) C dX8_escape_67 (by decide) ?_
        refine wd_goto C 72 dX8_escape_68 (by decide) ?_
        have ej_0 : p_X8_escape_t1 σ p1 = 3 := by unfold p_X8_escape_t1; rw [if_neg c_64]
        rw [ej_0] at J_64
        exact wd_lv [0, 1] _ rfl J_64
    · refine wd_aload_n C dX8_escape_49 rfl 0 rfl ?_
      refine wd_iconst (v := 4) C dX8_escape_50 (by decide) ?_
      refine pfM_0_24 C tw_843 4 dX8_escape_51 ?_
      refine wd_aload_n C dX8_escape_54 rfl 0 rfl ?_
      refine wd_iconst (v := 0) C dX8_escape_55 (by decide) ?_
      refine pfM_0_32 C tw_851 0 dX8_escape_56 ?_
      have e9 : p_X8_escape σ p1 = si (si σ 24 4) 32 0 := by unfold p_X8_escape; rw [if_neg c_3, if_pos c_46]
      exact hret _ _ _ (by rw [e9] <;> rfl) dX8_escape_59
  · refine wd_aload_n C dX8_escape_6 rfl 0 rfl ?_
    refine wd_iconst (v := 2) C dX8_escape_7 (by decide) ?_
    refine pfM_0_24 C tw_843 2 dX8_escape_8 ?_
    refine wd_aload_n C dX8_escape_11 rfl 0 rfl ?_
    refine wd_iconst (v := 0) C dX8_escape_12 (by decide) ?_
    refine pfM_0_37 C tw_856 0 dX8_escape_13 ?_
    refine wd_aload_n C dX8_escape_16 rfl 0 rfl ?_
    refine wd_iconst (v := 0) C dX8_escape_17 (by decide) ?_
    refine pfM_0_38 C tw_857 false dX8_escape_18 ?_
    refine wd_iconst (v := 0) C dX8_escape_21 (by decide) ?_
    refine wd_istore_n C [(2, .int 0), (0, .ref (ad 0)), (1, .int p1)] dX8_escape_22 rfl (by decide) rfl ?_
    have J_23 : WD X K 3 0 0 (WdM K ad ((p_X8_escape_l9 σ p1 6 (sb (si (si σ 24 2) 37 0) 38 false) 0).1)) [(0, .ref (ad 0)), (1, .int p1), (2, .int ((p_X8_escape_l9 σ p1 6 (sb (si (si σ 24 2) 37 0) 38 false) 0).2))] 42 [] := by
      have e9 : p_X8_escape σ p1 = (p_X8_escape_l9 σ p1 6 (sb (si (si σ 24 2) 37 0) 38 false) 0).1 := by unfold p_X8_escape; rw [if_pos c_3]
      exact hret _ _ _ (by rw [e9] <;> rfl) dX8_escape_42
    have L_23 : ∀ (n : Nat) (s : St) (x2 : Int32), p_X8_escape_l9 σ p1 n s x2 = p_X8_escape_l9 σ p1 6 (sb (si (si σ 24 2) 37 0) 38 false) 0 → 0 ≤ x2.toInt ∧ 6 - x2.toInt ≤ (n : Int) → WD X K 3 0 0 (WdM K ad s) [(0, .ref (ad 0)), (1, .int p1), (2, .int x2)] 23 [] := by
      intro n
      induction n with
      | zero =>
        intro s x2 hE hI
        refine wd_iload_n C dX8_escape_23 rfl 2 rfl ?_
        refine wd_bipush (v := 6) C dX8_escape_24 (by decide) ?_
        refine wd_icmp_ge C 42 dX8_escape_26 (by decide) (fun c_26 => ?_) (fun c_26 => ?_)
        · have eL := hE
          rw [p_X8_escape_l9] at eL
          rw [← eL] at J_23
          exact wd_lv [0, 1, 2] _ rfl J_23
        · exact absurd (ti_le.mpr (by have h0 := hI.2; (try simp only [ti_lt, ti_le, ti_eq] at h0); have z6 : (6 : Int32).toInt = 6 := (by decide); omega)) c_26
      | succ n ih =>
        intro s x2 hE hI
        refine wd_iload_n C dX8_escape_23 rfl 2 rfl ?_
        refine wd_bipush (v := 6) C dX8_escape_24 (by decide) ?_
        refine wd_icmp_ge C 42 dX8_escape_26 (by decide) (fun c_26 => ?_) (fun c_26 => ?_)
        · have eL := hE
          rw [p_X8_escape_l9, if_pos c_26] at eL
          rw [← eL] at J_23
          exact wd_lv [0, 1, 2] _ rfl J_23
        · refine wd_aload_n C dX8_escape_29 rfl 0 rfl ?_
          refine gfM_0_36 C tw_855 dX8_escape_30 ?_
          refine wd_iload_n C dX8_escape_33 rfl 2 rfl ?_
          refine wd_iconst (v := 0) C dX8_escape_34 (by decide) ?_
          refine asM_9 (f := s.2.2 8) C (vp_in_iff.mpr (by have h0 := c_26; (try simp only [ti_lt, ti_le, ti_eq] at h0); have h1 := hI.1; (try simp only [ti_lt, ti_le, ti_eq] at h1); have z6 : (6 : Int32).toInt = 6 := (by decide); omega)) rfl dX8_escape_35 ?_
          refine wd_iinc (v := x2 + 1) C [(2, .int (x2 + 1)), (0, .ref (ad 0)), (1, .int p1)] dX8_escape_36 2 rfl (by rfl) (by decide) rfl ?_
          refine wd_goto C 23 dX8_escape_39 (by decide) ?_
          have eL := hE
          rw [p_X8_escape_l9, if_neg c_26] at eL
          exact wd_lv [1, 2, 0] _ rfl (ih (sa s 8 (upd (s.2.2 8) (x2 : Int32).toNatClampNeg 0)) (x2 + 1) eL (by have h0 := c_26; (try simp only [ti_lt, ti_le, ti_eq] at h0); have h1 := hI.1; (try simp only [ti_lt, ti_le, ti_eq] at h1); have h2 := hI.2; (try simp only [ti_lt, ti_le, ti_eq] at h2); have z6 : (6 : Int32).toInt = 6 := (by decide); have z1 : (1 : Int32).toInt = 1 := (by decide); have e1 := ti_add (a := x2) (b := 1) (by omega) (by omega); exact ⟨by omega, by omega⟩))
    exact wd_lv [1, 2, 0] _ rfl (L_23 6 (sb (si (si σ 24 2) 37 0) 38 false) 0 rfl (⟨by decide, by decide⟩))
theorem es9_1 (σ : St) (p1 : Int32) : ∀ (n : Nat) (s : St) (x : Int32), (p_X8_escape_l9 σ p1 n s x).1.1 = s.1 := by
  intro n
  induction n with
  | zero => intro s x; rfl
  | succ n ih =>
    intro s x
    rw [p_X8_escape_l9]
    by_cases h : (6 : Int32) ≤ x
    · rw [if_pos h]
    · rw [if_neg h]; exact (ih _ _)
theorem es9_8 (σ : St) (p1 : Int32) (s : St) : ∀ i : Nat, i < 6 → (p_X8_escape_l9 σ p1 6 s 0).1.2.2 8 i = 0 := by
  intro i hi
  simp only [p_X8_escape_l9]
  rw [if_neg (by decide), if_neg (by decide), if_neg (by decide), if_neg (by decide), if_neg (by decide), if_neg (by decide)]
  match i, hi with
  | 0, _ => rfl
  | 1, _ => rfl
  | 2, _ => rfl
  | 3, _ => rfl
  | 4, _ => rfl
  | 5, _ => rfl
theorem okm_escape {σ : St} (p1 : Int32) (hM : OkM σ) : OkM (p_X8_escape σ p1) := by
  unfold p_X8_escape
  refine okm_ite (fun _ => ?_) fun _ => okm_ite (fun _ => okm_cs (R2.lit 0 (by decide)) (okm_si _ _ (by decide) hM)) fun _ => ?_
  · have h0 : OkM (sb (si (si σ 24 2) 37 0) 38 false) := okm_sb _ _ (okm_bg (R2.lit 0 (by decide)) (okm_si _ _ (by decide) hM))
    generalize sb (si (si σ 24 2) 37 0) 38 false = τ at h0 ⊢
    have e1 := es9_1 σ p1 6 τ 0
    have e8 := es9_8 σ p1 τ
    generalize (p_X8_escape_l9 σ p1 6 τ 0).1 = ρ at e1 e8 ⊢
    unfold OkM at h0 ⊢
    rw [e1]
    exact ⟨h0.1, h0.2.1, h0.2.2.1, h0.2.2.2.1, h0.2.2.2.2.1, h0.2.2.2.2.2.1, h0.2.2.2.2.2.2.1, h0.2.2.2.2.2.2.2.1, h0.2.2.2.2.2.2.2.2.1, h0.2.2.2.2.2.2.2.2.2.1, h0.2.2.2.2.2.2.2.2.2.2.1, fun i hi => by rw [e8 i hi]; exact R2.lit 0 (by decide)⟩
  · unfold p_X8_escape_s8
    exact okm_ite (fun _ => okm_first (okm_es7 p1 hM)) fun _ => okm_es7 p1 hM
