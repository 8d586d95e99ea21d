def p_X7_take_s1 (σ : St) (p1 : Int32) : St := (if σ.1 12 ≤ 0 then σ else (if p1 < 128 then (p_X5_print (q_X1_drop_L σ) 65533) else (if 191 < p1 then (p_X5_print (q_X1_drop_L σ) 65533) else σ)))
def p_X7_take_s2 (σ : St) (p1 : Int32) : St := (if (p_X7_take_s1 σ p1).1 0 = 1 then (p_X7_takeInEscape (p_X7_take_s1 σ p1) p1) else (if (p_X7_take_s1 σ p1).1 0 = 4 then (p_X7_takeInTitle (p_X7_take_s1 σ p1) p1) else (if 64 ≤ p1 then (if (p_X7_take_s1 σ p1).1 0 = 2 then (p_X7_doSequence (p_X7_take_s1 σ p1) p1) else si (p_X7_take_s1 σ p1) 0 0) else (p_X7_takeBeforeEnd (p_X7_take_s1 σ p1) p1))))
def p_X7_take_r1 (σ : St) (p1 : Int32) : St := (if p1 = 24 then si (p_X7_take_s1 σ p1) 0 0 else (if p1 = 26 then si (p_X7_take_s1 σ p1) 0 0 else (if p1 = 27 then si (p_X7_take_s1 σ p1) 0 1 else (if 32 ≤ p1 then (if (p_X7_take_s1 σ p1).1 0 = 0 then (p_X7_takeInGround (p_X7_take_s1 σ p1) p1) else (if p1 < 127 then (p_X7_take_s2 σ p1) else (p_X7_take_s1 σ p1))) else (if (p_X7_take_s1 σ p1).1 0 = 4 then (if (p_X7_take_s1 σ p1).1 0 = 0 then (p_X7_takeInGround (p_X7_take_s1 σ p1) p1) else (if p1 < 127 then (p_X7_take_s2 σ p1) else (p_X7_take_s1 σ p1))) else (p_X7_control (p_X7_take_s1 σ p1) p1))))))
def p_X7_take (σ : St) (p1 : Int32) : St := (if σ.1 12 ≤ 0 then p_X7_take_r1 σ p1 else (if p1 < 128 then p_X7_take_r1 σ p1 else (if 191 < p1 then p_X7_take_r1 σ p1 else (p_X7_takeFurther σ p1))))
theorem a4_take_s1 (σ : St) (p1 : Int32) : (p_X7_take_s1 σ p1).2.2 4 = σ.2.2 4 := by
  simp only [p_X7_take_s1, ite_a, a4_print, a4_drop, ite_self]
set_option maxHeartbeats 4000000 in
set_option maxRecDepth 100000 in
theorem c_X7_take (l : Launch) (K : KX) (ad : Nat → Nat) (σ : St) (p1 : Int32) (hO : Okn σ) : Mt l K yX7_take cX7_take 2 none { frames := 5, cells := 0, slots := 0, locals := 114 } [.ref (ad 0), .int p1] (WdD K ad σ) none (WdD K ad (p_X7_take σ p1)) := by
  refine Mt.v (by decide +kernel) (Nat.le_of_ble_eq_true rfl) (fun X C hret => ?_)
  show WD X K 2 0 0 (WdD K ad σ) [(0, .ref (ad 0)), (1, .int p1)] 0 []
  refine wd_aload_n C dX7_take_0 rfl 0 rfl ?_
  refine gfD_0_1 C tw_283 dX7_take_1 ?_
  refine gfD_10_0 (x := σ.1 12) C tw_192 rfl dX7_take_4 ?_
  have J_7 : p_X7_take σ p1 = p_X7_take_r1 σ p1 → WD X K 2 0 0 (WdD K ad (p_X7_take_s1 σ p1)) [(0, .ref (ad 0)), (1, .int p1)] 46 [] := by
    intro hJ_7
    refine wd_iload_n C dX7_take_46 rfl 1 rfl ?_
    refine wd_bipush (v := 24) C dX7_take_47 (by decide) ?_
    refine wd_icmp_eq C 58 dX7_take_49 (by decide) (fun c_49 => ?_) (fun c_49 => ?_)
    · refine wd_aload_n C dX7_take_58 rfl 0 rfl ?_
      refine wd_iconst (v := 0) C dX7_take_59 (by decide) ?_
      refine pfD_0_6 C tw_288 0 dX7_take_60 ?_
      refine wd_goto C 191 dX7_take_63 (by decide) ?_
      have e9 : p_X7_take σ p1 = si (p_X7_take_s1 σ p1) 0 0 := by rw [hJ_7]; unfold p_X7_take_r1; rw [if_pos c_49]
      exact hret _ _ _ (by rw [e9] <;> rfl) dX7_take_191
    · refine wd_iload_n C dX7_take_52 rfl 1 rfl ?_
      refine wd_bipush (v := 26) C dX7_take_53 (by decide) ?_
      refine wd_icmp_ne C 66 dX7_take_55 (by decide) (fun c_55 => ?_) (fun c_55 => ?_)
      · refine wd_iload_n C dX7_take_66 rfl 1 rfl ?_
        refine wd_bipush (v := 27) C dX7_take_67 (by decide) ?_
        refine wd_icmp_ne C 80 dX7_take_69 (by decide) (fun c_69 => ?_) (fun c_69 => ?_)
        · refine wd_iload_n C dX7_take_80 rfl 1 rfl ?_
          refine wd_bipush (v := 32) C dX7_take_81 (by decide) ?_
          refine wd_icmp_ge C 102 dX7_take_83 (by decide) (fun c_83 => ?_) (fun c_83 => ?_)
          · refine wd_aload_n C dX7_take_102 rfl 0 rfl ?_
            refine gfD_0_6 (x := (p_X7_take_s1 σ p1).1 0) C tw_288 rfl dX7_take_103 ?_
            refine wd_if_ne C 117 dX7_take_106 (by decide) (fun c_106 => ?_) (fun c_106 => ?_)
            · refine wd_iload_n C dX7_take_117 rfl 1 rfl ?_
              refine wd_bipush (v := 127) C dX7_take_118 (by decide) ?_
              refine wd_icmp_lt C 124 dX7_take_120 (by decide) (fun c_120 => ?_) (fun c_120 => ?_)
              · refine wd_aload_n C dX7_take_124 rfl 0 rfl ?_
                refine gfD_0_6 (x := (p_X7_take_s1 σ p1).1 0) C tw_288 rfl dX7_take_125 ?_
                refine wd_iconst (v := 1) C dX7_take_128 (by decide) ?_
                have J_129 : WD X K 2 0 0 (WdD K ad (p_X7_take_s2 σ p1)) [(0, .ref (ad 0)), (1, .int p1)] 191 [] := by
                  have e9 : p_X7_take σ p1 = (p_X7_take_s2 σ p1) := by rw [hJ_7]; unfold p_X7_take_r1; rw [if_neg c_49, if_neg c_55, if_neg c_69, if_pos c_83, if_neg c_106, if_pos c_120]
                  exact hret _ _ _ (by rw [e9] <;> rfl) dX7_take_191
                refine wd_icmp_ne C 140 dX7_take_129 (by decide) (fun c_129 => ?_) (fun c_129 => ?_)
                · refine wd_aload_n C dX7_take_140 rfl 0 rfl ?_
                  refine gfD_0_6 (x := (p_X7_take_s1 σ p1).1 0) C tw_288 rfl dX7_take_141 ?_
                  refine wd_iconst (v := 4) C dX7_take_144 (by decide) ?_
                  refine wd_icmp_ne C 156 dX7_take_145 (by decide) (fun c_145 => ?_) (fun c_145 => ?_)
                  · refine wd_iload_n C dX7_take_156 rfl 1 rfl ?_
                    refine wd_bipush (v := 64) C dX7_take_157 (by decide) ?_
                    refine wd_icmp_ge C 170 dX7_take_159 (by decide) (fun c_159 => ?_) (fun c_159 => ?_)
                    · refine wd_aload_n C dX7_take_170 rfl 0 rfl ?_
                      refine gfD_0_6 (x := (p_X7_take_s1 σ p1).1 0) C tw_288 rfl dX7_take_171 ?_
                      refine wd_iconst (v := 2) C dX7_take_174 (by decide) ?_
                      refine wd_icmp_ne C 186 dX7_take_175 (by decide) (fun c_175 => ?_) (fun c_175 => ?_)
                      · refine wd_aload_n C dX7_take_186 rfl 0 rfl ?_
                        refine wd_iconst (v := 0) C dX7_take_187 (by decide) ?_
                        refine pfD_0_6 C tw_288 0 dX7_take_188 ?_
                        have ej_0 : p_X7_take_s2 σ p1 = si (p_X7_take_s1 σ p1) 0 0 := by unfold p_X7_take_s2; rw [if_neg c_129, if_neg c_145, if_pos c_159, if_neg c_175]
                        rw [ej_0] at J_129
                        exact wd_lv [0, 1] _ rfl J_129
                      · refine wd_aload_n C dX7_take_178 rfl 0 rfl ?_
                        refine wd_iload_n C dX7_take_179 rfl 1 rfl ?_
                        refine wd_callV C 1 (c_X7_doSequence _ K ad (p_X7_take_s1 σ p1) p1 (okn_of (a4_take_s1 σ p1) hO)) 0 (wcD_0 K ad _) rfl rfl tw_469 tw_471 tw_14 tw_64 tw_472 (by decide +kernel) rfl (by decide) (Nat.le_of_ble_eq_true rfl) dX7_take_180 _ rfl ?_
                        refine wd_goto C 191 dX7_take_183 (by decide) ?_
                        have ej_0 : p_X7_take_s2 σ p1 = (p_X7_doSequence (p_X7_take_s1 σ p1) p1) := by unfold p_X7_take_s2; rw [if_neg c_129, if_neg c_145, if_pos c_159, if_pos c_175]
                        rw [ej_0] at J_129
                        exact wd_lv [0, 1] _ rfl J_129
                    · refine wd_aload_n C dX7_take_162 rfl 0 rfl ?_
                      refine wd_iload_n C dX7_take_163 rfl 1 rfl ?_
                      refine wd_callV C 1 (c_X7_takeBeforeEnd _ K ad (p_X7_take_s1 σ p1) p1) 0 (wcD_0 K ad _) rfl rfl tw_451 tw_453 tw_13 tw_64 tw_454 (by decide +kernel) rfl (by decide) (Nat.le_of_ble_eq_true rfl) dX7_take_164 _ rfl ?_
                      refine wd_goto C 191 dX7_take_167 (by decide) ?_
                      have ej_0 : p_X7_take_s2 σ p1 = (p_X7_takeBeforeEnd (p_X7_take_s1 σ p1) p1) := by unfold p_X7_take_s2; rw [if_neg c_129, if_neg c_145, if_neg c_159]
                      rw [ej_0] at J_129
                      exact wd_lv [0, 1] _ rfl J_129
                  · refine wd_aload_n C dX7_take_148 rfl 0 rfl ?_
                    refine wd_iload_n C dX7_take_149 rfl 1 rfl ?_
                    refine wd_callV C 1 (c_X7_takeInTitle _ K ad (p_X7_take_s1 σ p1) p1) 0 (wcD_0 K ad _) rfl rfl tw_439 tw_441 tw_12 tw_64 tw_442 (by decide +kernel) rfl (by decide) (Nat.le_of_ble_eq_true rfl) dX7_take_150 _ rfl ?_
                    refine wd_goto C 191 dX7_take_153 (by decide) ?_
                    have ej_0 : p_X7_take_s2 σ p1 = (p_X7_takeInTitle (p_X7_take_s1 σ p1) p1) := by unfold p_X7_take_s2; rw [if_neg c_129, if_pos c_145]
                    rw [ej_0] at J_129
                    exact wd_lv [0, 1] _ rfl J_129
                · refine wd_aload_n C dX7_take_132 rfl 0 rfl ?_
                  refine wd_iload_n C dX7_take_133 rfl 1 rfl ?_
                  refine wd_callV C 1 (c_X7_takeInEscape _ K ad (p_X7_take_s1 σ p1) p1) 0 (wcD_0 K ad _) rfl rfl tw_415 tw_417 tw_11 tw_64 tw_418 (by decide +kernel) rfl (by decide) (Nat.le_of_ble_eq_true rfl) dX7_take_134 _ rfl ?_
                  refine wd_goto C 191 dX7_take_137 (by decide) ?_
                  have ej_0 : p_X7_take_s2 σ p1 = (p_X7_takeInEscape (p_X7_take_s1 σ p1) p1) := by unfold p_X7_take_s2; rw [if_pos c_129]
                  rw [ej_0] at J_129
                  exact wd_lv [0, 1] _ rfl J_129
              · have e9 : p_X7_take σ p1 = (p_X7_take_s1 σ p1) := by rw [hJ_7]; unfold p_X7_take_r1; rw [if_neg c_49, if_neg c_55, if_neg c_69, if_pos c_83, if_neg c_106, if_neg c_120]
                exact hret _ _ _ (by rw [e9] <;> rfl) dX7_take_123
            · refine wd_aload_n C dX7_take_109 rfl 0 rfl ?_
              refine wd_iload_n C dX7_take_110 rfl 1 rfl ?_
              refine wd_callV C 1 (c_X7_takeInGround _ K ad (p_X7_take_s1 σ p1) p1) 0 (wcD_0 K ad _) rfl rfl tw_402 tw_404 tw_9 tw_64 tw_405 (by decide +kernel) rfl (by decide) (Nat.le_of_ble_eq_true rfl) dX7_take_111 _ rfl ?_
              refine wd_goto C 191 dX7_take_114 (by decide) ?_
              have e9 : p_X7_take σ p1 = (p_X7_takeInGround (p_X7_take_s1 σ p1) p1) := by rw [hJ_7]; unfold p_X7_take_r1; rw [if_neg c_49, if_neg c_55, if_neg c_69, if_pos c_83, if_pos c_106]
              exact hret _ _ _ (by rw [e9] <;> rfl) dX7_take_191
          · refine wd_aload_n C dX7_take_86 rfl 0 rfl ?_
            refine gfD_0_6 (x := (p_X7_take_s1 σ p1).1 0) C tw_288 rfl dX7_take_87 ?_
            refine wd_iconst (v := 4) C dX7_take_90 (by decide) ?_
            refine wd_icmp_eq C 102 dX7_take_91 (by decide) (fun c_91 => ?_) (fun c_91 => ?_)
            · refine wd_aload_n C dX7_take_102 rfl 0 rfl ?_
              refine gfD_0_6 (x := (p_X7_take_s1 σ p1).1 0) C tw_288 rfl dX7_take_103 ?_
              refine wd_if_ne C 117 dX7_take_106 (by decide) (fun c_106 => ?_) (fun c_106 => ?_)
              · refine wd_iload_n C dX7_take_117 rfl 1 rfl ?_
                refine wd_bipush (v := 127) C dX7_take_118 (by decide) ?_
                refine wd_icmp_lt C 124 dX7_take_120 (by decide) (fun c_120 => ?_) (fun c_120 => ?_)
                · refine wd_aload_n C dX7_take_124 rfl 0 rfl ?_
                  refine gfD_0_6 (x := (p_X7_take_s1 σ p1).1 0) C tw_288 rfl dX7_take_125 ?_
                  refine wd_iconst (v := 1) C dX7_take_128 (by decide) ?_
                  have J_129 : WD X K 2 0 0 (WdD K ad (p_X7_take_s2 σ p1)) [(0, .ref (ad 0)), (1, .int p1)] 191 [] := by
                    have e9 : p_X7_take σ p1 = (p_X7_take_s2 σ p1) := by rw [hJ_7]; unfold p_X7_take_r1; rw [if_neg c_49, if_neg c_55, if_neg c_69, if_neg c_83, if_pos c_91, if_neg c_106, if_pos c_120]
                    exact hret _ _ _ (by rw [e9] <;> rfl) dX7_take_191
                  refine wd_icmp_ne C 140 dX7_take_129 (by decide) (fun c_129 => ?_) (fun c_129 => ?_)
                  · refine wd_aload_n C dX7_take_140 rfl 0 rfl ?_
                    refine gfD_0_6 (x := (p_X7_take_s1 σ p1).1 0) C tw_288 rfl dX7_take_141 ?_
                    refine wd_iconst (v := 4) C dX7_take_144 (by decide) ?_
                    refine wd_icmp_ne C 156 dX7_take_145 (by decide) (fun c_145 => ?_) (fun c_145 => ?_)
                    · refine wd_iload_n C dX7_take_156 rfl 1 rfl ?_
                      refine wd_bipush (v := 64) C dX7_take_157 (by decide) ?_
                      refine wd_icmp_ge C 170 dX7_take_159 (by decide) (fun c_159 => ?_) (fun c_159 => ?_)
                      · refine wd_aload_n C dX7_take_170 rfl 0 rfl ?_
                        refine gfD_0_6 (x := (p_X7_take_s1 σ p1).1 0) C tw_288 rfl dX7_take_171 ?_
                        refine wd_iconst (v := 2) C dX7_take_174 (by decide) ?_
                        refine wd_icmp_ne C 186 dX7_take_175 (by decide) (fun c_175 => ?_) (fun c_175 => ?_)
                        · refine wd_aload_n C dX7_take_186 rfl 0 rfl ?_
                          refine wd_iconst (v := 0) C dX7_take_187 (by decide) ?_
                          refine pfD_0_6 C tw_288 0 dX7_take_188 ?_
                          have ej_0 : p_X7_take_s2 σ p1 = si (p_X7_take_s1 σ p1) 0 0 := by unfold p_X7_take_s2; rw [if_neg c_129, if_neg c_145, if_pos c_159, if_neg c_175]
                          rw [ej_0] at J_129
                          exact wd_lv [0, 1] _ rfl J_129
                        · refine wd_aload_n C dX7_take_178 rfl 0 rfl ?_
                          refine wd_iload_n C dX7_take_179 rfl 1 rfl ?_
                          refine wd_callV C 1 (c_X7_doSequence _ K ad (p_X7_take_s1 σ p1) p1 (okn_of (a4_take_s1 σ p1) hO)) 0 (wcD_0 K ad _) rfl rfl tw_469 tw_471 tw_14 tw_64 tw_472 (by decide +kernel) rfl (by decide) (Nat.le_of_ble_eq_true rfl) dX7_take_180 _ rfl ?_
                          refine wd_goto C 191 dX7_take_183 (by decide) ?_
                          have ej_0 : p_X7_take_s2 σ p1 = (p_X7_doSequence (p_X7_take_s1 σ p1) p1) := by unfold p_X7_take_s2; rw [if_neg c_129, if_neg c_145, if_pos c_159, if_pos c_175]
                          rw [ej_0] at J_129
                          exact wd_lv [0, 1] _ rfl J_129
                      · refine wd_aload_n C dX7_take_162 rfl 0 rfl ?_
                        refine wd_iload_n C dX7_take_163 rfl 1 rfl ?_
                        refine wd_callV C 1 (c_X7_takeBeforeEnd _ K ad (p_X7_take_s1 σ p1) p1) 0 (wcD_0 K ad _) rfl rfl tw_451 tw_453 tw_13 tw_64 tw_454 (by decide +kernel) rfl (by decide) (Nat.le_of_ble_eq_true rfl) dX7_take_164 _ rfl ?_
                        refine wd_goto C 191 dX7_take_167 (by decide) ?_
                        have ej_0 : p_X7_take_s2 σ p1 = (p_X7_takeBeforeEnd (p_X7_take_s1 σ p1) p1) := by unfold p_X7_take_s2; rw [if_neg c_129, if_neg c_145, if_neg c_159]
                        rw [ej_0] at J_129
                        exact wd_lv [0, 1] _ rfl J_129
                    · refine wd_aload_n C dX7_take_148 rfl 0 rfl ?_
                      refine wd_iload_n C dX7_take_149 rfl 1 rfl ?_
                      refine wd_callV C 1 (c_X7_takeInTitle _ K ad (p_X7_take_s1 σ p1) p1) 0 (wcD_0 K ad _) rfl rfl tw_439 tw_441 tw_12 tw_64 tw_442 (by decide +kernel) rfl (by decide) (Nat.le_of_ble_eq_true rfl) dX7_take_150 _ rfl ?_
                      refine wd_goto C 191 dX7_take_153 (by decide) ?_
                      have ej_0 : p_X7_take_s2 σ p1 = (p_X7_takeInTitle (p_X7_take_s1 σ p1) p1) := by unfold p_X7_take_s2; rw [if_neg c_129, if_pos c_145]
                      rw [ej_0] at J_129
                      exact wd_lv [0, 1] _ rfl J_129
                  · refine wd_aload_n C dX7_take_132 rfl 0 rfl ?_
                    refine wd_iload_n C dX7_take_133 rfl 1 rfl ?_
                    refine wd_callV C 1 (c_X7_takeInEscape _ K ad (p_X7_take_s1 σ p1) p1) 0 (wcD_0 K ad _) rfl rfl tw_415 tw_417 tw_11 tw_64 tw_418 (by decide +kernel) rfl (by decide) (Nat.le_of_ble_eq_true rfl) dX7_take_134 _ rfl ?_
                    refine wd_goto C 191 dX7_take_137 (by decide) ?_
                    have ej_0 : p_X7_take_s2 σ p1 = (p_X7_takeInEscape (p_X7_take_s1 σ p1) p1) := by unfold p_X7_take_s2; rw [if_pos c_129]
                    rw [ej_0] at J_129
                    exact wd_lv [0, 1] _ rfl J_129
                · have e9 : p_X7_take σ p1 = (p_X7_take_s1 σ p1) := by rw [hJ_7]; unfold p_X7_take_r1; rw [if_neg c_49, if_neg c_55, if_neg c_69, if_neg c_83, if_pos c_91, if_neg c_106, if_neg c_120]
                  exact hret _ _ _ (by rw [e9] <;> rfl) dX7_take_123
              · refine wd_aload_n C dX7_take_109 rfl 0 rfl ?_
                refine wd_iload_n C dX7_take_110 rfl 1 rfl ?_
                refine wd_callV C 1 (c_X7_takeInGround _ K ad (p_X7_take_s1 σ p1) p1) 0 (wcD_0 K ad _) rfl rfl tw_402 tw_404 tw_9 tw_64 tw_405 (by decide +kernel) rfl (by decide) (Nat.le_of_ble_eq_true rfl) dX7_take_111 _ rfl ?_
                refine wd_goto C 191 dX7_take_114 (by decide) ?_
                have e9 : p_X7_take σ p1 = (p_X7_takeInGround (p_X7_take_s1 σ p1) p1) := by rw [hJ_7]; unfold p_X7_take_r1; rw [if_neg c_49, if_neg c_55, if_neg c_69, if_neg c_83, if_pos c_91, if_pos c_106]
                exact hret _ _ _ (by rw [e9] <;> rfl) dX7_take_191
            · refine wd_aload_n C dX7_take_94 rfl 0 rfl ?_
              refine wd_iload_n C dX7_take_95 rfl 1 rfl ?_
              refine wd_callV C 1 (c_X7_control _ K ad (p_X7_take_s1 σ p1) p1) 0 (wcD_0 K ad _) rfl rfl tw_373 tw_375 tw_8 tw_64 tw_376 (by decide +kernel) rfl (by decide) (Nat.le_of_ble_eq_true rfl) dX7_take_96 _ rfl ?_
              refine wd_goto C 191 dX7_take_99 (by decide) ?_
              have e9 : p_X7_take σ p1 = (p_X7_control (p_X7_take_s1 σ p1) p1) := by rw [hJ_7]; unfold p_X7_take_r1; rw [if_neg c_49, if_neg c_55, if_neg c_69, if_neg c_83, if_neg c_91]
              exact hret _ _ _ (by rw [e9] <;> rfl) dX7_take_191
        · refine wd_aload_n C dX7_take_72 rfl 0 rfl ?_
          refine wd_iconst (v := 1) C dX7_take_73 (by decide) ?_
          refine pfD_0_6 C tw_288 1 dX7_take_74 ?_
          refine wd_goto C 191 dX7_take_77 (by decide) ?_
          have e9 : p_X7_take σ p1 = si (p_X7_take_s1 σ p1) 0 1 := by rw [hJ_7]; unfold p_X7_take_r1; rw [if_neg c_49, if_neg c_55, if_pos c_69]
          exact hret _ _ _ (by rw [e9] <;> rfl) dX7_take_191
      · refine wd_aload_n C dX7_take_58 rfl 0 rfl ?_
        refine wd_iconst (v := 0) C dX7_take_59 (by decide) ?_
        refine pfD_0_6 C tw_288 0 dX7_take_60 ?_
        refine wd_goto C 191 dX7_take_63 (by decide) ?_
        have e9 : p_X7_take σ p1 = si (p_X7_take_s1 σ p1) 0 0 := by rw [hJ_7]; unfold p_X7_take_r1; rw [if_neg c_49, if_pos c_55]
        exact hret _ _ _ (by rw [e9] <;> rfl) dX7_take_191
  refine wd_if_le C 46 dX7_take_7 (by decide) (fun c_7 => ?_) (fun c_7 => ?_)
  · have J_7e := J_7 (by unfold p_X7_take; rw [if_pos c_7])
    have ej_0 : p_X7_take_s1 σ p1 = σ := by unfold p_X7_take_s1; rw [if_pos c_7]
    rw [ej_0] at J_7e
    exact wd_lv [0, 1] _ rfl J_7e
  · refine wd_iload_n C dX7_take_10 rfl 1 rfl ?_
    refine wd_sipush (v := 128) C dX7_take_11 (by decide) ?_
    refine wd_icmp_lt C 30 dX7_take_14 (by decide) (fun c_14 => ?_) (fun c_14 => ?_)
    · refine wd_aload_n C dX7_take_30 rfl 0 rfl ?_
      refine gfD_0_1 C tw_283 dX7_take_31 ?_
      refine wd_callV C 0 (cD_X1_drop_L _ K ad σ) 10 (wcD_10 K ad _) rfl rfl tw_266 tw_267 tw_268 tw_68 tw_269 (by decide +kernel) rfl (by decide) (Nat.le_of_ble_eq_true rfl) dX7_take_34 _ rfl ?_
      refine wd_aload_n C dX7_take_37 rfl 0 rfl ?_
      refine gfD_0_0 C tw_282 dX7_take_38 ?_
      refine wd_ldc C tw_372 dX7_take_41 ?_
      refine wd_callV C 1 (c_X5_print _ K ad (q_X1_drop_L σ) 65533) 1 (wcD_1 K ad _) rfl rfl tw_328 tw_329 tw_330 tw_65 tw_331 (by decide +kernel) rfl (by decide) (Nat.le_of_ble_eq_true rfl) dX7_take_43 _ rfl ?_
      have J_7e := J_7 (by unfold p_X7_take; rw [if_neg c_7, if_pos c_14])
      have ej_0 : p_X7_take_s1 σ p1 = (p_X5_print (q_X1_drop_L σ) 65533) := by unfold p_X7_take_s1; rw [if_neg c_7, if_pos c_14]
      rw [ej_0] at J_7e
      exact wd_lv [0, 1] _ rfl J_7e
    · refine wd_iload_n C dX7_take_17 rfl 1 rfl ?_
      refine wd_sipush (v := 191) C dX7_take_18 (by decide) ?_
      refine wd_icmp_gt C 30 dX7_take_21 (by decide) (fun c_21 => ?_) (fun c_21 => ?_)
      · refine wd_aload_n C dX7_take_30 rfl 0 rfl ?_
        refine gfD_0_1 C tw_283 dX7_take_31 ?_
        refine wd_callV C 0 (cD_X1_drop_L _ K ad σ) 10 (wcD_10 K ad _) rfl rfl tw_266 tw_267 tw_268 tw_68 tw_269 (by decide +kernel) rfl (by decide) (Nat.le_of_ble_eq_true rfl) dX7_take_34 _ rfl ?_
        refine wd_aload_n C dX7_take_37 rfl 0 rfl ?_
        refine gfD_0_0 C tw_282 dX7_take_38 ?_
        refine wd_ldc C tw_372 dX7_take_41 ?_
        refine wd_callV C 1 (c_X5_print _ K ad (q_X1_drop_L σ) 65533) 1 (wcD_1 K ad _) rfl rfl tw_328 tw_329 tw_330 tw_65 tw_331 (by decide +kernel) rfl (by decide) (Nat.le_of_ble_eq_true rfl) dX7_take_43 _ rfl ?_
        have J_7e := J_7 (by unfold p_X7_take; rw [if_neg c_7, if_neg c_14, if_pos c_21])
        have ej_0 : p_X7_take_s1 σ p1 = (p_X5_print (q_X1_drop_L σ) 65533) := by unfold p_X7_take_s1; rw [if_neg c_7, if_neg c_14, if_pos c_21]
        rw [ej_0] at J_7e
        exact wd_lv [0, 1] _ rfl J_7e
      · refine wd_aload_n C dX7_take_24 rfl 0 rfl ?_
        refine wd_iload_n C dX7_take_25 rfl 1 rfl ?_
        refine wd_callV C 1 (c_X7_takeFurther _ K ad σ p1) 0 (wcD_0 K ad _) rfl rfl tw_312 tw_314 tw_2 tw_64 tw_315 (by decide +kernel) rfl (by decide) (Nat.le_of_ble_eq_true rfl) dX7_take_26 _ rfl ?_
        have e9 : p_X7_take σ p1 = (p_X7_takeFurther σ p1) := by unfold p_X7_take; rw [if_neg c_7, if_neg c_14, if_neg c_21]
        exact hret _ _ _ (by rw [e9] <;> rfl) dX7_take_29
