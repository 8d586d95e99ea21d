def p_X8_sequence_t1 (σ : St) (p1 : Int32) : Int32 := (if σ.2.2 8 (0 : Int32).toNatClampNeg = 0 then 1 else σ.2.2 8 (0 : Int32).toNatClampNeg)
def p_X8_sequence_t2 (σ : St) (p1 : Int32) : Int32 := (if σ.1 37 = 0 then 2 else (if 100 ≤ σ.1 37 then σ.1 37 else (σ.1 37) + 1))
def p_X8_sequence_s3 (σ : St) (p1 : Int32) : St := (if σ.1 37 = 0 then si σ 37 1 else σ)
def p_X8_sequence_t4 (σ : St) (p1 : Int32) : Int32 := (if ((10 * (((p_X8_sequence_s3 σ p1).2.2 8) (((p_X8_sequence_s3 σ p1).1 37) - 1 : Int32).toNatClampNeg)) + p1) - 48 ≤ 9999 then ((10 * (((p_X8_sequence_s3 σ p1).2.2 8) (((p_X8_sequence_s3 σ p1).1 37) - 1 : Int32).toNatClampNeg)) + p1) - 48 else 9999)
def p_X8_sequence_s5 (σ : St) (p1 : Int32) : St := (if p1 < 48 then (if p1 = 59 then si σ 37 (p_X8_sequence_t2 σ p1) else (if p1 = 63 then (if σ.1 37 = 0 then (if σ.2.1 38 = true then (if 64 ≤ p1 then (if σ.2.1 38 = true then (p_X8_privately (si σ 24 0) p1) else (p_X8_doIt (si σ 24 0) p1 (p_X8_sequence_t1 σ p1))) else si σ 24 3) else sb σ 38 true) else (if 64 ≤ p1 then (if σ.2.1 38 = true then (p_X8_privately (si σ 24 0) p1) else (p_X8_doIt (si σ 24 0) p1 (p_X8_sequence_t1 σ p1))) else si σ 24 3)) else (if 64 ≤ p1 then (if σ.2.1 38 = true then (p_X8_privately (si σ 24 0) p1) else (p_X8_doIt (si σ 24 0) p1 (p_X8_sequence_t1 σ p1))) else si σ 24 3))) else (if 57 < p1 then (if p1 = 59 then si σ 37 (p_X8_sequence_t2 σ p1) else (if p1 = 63 then (if σ.1 37 = 0 then (if σ.2.1 38 = true then (if 64 ≤ p1 then (if σ.2.1 38 = true then (p_X8_privately (si σ 24 0) p1) else (p_X8_doIt (si σ 24 0) p1 (p_X8_sequence_t1 σ p1))) else si σ 24 3) else sb σ 38 true) else (if 64 ≤ p1 then (if σ.2.1 38 = true then (p_X8_privately (si σ 24 0) p1) else (p_X8_doIt (si σ 24 0) p1 (p_X8_sequence_t1 σ p1))) else si σ 24 3)) else (if 64 ≤ p1 then (if σ.2.1 38 = true then (p_X8_privately (si σ 24 0) p1) else (p_X8_doIt (si σ 24 0) p1 (p_X8_sequence_t1 σ p1))) else si σ 24 3))) else (if 6 < (p_X8_sequence_s3 σ p1).1 37 then (p_X8_sequence_s3 σ p1) else sa (p_X8_sequence_s3 σ p1) 8 (upd ((p_X8_sequence_s3 σ p1).2.2 8) (((p_X8_sequence_s3 σ p1).1 37) - 1 : Int32).toNatClampNeg (p_X8_sequence_t4 σ p1)))))
def p_X8_sequence (σ : St) (p1 : Int32) : St := (p_X8_sequence_s5 σ p1)
theorem okm_sq3 {σ : St} (p1 : Int32) (hM : OkM σ) : OkM (p_X8_sequence_s3 σ p1) ∧ 1 ≤ ((p_X8_sequence_s3 σ p1).1 37).toInt := by
  unfold p_X8_sequence_s3
  by_cases h : σ.1 37 = 0
  · rw [if_pos h]; exact ⟨okm_bg (R2.lit 1 (by decide)) hM, show (1 : Int) ≤ (1 : Int32).toInt by decide⟩
  · rw [if_neg h]
    have a := hM.2.2.2.2.2.2.2.2.2.2.1.1
    rw [ti_eq] at h
    have z : (0 : Int32).toInt = 0 := by decide
    exact ⟨hM, by omega⟩
theorem sq_in {σ : St} (p1 : Int32) (hM : OkM σ) (h : ¬ 6 < (p_X8_sequence_s3 σ p1).1 37) : vp_in ((p_X8_sequence_s3 σ p1).1 37 - 1) 6 := by
  have a := (okm_sq3 p1 hM).2
  generalize (p_X8_sequence_s3 σ p1).1 37 = x at a h ⊢
  rw [ti_lt] at h
  have z : (6 : Int32).toInt = 6 := by decide
  have z1 : (1 : Int32).toInt = 1 := by decide
  have r := ti_rng x
  have e := ti_sub (a := x) (b := 1) (by omega) (by omega)
  exact vp_in_iff.mpr (by omega)
set_option maxHeartbeats 4000000 in
set_option maxRecDepth 100000 in
theorem c_X8_sequence (l : Launch) (K : KX) (ad : Nat → Nat) (σ : St) (p1 : Int32) (hM : OkM σ) : Mt l K yX8_sequence cX8_sequence 3 none { frames := 7, cells := 0, slots := 0, locals := 161 } [.ref (ad 0), .int p1] (WdM K ad σ) none (WdM K ad (p_X8_sequence σ p1)) := by
  refine Mt.v (by decide +kernel) (Nat.le_of_ble_eq_true rfl) (fun X C hret => ?_)
  show WD X K 3 0 0 (WdM K ad σ) [(0, .ref (ad 0)), (1, .int p1)] 0 []
  refine wd_iload_n C dX8_sequence_0 rfl 1 rfl ?_
  refine wd_bipush (v := 48) C dX8_sequence_1 (by decide) ?_
  have J_3 : WD X K 3 0 0 (WdM K ad (p_X8_sequence_s5 σ p1)) [(0, .ref (ad 0)), (1, .int p1)] 213 [] := by
    have e9 : p_X8_sequence σ p1 = (p_X8_sequence_s5 σ p1) := by rfl
    exact hret _ _ _ (by rw [e9] <;> rfl) dX8_sequence_213
  refine wd_icmp_lt C 81 dX8_sequence_3 (by decide) (fun c_3 => ?_) (fun c_3 => ?_)
  · refine wd_iload_n C dX8_sequence_81 rfl 1 rfl ?_
    refine wd_bipush (v := 59) C dX8_sequence_82 (by decide) ?_
    refine wd_icmp_ne C 127 dX8_sequence_84 (by decide) (fun c_84 => ?_) (fun c_84 => ?_)
    · refine wd_iload_n C dX8_sequence_127 rfl 1 rfl ?_
      refine wd_bipush (v := 63) C dX8_sequence_128 (by decide) ?_
      refine wd_icmp_ne C 155 dX8_sequence_130 (by decide) (fun c_130 => ?_) (fun c_130 => ?_)
      · refine wd_iload_n C dX8_sequence_155 rfl 1 rfl ?_
        refine wd_bipush (v := 64) C dX8_sequence_156 (by decide) ?_
        refine wd_icmp_ge C 169 dX8_sequence_158 (by decide) (fun c_158 => ?_) (fun c_158 => ?_)
        · refine wd_aload_n C dX8_sequence_169 rfl 0 rfl ?_
          refine wd_iconst (v := 0) C dX8_sequence_170 (by decide) ?_
          refine pfM_0_24 C tw_843 0 dX8_sequence_171 ?_
          refine wd_aload_n C dX8_sequence_174 rfl 0 rfl ?_
          refine gfM_0_38 (x := σ.2.1 38) C tw_857 rfl dX8_sequence_175 ?_
          refine wd_if_eqB (b := σ.2.1 38) C 189 dX8_sequence_178 (by decide) (fun c_178 => ?_) (fun c_178 => ?_)
          · refine wd_aload_n C dX8_sequence_189 rfl 0 rfl ?_
            refine wd_iload_n C dX8_sequence_190 rfl 1 rfl ?_
            refine wd_aload_n C dX8_sequence_191 rfl 0 rfl ?_
            refine gfM_0_36 C tw_855 dX8_sequence_192 ?_
            refine wd_iconst (v := 0) C dX8_sequence_195 (by decide) ?_
            refine alM_9 (x := σ.2.2 8 (0 : Int32).toNatClampNeg) C (vp_in_iff.mpr (by decide)) rfl dX8_sequence_196 ?_
            have J_197 : WD X K 3 0 0 (WdM K ad (si σ 24 0)) [(0, .ref (ad 0)), (1, .int p1)] 210 [.int (p_X8_sequence_t1 σ p1), .int p1, .ref (ad 0)] := by
              refine wd_callV C 2 (c_X8_doIt _ K ad (si σ 24 0) p1 (p_X8_sequence_t1 σ p1) (okm_si _ _ (by decide) hM)) 0 (wcM_0 K ad _) rfl rfl tw_1033 tw_1035 tw_53 tw_72 tw_1036 (by decide +kernel) rfl (by decide) (Nat.le_of_ble_eq_true rfl) dX8_sequence_210 _ rfl ?_
              have ej_0 : p_X8_sequence_s5 σ p1 = (p_X8_doIt (si σ 24 0) p1 (p_X8_sequence_t1 σ p1)) := by unfold p_X8_sequence_s5; rw [if_pos c_3, if_neg c_84, if_neg c_130, if_pos c_158, if_neg c_178]
              rw [ej_0] at J_3
              exact wd_lv [0, 1] _ rfl J_3
            refine wd_if_ne C 204 dX8_sequence_197 (by decide) (fun c_197 => ?_) (fun c_197 => ?_)
            · refine wd_aload_n C dX8_sequence_204 rfl 0 rfl ?_
              refine gfM_0_36 C tw_855 dX8_sequence_205 ?_
              refine wd_iconst (v := 0) C dX8_sequence_208 (by decide) ?_
              refine alM_9 (x := σ.2.2 8 (0 : Int32).toNatClampNeg) C (vp_in_iff.mpr (by decide)) rfl dX8_sequence_209 ?_
              have ej_0 : p_X8_sequence_t1 σ p1 = σ.2.2 8 (0 : Int32).toNatClampNeg := by unfold p_X8_sequence_t1; rw [if_neg c_197]
              rw [ej_0] at J_197
              exact wd_lv [0, 1] _ rfl J_197
            · refine wd_iconst (v := 1) C dX8_sequence_200 (by decide) ?_
              refine wd_goto C 210 dX8_sequence_201 (by decide) ?_
              have ej_0 : p_X8_sequence_t1 σ p1 = 1 := by unfold p_X8_sequence_t1; rw [if_pos c_197]
              rw [ej_0] at J_197
              exact wd_lv [0, 1] _ rfl J_197
          · refine wd_aload_n C dX8_sequence_181 rfl 0 rfl ?_
            refine wd_iload_n C dX8_sequence_182 rfl 1 rfl ?_
            refine wd_callV C 1 (c_X8_privately _ K ad (si σ 24 0) p1 (okm_si _ _ (by decide) hM)) 0 (wcM_0 K ad _) rfl rfl tw_1014 tw_1016 tw_49 tw_72 tw_1017 (by decide +kernel) rfl (by decide) (Nat.le_of_ble_eq_true rfl) dX8_sequence_183 _ rfl ?_
            refine wd_goto C 213 dX8_sequence_186 (by decide) ?_
            have ej_0 : p_X8_sequence_s5 σ p1 = (p_X8_privately (si σ 24 0) p1) := by unfold p_X8_sequence_s5; rw [if_pos c_3, if_neg c_84, if_neg c_130, if_pos c_158, if_pos c_178]
            rw [ej_0] at J_3
            exact wd_lv [0, 1] _ rfl J_3
        · refine wd_aload_n C dX8_sequence_161 rfl 0 rfl ?_
          refine wd_iconst (v := 3) C dX8_sequence_162 (by decide) ?_
          refine pfM_0_24 C tw_843 3 dX8_sequence_163 ?_
          refine wd_goto C 213 dX8_sequence_166 (by decide) ?_
          have ej_0 : p_X8_sequence_s5 σ p1 = si σ 24 3 := by unfold p_X8_sequence_s5; rw [if_pos c_3, if_neg c_84, if_neg c_130, if_neg c_158]
          rw [ej_0] at J_3
          exact wd_lv [0, 1] _ rfl J_3
      · refine wd_aload_n C dX8_sequence_133 rfl 0 rfl ?_
        refine gfM_0_37 (x := σ.1 37) C tw_856 rfl dX8_sequence_134 ?_
        refine wd_if_ne C 155 dX8_sequence_137 (by decide) (fun c_137 => ?_) (fun c_137 => ?_)
        · refine wd_iload_n C dX8_sequence_155 rfl 1 rfl ?_
          refine wd_bipush (v := 64) C dX8_sequence_156 (by decide) ?_
          refine wd_icmp_ge C 169 dX8_sequence_158 (by decide) (fun c_158 => ?_) (fun c_158 => ?_)
          · refine wd_aload_n C dX8_sequence_169 rfl 0 rfl ?_
            refine wd_iconst (v := 0) C dX8_sequence_170 (by decide) ?_
            refine pfM_0_24 C tw_843 0 dX8_sequence_171 ?_
            refine wd_aload_n C dX8_sequence_174 rfl 0 rfl ?_
            refine gfM_0_38 (x := σ.2.1 38) C tw_857 rfl dX8_sequence_175 ?_
            refine wd_if_eqB (b := σ.2.1 38) C 189 dX8_sequence_178 (by decide) (fun c_178 => ?_) (fun c_178 => ?_)
            · refine wd_aload_n C dX8_sequence_189 rfl 0 rfl ?_
              refine wd_iload_n C dX8_sequence_190 rfl 1 rfl ?_
              refine wd_aload_n C dX8_sequence_191 rfl 0 rfl ?_
              refine gfM_0_36 C tw_855 dX8_sequence_192 ?_
              refine wd_iconst (v := 0) C dX8_sequence_195 (by decide) ?_
              refine alM_9 (x := σ.2.2 8 (0 : Int32).toNatClampNeg) C (vp_in_iff.mpr (by decide)) rfl dX8_sequence_196 ?_
              have J_197 : WD X K 3 0 0 (WdM K ad (si σ 24 0)) [(0, .ref (ad 0)), (1, .int p1)] 210 [.int (p_X8_sequence_t1 σ p1), .int p1, .ref (ad 0)] := by
                refine wd_callV C 2 (c_X8_doIt _ K ad (si σ 24 0) p1 (p_X8_sequence_t1 σ p1) (okm_si _ _ (by decide) hM)) 0 (wcM_0 K ad _) rfl rfl tw_1033 tw_1035 tw_53 tw_72 tw_1036 (by decide +kernel) rfl (by decide) (Nat.le_of_ble_eq_true rfl) dX8_sequence_210 _ rfl ?_
                have ej_0 : p_X8_sequence_s5 σ p1 = (p_X8_doIt (si σ 24 0) p1 (p_X8_sequence_t1 σ p1)) := by unfold p_X8_sequence_s5; rw [if_pos c_3, if_neg c_84, if_pos c_130, if_neg c_137, if_pos c_158, if_neg c_178]
                rw [ej_0] at J_3
                exact wd_lv [0, 1] _ rfl J_3
              refine wd_if_ne C 204 dX8_sequence_197 (by decide) (fun c_197 => ?_) (fun c_197 => ?_)
              · refine wd_aload_n C dX8_sequence_204 rfl 0 rfl ?_
                refine gfM_0_36 C tw_855 dX8_sequence_205 ?_
                refine wd_iconst (v := 0) C dX8_sequence_208 (by decide) ?_
                refine alM_9 (x := σ.2.2 8 (0 : Int32).toNatClampNeg) C (vp_in_iff.mpr (by decide)) rfl dX8_sequence_209 ?_
                have ej_0 : p_X8_sequence_t1 σ p1 = σ.2.2 8 (0 : Int32).toNatClampNeg := by unfold p_X8_sequence_t1; rw [if_neg c_197]
                rw [ej_0] at J_197
                exact wd_lv [0, 1] _ rfl J_197
              · refine wd_iconst (v := 1) C dX8_sequence_200 (by decide) ?_
                refine wd_goto C 210 dX8_sequence_201 (by decide) ?_
                have ej_0 : p_X8_sequence_t1 σ p1 = 1 := by unfold p_X8_sequence_t1; rw [if_pos c_197]
                rw [ej_0] at J_197
                exact wd_lv [0, 1] _ rfl J_197
            · refine wd_aload_n C dX8_sequence_181 rfl 0 rfl ?_
              refine wd_iload_n C dX8_sequence_182 rfl 1 rfl ?_
              refine wd_callV C 1 (c_X8_privately _ K ad (si σ 24 0) p1 (okm_si _ _ (by decide) hM)) 0 (wcM_0 K ad _) rfl rfl tw_1014 tw_1016 tw_49 tw_72 tw_1017 (by decide +kernel) rfl (by decide) (Nat.le_of_ble_eq_true rfl) dX8_sequence_183 _ rfl ?_
              refine wd_goto C 213 dX8_sequence_186 (by decide) ?_
              have ej_0 : p_X8_sequence_s5 σ p1 = (p_X8_privately (si σ 24 0) p1) := by unfold p_X8_sequence_s5; rw [if_pos c_3, if_neg c_84, if_pos c_130, if_neg c_137, if_pos c_158, if_pos c_178]
              rw [ej_0] at J_3
              exact wd_lv [0, 1] _ rfl J_3
          · refine wd_aload_n C dX8_sequence_161 rfl 0 rfl ?_
            refine wd_iconst (v := 3) C dX8_sequence_162 (by decide) ?_
            refine pfM_0_24 C tw_843 3 dX8_sequence_163 ?_
            refine wd_goto C 213 dX8_sequence_166 (by decide) ?_
            have ej_0 : p_X8_sequence_s5 σ p1 = si σ 24 3 := by unfold p_X8_sequence_s5; rw [if_pos c_3, if_neg c_84, if_pos c_130, if_neg c_137, if_neg c_158]
            rw [ej_0] at J_3
            exact wd_lv [0, 1] _ rfl J_3
        · refine wd_aload_n C dX8_sequence_140 rfl 0 rfl ?_
          refine gfM_0_38 (x := σ.2.1 38) C tw_857 rfl dX8_sequence_141 ?_
          refine wd_if_neB (b := σ.2.1 38) C 155 dX8_sequence_144 (by decide) (fun c_144 => ?_) (fun c_144 => ?_)
          · refine wd_iload_n C dX8_sequence_155 rfl 1 rfl ?_
            refine wd_bipush (v := 64) C dX8_sequence_156 (by decide) ?_
            refine wd_icmp_ge C 169 dX8_sequence_158 (by decide) (fun c_158 => ?_) (fun c_158 => ?_)
            · refine wd_aload_n C dX8_sequence_169 rfl 0 rfl ?_
              refine wd_iconst (v := 0) C dX8_sequence_170 (by decide) ?_
              refine pfM_0_24 C tw_843 0 dX8_sequence_171 ?_
              refine wd_aload_n C dX8_sequence_174 rfl 0 rfl ?_
              refine gfM_0_38 (x := σ.2.1 38) C tw_857 rfl dX8_sequence_175 ?_
              refine wd_if_eqB (b := σ.2.1 38) C 189 dX8_sequence_178 (by decide) (fun c_178 => ?_) (fun c_178 => ?_)
              · refine wd_aload_n C dX8_sequence_189 rfl 0 rfl ?_
                refine wd_iload_n C dX8_sequence_190 rfl 1 rfl ?_
                refine wd_aload_n C dX8_sequence_191 rfl 0 rfl ?_
                refine gfM_0_36 C tw_855 dX8_sequence_192 ?_
                refine wd_iconst (v := 0) C dX8_sequence_195 (by decide) ?_
                refine alM_9 (x := σ.2.2 8 (0 : Int32).toNatClampNeg) C (vp_in_iff.mpr (by decide)) rfl dX8_sequence_196 ?_
                have J_197 : WD X K 3 0 0 (WdM K ad (si σ 24 0)) [(0, .ref (ad 0)), (1, .int p1)] 210 [.int (p_X8_sequence_t1 σ p1), .int p1, .ref (ad 0)] := by
                  refine wd_callV C 2 (c_X8_doIt _ K ad (si σ 24 0) p1 (p_X8_sequence_t1 σ p1) (okm_si _ _ (by decide) hM)) 0 (wcM_0 K ad _) rfl rfl tw_1033 tw_1035 tw_53 tw_72 tw_1036 (by decide +kernel) rfl (by decide) (Nat.le_of_ble_eq_true rfl) dX8_sequence_210 _ rfl ?_
                  have ej_0 : p_X8_sequence_s5 σ p1 = (p_X8_doIt (si σ 24 0) p1 (p_X8_sequence_t1 σ p1)) := by unfold p_X8_sequence_s5; rw [if_pos c_3, if_neg c_84, if_pos c_130, if_pos c_137, if_pos c_144, if_pos c_158, if_neg c_178]
                  rw [ej_0] at J_3
                  exact wd_lv [0, 1] _ rfl J_3
                refine wd_if_ne C 204 dX8_sequence_197 (by decide) (fun c_197 => ?_) (fun c_197 => ?_)
                · refine wd_aload_n C dX8_sequence_204 rfl 0 rfl ?_
                  refine gfM_0_36 C tw_855 dX8_sequence_205 ?_
                  refine wd_iconst (v := 0) C dX8_sequence_208 (by decide) ?_
                  refine alM_9 (x := σ.2.2 8 (0 : Int32).toNatClampNeg) C (vp_in_iff.mpr (by decide)) rfl dX8_sequence_209 ?_
                  have ej_0 : p_X8_sequence_t1 σ p1 = σ.2.2 8 (0 : Int32).toNatClampNeg := by unfold p_X8_sequence_t1; rw [if_neg c_197]
                  rw [ej_0] at J_197
                  exact wd_lv [0, 1] _ rfl J_197
                · refine wd_iconst (v := 1) C dX8_sequence_200 (by decide) ?_
                  refine wd_goto C 210 dX8_sequence_201 (by decide) ?_
                  have ej_0 : p_X8_sequence_t1 σ p1 = 1 := by unfold p_X8_sequence_t1; rw [if_pos c_197]
                  rw [ej_0] at J_197
                  exact wd_lv [0, 1] _ rfl J_197
              · refine wd_aload_n C dX8_sequence_181 rfl 0 rfl ?_
                refine wd_iload_n C dX8_sequence_182 rfl 1 rfl ?_
                refine wd_callV C 1 (c_X8_privately _ K ad (si σ 24 0) p1 (okm_si _ _ (by decide) hM)) 0 (wcM_0 K ad _) rfl rfl tw_1014 tw_1016 tw_49 tw_72 tw_1017 (by decide +kernel) rfl (by decide) (Nat.le_of_ble_eq_true rfl) dX8_sequence_183 _ rfl ?_
                refine wd_goto C 213 dX8_sequence_186 (by decide) ?_
                have ej_0 : p_X8_sequence_s5 σ p1 = (p_X8_privately (si σ 24 0) p1) := by unfold p_X8_sequence_s5; rw [if_pos c_3, if_neg c_84, if_pos c_130, if_pos c_137, if_pos c_144, if_pos c_158, if_pos c_178]
                rw [ej_0] at J_3
                exact wd_lv [0, 1] _ rfl J_3
            · refine wd_aload_n C dX8_sequence_161 rfl 0 rfl ?_
              refine wd_iconst (v := 3) C dX8_sequence_162 (by decide) ?_
              refine pfM_0_24 C tw_843 3 dX8_sequence_163 ?_
              refine wd_goto C 213 dX8_sequence_166 (by decide) ?_
              have ej_0 : p_X8_sequence_s5 σ p1 = si σ 24 3 := by unfold p_X8_sequence_s5; rw [if_pos c_3, if_neg c_84, if_pos c_130, if_pos c_137, if_pos c_144, if_neg c_158]
              rw [ej_0] at J_3
              exact wd_lv [0, 1] _ rfl J_3
          · refine wd_aload_n C dX8_sequence_147 rfl 0 rfl ?_
            refine wd_iconst (v := 1) C dX8_sequence_148 (by decide) ?_
            refine pfM_0_38 C tw_857 true dX8_sequence_149 ?_
            refine wd_goto C 213 dX8_sequence_152 (by decide) ?_
            have ej_0 : p_X8_sequence_s5 σ p1 = sb σ 38 true := by unfold p_X8_sequence_s5; rw [if_pos c_3, if_neg c_84, if_pos c_130, if_pos c_137, if_neg c_144]
            rw [ej_0] at J_3
            exact wd_lv [0, 1] _ rfl J_3
    · refine wd_aload_n C dX8_sequence_87 rfl 0 rfl ?_
      refine wd_aload_n C dX8_sequence_88 rfl 0 rfl ?_
      refine gfM_0_37 (x := σ.1 37) C tw_856 rfl dX8_sequence_89 ?_
      have J_92 : WD X K 3 0 0 (WdM K ad σ) [(0, .ref (ad 0)), (1, .int p1)] 121 [.int (p_X8_sequence_t2 σ p1), .ref (ad 0)] := by
        refine pfM_0_37 C tw_856 (p_X8_sequence_t2 σ p1) dX8_sequence_121 ?_
        refine wd_goto C 213 dX8_sequence_124 (by decide) ?_
        have ej_0 : p_X8_sequence_s5 σ p1 = si σ 37 (p_X8_sequence_t2 σ p1) := by unfold p_X8_sequence_s5; rw [if_pos c_3, if_pos c_84]
        rw [ej_0] at J_3
        exact wd_lv [0, 1] _ rfl J_3
      refine wd_if_ne C 99 dX8_sequence_92 (by decide) (fun c_92 => ?_) (fun c_92 => ?_)
      · refine wd_aload_n C dX8_sequence_99 rfl 0 rfl ?_
        refine gfM_0_37 (x := σ.1 37) C tw_856 rfl dX8_sequence_100 ?_
        refine wd_bipush (v := 100) C dX8_sequence_103 (by decide) ?_
        refine wd_icmp_ge C 117 dX8_sequence_105 (by decide) (fun c_105 => ?_) (fun c_105 => ?_)
        · refine wd_aload_n C dX8_sequence_117 rfl 0 rfl ?_
          refine gfM_0_37 (x := σ.1 37) C tw_856 rfl dX8_sequence_118 ?_
          have ej_0 : p_X8_sequence_t2 σ p1 = σ.1 37 := by unfold p_X8_sequence_t2; rw [if_neg c_92, if_pos c_105]
          rw [ej_0] at J_92
          exact wd_lv [0, 1] _ rfl J_92
        · refine wd_aload_n C dX8_sequence_108 rfl 0 rfl ?_
          refine gfM_0_37 (x := σ.1 37) C tw_856 rfl dX8_sequence_109 ?_
          refine wd_iconst (v := 1) C dX8_sequence_112 (by decide) ?_
          refine wd_iadd C dX8_sequence_113 ?_
          refine wd_goto C 121 dX8_sequence_114 (by decide) ?_
          have ej_0 : p_X8_sequence_t2 σ p1 = (σ.1 37) + 1 := by unfold p_X8_sequence_t2; rw [if_neg c_92, if_neg c_105]
          rw [ej_0] at J_92
          exact wd_lv [0, 1] _ rfl J_92
      · refine wd_iconst (v := 2) C dX8_sequence_95 (by decide) ?_
        refine wd_goto C 121 dX8_sequence_96 (by decide) ?_
        have ej_0 : p_X8_sequence_t2 σ p1 = 2 := by unfold p_X8_sequence_t2; rw [if_pos c_92]
        rw [ej_0] at J_92
        exact wd_lv [0, 1] _ rfl J_92
  · refine wd_iload_n C dX8_sequence_6 rfl 1 rfl ?_
    refine wd_bipush (v := 57) C dX8_sequence_7 (by decide) ?_
    refine wd_icmp_gt C 81 dX8_sequence_9 (by decide) (fun c_9 => ?_) (fun c_9 => ?_)
    · refine wd_iload_n C dX8_sequence_81 rfl 1 rfl ?_
      refine wd_bipush (v := 59) C dX8_sequence_82 (by decide) ?_
      refine wd_icmp_ne C 127 dX8_sequence_84 (by decide) (fun c_84 => ?_) (fun c_84 => ?_)
      · refine wd_iload_n C dX8_sequence_127 rfl 1 rfl ?_
        refine wd_bipush (v := 63) C dX8_sequence_128 (by decide) ?_
        refine wd_icmp_ne C 155 dX8_sequence_130 (by decide) (fun c_130 => ?_) (fun c_130 => ?_)
        · refine wd_iload_n C dX8_sequence_155 rfl 1 rfl ?_
          refine wd_bipush (v := 64) C dX8_sequence_156 (by decide) ?_
          refine wd_icmp_ge C 169 dX8_sequence_158 (by decide) (fun c_158 => ?_) (fun c_158 => ?_)
          · refine wd_aload_n C dX8_sequence_169 rfl 0 rfl ?_
            refine wd_iconst (v := 0) C dX8_sequence_170 (by decide) ?_
            refine pfM_0_24 C tw_843 0 dX8_sequence_171 ?_
            refine wd_aload_n C dX8_sequence_174 rfl 0 rfl ?_
            refine gfM_0_38 (x := σ.2.1 38) C tw_857 rfl dX8_sequence_175 ?_
            refine wd_if_eqB (b := σ.2.1 38) C 189 dX8_sequence_178 (by decide) (fun c_178 => ?_) (fun c_178 => ?_)
            · refine wd_aload_n C dX8_sequence_189 rfl 0 rfl ?_
              refine wd_iload_n C dX8_sequence_190 rfl 1 rfl ?_
              refine wd_aload_n C dX8_sequence_191 rfl 0 rfl ?_
              refine gfM_0_36 C tw_855 dX8_sequence_192 ?_
              refine wd_iconst (v := 0) C dX8_sequence_195 (by decide) ?_
              refine alM_9 (x := σ.2.2 8 (0 : Int32).toNatClampNeg) C (vp_in_iff.mpr (by decide)) rfl dX8_sequence_196 ?_
              have J_197 : WD X K 3 0 0 (WdM K ad (si σ 24 0)) [(0, .ref (ad 0)), (1, .int p1)] 210 [.int (p_X8_sequence_t1 σ p1), .int p1, .ref (ad 0)] := by
                refine wd_callV C 2 (c_X8_doIt _ K ad (si σ 24 0) p1 (p_X8_sequence_t1 σ p1) (okm_si _ _ (by decide) hM)) 0 (wcM_0 K ad _) rfl rfl tw_1033 tw_1035 tw_53 tw_72 tw_1036 (by decide +kernel) rfl (by decide) (Nat.le_of_ble_eq_true rfl) dX8_sequence_210 _ rfl ?_
                have ej_0 : p_X8_sequence_s5 σ p1 = (p_X8_doIt (si σ 24 0) p1 (p_X8_sequence_t1 σ p1)) := by unfold p_X8_sequence_s5; rw [if_neg c_3, if_pos c_9, if_neg c_84, if_neg c_130, if_pos c_158, if_neg c_178]
                rw [ej_0] at J_3
                exact wd_lv [0, 1] _ rfl J_3
              refine wd_if_ne C 204 dX8_sequence_197 (by decide) (fun c_197 => ?_) (fun c_197 => ?_)
              · refine wd_aload_n C dX8_sequence_204 rfl 0 rfl ?_
                refine gfM_0_36 C tw_855 dX8_sequence_205 ?_
                refine wd_iconst (v := 0) C dX8_sequence_208 (by decide) ?_
                refine alM_9 (x := σ.2.2 8 (0 : Int32).toNatClampNeg) C (vp_in_iff.mpr (by decide)) rfl dX8_sequence_209 ?_
                have ej_0 : p_X8_sequence_t1 σ p1 = σ.2.2 8 (0 : Int32).toNatClampNeg := by unfold p_X8_sequence_t1; rw [if_neg c_197]
                rw [ej_0] at J_197
                exact wd_lv [0, 1] _ rfl J_197
              · refine wd_iconst (v := 1) C dX8_sequence_200 (by decide) ?_
                refine wd_goto C 210 dX8_sequence_201 (by decide) ?_
                have ej_0 : p_X8_sequence_t1 σ p1 = 1 := by unfold p_X8_sequence_t1; rw [if_pos c_197]
                rw [ej_0] at J_197
                exact wd_lv [0, 1] _ rfl J_197
            · refine wd_aload_n C dX8_sequence_181 rfl 0 rfl ?_
              refine wd_iload_n C dX8_sequence_182 rfl 1 rfl ?_
              refine wd_callV C 1 (c_X8_privately _ K ad (si σ 24 0) p1 (okm_si _ _ (by decide) hM)) 0 (wcM_0 K ad _) rfl rfl tw_1014 tw_1016 tw_49 tw_72 tw_1017 (by decide +kernel) rfl (by decide) (Nat.le_of_ble_eq_true rfl) dX8_sequence_183 _ rfl ?_
              refine wd_goto C 213 dX8_sequence_186 (by decide) ?_
              have ej_0 : p_X8_sequence_s5 σ p1 = (p_X8_privately (si σ 24 0) p1) := by unfold p_X8_sequence_s5; rw [if_neg c_3, if_pos c_9, if_neg c_84, if_neg c_130, if_pos c_158, if_pos c_178]
              rw [ej_0] at J_3
              exact wd_lv [0, 1] _ rfl J_3
          · refine wd_aload_n C dX8_sequence_161 rfl 0 rfl ?_
            refine wd_iconst (v := 3) C dX8_sequence_162 (by decide) ?_
            refine pfM_0_24 C tw_843 3 dX8_sequence_163 ?_
            refine wd_goto C 213 dX8_sequence_166 (by decide) ?_
            have ej_0 : p_X8_sequence_s5 σ p1 = si σ 24 3 := by unfold p_X8_sequence_s5; rw [if_neg c_3, if_pos c_9, if_neg c_84, if_neg c_130, if_neg c_158]
            rw [ej_0] at J_3
            exact wd_lv [0, 1] _ rfl J_3
        · refine wd_aload_n C dX8_sequence_133 rfl 0 rfl ?_
          refine gfM_0_37 (x := σ.1 37) C tw_856 rfl dX8_sequence_134 ?_
          refine wd_if_ne C 155 dX8_sequence_137 (by decide) (fun c_137 => ?_) (fun c_137 => ?_)
          · refine wd_iload_n C dX8_sequence_155 rfl 1 rfl ?_
            refine wd_bipush (v := 64) C dX8_sequence_156 (by decide) ?_
            refine wd_icmp_ge C 169 dX8_sequence_158 (by decide) (fun c_158 => ?_) (fun c_158 => ?_)
            · refine wd_aload_n C dX8_sequence_169 rfl 0 rfl ?_
              refine wd_iconst (v := 0) C dX8_sequence_170 (by decide) ?_
              refine pfM_0_24 C tw_843 0 dX8_sequence_171 ?_
              refine wd_aload_n C dX8_sequence_174 rfl 0 rfl ?_
              refine gfM_0_38 (x := σ.2.1 38) C tw_857 rfl dX8_sequence_175 ?_
              refine wd_if_eqB (b := σ.2.1 38) C 189 dX8_sequence_178 (by decide) (fun c_178 => ?_) (fun c_178 => ?_)
              · refine wd_aload_n C dX8_sequence_189 rfl 0 rfl ?_
                refine wd_iload_n C dX8_sequence_190 rfl 1 rfl ?_
                refine wd_aload_n C dX8_sequence_191 rfl 0 rfl ?_
                refine gfM_0_36 C tw_855 dX8_sequence_192 ?_
                refine wd_iconst (v := 0) C dX8_sequence_195 (by decide) ?_
                refine alM_9 (x := σ.2.2 8 (0 : Int32).toNatClampNeg) C (vp_in_iff.mpr (by decide)) rfl dX8_sequence_196 ?_
                have J_197 : WD X K 3 0 0 (WdM K ad (si σ 24 0)) [(0, .ref (ad 0)), (1, .int p1)] 210 [.int (p_X8_sequence_t1 σ p1), .int p1, .ref (ad 0)] := by
                  refine wd_callV C 2 (c_X8_doIt _ K ad (si σ 24 0) p1 (p_X8_sequence_t1 σ p1) (okm_si _ _ (by decide) hM)) 0 (wcM_0 K ad _) rfl rfl tw_1033 tw_1035 tw_53 tw_72 tw_1036 (by decide +kernel) rfl (by decide) (Nat.le_of_ble_eq_true rfl) dX8_sequence_210 _ rfl ?_
                  have ej_0 : p_X8_sequence_s5 σ p1 = (p_X8_doIt (si σ 24 0) p1 (p_X8_sequence_t1 σ p1)) := by unfold p_X8_sequence_s5; rw [if_neg c_3, if_pos c_9, if_neg c_84, if_pos c_130, if_neg c_137, if_pos c_158, if_neg c_178]
                  rw [ej_0] at J_3
                  exact wd_lv [0, 1] _ rfl J_3
                refine wd_if_ne C 204 dX8_sequence_197 (by decide) (fun c_197 => ?_) (fun c_197 => ?_)
                · refine wd_aload_n C dX8_sequence_204 rfl 0 rfl ?_
                  refine gfM_0_36 C tw_855 dX8_sequence_205 ?_
                  refine wd_iconst (v := 0) C dX8_sequence_208 (by decide) ?_
                  refine alM_9 (x := σ.2.2 8 (0 : Int32).toNatClampNeg) C (vp_in_iff.mpr (by decide)) rfl dX8_sequence_209 ?_
                  have ej_0 : p_X8_sequence_t1 σ p1 = σ.2.2 8 (0 : Int32).toNatClampNeg := by unfold p_X8_sequence_t1; rw [if_neg c_197]
                  rw [ej_0] at J_197
                  exact wd_lv [0, 1] _ rfl J_197
                · refine wd_iconst (v := 1) C dX8_sequence_200 (by decide) ?_
                  refine wd_goto C 210 dX8_sequence_201 (by decide) ?_
                  have ej_0 : p_X8_sequence_t1 σ p1 = 1 := by unfold p_X8_sequence_t1; rw [if_pos c_197]
                  rw [ej_0] at J_197
                  exact wd_lv [0, 1] _ rfl J_197
              · refine wd_aload_n C dX8_sequence_181 rfl 0 rfl ?_
                refine wd_iload_n C dX8_sequence_182 rfl 1 rfl ?_
                refine wd_callV C 1 (c_X8_privately _ K ad (si σ 24 0) p1 (okm_si _ _ (by decide) hM)) 0 (wcM_0 K ad _) rfl rfl tw_1014 tw_1016 tw_49 tw_72 tw_1017 (by decide +kernel) rfl (by decide) (Nat.le_of_ble_eq_true rfl) dX8_sequence_183 _ rfl ?_
                refine wd_goto C 213 dX8_sequence_186 (by decide) ?_
                have ej_0 : p_X8_sequence_s5 σ p1 = (p_X8_privately (si σ 24 0) p1) := by unfold p_X8_sequence_s5; rw [if_neg c_3, if_pos c_9, if_neg c_84, if_pos c_130, if_neg c_137, if_pos c_158, if_pos c_178]
                rw [ej_0] at J_3
                exact wd_lv [0, 1] _ rfl J_3
            · refine wd_aload_n C dX8_sequence_161 rfl 0 rfl ?_
              refine wd_iconst (v := 3) C dX8_sequence_162 (by decide) ?_
              refine pfM_0_24 C tw_843 3 dX8_sequence_163 ?_
              refine wd_goto C 213 dX8_sequence_166 (by decide) ?_
              have ej_0 : p_X8_sequence_s5 σ p1 = si σ 24 3 := by unfold p_X8_sequence_s5; rw [if_neg c_3, if_pos c_9, if_neg c_84, if_pos c_130, if_neg c_137, if_neg c_158]
              rw [ej_0] at J_3
              exact wd_lv [0, 1] _ rfl J_3
          · refine wd_aload_n C dX8_sequence_140 rfl 0 rfl ?_
            refine gfM_0_38 (x := σ.2.1 38) C tw_857 rfl dX8_sequence_141 ?_
            refine wd_if_neB (b := σ.2.1 38) C 155 dX8_sequence_144 (by decide) (fun c_144 => ?_) (fun c_144 => ?_)
            · refine wd_iload_n C dX8_sequence_155 rfl 1 rfl ?_
              refine wd_bipush (v := 64) C dX8_sequence_156 (by decide) ?_
              refine wd_icmp_ge C 169 dX8_sequence_158 (by decide) (fun c_158 => ?_) (fun c_158 => ?_)
              · refine wd_aload_n C dX8_sequence_169 rfl 0 rfl ?_
                refine wd_iconst (v := 0) C dX8_sequence_170 (by decide) ?_
                refine pfM_0_24 C tw_843 0 dX8_sequence_171 ?_
                refine wd_aload_n C dX8_sequence_174 rfl 0 rfl ?_
                refine gfM_0_38 (x := σ.2.1 38) C tw_857 rfl dX8_sequence_175 ?_
                refine wd_if_eqB (b := σ.2.1 38) C 189 dX8_sequence_178 (by decide) (fun c_178 => ?_) (fun c_178 => ?_)
                · refine wd_aload_n C dX8_sequence_189 rfl 0 rfl ?_
                  refine wd_iload_n C dX8_sequence_190 rfl 1 rfl ?_
                  refine wd_aload_n C dX8_sequence_191 rfl 0 rfl ?_
                  refine gfM_0_36 C tw_855 dX8_sequence_192 ?_
                  refine wd_iconst (v := 0) C dX8_sequence_195 (by decide) ?_
                  refine alM_9 (x := σ.2.2 8 (0 : Int32).toNatClampNeg) C (vp_in_iff.mpr (by decide)) rfl dX8_sequence_196 ?_
                  have J_197 : WD X K 3 0 0 (WdM K ad (si σ 24 0)) [(0, .ref (ad 0)), (1, .int p1)] 210 [.int (p_X8_sequence_t1 σ p1), .int p1, .ref (ad 0)] := by
                    refine wd_callV C 2 (c_X8_doIt _ K ad (si σ 24 0) p1 (p_X8_sequence_t1 σ p1) (okm_si _ _ (by decide) hM)) 0 (wcM_0 K ad _) rfl rfl tw_1033 tw_1035 tw_53 tw_72 tw_1036 (by decide +kernel) rfl (by decide) (Nat.le_of_ble_eq_true rfl) dX8_sequence_210 _ rfl ?_
                    have ej_0 : p_X8_sequence_s5 σ p1 = (p_X8_doIt (si σ 24 0) p1 (p_X8_sequence_t1 σ p1)) := by unfold p_X8_sequence_s5; rw [if_neg c_3, if_pos c_9, if_neg c_84, if_pos c_130, if_pos c_137, if_pos c_144, if_pos c_158, if_neg c_178]
                    rw [ej_0] at J_3
                    exact wd_lv [0, 1] _ rfl J_3
                  refine wd_if_ne C 204 dX8_sequence_197 (by decide) (fun c_197 => ?_) (fun c_197 => ?_)
                  · refine wd_aload_n C dX8_sequence_204 rfl 0 rfl ?_
                    refine gfM_0_36 C tw_855 dX8_sequence_205 ?_
                    refine wd_iconst (v := 0) C dX8_sequence_208 (by decide) ?_
                    refine alM_9 (x := σ.2.2 8 (0 : Int32).toNatClampNeg) C (vp_in_iff.mpr (by decide)) rfl dX8_sequence_209 ?_
                    have ej_0 : p_X8_sequence_t1 σ p1 = σ.2.2 8 (0 : Int32).toNatClampNeg := by unfold p_X8_sequence_t1; rw [if_neg c_197]
                    rw [ej_0] at J_197
                    exact wd_lv [0, 1] _ rfl J_197
                  · refine wd_iconst (v := 1) C dX8_sequence_200 (by decide) ?_
                    refine wd_goto C 210 dX8_sequence_201 (by decide) ?_
                    have ej_0 : p_X8_sequence_t1 σ p1 = 1 := by unfold p_X8_sequence_t1; rw [if_pos c_197]
                    rw [ej_0] at J_197
                    exact wd_lv [0, 1] _ rfl J_197
                · refine wd_aload_n C dX8_sequence_181 rfl 0 rfl ?_
                  refine wd_iload_n C dX8_sequence_182 rfl 1 rfl ?_
                  refine wd_callV C 1 (c_X8_privately _ K ad (si σ 24 0) p1 (okm_si _ _ (by decide) hM)) 0 (wcM_0 K ad _) rfl rfl tw_1014 tw_1016 tw_49 tw_72 tw_1017 (by decide +kernel) rfl (by decide) (Nat.le_of_ble_eq_true rfl) dX8_sequence_183 _ rfl ?_
                  refine wd_goto C 213 dX8_sequence_186 (by decide) ?_
                  have ej_0 : p_X8_sequence_s5 σ p1 = (p_X8_privately (si σ 24 0) p1) := by unfold p_X8_sequence_s5; rw [if_neg c_3, if_pos c_9, if_neg c_84, if_pos c_130, if_pos c_137, if_pos c_144, if_pos c_158, if_pos c_178]
                  rw [ej_0] at J_3
                  exact wd_lv [0, 1] _ rfl J_3
              · refine wd_aload_n C dX8_sequence_161 rfl 0 rfl ?_
                refine wd_iconst (v := 3) C dX8_sequence_162 (by decide) ?_
                refine pfM_0_24 C tw_843 3 dX8_sequence_163 ?_
                refine wd_goto C 213 dX8_sequence_166 (by decide) ?_
                have ej_0 : p_X8_sequence_s5 σ p1 = si σ 24 3 := by unfold p_X8_sequence_s5; rw [if_neg c_3, if_pos c_9, if_neg c_84, if_pos c_130, if_pos c_137, if_pos c_144, if_neg c_158]
                rw [ej_0] at J_3
                exact wd_lv [0, 1] _ rfl J_3
            · refine wd_aload_n C dX8_sequence_147 rfl 0 rfl ?_
              refine wd_iconst (v := 1) C dX8_sequence_148 (by decide) ?_
              refine pfM_0_38 C tw_857 true dX8_sequence_149 ?_
              refine wd_goto C 213 dX8_sequence_152 (by decide) ?_
              have ej_0 : p_X8_sequence_s5 σ p1 = sb σ 38 true := by unfold p_X8_sequence_s5; rw [if_neg c_3, if_pos c_9, if_neg c_84, if_pos c_130, if_pos c_137, if_neg c_144]
              rw [ej_0] at J_3
              exact wd_lv [0, 1] _ rfl J_3
      · refine wd_aload_n C dX8_sequence_87 rfl 0 rfl ?_
        refine wd_aload_n C dX8_sequence_88 rfl 0 rfl ?_
        refine gfM_0_37 (x := σ.1 37) C tw_856 rfl dX8_sequence_89 ?_
        have J_92 : WD X K 3 0 0 (WdM K ad σ) [(0, .ref (ad 0)), (1, .int p1)] 121 [.int (p_X8_sequence_t2 σ p1), .ref (ad 0)] := by
          refine pfM_0_37 C tw_856 (p_X8_sequence_t2 σ p1) dX8_sequence_121 ?_
          refine wd_goto C 213 dX8_sequence_124 (by decide) ?_
          have ej_0 : p_X8_sequence_s5 σ p1 = si σ 37 (p_X8_sequence_t2 σ p1) := by unfold p_X8_sequence_s5; rw [if_neg c_3, if_pos c_9, if_pos c_84]
          rw [ej_0] at J_3
          exact wd_lv [0, 1] _ rfl J_3
        refine wd_if_ne C 99 dX8_sequence_92 (by decide) (fun c_92 => ?_) (fun c_92 => ?_)
        · refine wd_aload_n C dX8_sequence_99 rfl 0 rfl ?_
          refine gfM_0_37 (x := σ.1 37) C tw_856 rfl dX8_sequence_100 ?_
          refine wd_bipush (v := 100) C dX8_sequence_103 (by decide) ?_
          refine wd_icmp_ge C 117 dX8_sequence_105 (by decide) (fun c_105 => ?_) (fun c_105 => ?_)
          · refine wd_aload_n C dX8_sequence_117 rfl 0 rfl ?_
            refine gfM_0_37 (x := σ.1 37) C tw_856 rfl dX8_sequence_118 ?_
            have ej_0 : p_X8_sequence_t2 σ p1 = σ.1 37 := by unfold p_X8_sequence_t2; rw [if_neg c_92, if_pos c_105]
            rw [ej_0] at J_92
            exact wd_lv [0, 1] _ rfl J_92
          · refine wd_aload_n C dX8_sequence_108 rfl 0 rfl ?_
            refine gfM_0_37 (x := σ.1 37) C tw_856 rfl dX8_sequence_109 ?_
            refine wd_iconst (v := 1) C dX8_sequence_112 (by decide) ?_
            refine wd_iadd C dX8_sequence_113 ?_
            refine wd_goto C 121 dX8_sequence_114 (by decide) ?_
            have ej_0 : p_X8_sequence_t2 σ p1 = (σ.1 37) + 1 := by unfold p_X8_sequence_t2; rw [if_neg c_92, if_neg c_105]
            rw [ej_0] at J_92
            exact wd_lv [0, 1] _ rfl J_92
        · refine wd_iconst (v := 2) C dX8_sequence_95 (by decide) ?_
          refine wd_goto C 121 dX8_sequence_96 (by decide) ?_
          have ej_0 : p_X8_sequence_t2 σ p1 = 2 := by unfold p_X8_sequence_t2; rw [if_pos c_92]
          rw [ej_0] at J_92
          exact wd_lv [0, 1] _ rfl J_92
    · refine wd_aload_n C dX8_sequence_12 rfl 0 rfl ?_
      refine gfM_0_37 (x := σ.1 37) C tw_856 rfl dX8_sequence_13 ?_
      have J_16 : WD X K 3 0 0 (WdM K ad (p_X8_sequence_s3 σ p1)) [(0, .ref (ad 0)), (1, .int p1)] 24 [] := by
        refine wd_aload_n C dX8_sequence_24 rfl 0 rfl ?_
        refine gfM_0_37 (x := (p_X8_sequence_s3 σ p1).1 37) C tw_856 rfl dX8_sequence_25 ?_
        refine wd_bipush (v := 6) C dX8_sequence_28 (by decide) ?_
        refine wd_icmp_gt C 213 dX8_sequence_30 (by decide) (fun c_30 => ?_) (fun c_30 => ?_)
        · have ej_0 : p_X8_sequence_s5 σ p1 = (p_X8_sequence_s3 σ p1) := by unfold p_X8_sequence_s5; rw [if_neg c_3, if_neg c_9, if_pos c_30]
          rw [ej_0] at J_3
          exact wd_lv [0, 1] _ rfl J_3
        · refine wd_bipush (v := 10) C dX8_sequence_33 (by decide) ?_
          refine wd_aload_n C dX8_sequence_35 rfl 0 rfl ?_
          refine gfM_0_36 C tw_855 dX8_sequence_36 ?_
          refine wd_aload_n C dX8_sequence_39 rfl 0 rfl ?_
          refine gfM_0_37 (x := (p_X8_sequence_s3 σ p1).1 37) C tw_856 rfl dX8_sequence_40 ?_
          refine wd_iconst (v := 1) C dX8_sequence_43 (by decide) ?_
          refine wd_isub C dX8_sequence_44 ?_
          refine alM_9 (x := ((p_X8_sequence_s3 σ p1).2.2 8) (((p_X8_sequence_s3 σ p1).1 37) - 1 : Int32).toNatClampNeg) C (sq_in p1 hM c_30) rfl dX8_sequence_45 ?_
          refine wd_imul C dX8_sequence_46 ?_
          refine wd_iload_n C dX8_sequence_47 rfl 1 rfl ?_
          refine wd_iadd C dX8_sequence_48 ?_
          refine wd_bipush (v := 48) C dX8_sequence_49 (by decide) ?_
          refine wd_isub C dX8_sequence_51 ?_
          refine wd_istore_n C [(2, .int (((10 * (((p_X8_sequence_s3 σ p1).2.2 8) (((p_X8_sequence_s3 σ p1).1 37) - 1 : Int32).toNatClampNeg)) + p1) - 48)), (0, .ref (ad 0)), (1, .int p1)] dX8_sequence_52 rfl (by decide) rfl ?_
          refine wd_aload_n C dX8_sequence_53 rfl 1 rfl ?_
          refine gfM_0_36 C tw_855 dX8_sequence_54 ?_
          refine wd_aload_n C dX8_sequence_57 rfl 1 rfl ?_
          refine gfM_0_37 (x := (p_X8_sequence_s3 σ p1).1 37) C tw_856 rfl dX8_sequence_58 ?_
          refine wd_iconst (v := 1) C dX8_sequence_61 (by decide) ?_
          refine wd_isub C dX8_sequence_62 ?_
          refine wd_iload_n C dX8_sequence_63 rfl 0 rfl ?_
          refine wd_sipush (v := 9999) C dX8_sequence_64 (by decide) ?_
          have J_67 : WD X K 3 0 0 (WdM K ad (p_X8_sequence_s3 σ p1)) [(0, .ref (ad 0)), (1, .int p1), (2, .int (((10 * (((p_X8_sequence_s3 σ p1).2.2 8) (((p_X8_sequence_s3 σ p1).1 37) - 1 : Int32).toNatClampNeg)) + p1) - 48))] 77 [.int (p_X8_sequence_t4 σ p1), .int (((p_X8_sequence_s3 σ p1).1 37) - 1), .ref (ad 9)] := by
            refine asM_9 (f := (p_X8_sequence_s3 σ p1).2.2 8) C (sq_in p1 hM c_30) rfl dX8_sequence_77 ?_
            refine wd_goto C 213 dX8_sequence_78 (by decide) ?_
            have ej_0 : p_X8_sequence_s5 σ p1 = sa (p_X8_sequence_s3 σ p1) 8 (upd ((p_X8_sequence_s3 σ p1).2.2 8) (((p_X8_sequence_s3 σ p1).1 37) - 1 : Int32).toNatClampNeg (p_X8_sequence_t4 σ p1)) := by unfold p_X8_sequence_s5; rw [if_neg c_3, if_neg c_9, if_neg c_30]
            rw [ej_0] at J_3
            exact wd_lv [0, 1] _ rfl J_3
          refine wd_icmp_le C 76 dX8_sequence_67 (by decide) (fun c_67 => ?_) (fun c_67 => ?_)
          · refine wd_iload_n C dX8_sequence_76 rfl 0 rfl ?_
            have ej_0 : p_X8_sequence_t4 σ p1 = ((10 * (((p_X8_sequence_s3 σ p1).2.2 8) (((p_X8_sequence_s3 σ p1).1 37) - 1 : Int32).toNatClampNeg)) + p1) - 48 := by unfold p_X8_sequence_t4; rw [if_pos c_67]
            rw [ej_0] at J_67
            exact wd_lv [1, 2, 0] _ rfl J_67
          · refine wd_sipush (v := 9999) C dX8_sequence_70 (by decide) ?_
            refine wd_goto C 77 dX8_sequence_73 (by decide) ?_
            have ej_0 : p_X8_sequence_t4 σ p1 = 9999 := by unfold p_X8_sequence_t4; rw [if_neg c_67]
            rw [ej_0] at J_67
            exact wd_lv [1, 2, 0] _ rfl J_67
      refine wd_if_ne C 24 dX8_sequence_16 (by decide) (fun c_16 => ?_) (fun c_16 => ?_)
      · have ej_0 : p_X8_sequence_s3 σ p1 = σ := by unfold p_X8_sequence_s3; rw [if_neg c_16]
        rw [ej_0] at J_16
        exact wd_lv [0, 1] _ rfl J_16
      · refine wd_aload_n C dX8_sequence_19 rfl 0 rfl ?_
        refine wd_iconst (v := 1) C dX8_sequence_20 (by decide) ?_
        refine pfM_0_37 C tw_856 1 dX8_sequence_21 ?_
        have ej_0 : p_X8_sequence_s3 σ p1 = si σ 37 1 := by unfold p_X8_sequence_s3; rw [if_pos c_16]
        rw [ej_0] at J_16
        exact wd_lv [0, 1] _ rfl J_16
theorem okm_num8 {σ : St} {f : Nat → Int32} (hf : ∀ i : Nat, i < 6 → R2 0 9999 (f i)) (h : OkM σ) : OkM (sa σ 8 f) := ⟨h.1, h.2.1, h.2.2.1, h.2.2.2.1, h.2.2.2.2.1, h.2.2.2.2.2.1, h.2.2.2.2.2.2.1, h.2.2.2.2.2.2.2.1, h.2.2.2.2.2.2.2.2.1, h.2.2.2.2.2.2.2.2.2.1, h.2.2.2.2.2.2.2.2.2.2.1, hf⟩
theorem sq_n {σ : St} (p1 : Int32) (hM : OkM σ) : R2 1 9999 (p_X8_sequence_t1 σ p1) := by
  unfold p_X8_sequence_t1
  have q := okm_numbers hM 0 (by decide)
  refine R2.ite (fun _ => R2.lit 1 (by decide)) fun h => ?_
  have h2 : ¬ σ.2.2 8 0 = 0 := h
  rw [ti_eq] at h2
  have z : (0 : Int32).toInt = 0 := by decide
  have a := q.1
  exact ⟨show (1 : Int) ≤ (σ.2.2 8 0).toInt by omega, q.2⟩
theorem dig2 {v d : Int32} (h : R2 0 9999 v) (h1 : R2 48 57 d) : R2 0 9999 (if 10 * v + d - 48 ≤ 9999 then 10 * v + d - 48 else 9999) := by
  have z : (10 : Int32).toInt = 10 := by decide
  have z4 : (48 : Int32).toInt = 48 := by decide
  have z9 : (9999 : Int32).toInt = 9999 := by decide
  have a := h.1
  have b := h.2
  have c := h1.1
  have e := h1.2
  have e1 : (10 * v).toInt = 10 * v.toInt := by rw [ti_mul (by rw [z]; omega) (by rw [z]; omega), z]
  have e2 := ti_add (a := 10 * v) (b := d) (by omega) (by omega)
  have e3 := ti_sub (a := 10 * v + d) (b := 48) (by omega) (by omega)
  refine R2.ite (fun q => ?_) fun _ => R2.lit 9999 (by decide)
  rw [ti_le] at q
  exact ⟨by omega, by omega⟩
theorem okm_sequence {σ : St} (p1 : Int32) (hM : OkM σ) : OkM (p_X8_sequence σ p1) := by
  unfold p_X8_sequence p_X8_sequence_s5
  have h0 : OkM (si σ 24 0) := okm_si _ _ (by decide) hM
  have hT : OkM (if 64 ≤ p1 then (if σ.2.1 38 = true then (p_X8_privately (si σ 24 0) p1) else (p_X8_doIt (si σ 24 0) p1 (p_X8_sequence_t1 σ p1))) else si σ 24 3) :=
    okm_ite (fun _ => okm_ite (fun _ => okm_privately _ h0) fun _ => okm_doIt _ _ (sq_n p1 hM) h0) fun _ => okm_si _ _ (by decide) hM
  have hS : OkM (if p1 = 63 then (if σ.1 37 = 0 then (if σ.2.1 38 = true then (if 64 ≤ p1 then (if σ.2.1 38 = true then (p_X8_privately (si σ 24 0) p1) else (p_X8_doIt (si σ 24 0) p1 (p_X8_sequence_t1 σ p1))) else si σ 24 3) else sb σ 38 true) else (if 64 ≤ p1 then (if σ.2.1 38 = true then (p_X8_privately (si σ 24 0) p1) else (p_X8_doIt (si σ 24 0) p1 (p_X8_sequence_t1 σ p1))) else si σ 24 3)) else (if 64 ≤ p1 then (if σ.2.1 38 = true then (p_X8_privately (si σ 24 0) p1) else (p_X8_doIt (si σ 24 0) p1 (p_X8_sequence_t1 σ p1))) else si σ 24 3)) :=
    okm_ite (fun _ => okm_ite (fun _ => okm_ite (fun _ => hT) fun _ => okm_sb _ _ hM) fun _ => hT) fun _ => hT
  have hB : OkM (si σ 37 (p_X8_sequence_t2 σ p1)) := by
    refine okm_bg ?_ hM
    unfold p_X8_sequence_t2
    have w := hM.2.2.2.2.2.2.2.2.2.2.1
    refine R2.ite (fun _ => R2.lit 2 (by decide)) fun _ => R2.ite (fun _ => w) fun h => ?_
    rw [ti_le] at h
    have z : (100 : Int32).toInt = 100 := by decide
    have a := w.1
    exact ((show R2 0 99 (σ.1 37) from ⟨a, by omega⟩).s (by decide) (by decide)).w (by decide) (by decide)
  have z4 : (48 : Int32).toInt = 48 := by decide
  have z5 : (57 : Int32).toInt = 57 := by decide
  refine okm_ite (fun _ => okm_ite (fun _ => hB) fun _ => hS) fun h1 => okm_ite (fun _ => okm_ite (fun _ => hB) fun _ => hS) fun h2 => ?_
  rw [ti_lt] at h1 h2
  have h3 := okm_sq3 p1 hM
  refine okm_ite (fun _ => h3.1) fun h6 => okm_num8 ?_ h3.1
  obtain ⟨j, hj, ej⟩ := vp_in_of (sq_in p1 hM h6) (by decide)
  unfold p_X8_sequence_t4
  rw [ej, nI_clamp (by omega)]
  intro i hi
  unfold upd
  by_cases hij : i = j
  · rw [if_pos hij]; exact dig2 (okm_numbers h3.1 j hj) ⟨by omega, by omega⟩
  · rw [if_neg hij]; exact okm_numbers h3.1 i hi
def p_X8_sequenceByte_s1 (σ : St) (p1 : Int32) : St := (if σ.1 24 = 1 then (p_X8_escape σ p1) else (if σ.1 24 = 2 then (p_X8_sequence σ p1) else (if σ.1 24 = 4 then (p_X8_titleByte σ p1) else (if p1 < 64 then σ else si σ 24 0))))
def p_X8_sequenceByte (σ : St) (p1 : Int32) : St := (p_X8_sequenceByte_s1 σ p1)
set_option maxHeartbeats 4000000 in
set_option maxRecDepth 100000 in
theorem c_X8_sequenceByte (l : Launch) (K : KX) (ad : Nat → Nat) (σ : St) (p1 : Int32) (hM : OkM σ) : Mt l K yX8_sequenceByte cX8_sequenceByte 2 none { frames := 8, cells := 0, slots := 0, locals := 183 } [.ref (ad 0), .int p1] (WdM K ad σ) none (WdM K ad (p_X8_sequenceByte σ p1)) := by
  refine Mt.v (by decide +kernel) (Nat.le_of_ble_eq_true rfl) (fun X C hret => ?_)
  show WD X K 2 0 0 (WdM K ad σ) [(0, .ref (ad 0)), (1, .int p1)] 0 []
  refine wd_aload_n C dX8_sequenceByte_0 rfl 0 rfl ?_
  refine gfM_0_24 (x := σ.1 24) C tw_843 rfl dX8_sequenceByte_1 ?_
  refine wd_iconst (v := 1) C dX8_sequenceByte_4 (by decide) ?_
  have J_5 : WD X K 2 0 0 (WdM K ad (p_X8_sequenceByte_s1 σ p1)) [(0, .ref (ad 0)), (1, .int p1)] 59 [] := by
    have e9 : p_X8_sequenceByte σ p1 = (p_X8_sequenceByte_s1 σ p1) := by rfl
    exact hret _ _ _ (by rw [e9] <;> rfl) dX8_sequenceByte_59
  refine wd_icmp_ne C 16 dX8_sequenceByte_5 (by decide) (fun c_5 => ?_) (fun c_5 => ?_)
  · refine wd_aload_n C dX8_sequenceByte_16 rfl 0 rfl ?_
    refine gfM_0_24 (x := σ.1 24) C tw_843 rfl dX8_sequenceByte_17 ?_
    refine wd_iconst (v := 2) C dX8_sequenceByte_20 (by decide) ?_
    refine wd_icmp_ne C 32 dX8_sequenceByte_21 (by decide) (fun c_21 => ?_) (fun c_21 => ?_)
    · refine wd_aload_n C dX8_sequenceByte_32 rfl 0 rfl ?_
      refine gfM_0_24 (x := σ.1 24) C tw_843 rfl dX8_sequenceByte_33 ?_
      refine wd_iconst (v := 4) C dX8_sequenceByte_36 (by decide) ?_
      refine wd_icmp_ne C 48 dX8_sequenceByte_37 (by decide) (fun c_37 => ?_) (fun c_37 => ?_)
      · refine wd_iload_n C dX8_sequenceByte_48 rfl 1 rfl ?_
        refine wd_bipush (v := 64) C dX8_sequenceByte_49 (by decide) ?_
        refine wd_icmp_lt C 59 dX8_sequenceByte_51 (by decide) (fun c_51 => ?_) (fun c_51 => ?_)
        · have ej_0 : p_X8_sequenceByte_s1 σ p1 = σ := by unfold p_X8_sequenceByte_s1; rw [if_neg c_5, if_neg c_21, if_neg c_37, if_pos c_51]
          rw [ej_0] at J_5
          exact wd_lv [0, 1] _ rfl J_5
        · refine wd_aload_n C dX8_sequenceByte_54 rfl 0 rfl ?_
          refine wd_iconst (v := 0) C dX8_sequenceByte_55 (by decide) ?_
          refine pfM_0_24 C tw_843 0 dX8_sequenceByte_56 ?_
          have ej_0 : p_X8_sequenceByte_s1 σ p1 = si σ 24 0 := by unfold p_X8_sequenceByte_s1; rw [if_neg c_5, if_neg c_21, if_neg c_37, if_neg c_51]
          rw [ej_0] at J_5
          exact wd_lv [0, 1] _ rfl J_5
      · refine wd_aload_n C dX8_sequenceByte_40 rfl 0 rfl ?_
        refine wd_iload_n C dX8_sequenceByte_41 rfl 1 rfl ?_
        refine wd_callV C 1 (c_X8_titleByte _ K ad σ p1 (hM)) 0 (wcM_0 K ad _) rfl rfl tw_1068 tw_1070 tw_61 tw_72 tw_1071 (by decide +kernel) rfl (by decide) (Nat.le_of_ble_eq_true rfl) dX8_sequenceByte_42 _ rfl ?_
        refine wd_goto C 59 dX8_sequenceByte_45 (by decide) ?_
        have ej_0 : p_X8_sequenceByte_s1 σ p1 = (p_X8_titleByte σ p1) := by unfold p_X8_sequenceByte_s1; rw [if_neg c_5, if_neg c_21, if_pos c_37]
        rw [ej_0] at J_5
        exact wd_lv [0, 1] _ rfl J_5
    · refine wd_aload_n C dX8_sequenceByte_24 rfl 0 rfl ?_
      refine wd_iload_n C dX8_sequenceByte_25 rfl 1 rfl ?_
      refine wd_callV C 1 (c_X8_sequence _ K ad σ p1 (hM)) 0 (wcM_0 K ad _) rfl rfl tw_1010 tw_1012 tw_48 tw_72 tw_1013 (by decide +kernel) rfl (by decide) (Nat.le_of_ble_eq_true rfl) dX8_sequenceByte_26 _ rfl ?_
      refine wd_goto C 59 dX8_sequenceByte_29 (by decide) ?_
      have ej_0 : p_X8_sequenceByte_s1 σ p1 = (p_X8_sequence σ p1) := by unfold p_X8_sequenceByte_s1; rw [if_neg c_5, if_pos c_21]
      rw [ej_0] at J_5
      exact wd_lv [0, 1] _ rfl J_5
  · refine wd_aload_n C dX8_sequenceByte_8 rfl 0 rfl ?_
    refine wd_iload_n C dX8_sequenceByte_9 rfl 1 rfl ?_
    refine wd_callV C 1 (c_X8_escape _ K ad σ p1 (hM)) 0 (wcM_0 K ad _) rfl rfl tw_998 tw_1000 tw_45 tw_72 tw_1001 (by decide +kernel) rfl (by decide) (Nat.le_of_ble_eq_true rfl) dX8_sequenceByte_10 _ rfl ?_
    refine wd_goto C 59 dX8_sequenceByte_13 (by decide) ?_
    have ej_0 : p_X8_sequenceByte_s1 σ p1 = (p_X8_escape σ p1) := by unfold p_X8_sequenceByte_s1; rw [if_pos c_5]
    rw [ej_0] at J_5
    exact wd_lv [0, 1] _ rfl J_5
theorem okm_sequenceByte {σ : St} (p1 : Int32) (hM : OkM σ) : OkM (p_X8_sequenceByte σ p1) := by
  unfold p_X8_sequenceByte p_X8_sequenceByte_s1
  exact okm_ite (fun _ => okm_escape _ hM) fun _ => okm_ite (fun _ => okm_sequence _ hM) fun _ => okm_ite (fun _ => okm_titleByte _ hM) fun _ => okm_ite (fun _ => hM) fun _ => okm_si _ _ (by decide) hM
