def p_X8_change_t1 (σ : St) (p1 : Int32) (p2 : Int32) : Bool := (if σ.1 5 < σ.1 7 then false else (if σ.1 8 < σ.1 5 then false else true))
def p_X8_change_t2 (σ : St) (p1 : Int32) (p2 : Int32) : Int32 := (if σ.2.2 8 (0 : Int32).toNatClampNeg = 0 then (12 * (σ.1 5)) + (σ.1 6) else 0)
def p_X8_change_t3 (σ : St) (p1 : Int32) (p2 : Int32) : Int32 := (if σ.2.2 8 (0 : Int32).toNatClampNeg = 1 then (12 * (σ.1 5)) + (σ.1 6) else 95)
def p_X8_change_t4 (σ : St) (p1 : Int32) (p2 : Int32) : Int32 := (if σ.2.2 8 (0 : Int32).toNatClampNeg = 0 then (12 * (σ.1 5)) + (σ.1 6) else 12 * (σ.1 5))
def p_X8_change_t5 (σ : St) (p1 : Int32) (p2 : Int32) : Int32 := (if σ.2.2 8 (0 : Int32).toNatClampNeg = 1 then (12 * (σ.1 5)) + (σ.1 6) else ((12 * (σ.1 5)) + 12) - 1)
def p_X8_change_s6 (σ : St) (p1 : Int32) (p2 : Int32) : St := (if p1 = 64 then (p_X8_shiftCells σ (-p2)) else (if p1 = 74 then (if 3 ≤ σ.2.2 8 (0 : Int32).toNatClampNeg then σ else (p_X8_clear σ (p_X8_change_t2 σ p1 p2) (p_X8_change_t3 σ p1 p2))) else (if p1 = 75 then (if 3 ≤ σ.2.2 8 (0 : Int32).toNatClampNeg then σ else (p_X8_clear σ (p_X8_change_t4 σ p1 p2) (p_X8_change_t5 σ p1 p2))) else (if p1 = 76 then (if (p_X8_change_t1 σ p1 p2) = true then (p_X8_shiftRows σ (σ.1 5) (-p2)) else σ) else (if p1 = 77 then (if (p_X8_change_t1 σ p1 p2) = true then (p_X8_shiftRows σ (σ.1 5) p2) else σ) else (if p1 = 80 then (p_X8_shiftCells σ p2) else (if p1 = 83 then (p_X8_shiftRows σ (σ.1 7) p2) else (if p1 = 84 then (p_X8_shiftRows σ (σ.1 7) (-p2)) else (if p1 = 88 then (p_X8_clear σ ((12 * (σ.1 5)) + (σ.1 6)) ((p_X8_atMost σ ((((12 * (σ.1 5)) + (σ.1 6)) + p2) - 1) (((12 * (σ.1 5)) + 12) - 1)))) else (p_X8_set σ p1 p2))))))))))
def p_X8_change (σ : St) (p1 : Int32) (p2 : Int32) : St := (p_X8_change_s6 σ p1 p2)
theorem at95 {σ : St} (hM : OkM σ) : R2 0 95 (12 * σ.1 5 + σ.1 6) := by
  have h := sr_k hM.2.1 hM.2.2.1
  exact ⟨h.1, by omega⟩
theorem rw95 {σ : St} (hM : OkM σ) : R2 0 84 (12 * σ.1 5) := by
  have z : (12 : Int32).toInt = 12 := by decide
  have a := hM.2.1.1
  have b := hM.2.1.2
  have e1 : (12 * σ.1 5).toInt = 12 * (σ.1 5).toInt := by rw [ti_mul (by rw [z]; omega) (by rw [z]; omega), z]
  exact ⟨by omega, by omega⟩
theorem re95 {σ : St} (hM : OkM σ) : R2 11 95 (12 * σ.1 5 + 12 - 1) := by
  have r := rw95 hM
  have a := r.1
  have b := r.2
  have z : (12 : Int32).toInt = 12 := by decide
  have z1 : (1 : Int32).toInt = 1 := by decide
  have e1 := ti_add (a := 12 * σ.1 5) (b := 12) (by omega) (by omega)
  have e2 := ti_sub (a := 12 * σ.1 5 + 12) (b := 1) (by omega) (by omega)
  exact ⟨by omega, by omega⟩
theorem ch2 (σ : St) (p1 p2 : Int32) (hM : OkM σ) : R2 0 95 (p_X8_change_t2 σ p1 p2) := by
  unfold p_X8_change_t2
  exact R2.ite (fun _ => at95 hM) fun _ => R2.lit 0 (by decide)
theorem ch3 (σ : St) (p1 p2 : Int32) (hM : OkM σ) : R2 0 95 (p_X8_change_t3 σ p1 p2) := by
  unfold p_X8_change_t3
  exact R2.ite (fun _ => at95 hM) fun _ => R2.lit 95 (by decide)
theorem ch4 (σ : St) (p1 p2 : Int32) (hM : OkM σ) : R2 0 95 (p_X8_change_t4 σ p1 p2) := by
  unfold p_X8_change_t4
  exact R2.ite (fun _ => at95 hM) fun _ => (rw95 hM).w (by decide) (by decide)
theorem ch5 (σ : St) (p1 p2 : Int32) (hM : OkM σ) : R2 0 95 (p_X8_change_t5 σ p1 p2) := by
  unfold p_X8_change_t5
  exact R2.ite (fun _ => at95 hM) fun _ => (re95 hM).w (by decide) (by decide)
theorem chx {σ : St} (a : Int32) (hM : OkM σ) : (p_X8_atMost σ a (12 * σ.1 5 + 12 - 1)).toInt ≤ 95 := by
  unfold p_X8_atMost p_X8_atMost_t1
  have b := (re95 hM).2
  by_cases h : 12 * σ.1 5 + 12 - 1 ≤ a
  · rw [if_pos h]; exact b
  · rw [if_neg h]; rw [ti_le] at h; omega
set_option maxHeartbeats 4000000 in
set_option maxRecDepth 100000 in
theorem c_X8_change (l : Launch) (K : KX) (ad : Nat → Nat) (σ : St) (p1 : Int32) (p2 : Int32) (hM : OkM σ) : Mt l K yX8_change cX8_change 6 none { frames := 5, cells := 0, slots := 0, locals := 114 } [.ref (ad 0), .int p1, .int p2] (WdM K ad σ) none (WdM K ad (p_X8_change σ p1 p2)) := by
  refine Mt.v (by decide +kernel) (Nat.le_of_ble_eq_true rfl) (fun X C hret => ?_)
  show WD X K 6 0 0 (WdM K ad σ) [(0, .ref (ad 0)), (1, .int p1), (2, .int p2)] 0 []
  refine wd_bipush (v := 12) C dX8_change_0 (by decide) ?_
  refine wd_aload_n C dX8_change_2 rfl 0 rfl ?_
  refine gfM_0_5 (x := σ.1 5) C tw_824 rfl dX8_change_3 ?_
  refine wd_imul C dX8_change_6 ?_
  refine wd_aload_n C dX8_change_7 rfl 0 rfl ?_
  refine gfM_0_6 (x := σ.1 6) C tw_825 rfl dX8_change_8 ?_
  refine wd_iadd C dX8_change_11 ?_
  refine wd_istore_n C [(3, .int ((12 * (σ.1 5)) + (σ.1 6))), (0, .ref (ad 0)), (1, .int p1), (2, .int p2)] dX8_change_12 rfl (by decide) rfl ?_
  refine wd_aload_n C dX8_change_13 rfl 1 rfl ?_
  refine gfM_0_5 (x := σ.1 5) C tw_824 rfl dX8_change_14 ?_
  refine wd_aload_n C dX8_change_17 rfl 1 rfl ?_
  refine gfM_0_7 (x := σ.1 7) C tw_826 rfl dX8_change_18 ?_
  have J_21 : WD X K 6 0 0 (WdM K ad σ) [(0, .ref (ad 0)), (1, .int p1), (2, .int p2), (3, .int ((12 * (σ.1 5)) + (σ.1 6)))] 40 [.int (b2i (p_X8_change_t1 σ p1 p2))] := by
    refine wd_istore C [(4, .int (b2i (p_X8_change_t1 σ p1 p2))), (0, .ref (ad 0)), (1, .int p1), (2, .int p2), (3, .int ((12 * (σ.1 5)) + (σ.1 6)))] dX8_change_40 (by decide) rfl ?_
    refine wd_aload_n C dX8_change_42 rfl 1 rfl ?_
    refine gfM_0_36 C tw_855 dX8_change_43 ?_
    refine wd_iconst (v := 0) C dX8_change_46 (by decide) ?_
    refine alM_9 (x := σ.2.2 8 (0 : Int32).toNatClampNeg) C (vp_in_iff.mpr (by decide)) rfl dX8_change_47 ?_
    refine wd_istore C [(5, .int (σ.2.2 8 (0 : Int32).toNatClampNeg)), (4, .int (b2i (p_X8_change_t1 σ p1 p2))), (0, .ref (ad 0)), (1, .int p1), (2, .int p2), (3, .int ((12 * (σ.1 5)) + (σ.1 6)))] dX8_change_48 (by decide) rfl ?_
    refine wd_iload_n C dX8_change_50 rfl 3 rfl ?_
    have J_51 : WD X K 6 0 0 (WdM K ad (p_X8_change_s6 σ p1 p2)) [(0, .ref (ad 0)), (1, .int p1), (2, .int p2), (3, .int ((12 * (σ.1 5)) + (σ.1 6))), (4, .int (b2i (p_X8_change_t1 σ p1 p2))), (5, .int (σ.2.2 8 (0 : Int32).toNatClampNeg))] 361 [] := by
      have e9 : p_X8_change σ p1 p2 = (p_X8_change_s6 σ p1 p2) := by rfl
      exact hret _ _ _ (by rw [e9] <;> rfl) dX8_change_361
    by_cases c_51_64 : p1 = 64
    · refine wd_tsw C 278 dX8_change_51 (by decide) (by rw [c_51_64]; decide +kernel) ?_
      refine wd_aload_n C dX8_change_278 rfl 2 rfl ?_
      refine wd_iload_n C dX8_change_279 rfl 4 rfl ?_
      refine wd_ineg C dX8_change_280 ?_
      refine wd_callV C 1 (c_X8_shiftCells _ K ad σ (-p2) (hM.1) (hM.2.1) (hM.2.2.1)) 0 (wcM_0 K ad _) rfl rfl tw_982 tw_984 tw_41 tw_72 tw_985 (by decide +kernel) rfl (by decide) (Nat.le_of_ble_eq_true rfl) dX8_change_281 _ rfl ?_
      refine wd_goto C 361 dX8_change_284 (by decide) ?_
      have ej_0 : p_X8_change_s6 σ p1 p2 = (p_X8_shiftCells σ (-p2)) := by unfold p_X8_change_s6; rw [if_pos c_51_64]
      rw [ej_0] at J_51
      exact wd_lv [2, 3, 4, 5, 1, 0] _ rfl J_51
    by_cases c_51_74 : p1 = 74
    · refine wd_tsw C 164 dX8_change_51 (by decide) (by rw [c_51_74]; decide +kernel) ?_
      refine wd_iload C dX8_change_164 0 rfl ?_
      refine wd_iconst (v := 3) C dX8_change_166 (by decide) ?_
      refine wd_icmp_ge C 361 dX8_change_167 (by decide) (fun c_167 => ?_) (fun c_167 => ?_)
      · have ej_0 : p_X8_change_s6 σ p1 p2 = σ := by unfold p_X8_change_s6; rw [if_neg c_51_64, if_pos c_51_74, if_pos c_167]
        rw [ej_0] at J_51
        exact wd_lv [2, 3, 4, 5, 1, 0] _ rfl J_51
      · refine wd_aload_n C dX8_change_170 rfl 2 rfl ?_
        refine wd_iload C dX8_change_171 0 rfl ?_
        have J_173 : WD X K 6 0 0 (WdM K ad σ) [(0, .ref (ad 0)), (1, .int p1), (2, .int p2), (3, .int ((12 * (σ.1 5)) + (σ.1 6))), (4, .int (b2i (p_X8_change_t1 σ p1 p2))), (5, .int (σ.2.2 8 (0 : Int32).toNatClampNeg))] 181 [.int (p_X8_change_t2 σ p1 p2), .ref (ad 0)] := by
          refine wd_iload C dX8_change_181 5 rfl ?_
          refine wd_iconst (v := 1) C dX8_change_183 (by decide) ?_
          have J_184 : WD X K 6 0 0 (WdM K ad σ) [(0, .ref (ad 0)), (1, .int p1), (2, .int p2), (3, .int ((12 * (σ.1 5)) + (σ.1 6))), (4, .int (b2i (p_X8_change_t1 σ p1 p2))), (5, .int (σ.2.2 8 (0 : Int32).toNatClampNeg))] 193 [.int (p_X8_change_t3 σ p1 p2), .int (p_X8_change_t2 σ p1 p2), .ref (ad 0)] := by
            refine wd_callV C 2 (c_X8_clear _ K ad σ (p_X8_change_t2 σ p1 p2) (p_X8_change_t3 σ p1 p2) (hM.1) ((ch2 σ p1 p2 hM).1) ((ch3 σ p1 p2 hM).2)) 0 (wcM_0 K ad _) rfl rfl tw_1029 tw_1031 tw_52 tw_72 tw_1032 (by decide +kernel) rfl (by decide) (Nat.le_of_ble_eq_true rfl) dX8_change_193 _ rfl ?_
            refine wd_goto C 361 dX8_change_196 (by decide) ?_
            have ej_0 : p_X8_change_s6 σ p1 p2 = (p_X8_clear σ (p_X8_change_t2 σ p1 p2) (p_X8_change_t3 σ p1 p2)) := by unfold p_X8_change_s6; rw [if_neg c_51_64, if_pos c_51_74, if_neg c_167]
            rw [ej_0] at J_51
            exact wd_lv [0, 1, 2, 3, 4, 5] _ rfl J_51
          refine wd_icmp_ne C 191 dX8_change_184 (by decide) (fun c_184 => ?_) (fun c_184 => ?_)
          · refine wd_bipush (v := 95) C dX8_change_191 (by decide) ?_
            have ej_0 : p_X8_change_t3 σ p1 p2 = 95 := by unfold p_X8_change_t3; rw [if_neg c_184]
            rw [ej_0] at J_184
            exact wd_lv [0, 1, 2, 3, 4, 5] _ rfl J_184
          · refine wd_iload_n C dX8_change_187 rfl 3 rfl ?_
            refine wd_goto C 193 dX8_change_188 (by decide) ?_
            have ej_0 : p_X8_change_t3 σ p1 p2 = (12 * (σ.1 5)) + (σ.1 6) := by unfold p_X8_change_t3; rw [if_pos c_184]
            rw [ej_0] at J_184
            exact wd_lv [0, 1, 2, 3, 4, 5] _ rfl J_184
        refine wd_if_ne C 180 dX8_change_173 (by decide) (fun c_173 => ?_) (fun c_173 => ?_)
        · refine wd_iconst (v := 0) C dX8_change_180 (by decide) ?_
          have ej_0 : p_X8_change_t2 σ p1 p2 = 0 := by unfold p_X8_change_t2; rw [if_neg c_173]
          rw [ej_0] at J_173
          exact wd_lv [2, 3, 4, 5, 1, 0] _ rfl J_173
        · refine wd_iload_n C dX8_change_176 rfl 5 rfl ?_
          refine wd_goto C 181 dX8_change_177 (by decide) ?_
          have ej_0 : p_X8_change_t2 σ p1 p2 = (12 * (σ.1 5)) + (σ.1 6) := by unfold p_X8_change_t2; rw [if_pos c_173]
          rw [ej_0] at J_173
          exact wd_lv [2, 3, 4, 5, 1, 0] _ rfl J_173
    by_cases c_51_75 : p1 = 75
    · refine wd_tsw C 199 dX8_change_51 (by decide) (by rw [c_51_75]; decide +kernel) ?_
      refine wd_iload C dX8_change_199 0 rfl ?_
      refine wd_iconst (v := 3) C dX8_change_201 (by decide) ?_
      refine wd_icmp_ge C 361 dX8_change_202 (by decide) (fun c_202 => ?_) (fun c_202 => ?_)
      · have ej_0 : p_X8_change_s6 σ p1 p2 = σ := by unfold p_X8_change_s6; rw [if_neg c_51_64, if_neg c_51_74, if_pos c_51_75, if_pos c_202]
        rw [ej_0] at J_51
        exact wd_lv [2, 3, 4, 5, 1, 0] _ rfl J_51
      · refine wd_aload_n C dX8_change_205 rfl 2 rfl ?_
        refine wd_iload C dX8_change_206 0 rfl ?_
        have J_208 : WD X K 6 0 0 (WdM K ad σ) [(0, .ref (ad 0)), (1, .int p1), (2, .int p2), (3, .int ((12 * (σ.1 5)) + (σ.1 6))), (4, .int (b2i (p_X8_change_t1 σ p1 p2))), (5, .int (σ.2.2 8 (0 : Int32).toNatClampNeg))] 222 [.int (p_X8_change_t4 σ p1 p2), .ref (ad 0)] := by
          refine wd_iload C dX8_change_222 5 rfl ?_
          refine wd_iconst (v := 1) C dX8_change_224 (by decide) ?_
          have J_225 : WD X K 6 0 0 (WdM K ad σ) [(0, .ref (ad 0)), (1, .int p1), (2, .int p2), (3, .int ((12 * (σ.1 5)) + (σ.1 6))), (4, .int (b2i (p_X8_change_t1 σ p1 p2))), (5, .int (σ.2.2 8 (0 : Int32).toNatClampNeg))] 244 [.int (p_X8_change_t5 σ p1 p2), .int (p_X8_change_t4 σ p1 p2), .ref (ad 0)] := by
            refine wd_callV C 2 (c_X8_clear _ K ad σ (p_X8_change_t4 σ p1 p2) (p_X8_change_t5 σ p1 p2) (hM.1) ((ch4 σ p1 p2 hM).1) ((ch5 σ p1 p2 hM).2)) 0 (wcM_0 K ad _) rfl rfl tw_1029 tw_1031 tw_52 tw_72 tw_1032 (by decide +kernel) rfl (by decide) (Nat.le_of_ble_eq_true rfl) dX8_change_244 _ rfl ?_
            refine wd_goto C 361 dX8_change_247 (by decide) ?_
            have ej_0 : p_X8_change_s6 σ p1 p2 = (p_X8_clear σ (p_X8_change_t4 σ p1 p2) (p_X8_change_t5 σ p1 p2)) := by unfold p_X8_change_s6; rw [if_neg c_51_64, if_neg c_51_74, if_pos c_51_75, if_neg c_202]
            rw [ej_0] at J_51
            exact wd_lv [0, 1, 2, 3, 4, 5] _ rfl J_51
          refine wd_icmp_ne C 232 dX8_change_225 (by decide) (fun c_225 => ?_) (fun c_225 => ?_)
          · refine wd_bipush (v := 12) C dX8_change_232 (by decide) ?_
            refine wd_aload_n C dX8_change_234 rfl 0 rfl ?_
            refine gfM_0_5 (x := σ.1 5) C tw_824 rfl dX8_change_235 ?_
            refine wd_imul C dX8_change_238 ?_
            refine wd_bipush (v := 12) C dX8_change_239 (by decide) ?_
            refine wd_iadd C dX8_change_241 ?_
            refine wd_iconst (v := 1) C dX8_change_242 (by decide) ?_
            refine wd_isub C dX8_change_243 ?_
            have ej_0 : p_X8_change_t5 σ p1 p2 = ((12 * (σ.1 5)) + 12) - 1 := by unfold p_X8_change_t5; rw [if_neg c_225]
            rw [ej_0] at J_225
            exact wd_lv [0, 1, 2, 3, 4, 5] _ rfl J_225
          · refine wd_iload_n C dX8_change_228 rfl 3 rfl ?_
            refine wd_goto C 244 dX8_change_229 (by decide) ?_
            have ej_0 : p_X8_change_t5 σ p1 p2 = (12 * (σ.1 5)) + (σ.1 6) := by unfold p_X8_change_t5; rw [if_pos c_225]
            rw [ej_0] at J_225
            exact wd_lv [0, 1, 2, 3, 4, 5] _ rfl J_225
        refine wd_if_ne C 215 dX8_change_208 (by decide) (fun c_208 => ?_) (fun c_208 => ?_)
        · refine wd_bipush (v := 12) C dX8_change_215 (by decide) ?_
          refine wd_aload_n C dX8_change_217 rfl 2 rfl ?_
          refine gfM_0_5 (x := σ.1 5) C tw_824 rfl dX8_change_218 ?_
          refine wd_imul C dX8_change_221 ?_
          have ej_0 : p_X8_change_t4 σ p1 p2 = 12 * (σ.1 5) := by unfold p_X8_change_t4; rw [if_neg c_208]
          rw [ej_0] at J_208
          exact wd_lv [2, 3, 4, 5, 1, 0] _ rfl J_208
        · refine wd_iload_n C dX8_change_211 rfl 5 rfl ?_
          refine wd_goto C 222 dX8_change_212 (by decide) ?_
          have ej_0 : p_X8_change_t4 σ p1 p2 = (12 * (σ.1 5)) + (σ.1 6) := by unfold p_X8_change_t4; rw [if_pos c_208]
          rw [ej_0] at J_208
          exact wd_lv [2, 3, 4, 5, 1, 0] _ rfl J_208
    by_cases c_51_76 : p1 = 76
    · refine wd_tsw C 295 dX8_change_51 (by decide) (by rw [c_51_76]; decide +kernel) ?_
      refine wd_iload C dX8_change_295 1 rfl ?_
      refine wd_if_eqB (b := (p_X8_change_t1 σ p1 p2)) C 361 dX8_change_297 (by decide) (fun c_297 => ?_) (fun c_297 => ?_)
      · have ej_0 : p_X8_change_s6 σ p1 p2 = σ := by unfold p_X8_change_s6; rw [if_neg c_51_64, if_neg c_51_74, if_neg c_51_75, if_pos c_51_76, if_neg c_297]
        rw [ej_0] at J_51
        exact wd_lv [2, 3, 4, 5, 1, 0] _ rfl J_51
      · refine wd_aload_n C dX8_change_300 rfl 2 rfl ?_
        refine wd_aload_n C dX8_change_301 rfl 2 rfl ?_
        refine gfM_0_5 (x := σ.1 5) C tw_824 rfl dX8_change_302 ?_
        refine wd_iload_n C dX8_change_305 rfl 4 rfl ?_
        refine wd_ineg C dX8_change_306 ?_
        refine wd_callV C 2 (c_X8_shiftRows _ K ad σ (σ.1 5) (-p2) (hM.1) (hM.2.2.2.2.1) (hM.2.1)) 0 (wcM_0 K ad _) rfl rfl tw_970 tw_972 tw_38 tw_72 tw_973 (by decide +kernel) rfl (by decide) (Nat.le_of_ble_eq_true rfl) dX8_change_307 _ rfl ?_
        refine wd_goto C 361 dX8_change_310 (by decide) ?_
        have ej_0 : p_X8_change_s6 σ p1 p2 = (p_X8_shiftRows σ (σ.1 5) (-p2)) := by unfold p_X8_change_s6; rw [if_neg c_51_64, if_neg c_51_74, if_neg c_51_75, if_pos c_51_76, if_pos c_297]
        rw [ej_0] at J_51
        exact wd_lv [2, 3, 4, 5, 1, 0] _ rfl J_51
    by_cases c_51_77 : p1 = 77
    · refine wd_tsw C 313 dX8_change_51 (by decide) (by rw [c_51_77]; decide +kernel) ?_
      refine wd_iload C dX8_change_313 1 rfl ?_
      refine wd_if_eqB (b := (p_X8_change_t1 σ p1 p2)) C 361 dX8_change_315 (by decide) (fun c_315 => ?_) (fun c_315 => ?_)
      · have ej_0 : p_X8_change_s6 σ p1 p2 = σ := by unfold p_X8_change_s6; rw [if_neg c_51_64, if_neg c_51_74, if_neg c_51_75, if_neg c_51_76, if_pos c_51_77, if_neg c_315]
        rw [ej_0] at J_51
        exact wd_lv [2, 3, 4, 5, 1, 0] _ rfl J_51
      · refine wd_aload_n C dX8_change_318 rfl 2 rfl ?_
        refine wd_aload_n C dX8_change_319 rfl 2 rfl ?_
        refine gfM_0_5 (x := σ.1 5) C tw_824 rfl dX8_change_320 ?_
        refine wd_iload_n C dX8_change_323 rfl 4 rfl ?_
        refine wd_callV C 2 (c_X8_shiftRows _ K ad σ (σ.1 5) p2 (hM.1) (hM.2.2.2.2.1) (hM.2.1)) 0 (wcM_0 K ad _) rfl rfl tw_970 tw_972 tw_38 tw_72 tw_973 (by decide +kernel) rfl (by decide) (Nat.le_of_ble_eq_true rfl) dX8_change_324 _ rfl ?_
        refine wd_goto C 361 dX8_change_327 (by decide) ?_
        have ej_0 : p_X8_change_s6 σ p1 p2 = (p_X8_shiftRows σ (σ.1 5) p2) := by unfold p_X8_change_s6; rw [if_neg c_51_64, if_neg c_51_74, if_neg c_51_75, if_neg c_51_76, if_pos c_51_77, if_pos c_315]
        rw [ej_0] at J_51
        exact wd_lv [2, 3, 4, 5, 1, 0] _ rfl J_51
    by_cases c_51_80 : p1 = 80
    · refine wd_tsw C 287 dX8_change_51 (by decide) (by rw [c_51_80]; decide +kernel) ?_
      refine wd_aload_n C dX8_change_287 rfl 2 rfl ?_
      refine wd_iload_n C dX8_change_288 rfl 4 rfl ?_
      refine wd_callV C 1 (c_X8_shiftCells _ K ad σ p2 (hM.1) (hM.2.1) (hM.2.2.1)) 0 (wcM_0 K ad _) rfl rfl tw_982 tw_984 tw_41 tw_72 tw_985 (by decide +kernel) rfl (by decide) (Nat.le_of_ble_eq_true rfl) dX8_change_289 _ rfl ?_
      refine wd_goto C 361 dX8_change_292 (by decide) ?_
      have ej_0 : p_X8_change_s6 σ p1 p2 = (p_X8_shiftCells σ p2) := by unfold p_X8_change_s6; rw [if_neg c_51_64, if_neg c_51_74, if_neg c_51_75, if_neg c_51_76, if_neg c_51_77, if_pos c_51_80]
      rw [ej_0] at J_51
      exact wd_lv [2, 3, 4, 5, 1, 0] _ rfl J_51
    by_cases c_51_83 : p1 = 83
    · refine wd_tsw C 330 dX8_change_51 (by decide) (by rw [c_51_83]; decide +kernel) ?_
      refine wd_aload_n C dX8_change_330 rfl 2 rfl ?_
      refine wd_aload_n C dX8_change_331 rfl 2 rfl ?_
      refine gfM_0_7 (x := σ.1 7) C tw_826 rfl dX8_change_332 ?_
      refine wd_iload_n C dX8_change_335 rfl 4 rfl ?_
      refine wd_callV C 2 (c_X8_shiftRows _ K ad σ (σ.1 7) p2 (hM.1) (hM.2.2.2.2.1) (hM.2.2.2.1)) 0 (wcM_0 K ad _) rfl rfl tw_970 tw_972 tw_38 tw_72 tw_973 (by decide +kernel) rfl (by decide) (Nat.le_of_ble_eq_true rfl) dX8_change_336 _ rfl ?_
      refine wd_goto C 361 dX8_change_339 (by decide) ?_
      have ej_0 : p_X8_change_s6 σ p1 p2 = (p_X8_shiftRows σ (σ.1 7) p2) := by unfold p_X8_change_s6; rw [if_neg c_51_64, if_neg c_51_74, if_neg c_51_75, if_neg c_51_76, if_neg c_51_77, if_neg c_51_80, if_pos c_51_83]
      rw [ej_0] at J_51
      exact wd_lv [2, 3, 4, 5, 1, 0] _ rfl J_51
    by_cases c_51_84 : p1 = 84
    · refine wd_tsw C 342 dX8_change_51 (by decide) (by rw [c_51_84]; decide +kernel) ?_
      refine wd_aload_n C dX8_change_342 rfl 2 rfl ?_
      refine wd_aload_n C dX8_change_343 rfl 2 rfl ?_
      refine gfM_0_7 (x := σ.1 7) C tw_826 rfl dX8_change_344 ?_
      refine wd_iload_n C dX8_change_347 rfl 4 rfl ?_
      refine wd_ineg C dX8_change_348 ?_
      refine wd_callV C 2 (c_X8_shiftRows _ K ad σ (σ.1 7) (-p2) (hM.1) (hM.2.2.2.2.1) (hM.2.2.2.1)) 0 (wcM_0 K ad _) rfl rfl tw_970 tw_972 tw_38 tw_72 tw_973 (by decide +kernel) rfl (by decide) (Nat.le_of_ble_eq_true rfl) dX8_change_349 _ rfl ?_
      refine wd_goto C 361 dX8_change_352 (by decide) ?_
      have ej_0 : p_X8_change_s6 σ p1 p2 = (p_X8_shiftRows σ (σ.1 7) (-p2)) := by unfold p_X8_change_s6; rw [if_neg c_51_64, if_neg c_51_74, if_neg c_51_75, if_neg c_51_76, if_neg c_51_77, if_neg c_51_80, if_neg c_51_83, if_pos c_51_84]
      rw [ej_0] at J_51
      exact wd_lv [2, 3, 4, 5, 1, 0] _ rfl J_51
    by_cases c_51_88 : p1 = 88
    · refine wd_tsw C 250 dX8_change_51 (by decide) (by rw [c_51_88]; decide +kernel) ?_
      refine wd_aload_n C dX8_change_250 rfl 2 rfl ?_
      refine wd_iload_n C dX8_change_251 rfl 5 rfl ?_
      refine wd_iload_n C dX8_change_252 rfl 5 rfl ?_
      refine wd_iload_n C dX8_change_253 rfl 4 rfl ?_
      refine wd_iadd C dX8_change_254 ?_
      refine wd_iconst (v := 1) C dX8_change_255 (by decide) ?_
      refine wd_isub C dX8_change_256 ?_
      refine wd_bipush (v := 12) C dX8_change_257 (by decide) ?_
      refine wd_aload_n C dX8_change_259 rfl 2 rfl ?_
      refine gfM_0_5 (x := σ.1 5) C tw_824 rfl dX8_change_260 ?_
      refine wd_imul C dX8_change_263 ?_
      refine wd_bipush (v := 12) C dX8_change_264 (by decide) ?_
      refine wd_iadd C dX8_change_266 ?_
      refine wd_iconst (v := 1) C dX8_change_267 (by decide) ?_
      refine wd_isub C dX8_change_268 ?_
      refine wd_callS C 2 (c_X8_atMost _ K ad σ ((((12 * (σ.1 5)) + (σ.1 6)) + p2) - 1) (((12 * (σ.1 5)) + 12) - 1)) tw_1026 tw_1027 tw_72 tw_1028 (by decide +kernel) rfl (by decide) (Nat.le_of_ble_eq_true rfl) dX8_change_269 _ rfl ?_
      refine wd_callV C 2 (c_X8_clear _ K ad σ ((12 * (σ.1 5)) + (σ.1 6)) ((p_X8_atMost σ ((((12 * (σ.1 5)) + (σ.1 6)) + p2) - 1) (((12 * (σ.1 5)) + 12) - 1))) (hM.1) ((at95 hM).1) (chx _ hM)) 0 (wcM_0 K ad _) rfl rfl tw_1029 tw_1031 tw_52 tw_72 tw_1032 (by decide +kernel) rfl (by decide) (Nat.le_of_ble_eq_true rfl) dX8_change_272 _ rfl ?_
      refine wd_goto C 361 dX8_change_275 (by decide) ?_
      have ej_0 : p_X8_change_s6 σ p1 p2 = (p_X8_clear σ ((12 * (σ.1 5)) + (σ.1 6)) ((p_X8_atMost σ ((((12 * (σ.1 5)) + (σ.1 6)) + p2) - 1) (((12 * (σ.1 5)) + 12) - 1)))) := by unfold p_X8_change_s6; rw [if_neg c_51_64, if_neg c_51_74, if_neg c_51_75, if_neg c_51_76, if_neg c_51_77, if_neg c_51_80, if_neg c_51_83, if_neg c_51_84, if_pos c_51_88]
      rw [ej_0] at J_51
      exact wd_lv [2, 3, 4, 5, 1, 0] _ rfl J_51
    refine wd_tsw C 355 dX8_change_51 (by decide) (by rw [swT_d [64, 74, 75, 76, 77, 80, 83, 84, 88] (List.forall_mem_cons.mpr ⟨lv_neT c_51_64 (by decide), List.forall_mem_cons.mpr ⟨lv_neT c_51_74 (by decide), List.forall_mem_cons.mpr ⟨lv_neT c_51_75 (by decide), List.forall_mem_cons.mpr ⟨lv_neT c_51_76 (by decide), List.forall_mem_cons.mpr ⟨lv_neT c_51_77 (by decide), List.forall_mem_cons.mpr ⟨lv_neT c_51_80 (by decide), List.forall_mem_cons.mpr ⟨lv_neT c_51_83 (by decide), List.forall_mem_cons.mpr ⟨lv_neT c_51_84 (by decide), List.forall_mem_cons.mpr ⟨lv_neT c_51_88 (by decide), fun _ h => absurd h List.not_mem_nil⟩⟩⟩⟩⟩⟩⟩⟩⟩) (by decide +kernel)]; decide) ?_
    refine wd_aload_n C dX8_change_355 rfl 2 rfl ?_
    refine wd_iload_n C dX8_change_356 rfl 3 rfl ?_
    refine wd_iload_n C dX8_change_357 rfl 4 rfl ?_
    refine wd_callV C 2 (c_X8_set _ K ad σ p1 p2 (hM)) 0 (wcM_0 K ad _) rfl rfl tw_1052 tw_1054 tw_57 tw_72 tw_1055 (by decide +kernel) rfl (by decide) (Nat.le_of_ble_eq_true rfl) dX8_change_358 _ rfl ?_
    have ej_0 : p_X8_change_s6 σ p1 p2 = (p_X8_set σ p1 p2) := by unfold p_X8_change_s6; rw [if_neg c_51_64, if_neg c_51_74, if_neg c_51_75, if_neg c_51_76, if_neg c_51_77, if_neg c_51_80, if_neg c_51_83, if_neg c_51_84, if_neg c_51_88]
    rw [ej_0] at J_51
    exact wd_lv [2, 3, 4, 5, 1, 0] _ rfl J_51
  refine wd_icmp_lt C 39 dX8_change_21 (by decide) (fun c_21 => ?_) (fun c_21 => ?_)
  · refine wd_iconst (v := 0) C dX8_change_39 (by decide) ?_
    have ej_0 : p_X8_change_t1 σ p1 p2 = false := by unfold p_X8_change_t1; rw [if_pos c_21]
    rw [ej_0] at J_21
    exact wd_lv [1, 2, 3, 0] _ rfl J_21
  · refine wd_aload_n C dX8_change_24 rfl 1 rfl ?_
    refine gfM_0_5 (x := σ.1 5) C tw_824 rfl dX8_change_25 ?_
    refine wd_aload_n C dX8_change_28 rfl 1 rfl ?_
    refine gfM_0_8 (x := σ.1 8) C tw_827 rfl dX8_change_29 ?_
    refine wd_icmp_gt C 39 dX8_change_32 (by decide) (fun c_32 => ?_) (fun c_32 => ?_)
    · refine wd_iconst (v := 0) C dX8_change_39 (by decide) ?_
      have ej_0 : p_X8_change_t1 σ p1 p2 = false := by unfold p_X8_change_t1; rw [if_neg c_21, if_pos c_32]
      rw [ej_0] at J_21
      exact wd_lv [1, 2, 3, 0] _ rfl J_21
    · refine wd_iconst (v := 1) C dX8_change_35 (by decide) ?_
      refine wd_goto C 40 dX8_change_36 (by decide) ?_
      have ej_0 : p_X8_change_t1 σ p1 p2 = true := by unfold p_X8_change_t1; rw [if_neg c_21, if_neg c_32]
      rw [ej_0] at J_21
      exact wd_lv [1, 2, 3, 0] _ rfl J_21
theorem okm_change {σ : St} (p1 p2 : Int32) (hn : R2 1 9999 p2) (hM : OkM σ) : OkM (p_X8_change σ p1 p2) := by
  unfold p_X8_change p_X8_change_s6
  have c : ∀ a : Int32, OkM (p_X8_shiftCells σ a) := fun a => okm_fr (fr_shiftCells _ _) hM
  have r : ∀ a b : Int32, OkM (p_X8_shiftRows σ a b) := fun a b => okm_fr (fr_shiftRows _ _ _) hM
  have l : ∀ a b : Int32, OkM (p_X8_clear σ a b) := fun a b => okm_fr (fr_clear _ _ _) hM
  exact okm_ite (fun _ => c _) fun _ => okm_ite (fun _ => okm_ite (fun _ => hM) fun _ => l _ _) fun _ => okm_ite (fun _ => okm_ite (fun _ => hM) fun _ => l _ _) fun _ => okm_ite (fun _ => okm_ite (fun _ => r _ _) fun _ => hM) fun _ => okm_ite (fun _ => okm_ite (fun _ => r _ _) fun _ => hM) fun _ => okm_ite (fun _ => c _) fun _ => okm_ite (fun _ => r _ _) fun _ => okm_ite (fun _ => r _ _) fun _ => okm_ite (fun _ => l _ _) fun _ => okm_set p1 p2 hn hM
def p_X8_doIt_s1 (σ : St) (p1 : Int32) (p2 : Int32) : St := (if p1 = 65 then (p_X8_place σ (p_X8_above σ p2) (σ.1 6)) else (if p1 = 66 then (p_X8_place σ (p_X8_below σ p2) (σ.1 6)) else (if p1 = 67 then (p_X8_place σ (σ.1 5) ((p_X8_atMost σ ((σ.1 6) + p2) 11))) else (if p1 = 68 then (p_X8_place σ (σ.1 5) ((p_X8_atLeast σ ((σ.1 6) - p2) 0))) else (if p1 = 69 then (p_X8_place σ (p_X8_below σ p2) 0) else (if p1 = 70 then (p_X8_place σ (p_X8_above σ p2) 0) else (if p1 = 71 then (p_X8_place σ (σ.1 5) ((p_X8_atMost σ (p2 - 1) 11))) else (if p1 = 72 then (p_X8_home σ p2 (σ.2.2 8 (1 : Int32).toNatClampNeg)) else (if p1 = 100 then (p_X8_place σ ((p_X8_atMost σ (p2 - 1) 7)) (σ.1 6)) else (if p1 = 102 then (p_X8_home σ p2 (σ.2.2 8 (1 : Int32).toNatClampNeg)) else (p_X8_change σ p1 p2)))))))))))
def p_X8_doIt (σ : St) (p1 : Int32) (p2 : Int32) : St := (p_X8_doIt_s1 σ p1 p2)
set_option maxHeartbeats 4000000 in
set_option maxRecDepth 100000 in
theorem c_X8_doIt (l : Launch) (K : KX) (ad : Nat → Nat) (σ : St) (p1 : Int32) (p2 : Int32) (hM : OkM σ) : Mt l K yX8_doIt cX8_doIt 3 none { frames := 6, cells := 0, slots := 0, locals := 139 } [.ref (ad 0), .int p1, .int p2] (WdM K ad σ) none (WdM K ad (p_X8_doIt σ p1 p2)) := by
  refine Mt.v (by decide +kernel) (Nat.le_of_ble_eq_true rfl) (fun X C hret => ?_)
  show WD X K 3 0 0 (WdM K ad σ) [(0, .ref (ad 0)), (1, .int p1), (2, .int p2)] 0 []
  refine wd_iload_n C dX8_doIt_0 rfl 1 rfl ?_
  have J_1 : WD X K 3 0 0 (WdM K ad (p_X8_doIt_s1 σ p1 p2)) [(0, .ref (ad 0)), (1, .int p1), (2, .int p2)] 327 [] := by
    have e9 : p_X8_doIt σ p1 p2 = (p_X8_doIt_s1 σ p1 p2) := by rfl
    exact hret _ _ _ (by rw [e9] <;> rfl) dX8_doIt_327
  by_cases c_1_65 : p1 = 65
  · refine wd_tsw C 168 dX8_doIt_1 (by decide) (by rw [c_1_65]; decide +kernel) ?_
    refine wd_aload_n C dX8_doIt_168 rfl 0 rfl ?_
    refine wd_aload_n C dX8_doIt_169 rfl 0 rfl ?_
    refine wd_iload_n C dX8_doIt_170 rfl 2 rfl ?_
    refine wd_callV C 1 (c_X8_above _ K ad σ p2) 0 (wcM_0 K ad _) rfl rfl tw_1037 tw_1039 tw_54 tw_72 tw_1040 (by decide +kernel) rfl (by decide) (Nat.le_of_ble_eq_true rfl) dX8_doIt_171 _ rfl ?_
    refine wd_aload_n C dX8_doIt_174 rfl 0 rfl ?_
    refine gfM_0_6 (x := σ.1 6) C tw_825 rfl dX8_doIt_175 ?_
    refine wd_callV C 2 (c_X8_place _ K ad σ (p_X8_above σ p2) (σ.1 6)) 0 (wcM_0 K ad _) rfl rfl tw_803 tw_805 tw_30 tw_72 tw_806 (by decide +kernel) rfl (by decide) (Nat.le_of_ble_eq_true rfl) dX8_doIt_178 _ rfl ?_
    refine wd_goto C 327 dX8_doIt_181 (by decide) ?_
    have ej_0 : p_X8_doIt_s1 σ p1 p2 = (p_X8_place σ (p_X8_above σ p2) (σ.1 6)) := by unfold p_X8_doIt_s1; rw [if_pos c_1_65]
    rw [ej_0] at J_1
    exact wd_lv [0, 1, 2] _ rfl J_1
  by_cases c_1_66 : p1 = 66
  · refine wd_tsw C 184 dX8_doIt_1 (by decide) (by rw [c_1_66]; decide +kernel) ?_
    refine wd_aload_n C dX8_doIt_184 rfl 0 rfl ?_
    refine wd_aload_n C dX8_doIt_185 rfl 0 rfl ?_
    refine wd_iload_n C dX8_doIt_186 rfl 2 rfl ?_
    refine wd_callV C 1 (c_X8_below _ K ad σ p2) 0 (wcM_0 K ad _) rfl rfl tw_1044 tw_1046 tw_55 tw_72 tw_1047 (by decide +kernel) rfl (by decide) (Nat.le_of_ble_eq_true rfl) dX8_doIt_187 _ rfl ?_
    refine wd_aload_n C dX8_doIt_190 rfl 0 rfl ?_
    refine gfM_0_6 (x := σ.1 6) C tw_825 rfl dX8_doIt_191 ?_
    refine wd_callV C 2 (c_X8_place _ K ad σ (p_X8_below σ p2) (σ.1 6)) 0 (wcM_0 K ad _) rfl rfl tw_803 tw_805 tw_30 tw_72 tw_806 (by decide +kernel) rfl (by decide) (Nat.le_of_ble_eq_true rfl) dX8_doIt_194 _ rfl ?_
    refine wd_goto C 327 dX8_doIt_197 (by decide) ?_
    have ej_0 : p_X8_doIt_s1 σ p1 p2 = (p_X8_place σ (p_X8_below σ p2) (σ.1 6)) := by unfold p_X8_doIt_s1; rw [if_neg c_1_65, if_pos c_1_66]
    rw [ej_0] at J_1
    exact wd_lv [0, 1, 2] _ rfl J_1
  by_cases c_1_67 : p1 = 67
  · refine wd_tsw C 200 dX8_doIt_1 (by decide) (by rw [c_1_67]; decide +kernel) ?_
    refine wd_aload_n C dX8_doIt_200 rfl 0 rfl ?_
    refine wd_aload_n C dX8_doIt_201 rfl 0 rfl ?_
    refine gfM_0_5 (x := σ.1 5) C tw_824 rfl dX8_doIt_202 ?_
    refine wd_aload_n C dX8_doIt_205 rfl 0 rfl ?_
    refine gfM_0_6 (x := σ.1 6) C tw_825 rfl dX8_doIt_206 ?_
    refine wd_iload_n C dX8_doIt_209 rfl 2 rfl ?_
    refine wd_iadd C dX8_doIt_210 ?_
    refine wd_bipush (v := 11) C dX8_doIt_211 (by decide) ?_
    refine wd_callS C 2 (c_X8_atMost _ K ad σ ((σ.1 6) + p2) 11) tw_1026 tw_1027 tw_72 tw_1028 (by decide +kernel) rfl (by decide) (Nat.le_of_ble_eq_true rfl) dX8_doIt_213 _ rfl ?_
    refine wd_callV C 2 (c_X8_place _ K ad σ (σ.1 5) ((p_X8_atMost σ ((σ.1 6) + p2) 11))) 0 (wcM_0 K ad _) rfl rfl tw_803 tw_805 tw_30 tw_72 tw_806 (by decide +kernel) rfl (by decide) (Nat.le_of_ble_eq_true rfl) dX8_doIt_216 _ rfl ?_
    refine wd_goto C 327 dX8_doIt_219 (by decide) ?_
    have ej_0 : p_X8_doIt_s1 σ p1 p2 = (p_X8_place σ (σ.1 5) ((p_X8_atMost σ ((σ.1 6) + p2) 11))) := by unfold p_X8_doIt_s1; rw [if_neg c_1_65, if_neg c_1_66, if_pos c_1_67]
    rw [ej_0] at J_1
    exact wd_lv [0, 1, 2] _ rfl J_1
  by_cases c_1_68 : p1 = 68
  · refine wd_tsw C 222 dX8_doIt_1 (by decide) (by rw [c_1_68]; decide +kernel) ?_
    refine wd_aload_n C dX8_doIt_222 rfl 0 rfl ?_
    refine wd_aload_n C dX8_doIt_223 rfl 0 rfl ?_
    refine gfM_0_5 (x := σ.1 5) C tw_824 rfl dX8_doIt_224 ?_
    refine wd_aload_n C dX8_doIt_227 rfl 0 rfl ?_
    refine gfM_0_6 (x := σ.1 6) C tw_825 rfl dX8_doIt_228 ?_
    refine wd_iload_n C dX8_doIt_231 rfl 2 rfl ?_
    refine wd_isub C dX8_doIt_232 ?_
    refine wd_iconst (v := 0) C dX8_doIt_233 (by decide) ?_
    refine wd_callS C 2 (c_X8_atLeast _ K ad σ ((σ.1 6) - p2) 0) tw_1041 tw_1042 tw_72 tw_1043 (by decide +kernel) rfl (by decide) (Nat.le_of_ble_eq_true rfl) dX8_doIt_234 _ rfl ?_
    refine wd_callV C 2 (c_X8_place _ K ad σ (σ.1 5) ((p_X8_atLeast σ ((σ.1 6) - p2) 0))) 0 (wcM_0 K ad _) rfl rfl tw_803 tw_805 tw_30 tw_72 tw_806 (by decide +kernel) rfl (by decide) (Nat.le_of_ble_eq_true rfl) dX8_doIt_237 _ rfl ?_
    refine wd_goto C 327 dX8_doIt_240 (by decide) ?_
    have ej_0 : p_X8_doIt_s1 σ p1 p2 = (p_X8_place σ (σ.1 5) ((p_X8_atLeast σ ((σ.1 6) - p2) 0))) := by unfold p_X8_doIt_s1; rw [if_neg c_1_65, if_neg c_1_66, if_neg c_1_67, if_pos c_1_68]
    rw [ej_0] at J_1
    exact wd_lv [0, 1, 2] _ rfl J_1
  by_cases c_1_69 : p1 = 69
  · refine wd_tsw C 243 dX8_doIt_1 (by decide) (by rw [c_1_69]; decide +kernel) ?_
    refine wd_aload_n C dX8_doIt_243 rfl 0 rfl ?_
    refine wd_aload_n C dX8_doIt_244 rfl 0 rfl ?_
    refine wd_iload_n C dX8_doIt_245 rfl 2 rfl ?_
    refine wd_callV C 1 (c_X8_below _ K ad σ p2) 0 (wcM_0 K ad _) rfl rfl tw_1044 tw_1046 tw_55 tw_72 tw_1047 (by decide +kernel) rfl (by decide) (Nat.le_of_ble_eq_true rfl) dX8_doIt_246 _ rfl ?_
    refine wd_iconst (v := 0) C dX8_doIt_249 (by decide) ?_
    refine wd_callV C 2 (c_X8_place _ K ad σ (p_X8_below σ p2) 0) 0 (wcM_0 K ad _) rfl rfl tw_803 tw_805 tw_30 tw_72 tw_806 (by decide +kernel) rfl (by decide) (Nat.le_of_ble_eq_true rfl) dX8_doIt_250 _ rfl ?_
    refine wd_goto C 327 dX8_doIt_253 (by decide) ?_
    have ej_0 : p_X8_doIt_s1 σ p1 p2 = (p_X8_place σ (p_X8_below σ p2) 0) := by unfold p_X8_doIt_s1; rw [if_neg c_1_65, if_neg c_1_66, if_neg c_1_67, if_neg c_1_68, if_pos c_1_69]
    rw [ej_0] at J_1
    exact wd_lv [0, 1, 2] _ rfl J_1
  by_cases c_1_70 : p1 = 70
  · refine wd_tsw C 256 dX8_doIt_1 (by decide) (by rw [c_1_70]; decide +kernel) ?_
    refine wd_aload_n C dX8_doIt_256 rfl 0 rfl ?_
    refine wd_aload_n C dX8_doIt_257 rfl 0 rfl ?_
    refine wd_iload_n C dX8_doIt_258 rfl 2 rfl ?_
    refine wd_callV C 1 (c_X8_above _ K ad σ p2) 0 (wcM_0 K ad _) rfl rfl tw_1037 tw_1039 tw_54 tw_72 tw_1040 (by decide +kernel) rfl (by decide) (Nat.le_of_ble_eq_true rfl) dX8_doIt_259 _ rfl ?_
    refine wd_iconst (v := 0) C dX8_doIt_262 (by decide) ?_
    refine wd_callV C 2 (c_X8_place _ K ad σ (p_X8_above σ p2) 0) 0 (wcM_0 K ad _) rfl rfl tw_803 tw_805 tw_30 tw_72 tw_806 (by decide +kernel) rfl (by decide) (Nat.le_of_ble_eq_true rfl) dX8_doIt_263 _ rfl ?_
    refine wd_goto C 327 dX8_doIt_266 (by decide) ?_
    have ej_0 : p_X8_doIt_s1 σ p1 p2 = (p_X8_place σ (p_X8_above σ p2) 0) := by unfold p_X8_doIt_s1; rw [if_neg c_1_65, if_neg c_1_66, if_neg c_1_67, if_neg c_1_68, if_neg c_1_69, if_pos c_1_70]
    rw [ej_0] at J_1
    exact wd_lv [0, 1, 2] _ rfl J_1
  by_cases c_1_71 : p1 = 71
  · refine wd_tsw C 269 dX8_doIt_1 (by decide) (by rw [c_1_71]; decide +kernel) ?_
    refine wd_aload_n C dX8_doIt_269 rfl 0 rfl ?_
    refine wd_aload_n C dX8_doIt_270 rfl 0 rfl ?_
    refine gfM_0_5 (x := σ.1 5) C tw_824 rfl dX8_doIt_271 ?_
    refine wd_iload_n C dX8_doIt_274 rfl 2 rfl ?_
    refine wd_iconst (v := 1) C dX8_doIt_275 (by decide) ?_
    refine wd_isub C dX8_doIt_276 ?_
    refine wd_bipush (v := 11) C dX8_doIt_277 (by decide) ?_
    refine wd_callS C 2 (c_X8_atMost _ K ad σ (p2 - 1) 11) tw_1026 tw_1027 tw_72 tw_1028 (by decide +kernel) rfl (by decide) (Nat.le_of_ble_eq_true rfl) dX8_doIt_279 _ rfl ?_
    refine wd_callV C 2 (c_X8_place _ K ad σ (σ.1 5) ((p_X8_atMost σ (p2 - 1) 11))) 0 (wcM_0 K ad _) rfl rfl tw_803 tw_805 tw_30 tw_72 tw_806 (by decide +kernel) rfl (by decide) (Nat.le_of_ble_eq_true rfl) dX8_doIt_282 _ rfl ?_
    refine wd_goto C 327 dX8_doIt_285 (by decide) ?_
    have ej_0 : p_X8_doIt_s1 σ p1 p2 = (p_X8_place σ (σ.1 5) ((p_X8_atMost σ (p2 - 1) 11))) := by unfold p_X8_doIt_s1; rw [if_neg c_1_65, if_neg c_1_66, if_neg c_1_67, if_neg c_1_68, if_neg c_1_69, if_neg c_1_70, if_pos c_1_71]
    rw [ej_0] at J_1
    exact wd_lv [0, 1, 2] _ rfl J_1
  by_cases c_1_72 : p1 = 72
  · refine wd_tsw C 307 dX8_doIt_1 (by decide) (by rw [c_1_72]; decide +kernel) ?_
    refine wd_aload_n C dX8_doIt_307 rfl 0 rfl ?_
    refine wd_iload_n C dX8_doIt_308 rfl 2 rfl ?_
    refine wd_aload_n C dX8_doIt_309 rfl 0 rfl ?_
    refine gfM_0_36 C tw_855 dX8_doIt_310 ?_
    refine wd_iconst (v := 1) C dX8_doIt_313 (by decide) ?_
    refine alM_9 (x := σ.2.2 8 (1 : Int32).toNatClampNeg) C (vp_in_iff.mpr (by decide)) rfl dX8_doIt_314 ?_
    refine wd_callV C 2 (c_X8_home _ K ad σ p2 (σ.2.2 8 (1 : Int32).toNatClampNeg)) 0 (wcM_0 K ad _) rfl rfl tw_1022 tw_1024 tw_51 tw_72 tw_1025 (by decide +kernel) rfl (by decide) (Nat.le_of_ble_eq_true rfl) dX8_doIt_315 _ rfl ?_
    refine wd_goto C 327 dX8_doIt_318 (by decide) ?_
    have ej_0 : p_X8_doIt_s1 σ p1 p2 = (p_X8_home σ p2 (σ.2.2 8 (1 : Int32).toNatClampNeg)) := by unfold p_X8_doIt_s1; rw [if_neg c_1_65, if_neg c_1_66, if_neg c_1_67, if_neg c_1_68, if_neg c_1_69, if_neg c_1_70, if_neg c_1_71, if_pos c_1_72]
    rw [ej_0] at J_1
    exact wd_lv [0, 1, 2] _ rfl J_1
  by_cases c_1_100 : p1 = 100
  · refine wd_tsw C 288 dX8_doIt_1 (by decide) (by rw [c_1_100]; decide +kernel) ?_
    refine wd_aload_n C dX8_doIt_288 rfl 0 rfl ?_
    refine wd_iload_n C dX8_doIt_289 rfl 2 rfl ?_
    refine wd_iconst (v := 1) C dX8_doIt_290 (by decide) ?_
    refine wd_isub C dX8_doIt_291 ?_
    refine wd_bipush (v := 7) C dX8_doIt_292 (by decide) ?_
    refine wd_callS C 2 (c_X8_atMost _ K ad σ (p2 - 1) 7) tw_1026 tw_1027 tw_72 tw_1028 (by decide +kernel) rfl (by decide) (Nat.le_of_ble_eq_true rfl) dX8_doIt_294 _ rfl ?_
    refine wd_aload_n C dX8_doIt_297 rfl 0 rfl ?_
    refine gfM_0_6 (x := σ.1 6) C tw_825 rfl dX8_doIt_298 ?_
    refine wd_callV C 2 (c_X8_place _ K ad σ ((p_X8_atMost σ (p2 - 1) 7)) (σ.1 6)) 0 (wcM_0 K ad _) rfl rfl tw_803 tw_805 tw_30 tw_72 tw_806 (by decide +kernel) rfl (by decide) (Nat.le_of_ble_eq_true rfl) dX8_doIt_301 _ rfl ?_
    refine wd_goto C 327 dX8_doIt_304 (by decide) ?_
    have ej_0 : p_X8_doIt_s1 σ p1 p2 = (p_X8_place σ ((p_X8_atMost σ (p2 - 1) 7)) (σ.1 6)) := by unfold p_X8_doIt_s1; rw [if_neg c_1_65, if_neg c_1_66, if_neg c_1_67, if_neg c_1_68, if_neg c_1_69, if_neg c_1_70, if_neg c_1_71, if_neg c_1_72, if_pos c_1_100]
    rw [ej_0] at J_1
    exact wd_lv [0, 1, 2] _ rfl J_1
  by_cases c_1_102 : p1 = 102
  · refine wd_tsw C 307 dX8_doIt_1 (by decide) (by rw [c_1_102]; decide +kernel) ?_
    refine wd_aload_n C dX8_doIt_307 rfl 0 rfl ?_
    refine wd_iload_n C dX8_doIt_308 rfl 2 rfl ?_
    refine wd_aload_n C dX8_doIt_309 rfl 0 rfl ?_
    refine gfM_0_36 C tw_855 dX8_doIt_310 ?_
    refine wd_iconst (v := 1) C dX8_doIt_313 (by decide) ?_
    refine alM_9 (x := σ.2.2 8 (1 : Int32).toNatClampNeg) C (vp_in_iff.mpr (by decide)) rfl dX8_doIt_314 ?_
    refine wd_callV C 2 (c_X8_home _ K ad σ p2 (σ.2.2 8 (1 : Int32).toNatClampNeg)) 0 (wcM_0 K ad _) rfl rfl tw_1022 tw_1024 tw_51 tw_72 tw_1025 (by decide +kernel) rfl (by decide) (Nat.le_of_ble_eq_true rfl) dX8_doIt_315 _ rfl ?_
    refine wd_goto C 327 dX8_doIt_318 (by decide) ?_
    have ej_0 : p_X8_doIt_s1 σ p1 p2 = (p_X8_home σ p2 (σ.2.2 8 (1 : Int32).toNatClampNeg)) := by unfold p_X8_doIt_s1; rw [if_neg c_1_65, if_neg c_1_66, if_neg c_1_67, if_neg c_1_68, if_neg c_1_69, if_neg c_1_70, if_neg c_1_71, if_neg c_1_72, if_neg c_1_100, if_pos c_1_102]
    rw [ej_0] at J_1
    exact wd_lv [0, 1, 2] _ rfl J_1
  refine wd_tsw C 321 dX8_doIt_1 (by decide) (by rw [swT_d [65, 66, 67, 68, 69, 70, 71, 72, 100, 102] (List.forall_mem_cons.mpr ⟨lv_neT c_1_65 (by decide), List.forall_mem_cons.mpr ⟨lv_neT c_1_66 (by decide), List.forall_mem_cons.mpr ⟨lv_neT c_1_67 (by decide), List.forall_mem_cons.mpr ⟨lv_neT c_1_68 (by decide), List.forall_mem_cons.mpr ⟨lv_neT c_1_69 (by decide), List.forall_mem_cons.mpr ⟨lv_neT c_1_70 (by decide), List.forall_mem_cons.mpr ⟨lv_neT c_1_71 (by decide), List.forall_mem_cons.mpr ⟨lv_neT c_1_72 (by decide), List.forall_mem_cons.mpr ⟨lv_neT c_1_100 (by decide), List.forall_mem_cons.mpr ⟨lv_neT c_1_102 (by decide), fun _ h => absurd h List.not_mem_nil⟩⟩⟩⟩⟩⟩⟩⟩⟩⟩) (by decide +kernel)]; decide) ?_
  refine wd_aload_n C dX8_doIt_321 rfl 0 rfl ?_
  refine wd_iload_n C dX8_doIt_322 rfl 1 rfl ?_
  refine wd_iload_n C dX8_doIt_323 rfl 2 rfl ?_
  refine wd_callV C 2 (c_X8_change _ K ad σ p1 p2 (hM)) 0 (wcM_0 K ad _) rfl rfl tw_1048 tw_1050 tw_56 tw_72 tw_1051 (by decide +kernel) rfl (by decide) (Nat.le_of_ble_eq_true rfl) dX8_doIt_324 _ rfl ?_
  have ej_0 : p_X8_doIt_s1 σ p1 p2 = (p_X8_change σ p1 p2) := by unfold p_X8_doIt_s1; rw [if_neg c_1_65, if_neg c_1_66, if_neg c_1_67, if_neg c_1_68, if_neg c_1_69, if_neg c_1_70, if_neg c_1_71, if_neg c_1_72, if_neg c_1_100, if_neg c_1_102]
  rw [ej_0] at J_1
  exact wd_lv [0, 1, 2] _ rfl J_1
theorem okm_above {σ : St} (n : Int32) (hn : R2 1 9999 n) (hM : OkM σ) : R2 0 7 (p_X8_above σ n) := by
  unfold p_X8_above
  have a := hM.2.1.1
  have b := hM.2.1.2
  have n1 := hn.1
  have n2 := hn.2
  have e := ti_sub (a := σ.1 5) (b := n) (by omega) (by omega)
  refine atLeast_r (by omega) ?_
  unfold p_X8_above_t1
  exact R2.ite (fun _ => R2.lit 0 (by decide)) fun _ => hM.2.2.2.1
theorem okm_below {σ : St} (n : Int32) (hn : R2 1 9999 n) (hM : OkM σ) : R2 0 7 (p_X8_below σ n) := by
  unfold p_X8_below
  have a := hM.2.1.1
  have b := hM.2.1.2
  have n1 := hn.1
  have n2 := hn.2
  have e := ti_add (a := σ.1 5) (b := n) (by omega) (by omega)
  refine atMost_r (by omega) ?_
  unfold p_X8_below_t1
  exact R2.ite (fun _ => R2.lit 7 (by decide)) fun _ => hM.2.2.2.2.1
theorem okm_doIt {σ : St} (p1 p2 : Int32) (hn : R2 1 9999 p2) (hM : OkM σ) : OkM (p_X8_doIt σ p1 p2) := by
  unfold p_X8_doIt p_X8_doIt_s1
  have r := hM.2.1
  have c := hM.2.2.1
  have c1 := c.1
  have c2 := c.2
  have n1 := hn.1
  have n2 := hn.2
  have z1 : (1 : Int32).toInt = 1 := by decide
  have e1 := ti_add (a := σ.1 6) (b := p2) (by omega) (by omega)
  have e2 := ti_sub (a := σ.1 6) (b := p2) (by omega) (by omega)
  have e3 := ti_sub (a := p2) (b := 1) (by omega) (by omega)
  have q1 := okm_numbers hM 1 (by decide)
  have ho : OkM (p_X8_home σ p2 (σ.2.2 8 (1 : Int32).toNatClampNeg)) := okm_home hn q1 hM
  refine okm_ite (fun _ => okm_place (okm_above p2 hn hM) c hM) fun _ => ?_
  refine okm_ite (fun _ => okm_place (okm_below p2 hn hM) c hM) fun _ => ?_
  refine okm_ite (fun _ => okm_place r (atMost_r (by omega) (R2.lit 11 (by decide))) hM) fun _ => ?_
  refine okm_ite (fun _ => okm_place r (atLeast_r (by omega) (R2.lit 0 (by decide))) hM) fun _ => ?_
  refine okm_ite (fun _ => okm_place (okm_below p2 hn hM) (R2.lit 0 (by decide)) hM) fun _ => ?_
  refine okm_ite (fun _ => okm_place (okm_above p2 hn hM) (R2.lit 0 (by decide)) hM) fun _ => ?_
  refine okm_ite (fun _ => okm_place r (atMost_r (by omega) (R2.lit 11 (by decide))) hM) fun _ => ?_
  refine okm_ite (fun _ => ho) fun _ => ?_
  refine okm_ite (fun _ => okm_place (atMost_r (by omega) (R2.lit 7 (by decide))) c hM) fun _ => ?_
  exact okm_ite (fun _ => ho) fun _ => okm_change p1 p2 hn hM
