def p_X8_answer_s1 (σ : St) (p1 : Int32) : St := (if p1 = 5 then (if 64 < (σ.1 28) + 4 then σ else (p_X8_put ((p_X8_put ((p_X8_put (p_X8_put σ 27) 91)) 48)) 110)) else σ)
def p_X8_answer_t2 (σ : St) (p1 : Int32) : Int32 := (if (p_X8_answer_s1 σ p1).2.1 11 = true then (if (p_X8_answer_s1 σ p1).1 7 ≤ (p_X8_answer_s1 σ p1).1 5 then (((p_X8_answer_s1 σ p1).1 5) - ((p_X8_answer_s1 σ p1).1 7)) + 1 else 0) else ((p_X8_answer_s1 σ p1).1 5) + 1)
def p_X8_answer_t3 (σ : St) (p1 : Int32) : Bool := (if ((p_X8_answer_s1 σ p1).1 6) + 1 ≤ 9 then false else true)
def p_X8_answer_s4 (σ : St) (p1 : Int32) : St := (if (((p_X8_put ((p_X8_put ((p_X8_put ((p_X8_put (p_X8_answer_s1 σ p1) 27)) 91)) (48 + (p_X8_answer_t2 σ p1)))) 59)).1 6) + 1 ≤ 9 then (p_X8_put ((p_X8_put ((p_X8_put ((p_X8_put (p_X8_answer_s1 σ p1) 27)) 91)) (48 + (p_X8_answer_t2 σ p1)))) 59) else (p_X8_put ((p_X8_put ((p_X8_put ((p_X8_put ((p_X8_put (p_X8_answer_s1 σ p1) 27)) 91)) (48 + (p_X8_answer_t2 σ p1)))) 59)) (48 + (((((p_X8_put ((p_X8_put ((p_X8_put ((p_X8_put (p_X8_answer_s1 σ p1) 27)) 91)) (48 + (p_X8_answer_t2 σ p1)))) 59)).1 6) + 1) / 10))))
def p_X8_answer (σ : St) (p1 : Int32) : St := (if p1 = 6 then (if ((p_X8_answer_s1 σ p1).1 28) + (6 + (b2i (p_X8_answer_t3 σ p1))) ≤ 64 then (p_X8_put ((p_X8_put (p_X8_answer_s4 σ p1) (48 + ((((p_X8_answer_s4 σ p1).1 6) + 1) - (((p_X8_answer_s4 σ p1).1 6) + 1) / 10 * 10)))) 82) else (p_X8_answer_s1 σ p1)) else (p_X8_answer_s1 σ p1))
theorem an_0 (σ : St) (h : ¬ 64 < σ.1 28 + 4) (hM : OkM σ) : R2 0 60 (σ.1 28) := by
  have w := hM.2.2.2.2.2.2.2.1
  have a := w.1
  have b := w.2
  rw [ti_lt] at h
  have z : (64 : Int32).toInt = 64 := by decide
  have z4 : (4 : Int32).toInt = 4 := by decide
  have e := ti_add (a := σ.1 28) (b := 4) (by omega) (by omega)
  exact ⟨a, by omega⟩
theorem okm_put {σ : St} (v : Int32) (hw : R2 0 63 (σ.1 28)) (hM : OkM σ) : OkM (p_X8_put σ v) := okm_wts ((hw.s (by decide) (by decide)).w (by decide) (by decide)) hM
theorem put_w (σ : St) (v : Int32) : (p_X8_put σ v).1 28 = σ.1 28 + 1 := rfl
theorem okm_an1 {σ : St} (p1 : Int32) (hM : OkM σ) : OkM (p_X8_answer_s1 σ p1) := by
  unfold p_X8_answer_s1
  refine okm_ite (fun _ => okm_ite (fun _ => hM) fun h => ?_) fun _ => hM
  have w := an_0 σ h hM
  exact okm_put _ (((((w).s (by decide) (by decide)).s (by decide) (by decide)).s (by decide) (by decide)).w (by decide) (by decide)) (okm_put _ ((((w).s (by decide) (by decide)).s (by decide) (by decide)).w (by decide) (by decide)) (okm_put _ (((w).s (by decide) (by decide)).w (by decide) (by decide)) (okm_put _ ((w).w (by decide) (by decide)) hM)))
theorem an_s1 (σ : St) (p1 : Int32) (h : (p_X8_answer_s1 σ p1).1 28 + (6 + b2i (p_X8_answer_t3 σ p1)) ≤ 64) (hM : OkM σ) : R2 0 58 ((p_X8_answer_s1 σ p1).1 28) := by
  have w := (okm_an1 p1 hM).2.2.2.2.2.2.2.1
  generalize p_X8_answer_t3 σ p1 = b at h
  generalize (p_X8_answer_s1 σ p1).1 28 = x at h w ⊢
  have a := w.1
  have c := w.2
  rw [ti_le] at h
  have z : (64 : Int32).toInt = 64 := by decide
  have zb : (6 + b2i b).toInt = 6 ∨ (6 + b2i b).toInt = 7 := by cases b <;> decide
  have e := ti_add (a := x) (b := 6 + b2i b) (by omega) (by omega)
  exact ⟨a, by omega⟩
theorem an_s1t (σ : St) (p1 : Int32) (hb : ¬ (p_X8_answer_s1 σ p1).1 6 + 1 ≤ 9) (h : (p_X8_answer_s1 σ p1).1 28 + (6 + b2i (p_X8_answer_t3 σ p1)) ≤ 64) (hM : OkM σ) : R2 0 57 ((p_X8_answer_s1 σ p1).1 28) := by
  have w := (okm_an1 p1 hM).2.2.2.2.2.2.2.1
  have eb : p_X8_answer_t3 σ p1 = true := by unfold p_X8_answer_t3; rw [if_neg hb]
  rw [eb] at h
  generalize (p_X8_answer_s1 σ p1).1 28 = x at h w ⊢
  have a := w.1
  have c := w.2
  rw [ti_le] at h
  have z : (64 : Int32).toInt = 64 := by decide
  have zb : (6 + b2i true).toInt = 7 := by decide
  have e := ti_add (a := x) (b := 6 + b2i true) (by omega) (by omega)
  exact ⟨a, by omega⟩
theorem an_s4 (σ : St) (p1 : Int32) (h : (p_X8_answer_s1 σ p1).1 28 + (6 + b2i (p_X8_answer_t3 σ p1)) ≤ 64) (hM : OkM σ) : R2 0 62 ((p_X8_answer_s4 σ p1).1 28) := by
  unfold p_X8_answer_s4
  by_cases hb : (p_X8_put ((p_X8_put ((p_X8_put ((p_X8_put (p_X8_answer_s1 σ p1) 27)) 91)) (48 + (p_X8_answer_t2 σ p1)))) 59).1 6 + 1 ≤ 9
  · rw [if_pos hb]
    exact (((((an_s1 σ p1 h hM).s (by decide) (by decide)).s (by decide) (by decide)).s (by decide) (by decide)).s (by decide) (by decide)).w (by decide) (by decide)
  · rw [if_neg hb]
    exact ((((((an_s1t σ p1 hb h hM).s (by decide) (by decide)).s (by decide) (by decide)).s (by decide) (by decide)).s (by decide) (by decide)).s (by decide) (by decide)).w (by decide) (by decide)
set_option maxHeartbeats 4000000 in
set_option maxRecDepth 100000 in
theorem c_X8_answer (l : Launch) (K : KX) (ad : Nat → Nat) (σ : St) (p1 : Int32) (hM : OkM σ) : Mt l K yX8_answer cX8_answer 4 none { frames := 1, cells := 0, slots := 0, locals := 21 } [.ref (ad 0), .int p1] (WdM K ad σ) none (WdM K ad (p_X8_answer σ p1)) := by
  refine Mt.v (by decide +kernel) (Nat.le_of_ble_eq_true rfl) (fun X C hret => ?_)
  show WD X K 4 0 0 (WdM K ad σ) [(0, .ref (ad 0)), (1, .int p1)] 0 []
  refine wd_iload_n C dX8_answer_0 rfl 1 rfl ?_
  refine wd_iconst (v := 5) C dX8_answer_1 (by decide) ?_
  have J_2 : WD X K 4 0 0 (WdM K ad (p_X8_answer_s1 σ p1)) [(0, .ref (ad 0)), (1, .int p1)] 40 [] := by
    refine wd_iload_n C dX8_answer_40 rfl 1 rfl ?_
    refine wd_bipush (v := 6) C dX8_answer_41 (by decide) ?_
    refine wd_icmp_eq C 47 dX8_answer_43 (by decide) (fun c_43 => ?_) (fun c_43 => ?_)
    · refine wd_aload_n C dX8_answer_47 rfl 0 rfl ?_
      refine gfM_0_11 (x := (p_X8_answer_s1 σ p1).2.1 11) C tw_830 rfl dX8_answer_48 ?_
      have J_51 : WD X K 4 0 0 (WdM K ad (p_X8_answer_s1 σ p1)) [(0, .ref (ad 0)), (1, .int p1)] 89 [.int (p_X8_answer_t2 σ p1)] := by
        refine wd_istore_n C [(2, .int (p_X8_answer_t2 σ p1)), (0, .ref (ad 0)), (1, .int p1)] dX8_answer_89 rfl (by decide) rfl ?_
        refine wd_bipush (v := 6) C dX8_answer_90 (by decide) ?_
        refine wd_aload_n C dX8_answer_92 rfl 1 rfl ?_
        refine gfM_0_6 (x := (p_X8_answer_s1 σ p1).1 6) C tw_825 rfl dX8_answer_93 ?_
        refine wd_iconst (v := 1) C dX8_answer_96 (by decide) ?_
        refine wd_iadd C dX8_answer_97 ?_
        refine wd_bipush (v := 9) C dX8_answer_98 (by decide) ?_
        have J_100 : WD X K 4 0 0 (WdM K ad (p_X8_answer_s1 σ p1)) [(0, .ref (ad 0)), (1, .int p1), (2, .int (p_X8_answer_t2 σ p1))] 108 [.int (b2i (p_X8_answer_t3 σ p1)), .int 6] := by
          refine wd_iadd C dX8_answer_108 ?_
          refine wd_istore_n C [(3, .int (6 + (b2i (p_X8_answer_t3 σ p1)))), (0, .ref (ad 0)), (1, .int p1), (2, .int (p_X8_answer_t2 σ p1))] dX8_answer_109 rfl (by decide) rfl ?_
          refine wd_aload_n C dX8_answer_110 rfl 1 rfl ?_
          refine gfM_0_28 (x := (p_X8_answer_s1 σ p1).1 28) C tw_847 rfl dX8_answer_111 ?_
          refine wd_iload_n C dX8_answer_114 rfl 0 rfl ?_
          refine wd_iadd C dX8_answer_115 ?_
          refine wd_bipush (v := 64) C dX8_answer_116 (by decide) ?_
          refine wd_icmp_le C 122 dX8_answer_118 (by decide) (fun c_118 => ?_) (fun c_118 => ?_)
          · refine wd_aload_n C dX8_answer_122 rfl 1 rfl ?_
            refine wd_bipush (v := 27) C dX8_answer_123 (by decide) ?_
            refine wd_callV C 1 (c_X8_put _ K ad (p_X8_answer_s1 σ p1) 27 ((an_s1 σ p1 c_118 hM).w (by decide) (by decide))) 0 (wcM_0 K ad _) rfl rfl tw_1064 tw_1066 tw_60 tw_72 tw_1067 (by decide +kernel) rfl (by decide) (Nat.le_of_ble_eq_true rfl) dX8_answer_125 _ rfl ?_
            refine wd_aload_n C dX8_answer_128 rfl 1 rfl ?_
            refine wd_bipush (v := 91) C dX8_answer_129 (by decide) ?_
            refine wd_callV C 1 (c_X8_put _ K ad ((p_X8_put (p_X8_answer_s1 σ p1) 27)) 91 (((an_s1 σ p1 c_118 hM).s (by decide) (by decide)).w (by decide) (by decide))) 0 (wcM_0 K ad _) rfl rfl tw_1064 tw_1066 tw_60 tw_72 tw_1067 (by decide +kernel) rfl (by decide) (Nat.le_of_ble_eq_true rfl) dX8_answer_131 _ rfl ?_
            refine wd_aload_n C dX8_answer_134 rfl 1 rfl ?_
            refine wd_bipush (v := 48) C dX8_answer_135 (by decide) ?_
            refine wd_iload_n C dX8_answer_137 rfl 3 rfl ?_
            refine wd_iadd C dX8_answer_138 ?_
            refine wd_callV C 1 (c_X8_put _ K ad ((p_X8_put ((p_X8_put (p_X8_answer_s1 σ p1) 27)) 91)) (48 + (p_X8_answer_t2 σ p1)) ((((an_s1 σ p1 c_118 hM).s (by decide) (by decide)).s (by decide) (by decide)).w (by decide) (by decide))) 0 (wcM_0 K ad _) rfl rfl tw_1064 tw_1066 tw_60 tw_72 tw_1067 (by decide +kernel) rfl (by decide) (Nat.le_of_ble_eq_true rfl) dX8_answer_139 _ rfl ?_
            refine wd_aload_n C dX8_answer_142 rfl 1 rfl ?_
            refine wd_bipush (v := 59) C dX8_answer_143 (by decide) ?_
            refine wd_callV C 1 (c_X8_put _ K ad ((p_X8_put ((p_X8_put ((p_X8_put (p_X8_answer_s1 σ p1) 27)) 91)) (48 + (p_X8_answer_t2 σ p1)))) 59 (((((an_s1 σ p1 c_118 hM).s (by decide) (by decide)).s (by decide) (by decide)).s (by decide) (by decide)).w (by decide) (by decide))) 0 (wcM_0 K ad _) rfl rfl tw_1064 tw_1066 tw_60 tw_72 tw_1067 (by decide +kernel) rfl (by decide) (Nat.le_of_ble_eq_true rfl) dX8_answer_145 _ rfl ?_
            refine wd_aload_n C dX8_answer_148 rfl 1 rfl ?_
            refine gfM_0_6 (x := ((p_X8_put ((p_X8_put ((p_X8_put ((p_X8_put (p_X8_answer_s1 σ p1) 27)) 91)) (48 + (p_X8_answer_t2 σ p1)))) 59)).1 6) C tw_825 rfl dX8_answer_149 ?_
            refine wd_iconst (v := 1) C dX8_answer_152 (by decide) ?_
            refine wd_iadd C dX8_answer_153 ?_
            refine wd_bipush (v := 9) C dX8_answer_154 (by decide) ?_
            have J_156 : WD X K 4 0 0 (WdM K ad (p_X8_answer_s4 σ p1)) [(0, .ref (ad 0)), (1, .int p1), (2, .int (p_X8_answer_t2 σ p1)), (3, .int (6 + (b2i (p_X8_answer_t3 σ p1))))] 175 [] := by
              refine wd_aload_n C dX8_answer_175 rfl 0 rfl ?_
              refine wd_bipush (v := 48) C dX8_answer_176 (by decide) ?_
              refine wd_aload_n C dX8_answer_178 rfl 0 rfl ?_
              refine gfM_0_6 (x := (p_X8_answer_s4 σ p1).1 6) C tw_825 rfl dX8_answer_179 ?_
              refine wd_iconst (v := 1) C dX8_answer_182 (by decide) ?_
              refine wd_iadd C dX8_answer_183 ?_
              refine wd_bipush (v := 10) C dX8_answer_184 (by decide) ?_
              refine wd_irem C dX8_answer_186 (by decide) ?_
              refine wd_iadd C dX8_answer_187 ?_
              refine wd_callV C 1 (c_X8_put _ K ad (p_X8_answer_s4 σ p1) (48 + ((((p_X8_answer_s4 σ p1).1 6) + 1) - (((p_X8_answer_s4 σ p1).1 6) + 1) / 10 * 10)) ((an_s4 σ p1 c_118 hM).w (by decide) (by decide))) 0 (wcM_0 K ad _) rfl rfl tw_1064 tw_1066 tw_60 tw_72 tw_1067 (by decide +kernel) rfl (by decide) (Nat.le_of_ble_eq_true rfl) dX8_answer_188 _ rfl ?_
              refine wd_aload_n C dX8_answer_191 rfl 0 rfl ?_
              refine wd_bipush (v := 82) C dX8_answer_192 (by decide) ?_
              refine wd_callV C 1 (c_X8_put _ K ad ((p_X8_put (p_X8_answer_s4 σ p1) (48 + ((((p_X8_answer_s4 σ p1).1 6) + 1) - (((p_X8_answer_s4 σ p1).1 6) + 1) / 10 * 10)))) 82 (((an_s4 σ p1 c_118 hM).s (by decide) (by decide)).w (by decide) (by decide))) 0 (wcM_0 K ad _) rfl rfl tw_1064 tw_1066 tw_60 tw_72 tw_1067 (by decide +kernel) rfl (by decide) (Nat.le_of_ble_eq_true rfl) dX8_answer_194 _ rfl ?_
              have e9 : p_X8_answer σ p1 = (p_X8_put ((p_X8_put (p_X8_answer_s4 σ p1) (48 + ((((p_X8_answer_s4 σ p1).1 6) + 1) - (((p_X8_answer_s4 σ p1).1 6) + 1) / 10 * 10)))) 82) := by unfold p_X8_answer; rw [if_pos c_43, if_pos c_118]
              exact hret _ _ _ (by rw [e9] <;> rfl) dX8_answer_197
            refine wd_icmp_le C 175 dX8_answer_156 (by decide) (fun c_156 => ?_) (fun c_156 => ?_)
            · have ej_0 : p_X8_answer_s4 σ p1 = (p_X8_put ((p_X8_put ((p_X8_put ((p_X8_put (p_X8_answer_s1 σ p1) 27)) 91)) (48 + (p_X8_answer_t2 σ p1)))) 59) := by unfold p_X8_answer_s4; rw [if_pos c_156]
              rw [ej_0] at J_156
              exact wd_lv [1, 2, 3, 0] _ rfl J_156
            · refine wd_aload_n C dX8_answer_159 rfl 1 rfl ?_
              refine wd_bipush (v := 48) C dX8_answer_160 (by decide) ?_
              refine wd_aload_n C dX8_answer_162 rfl 1 rfl ?_
              refine gfM_0_6 (x := ((p_X8_put ((p_X8_put ((p_X8_put ((p_X8_put (p_X8_answer_s1 σ p1) 27)) 91)) (48 + (p_X8_answer_t2 σ p1)))) 59)).1 6) C tw_825 rfl dX8_answer_163 ?_
              refine wd_iconst (v := 1) C dX8_answer_166 (by decide) ?_
              refine wd_iadd C dX8_answer_167 ?_
              refine wd_bipush (v := 10) C dX8_answer_168 (by decide) ?_
              refine wd_idiv C dX8_answer_170 (by decide) ?_
              refine wd_iadd C dX8_answer_171 ?_
              refine wd_callV C 1 (c_X8_put _ K ad ((p_X8_put ((p_X8_put ((p_X8_put ((p_X8_put (p_X8_answer_s1 σ p1) 27)) 91)) (48 + (p_X8_answer_t2 σ p1)))) 59)) (48 + (((((p_X8_put ((p_X8_put ((p_X8_put ((p_X8_put (p_X8_answer_s1 σ p1) 27)) 91)) (48 + (p_X8_answer_t2 σ p1)))) 59)).1 6) + 1) / 10)) ((((((an_s1 σ p1 c_118 hM).s (by decide) (by decide)).s (by decide) (by decide)).s (by decide) (by decide)).s (by decide) (by decide)).w (by decide) (by decide))) 0 (wcM_0 K ad _) rfl rfl tw_1064 tw_1066 tw_60 tw_72 tw_1067 (by decide +kernel) rfl (by decide) (Nat.le_of_ble_eq_true rfl) dX8_answer_172 _ rfl ?_
              have ej_0 : p_X8_answer_s4 σ p1 = (p_X8_put ((p_X8_put ((p_X8_put ((p_X8_put ((p_X8_put (p_X8_answer_s1 σ p1) 27)) 91)) (48 + (p_X8_answer_t2 σ p1)))) 59)) (48 + (((((p_X8_put ((p_X8_put ((p_X8_put ((p_X8_put (p_X8_answer_s1 σ p1) 27)) 91)) (48 + (p_X8_answer_t2 σ p1)))) 59)).1 6) + 1) / 10))) := by unfold p_X8_answer_s4; rw [if_neg c_156]
              rw [ej_0] at J_156
              exact wd_lv [1, 2, 3, 0] _ rfl J_156
          · have e9 : p_X8_answer σ p1 = (p_X8_answer_s1 σ p1) := by unfold p_X8_answer; rw [if_pos c_43, if_neg c_118]
            exact hret _ _ _ (by rw [e9] <;> rfl) dX8_answer_121
        refine wd_icmp_le C 107 dX8_answer_100 (by decide) (fun c_100 => ?_) (fun c_100 => ?_)
        · refine wd_iconst (v := 0) C dX8_answer_107 (by decide) ?_
          have ej_0 : p_X8_answer_t3 σ p1 = false := by unfold p_X8_answer_t3; rw [if_pos c_100]
          rw [ej_0] at J_100
          exact wd_lv [1, 2, 0] _ rfl J_100
        · refine wd_iconst (v := 1) C dX8_answer_103 (by decide) ?_
          refine wd_goto C 108 dX8_answer_104 (by decide) ?_
          have ej_0 : p_X8_answer_t3 σ p1 = true := by unfold p_X8_answer_t3; rw [if_neg c_100]
          rw [ej_0] at J_100
          exact wd_lv [1, 2, 0] _ rfl J_100
      refine wd_if_neB (b := (p_X8_answer_s1 σ p1).2.1 11) C 63 dX8_answer_51 (by decide) (fun c_51 => ?_) (fun c_51 => ?_)
      · refine wd_aload_n C dX8_answer_63 rfl 0 rfl ?_
        refine gfM_0_5 (x := (p_X8_answer_s1 σ p1).1 5) C tw_824 rfl dX8_answer_64 ?_
        refine wd_aload_n C dX8_answer_67 rfl 0 rfl ?_
        refine gfM_0_7 (x := (p_X8_answer_s1 σ p1).1 7) C tw_826 rfl dX8_answer_68 ?_
        refine wd_icmp_ge C 78 dX8_answer_71 (by decide) (fun c_71 => ?_) (fun c_71 => ?_)
        · refine wd_aload_n C dX8_answer_78 rfl 0 rfl ?_
          refine gfM_0_5 (x := (p_X8_answer_s1 σ p1).1 5) C tw_824 rfl dX8_answer_79 ?_
          refine wd_aload_n C dX8_answer_82 rfl 0 rfl ?_
          refine gfM_0_7 (x := (p_X8_answer_s1 σ p1).1 7) C tw_826 rfl dX8_answer_83 ?_
          refine wd_isub C dX8_answer_86 ?_
          refine wd_iconst (v := 1) C dX8_answer_87 (by decide) ?_
          refine wd_iadd C dX8_answer_88 ?_
          have ej_0 : p_X8_answer_t2 σ p1 = (((p_X8_answer_s1 σ p1).1 5) - ((p_X8_answer_s1 σ p1).1 7)) + 1 := by unfold p_X8_answer_t2; rw [if_pos c_51, if_pos c_71]
          rw [ej_0] at J_51
          exact wd_lv [0, 1] _ rfl J_51
        · refine wd_iconst (v := 0) C dX8_answer_74 (by decide) ?_
          refine wd_goto C 89 dX8_answer_75 (by decide) ?_
          have ej_0 : p_X8_answer_t2 σ p1 = 0 := by unfold p_X8_answer_t2; rw [if_pos c_51, if_neg c_71]
          rw [ej_0] at J_51
          exact wd_lv [0, 1] _ rfl J_51
      · refine wd_aload_n C dX8_answer_54 rfl 0 rfl ?_
        refine gfM_0_5 (x := (p_X8_answer_s1 σ p1).1 5) C tw_824 rfl dX8_answer_55 ?_
        refine wd_iconst (v := 1) C dX8_answer_58 (by decide) ?_
        refine wd_iadd C dX8_answer_59 ?_
        refine wd_goto C 89 dX8_answer_60 (by decide) ?_
        have ej_0 : p_X8_answer_t2 σ p1 = ((p_X8_answer_s1 σ p1).1 5) + 1 := by unfold p_X8_answer_t2; rw [if_neg c_51]
        rw [ej_0] at J_51
        exact wd_lv [0, 1] _ rfl J_51
    · have e9 : p_X8_answer σ p1 = (p_X8_answer_s1 σ p1) := by unfold p_X8_answer; rw [if_neg c_43]
      exact hret _ _ _ (by rw [e9] <;> rfl) dX8_answer_46
  refine wd_icmp_ne C 40 dX8_answer_2 (by decide) (fun c_2 => ?_) (fun c_2 => ?_)
  · have ej_0 : p_X8_answer_s1 σ p1 = σ := by unfold p_X8_answer_s1; rw [if_neg c_2]
    rw [ej_0] at J_2
    exact wd_lv [0, 1] _ rfl J_2
  · refine wd_aload_n C dX8_answer_5 rfl 0 rfl ?_
    refine gfM_0_28 (x := σ.1 28) C tw_847 rfl dX8_answer_6 ?_
    refine wd_iconst (v := 4) C dX8_answer_9 (by decide) ?_
    refine wd_iadd C dX8_answer_10 ?_
    refine wd_bipush (v := 64) C dX8_answer_11 (by decide) ?_
    refine wd_icmp_gt C 40 dX8_answer_13 (by decide) (fun c_13 => ?_) (fun c_13 => ?_)
    · have ej_0 : p_X8_answer_s1 σ p1 = σ := by unfold p_X8_answer_s1; rw [if_pos c_2, if_pos c_13]
      rw [ej_0] at J_2
      exact wd_lv [0, 1] _ rfl J_2
    · refine wd_aload_n C dX8_answer_16 rfl 0 rfl ?_
      refine wd_bipush (v := 27) C dX8_answer_17 (by decide) ?_
      refine wd_callV C 1 (c_X8_put _ K ad σ 27 ((an_0 σ c_13 hM).w (by decide) (by decide))) 0 (wcM_0 K ad _) rfl rfl tw_1064 tw_1066 tw_60 tw_72 tw_1067 (by decide +kernel) rfl (by decide) (Nat.le_of_ble_eq_true rfl) dX8_answer_19 _ rfl ?_
      refine wd_aload_n C dX8_answer_22 rfl 0 rfl ?_
      refine wd_bipush (v := 91) C dX8_answer_23 (by decide) ?_
      refine wd_callV C 1 (c_X8_put _ K ad (p_X8_put σ 27) 91 (((an_0 σ c_13 hM).s (by decide) (by decide)).w (by decide) (by decide))) 0 (wcM_0 K ad _) rfl rfl tw_1064 tw_1066 tw_60 tw_72 tw_1067 (by decide +kernel) rfl (by decide) (Nat.le_of_ble_eq_true rfl) dX8_answer_25 _ rfl ?_
      refine wd_aload_n C dX8_answer_28 rfl 0 rfl ?_
      refine wd_bipush (v := 48) C dX8_answer_29 (by decide) ?_
      refine wd_callV C 1 (c_X8_put _ K ad ((p_X8_put (p_X8_put σ 27) 91)) 48 ((((an_0 σ c_13 hM).s (by decide) (by decide)).s (by decide) (by decide)).w (by decide) (by decide))) 0 (wcM_0 K ad _) rfl rfl tw_1064 tw_1066 tw_60 tw_72 tw_1067 (by decide +kernel) rfl (by decide) (Nat.le_of_ble_eq_true rfl) dX8_answer_31 _ rfl ?_
      refine wd_aload_n C dX8_answer_34 rfl 0 rfl ?_
      refine wd_bipush (v := 110) C dX8_answer_35 (by decide) ?_
      refine wd_callV C 1 (c_X8_put _ K ad ((p_X8_put ((p_X8_put (p_X8_put σ 27) 91)) 48)) 110 (((((an_0 σ c_13 hM).s (by decide) (by decide)).s (by decide) (by decide)).s (by decide) (by decide)).w (by decide) (by decide))) 0 (wcM_0 K ad _) rfl rfl tw_1064 tw_1066 tw_60 tw_72 tw_1067 (by decide +kernel) rfl (by decide) (Nat.le_of_ble_eq_true rfl) dX8_answer_37 _ rfl ?_
      have ej_0 : p_X8_answer_s1 σ p1 = (p_X8_put ((p_X8_put ((p_X8_put (p_X8_put σ 27) 91)) 48)) 110) := by unfold p_X8_answer_s1; rw [if_pos c_2, if_neg c_13]
      rw [ej_0] at J_2
      exact wd_lv [0, 1] _ rfl J_2
theorem okm_an4 {σ : St} (p1 : Int32) (h : (p_X8_answer_s1 σ p1).1 28 + (6 + b2i (p_X8_answer_t3 σ p1)) ≤ 64) (hM : OkM σ) : OkM (p_X8_answer_s4 σ p1) := by
  unfold p_X8_answer_s4
  have w := an_s1 σ p1 h hM
  have h1 := okm_an1 p1 hM
  have k4 : OkM (p_X8_put ((p_X8_put ((p_X8_put ((p_X8_put (p_X8_answer_s1 σ p1) 27)) 91)) (48 + (p_X8_answer_t2 σ p1)))) 59) := okm_put _ (((((w).s (by decide) (by decide)).s (by decide) (by decide)).s (by decide) (by decide)).w (by decide) (by decide)) (okm_put _ ((((w).s (by decide) (by decide)).s (by decide) (by decide)).w (by decide) (by decide)) (okm_put _ (((w).s (by decide) (by decide)).w (by decide) (by decide)) (okm_put _ ((w).w (by decide) (by decide)) h1)))
  exact okm_ite (fun _ => k4) fun _ => okm_put _ ((((((w).s (by decide) (by decide)).s (by decide) (by decide)).s (by decide) (by decide)).s (by decide) (by decide)).w (by decide) (by decide)) k4
theorem okm_answer {σ : St} (p1 : Int32) (hM : OkM σ) : OkM (p_X8_answer σ p1) := by
  unfold p_X8_answer
  refine okm_ite (fun _ => okm_ite (fun h => ?_) fun _ => okm_an1 p1 hM) fun _ => okm_an1 p1 hM
  have w := an_s4 σ p1 h hM
  exact okm_put _ (((w).s (by decide) (by decide)).w (by decide) (by decide)) (okm_put _ ((w).w (by decide) (by decide)) (okm_an4 p1 h hM))
