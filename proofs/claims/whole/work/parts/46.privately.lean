theorem keptm6 (σ : St) : (p_X8_kept σ).toInt ≤ 6 := by
  unfold p_X8_kept p_X8_kept_t1
  by_cases h : 6 ≤ σ.1 37
  · rw [if_pos h]; decide
  · rw [if_neg h]; rw [ti_le] at h; have z : (6 : Int32).toInt = 6 := (by decide); omega
theorem num_in {s : St} {x : Int32} (h : ¬ p_X8_kept s ≤ x) (h0 : 0 ≤ x.toInt) : vp_in x 6 := by
  rw [ti_le] at h
  have k := keptm6 s
  exact vp_in_iff.mpr (by omega)
theorem okm_numbers {σ : St} (hM : OkM σ) : ∀ i : Nat, i < 6 → R2 0 9999 (σ.2.2 8 i) := hM.2.2.2.2.2.2.2.2.2.2.2
def p_X8_privately_t1 (σ : St) (p1 : Int32) : Bool := (if p1 = 104 then true else false)
def p_X8_privately_s2 (σ : St) (p1 : Int32) (s : St) (x3 : Int32) : St := (if s.2.2 8 (x3 : Int32).toNatClampNeg = 6 then (p_X8_home (sb s 11 (p_X8_privately_t1 σ p1)) 1 0) else s)
def p_X8_privately_s3 (σ : St) (p1 : Int32) (s : St) (x3 : Int32) : St := (if ((p_X8_privately_s2 σ p1 s x3).2.2 8) (x3 : Int32).toNatClampNeg = 7 then sb (p_X8_privately_s2 σ p1 s x3) 12 (p_X8_privately_t1 σ p1) else (p_X8_privately_s2 σ p1 s x3))
def p_X8_privately_s4 (σ : St) (p1 : Int32) (s : St) (x3 : Int32) : St := (if ((p_X8_privately_s3 σ p1 s x3).2.2 8) (x3 : Int32).toNatClampNeg = 47 then (if (p_X8_privately_t1 σ p1) = true then (if (p_X8_privately_s3 σ p1 s x3).1 4 = 0 then (p_X8_clear (si (p_X8_privately_s3 σ p1 s x3) 4 1) 0 95) else (p_X8_privately_s3 σ p1 s x3)) else (p_X8_privately_s3 σ p1 s x3)) else (p_X8_privately_s3 σ p1 s x3))
def p_X8_privately_s5 (σ : St) (p1 : Int32) (s : St) (x3 : Int32) : St := (if ((p_X8_privately_s4 σ p1 s x3).2.2 8) (x3 : Int32).toNatClampNeg = 47 then (if (p_X8_privately_t1 σ p1) = true then (p_X8_privately_s4 σ p1 s x3) else si (p_X8_privately_s4 σ p1 s x3) 4 0) else (p_X8_privately_s4 σ p1 s x3))
def p_X8_privately_l6 (σ : St) (p1 : Int32) : Nat → St → Int32 → St × Int32
  | 0, s, x3 => (s, x3)
  | n + 1, s, x3 => (if (p_X8_kept s) ≤ x3 then (s, x3) else p_X8_privately_l6 σ p1 n (p_X8_privately_s5 σ p1 s x3) (x3 + 1))
def p_X8_privately_r1 (σ : St) (p1 : Int32) : St := (p_X8_privately_l6 σ p1 6 σ 0).1
def p_X8_privately (σ : St) (p1 : Int32) : St := (if p1 = 104 then p_X8_privately_r1 σ p1 else (if p1 = 108 then p_X8_privately_r1 σ p1 else σ))
theorem okm_pv2 (σ : St) (p1 : Int32) {s : St} (x3 : Int32) (h : OkM s) : OkM (p_X8_privately_s2 σ p1 s x3) := by
  unfold p_X8_privately_s2
  exact okm_ite (fun _ => okm_home (R2.lit 1 (by decide)) (R2.lit 0 (by decide)) (okm_sb _ _ h)) fun _ => h
theorem okm_pv3 (σ : St) (p1 : Int32) {s : St} (x3 : Int32) (h : OkM s) : OkM (p_X8_privately_s3 σ p1 s x3) := by
  unfold p_X8_privately_s3
  exact okm_ite (fun _ => okm_sb _ _ (okm_pv2 σ p1 x3 h)) fun _ => okm_pv2 σ p1 x3 h
theorem okm_pv4 (σ : St) (p1 : Int32) {s : St} (x3 : Int32) (h : OkM s) : OkM (p_X8_privately_s4 σ p1 s x3) := by
  unfold p_X8_privately_s4
  have h3 := okm_pv3 σ p1 x3 h
  exact okm_ite (fun _ => okm_ite (fun _ => okm_ite (fun _ => okm_fr (fr_clear _ _ _) (okm_pg (R2.lit 1 (by decide)) h3)) fun _ => h3) fun _ => h3) fun _ => h3
theorem okm_pv5 (σ : St) (p1 : Int32) {s : St} (x3 : Int32) (h : OkM s) : OkM (p_X8_privately_s5 σ p1 s x3) := by
  unfold p_X8_privately_s5
  have h4 := okm_pv4 σ p1 x3 h
  exact okm_ite (fun _ => okm_ite (fun _ => h4) fun _ => okm_pg (R2.lit 0 (by decide)) h4) fun _ => h4
set_option maxHeartbeats 4000000 in
set_option maxRecDepth 100000 in
theorem c_X8_privately (l : Launch) (K : KX) (ad : Nat → Nat) (σ : St) (p1 : Int32) (hM : OkM σ) : Mt l K yX8_privately cX8_privately 4 none { frames := 2, cells := 0, slots := 0, locals := 45 } [.ref (ad 0), .int p1] (WdM K ad σ) none (WdM K ad (p_X8_privately σ p1)) := by
  refine Mt.v (by decide +kernel) (Nat.le_of_ble_eq_true rfl) (fun X C hret => ?_)
  show WD X K 4 0 0 (WdM K ad σ) [(0, .ref (ad 0)), (1, .int p1)] 0 []
  refine wd_iload_n C dX8_privately_0 rfl 1 rfl ?_
  refine wd_bipush (v := 104) C dX8_privately_1 (by decide) ?_
  have J_3 : p_X8_privately σ p1 = p_X8_privately_r1 σ p1 → WD X K 4 0 0 (WdM K ad σ) [(0, .ref (ad 0)), (1, .int p1)] 13 [] := by
    intro hJ_3
    refine wd_iload_n C dX8_privately_13 rfl 1 rfl ?_
    refine wd_bipush (v := 104) C dX8_privately_14 (by decide) ?_
    have J_16 : WD X K 4 0 0 (WdM K ad σ) [(0, .ref (ad 0)), (1, .int p1)] 24 [.int (b2i (p_X8_privately_t1 σ p1))] := by
      refine wd_istore_n C [(2, .int (b2i (p_X8_privately_t1 σ p1))), (0, .ref (ad 0)), (1, .int p1)] dX8_privately_24 rfl (by decide) rfl ?_
      refine wd_iconst (v := 0) C dX8_privately_25 (by decide) ?_
      refine wd_istore_n C [(3, .int 0), (2, .int (b2i (p_X8_privately_t1 σ p1))), (0, .ref (ad 0)), (1, .int p1)] dX8_privately_26 rfl (by decide) rfl ?_
      have J_27 : WD X K 4 0 0 (WdM K ad ((p_X8_privately_l6 σ p1 6 σ 0).1)) [(0, .ref (ad 0)), (1, .int p1), (2, .int (b2i (p_X8_privately_t1 σ p1))), (3, .int ((p_X8_privately_l6 σ p1 6 σ 0).2))] 133 [] := by
        have e9 : p_X8_privately σ p1 = (p_X8_privately_l6 σ p1 6 σ 0).1 := by rw [hJ_3]; rfl
        exact hret _ _ _ (by rw [e9] <;> rfl) dX8_privately_133
      have L_27 : ∀ (n : Nat) (s : St) (x3 : Int32), p_X8_privately_l6 σ p1 n s x3 = p_X8_privately_l6 σ p1 6 σ 0 → 0 ≤ x3.toInt ∧ 6 - x3.toInt ≤ (n : Int) ∧ OkM s → WD X K 4 0 0 (WdM K ad s) [(0, .ref (ad 0)), (1, .int p1), (2, .int (b2i (p_X8_privately_t1 σ p1))), (3, .int x3)] 27 [] := by
        intro n
        induction n with
        | zero =>
          intro s x3 hE hI
          refine wd_iload_n C dX8_privately_27 rfl 3 rfl ?_
          refine wd_aload_n C dX8_privately_28 rfl 0 rfl ?_
          refine wd_callV C 0 (c_X8_kept _ K ad s) 0 (wcM_0 K ad _) rfl rfl tw_1018 tw_1020 tw_50 tw_72 tw_1021 (by decide +kernel) rfl (by decide) (Nat.le_of_ble_eq_true rfl) dX8_privately_29 _ rfl ?_
          refine wd_icmp_ge C 133 dX8_privately_32 (by decide) (fun c_32 => ?_) (fun c_32 => ?_)
          · have eL := hE
            rw [p_X8_privately_l6] at eL
            rw [← eL] at J_27
            exact wd_lv [0, 1, 2, 3] _ rfl J_27
          · exact absurd (ti_le.mpr (by have h2 := hI.2.1; have k6 := keptm6 s; omega)) c_32
        | succ n ih =>
          intro s x3 hE hI
          refine wd_iload_n C dX8_privately_27 rfl 3 rfl ?_
          refine wd_aload_n C dX8_privately_28 rfl 0 rfl ?_
          refine wd_callV C 0 (c_X8_kept _ K ad s) 0 (wcM_0 K ad _) rfl rfl tw_1018 tw_1020 tw_50 tw_72 tw_1021 (by decide +kernel) rfl (by decide) (Nat.le_of_ble_eq_true rfl) dX8_privately_29 _ rfl ?_
          refine wd_icmp_ge C 133 dX8_privately_32 (by decide) (fun c_32 => ?_) (fun c_32 => ?_)
          · have eL := hE
            rw [p_X8_privately_l6, if_pos c_32] at eL
            rw [← eL] at J_27
            exact wd_lv [0, 1, 2, 3] _ rfl J_27
          · refine wd_aload_n C dX8_privately_35 rfl 0 rfl ?_
            refine gfM_0_36 C tw_855 dX8_privately_36 ?_
            refine wd_iload_n C dX8_privately_39 rfl 3 rfl ?_
            refine alM_9 (x := s.2.2 8 (x3 : Int32).toNatClampNeg) C (num_in c_32 hI.1) rfl dX8_privately_40 ?_
            refine wd_bipush (v := 6) C dX8_privately_41 (by decide) ?_
            have J_43 : WD X K 4 0 0 (WdM K ad (p_X8_privately_s2 σ p1 s x3)) [(0, .ref (ad 0)), (1, .int p1), (2, .int (b2i (p_X8_privately_t1 σ p1))), (3, .int x3)] 57 [] := by
              refine wd_aload_n C dX8_privately_57 rfl 0 rfl ?_
              refine gfM_0_36 C tw_855 dX8_privately_58 ?_
              refine wd_iload_n C dX8_privately_61 rfl 3 rfl ?_
              refine alM_9 (x := ((p_X8_privately_s2 σ p1 s x3).2.2 8) (x3 : Int32).toNatClampNeg) C (num_in c_32 hI.1) rfl dX8_privately_62 ?_
              refine wd_bipush (v := 7) C dX8_privately_63 (by decide) ?_
              have J_65 : WD X K 4 0 0 (WdM K ad (p_X8_privately_s3 σ p1 s x3)) [(0, .ref (ad 0)), (1, .int p1), (2, .int (b2i (p_X8_privately_t1 σ p1))), (3, .int x3)] 73 [] := by
                refine wd_aload_n C dX8_privately_73 rfl 0 rfl ?_
                refine gfM_0_36 C tw_855 dX8_privately_74 ?_
                refine wd_iload_n C dX8_privately_77 rfl 3 rfl ?_
                refine alM_9 (x := ((p_X8_privately_s3 σ p1 s x3).2.2 8) (x3 : Int32).toNatClampNeg) C (num_in c_32 hI.1) rfl dX8_privately_78 ?_
                refine wd_bipush (v := 47) C dX8_privately_79 (by decide) ?_
                have J_81 : WD X K 4 0 0 (WdM K ad (p_X8_privately_s4 σ p1 s x3)) [(0, .ref (ad 0)), (1, .int p1), (2, .int (b2i (p_X8_privately_t1 σ p1))), (3, .int x3)] 107 [] := by
                  refine wd_aload_n C dX8_privately_107 rfl 0 rfl ?_
                  refine gfM_0_36 C tw_855 dX8_privately_108 ?_
                  refine wd_iload_n C dX8_privately_111 rfl 3 rfl ?_
                  refine alM_9 (x := ((p_X8_privately_s4 σ p1 s x3).2.2 8) (x3 : Int32).toNatClampNeg) C (num_in c_32 hI.1) rfl dX8_privately_112 ?_
                  refine wd_bipush (v := 47) C dX8_privately_113 (by decide) ?_
                  have J_115 : WD X K 4 0 0 (WdM K ad (p_X8_privately_s5 σ p1 s x3)) [(0, .ref (ad 0)), (1, .int p1), (2, .int (b2i (p_X8_privately_t1 σ p1))), (3, .int x3)] 127 [] := by
                    refine wd_iinc (v := x3 + 1) C [(3, .int (x3 + 1)), (0, .ref (ad 0)), (1, .int p1), (2, .int (b2i (p_X8_privately_t1 σ p1)))] dX8_privately_127 3 rfl (by rfl) (by decide) rfl ?_
                    refine wd_goto C 27 dX8_privately_130 (by decide) ?_
                    have eL := hE
                    rw [p_X8_privately_l6, if_neg c_32] at eL
                    exact wd_lv [1, 2, 3, 0] _ rfl (ih (p_X8_privately_s5 σ p1 s x3) (x3 + 1) eL (by have h0 : ¬ (p_X8_kept s).toInt ≤ x3.toInt := (fun z => c_32 (ti_le.mpr z)); have k6 := keptm6 s; have h1 := hI.1; have h2 := hI.2.1; have z1 : (1 : Int32).toInt = 1 := (by decide); have e1 := ti_add (a := x3) (b := 1) (by omega) (by omega); exact ⟨by omega, by omega, okm_pv5 σ p1 x3 hI.2.2⟩))
                  refine wd_icmp_ne C 127 dX8_privately_115 (by decide) (fun c_115 => ?_) (fun c_115 => ?_)
                  · have ej_0 : p_X8_privately_s5 σ p1 s x3 = (p_X8_privately_s4 σ p1 s x3) := by unfold p_X8_privately_s5; rw [if_neg c_115]
                    rw [ej_0] at J_115
                    exact wd_lv [0, 1, 2, 3] _ rfl J_115
                  · refine wd_iload_n C dX8_privately_118 rfl 2 rfl ?_
                    refine wd_if_neB (b := (p_X8_privately_t1 σ p1)) C 127 dX8_privately_119 (by decide) (fun c_119 => ?_) (fun c_119 => ?_)
                    · have ej_0 : p_X8_privately_s5 σ p1 s x3 = (p_X8_privately_s4 σ p1 s x3) := by unfold p_X8_privately_s5; rw [if_pos c_115, if_pos c_119]
                      rw [ej_0] at J_115
                      exact wd_lv [0, 1, 2, 3] _ rfl J_115
                    · refine wd_aload_n C dX8_privately_122 rfl 0 rfl ?_
                      refine wd_iconst (v := 0) C dX8_privately_123 (by decide) ?_
                      refine pfM_0_4 C tw_823 0 dX8_privately_124 ?_
                      have ej_0 : p_X8_privately_s5 σ p1 s x3 = si (p_X8_privately_s4 σ p1 s x3) 4 0 := by unfold p_X8_privately_s5; rw [if_pos c_115, if_neg c_119]
                      rw [ej_0] at J_115
                      exact wd_lv [0, 1, 2, 3] _ rfl J_115
                refine wd_icmp_ne C 107 dX8_privately_81 (by decide) (fun c_81 => ?_) (fun c_81 => ?_)
                · have ej_0 : p_X8_privately_s4 σ p1 s x3 = (p_X8_privately_s3 σ p1 s x3) := by unfold p_X8_privately_s4; rw [if_neg c_81]
                  rw [ej_0] at J_81
                  exact wd_lv [0, 1, 2, 3] _ rfl J_81
                · refine wd_iload_n C dX8_privately_84 rfl 2 rfl ?_
                  refine wd_if_eqB (b := (p_X8_privately_t1 σ p1)) C 107 dX8_privately_85 (by decide) (fun c_85 => ?_) (fun c_85 => ?_)
                  · have ej_0 : p_X8_privately_s4 σ p1 s x3 = (p_X8_privately_s3 σ p1 s x3) := by unfold p_X8_privately_s4; rw [if_pos c_81, if_neg c_85]
                    rw [ej_0] at J_81
                    exact wd_lv [0, 1, 2, 3] _ rfl J_81
                  · refine wd_aload_n C dX8_privately_88 rfl 0 rfl ?_
                    refine gfM_0_4 (x := (p_X8_privately_s3 σ p1 s x3).1 4) C tw_823 rfl dX8_privately_89 ?_
                    refine wd_if_ne C 107 dX8_privately_92 (by decide) (fun c_92 => ?_) (fun c_92 => ?_)
                    · have ej_0 : p_X8_privately_s4 σ p1 s x3 = (p_X8_privately_s3 σ p1 s x3) := by unfold p_X8_privately_s4; rw [if_pos c_81, if_pos c_85, if_neg c_92]
                      rw [ej_0] at J_81
                      exact wd_lv [0, 1, 2, 3] _ rfl J_81
                    · refine wd_aload_n C dX8_privately_95 rfl 0 rfl ?_
                      refine wd_iconst (v := 1) C dX8_privately_96 (by decide) ?_
                      refine pfM_0_4 C tw_823 1 dX8_privately_97 ?_
                      refine wd_aload_n C dX8_privately_100 rfl 0 rfl ?_
                      refine wd_iconst (v := 0) C dX8_privately_101 (by decide) ?_
                      refine wd_bipush (v := 95) C dX8_privately_102 (by decide) ?_
                      refine wd_callV C 2 (c_X8_clear _ K ad (si (p_X8_privately_s3 σ p1 s x3) 4 1) 0 95 (R2.lit 1 (by decide)) (by decide) (by decide)) 0 (wcM_0 K ad _) rfl rfl tw_1029 tw_1031 tw_52 tw_72 tw_1032 (by decide +kernel) rfl (by decide) (Nat.le_of_ble_eq_true rfl) dX8_privately_104 _ rfl ?_
                      have ej_0 : p_X8_privately_s4 σ p1 s x3 = (p_X8_clear (si (p_X8_privately_s3 σ p1 s x3) 4 1) 0 95) := by unfold p_X8_privately_s4; rw [if_pos c_81, if_pos c_85, if_pos c_92]
                      rw [ej_0] at J_81
                      exact wd_lv [0, 1, 2, 3] _ rfl J_81
              refine wd_icmp_ne C 73 dX8_privately_65 (by decide) (fun c_65 => ?_) (fun c_65 => ?_)
              · have ej_0 : p_X8_privately_s3 σ p1 s x3 = (p_X8_privately_s2 σ p1 s x3) := by unfold p_X8_privately_s3; rw [if_neg c_65]
                rw [ej_0] at J_65
                exact wd_lv [0, 1, 2, 3] _ rfl J_65
              · refine wd_aload_n C dX8_privately_68 rfl 0 rfl ?_
                refine wd_iload_n C dX8_privately_69 rfl 2 rfl ?_
                refine pfM_0_12 C tw_831 (p_X8_privately_t1 σ p1) dX8_privately_70 ?_
                have ej_0 : p_X8_privately_s3 σ p1 s x3 = sb (p_X8_privately_s2 σ p1 s x3) 12 (p_X8_privately_t1 σ p1) := by unfold p_X8_privately_s3; rw [if_pos c_65]
                rw [ej_0] at J_65
                exact wd_lv [0, 1, 2, 3] _ rfl J_65
            refine wd_icmp_ne C 57 dX8_privately_43 (by decide) (fun c_43 => ?_) (fun c_43 => ?_)
            · have ej_0 : p_X8_privately_s2 σ p1 s x3 = s := by unfold p_X8_privately_s2; rw [if_neg c_43]
              rw [ej_0] at J_43
              exact wd_lv [0, 1, 2, 3] _ rfl J_43
            · refine wd_aload_n C dX8_privately_46 rfl 0 rfl ?_
              refine wd_iload_n C dX8_privately_47 rfl 2 rfl ?_
              refine pfM_0_11 C tw_830 (p_X8_privately_t1 σ p1) dX8_privately_48 ?_
              refine wd_aload_n C dX8_privately_51 rfl 0 rfl ?_
              refine wd_iconst (v := 1) C dX8_privately_52 (by decide) ?_
              refine wd_iconst (v := 0) C dX8_privately_53 (by decide) ?_
              refine wd_callV C 2 (c_X8_home _ K ad (sb s 11 (p_X8_privately_t1 σ p1)) 1 0) 0 (wcM_0 K ad _) rfl rfl tw_1022 tw_1024 tw_51 tw_72 tw_1025 (by decide +kernel) rfl (by decide) (Nat.le_of_ble_eq_true rfl) dX8_privately_54 _ rfl ?_
              have ej_0 : p_X8_privately_s2 σ p1 s x3 = (p_X8_home (sb s 11 (p_X8_privately_t1 σ p1)) 1 0) := by unfold p_X8_privately_s2; rw [if_pos c_43]
              rw [ej_0] at J_43
              exact wd_lv [0, 1, 2, 3] _ rfl J_43
      exact wd_lv [2, 3, 1, 0] _ rfl (L_27 6 σ 0 rfl (⟨by decide, by decide, hM⟩))
    refine wd_icmp_ne C 23 dX8_privately_16 (by decide) (fun c_16 => ?_) (fun c_16 => ?_)
    · refine wd_iconst (v := 0) C dX8_privately_23 (by decide) ?_
      have ej_0 : p_X8_privately_t1 σ p1 = false := by unfold p_X8_privately_t1; rw [if_neg c_16]
      rw [ej_0] at J_16
      exact wd_lv [0, 1] _ rfl J_16
    · refine wd_iconst (v := 1) C dX8_privately_19 (by decide) ?_
      refine wd_goto C 24 dX8_privately_20 (by decide) ?_
      have ej_0 : p_X8_privately_t1 σ p1 = true := by unfold p_X8_privately_t1; rw [if_pos c_16]
      rw [ej_0] at J_16
      exact wd_lv [0, 1] _ rfl J_16
  refine wd_icmp_eq C 13 dX8_privately_3 (by decide) (fun c_3 => ?_) (fun c_3 => ?_)
  · have J_3e := J_3 (by unfold p_X8_privately; rw [if_pos c_3])
    exact wd_lv [0, 1] _ rfl J_3e
  · refine wd_iload_n C dX8_privately_6 rfl 1 rfl ?_
    refine wd_bipush (v := 108) C dX8_privately_7 (by decide) ?_
    refine wd_icmp_eq C 13 dX8_privately_9 (by decide) (fun c_9 => ?_) (fun c_9 => ?_)
    · have J_3e := J_3 (by unfold p_X8_privately; rw [if_neg c_3, if_pos c_9])
      exact wd_lv [0, 1] _ rfl J_3e
    · have e9 : p_X8_privately σ p1 = σ := by unfold p_X8_privately; rw [if_neg c_3, if_neg c_9]
      exact hret _ _ _ (by rw [e9] <;> rfl) dX8_privately_12
theorem okm_pvl (σ : St) (p1 : Int32) : ∀ (n : Nat) (s : St) (x : Int32), OkM s → OkM (p_X8_privately_l6 σ p1 n s x).1 := by
  intro n
  induction n with
  | zero => intro s x h; exact h
  | succ n ih =>
    intro s x h
    rw [p_X8_privately_l6]
    by_cases hc : p_X8_kept s ≤ x
    · rw [if_pos hc]; exact h
    · rw [if_neg hc]; exact ih _ _ (okm_pv5 σ p1 x h)
theorem okm_privately {σ : St} (p1 : Int32) (hM : OkM σ) : OkM (p_X8_privately σ p1) := by
  unfold p_X8_privately p_X8_privately_r1
  exact okm_ite (fun _ => okm_pvl σ p1 _ _ _ hM) fun _ => okm_ite (fun _ => okm_pvl σ p1 _ _ _ hM) fun _ => hM
