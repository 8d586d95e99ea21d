def p_X8_take_s1 (σ : St) (p1 : Int32) : St := (if σ.1 24 = 0 then (if σ.1 33 ≤ 0 then σ else (if p1 < 128 then (p_X8_print (si σ 33 0) 65533) else (if 191 < p1 then (p_X8_print (si σ 33 0) 65533) else σ))) else σ)
def p_X8_take_s2 (σ : St) (p1 : Int32) : St := (if 32 ≤ p1 then (if (p_X8_take_s1 σ p1).1 24 = 0 then (p_X8_letterByte (p_X8_take_s1 σ p1) p1) else (if 128 ≤ p1 then (p_X8_take_s1 σ p1) else (p_X8_sequenceByte (p_X8_take_s1 σ p1) p1))) else (if (p_X8_take_s1 σ p1).1 24 = 4 then (if (p_X8_take_s1 σ p1).1 24 = 0 then (p_X8_letterByte (p_X8_take_s1 σ p1) p1) else (if 128 ≤ p1 then (p_X8_take_s1 σ p1) else (p_X8_sequenceByte (p_X8_take_s1 σ p1) p1))) else (p_X8_control (p_X8_take_s1 σ p1) p1)))
def p_X8_take_r1 (σ : St) (p1 : Int32) : St := (if p1 = 24 then si (p_X8_take_s1 σ p1) 24 0 else (if p1 = 26 then si (p_X8_take_s1 σ p1) 24 0 else (if p1 = 27 then si (p_X8_take_s1 σ p1) 24 1 else (if p1 = 127 then (p_X8_take_s1 σ p1) else (p_X8_take_s2 σ p1)))))
def p_X8_take (σ : St) (p1 : Int32) : St := (if σ.1 24 = 0 then (if σ.1 33 ≤ 0 then p_X8_take_r1 σ p1 else (if p1 < 128 then p_X8_take_r1 σ p1 else (if 191 < p1 then p_X8_take_r1 σ p1 else (p_X8_further σ p1)))) else p_X8_take_r1 σ p1)
theorem okm_tk1 {σ : St} (p1 : Int32) (hM : OkM σ) : OkM (p_X8_take_s1 σ p1) := by
  unfold p_X8_take_s1
  have h : OkM (p_X8_print (si σ 33 0) 65533) := okm_print _ (okm_si _ _ (by decide) hM)
  exact okm_ite (fun _ => okm_ite (fun _ => hM) fun _ => okm_ite (fun _ => h) fun _ => okm_ite (fun _ => h) fun _ => hM) fun _ => hM
set_option maxHeartbeats 4000000 in
set_option maxRecDepth 100000 in
theorem c_X8_take (l : Launch) (K : KX) (ad : Nat → Nat) (σ : St) (p1 : Int32) (hM : OkM σ) : Mt l K yX8_take cX8_take 2 none { frames := 9, cells := 0, slots := 0, locals := 204 } [.ref (ad 0), .int p1] (WdM K ad σ) none (WdM K ad (p_X8_take σ p1)) := by
  refine Mt.v (by decide +kernel) (Nat.le_of_ble_eq_true rfl) (fun X C hret => ?_)
  show WD X K 2 0 0 (WdM K ad σ) [(0, .ref (ad 0)), (1, .int p1)] 0 []
  refine wd_aload_n C dX8_take_0 rfl 0 rfl ?_
  refine gfM_0_24 (x := σ.1 24) C tw_843 rfl dX8_take_1 ?_
  have J_4 : p_X8_take σ p1 = p_X8_take_r1 σ p1 → WD X K 2 0 0 (WdM K ad (p_X8_take_s1 σ p1)) [(0, .ref (ad 0)), (1, .int p1)] 45 [] := by
    intro hJ_4
    refine wd_iload_n C dX8_take_45 rfl 1 rfl ?_
    refine wd_bipush (v := 24) C dX8_take_46 (by decide) ?_
    refine wd_icmp_eq C 57 dX8_take_48 (by decide) (fun c_48 => ?_) (fun c_48 => ?_)
    · refine wd_aload_n C dX8_take_57 rfl 0 rfl ?_
      refine wd_iconst (v := 0) C dX8_take_58 (by decide) ?_
      refine pfM_0_24 C tw_843 0 dX8_take_59 ?_
      refine wd_goto C 135 dX8_take_62 (by decide) ?_
      have e9 : p_X8_take σ p1 = si (p_X8_take_s1 σ p1) 24 0 := by rw [hJ_4]; unfold p_X8_take_r1; rw [if_pos c_48]
      exact hret _ _ _ (by rw [e9] <;> rfl) dX8_take_135
    · refine wd_iload_n C dX8_take_51 rfl 1 rfl ?_
      refine wd_bipush (v := 26) C dX8_take_52 (by decide) ?_
      refine wd_icmp_ne C 65 dX8_take_54 (by decide) (fun c_54 => ?_) (fun c_54 => ?_)
      · refine wd_iload_n C dX8_take_65 rfl 1 rfl ?_
        refine wd_bipush (v := 27) C dX8_take_66 (by decide) ?_
        refine wd_icmp_ne C 79 dX8_take_68 (by decide) (fun c_68 => ?_) (fun c_68 => ?_)
        · refine wd_iload_n C dX8_take_79 rfl 1 rfl ?_
          refine wd_bipush (v := 127) C dX8_take_80 (by decide) ?_
          refine wd_icmp_ne C 86 dX8_take_82 (by decide) (fun c_82 => ?_) (fun c_82 => ?_)
          · refine wd_iload_n C dX8_take_86 rfl 1 rfl ?_
            refine wd_bipush (v := 32) C dX8_take_87 (by decide) ?_
            have J_89 : WD X K 2 0 0 (WdM K ad (p_X8_take_s2 σ p1)) [(0, .ref (ad 0)), (1, .int p1)] 135 [] := by
              have e9 : p_X8_take σ p1 = (p_X8_take_s2 σ p1) := by rw [hJ_4]; unfold p_X8_take_r1; rw [if_neg c_48, if_neg c_54, if_neg c_68, if_neg c_82]
              exact hret _ _ _ (by rw [e9] <;> rfl) dX8_take_135
            refine wd_icmp_ge C 108 dX8_take_89 (by decide) (fun c_89 => ?_) (fun c_89 => ?_)
            · refine wd_aload_n C dX8_take_108 rfl 0 rfl ?_
              refine gfM_0_24 (x := (p_X8_take_s1 σ p1).1 24) C tw_843 rfl dX8_take_109 ?_
              refine wd_if_ne C 123 dX8_take_112 (by decide) (fun c_112 => ?_) (fun c_112 => ?_)
              · refine wd_iload_n C dX8_take_123 rfl 1 rfl ?_
                refine wd_sipush (v := 128) C dX8_take_124 (by decide) ?_
                refine wd_icmp_ge C 135 dX8_take_127 (by decide) (fun c_127 => ?_) (fun c_127 => ?_)
                · have ej_0 : p_X8_take_s2 σ p1 = (p_X8_take_s1 σ p1) := by unfold p_X8_take_s2; rw [if_pos c_89, if_neg c_112, if_pos c_127]
                  rw [ej_0] at J_89
                  exact wd_lv [0, 1] _ rfl J_89
                · refine wd_aload_n C dX8_take_130 rfl 0 rfl ?_
                  refine wd_iload_n C dX8_take_131 rfl 1 rfl ?_
                  refine wd_callV C 1 (c_X8_sequenceByte _ K ad (p_X8_take_s1 σ p1) p1 (okm_tk1 p1 hM)) 0 (wcM_0 K ad _) rfl rfl tw_994 tw_996 tw_44 tw_72 tw_997 (by decide +kernel) rfl (by decide) (Nat.le_of_ble_eq_true rfl) dX8_take_132 _ rfl ?_
                  have ej_0 : p_X8_take_s2 σ p1 = (p_X8_sequenceByte (p_X8_take_s1 σ p1) p1) := by unfold p_X8_take_s2; rw [if_pos c_89, if_neg c_112, if_neg c_127]
                  rw [ej_0] at J_89
                  exact wd_lv [0, 1] _ rfl J_89
              · refine wd_aload_n C dX8_take_115 rfl 0 rfl ?_
                refine wd_iload_n C dX8_take_116 rfl 1 rfl ?_
                refine wd_callV C 1 (c_X8_letterByte _ K ad (p_X8_take_s1 σ p1) p1 (okm_tk1 p1 hM)) 0 (wcM_0 K ad _) rfl rfl tw_990 tw_992 tw_43 tw_72 tw_993 (by decide +kernel) rfl (by decide) (Nat.le_of_ble_eq_true rfl) dX8_take_117 _ rfl ?_
                refine wd_goto C 135 dX8_take_120 (by decide) ?_
                have ej_0 : p_X8_take_s2 σ p1 = (p_X8_letterByte (p_X8_take_s1 σ p1) p1) := by unfold p_X8_take_s2; rw [if_pos c_89, if_pos c_112]
                rw [ej_0] at J_89
                exact wd_lv [0, 1] _ rfl J_89
            · refine wd_aload_n C dX8_take_92 rfl 0 rfl ?_
              refine gfM_0_24 (x := (p_X8_take_s1 σ p1).1 24) C tw_843 rfl dX8_take_93 ?_
              refine wd_iconst (v := 4) C dX8_take_96 (by decide) ?_
              refine wd_icmp_eq C 108 dX8_take_97 (by decide) (fun c_97 => ?_) (fun c_97 => ?_)
              · refine wd_aload_n C dX8_take_108 rfl 0 rfl ?_
                refine gfM_0_24 (x := (p_X8_take_s1 σ p1).1 24) C tw_843 rfl dX8_take_109 ?_
                refine wd_if_ne C 123 dX8_take_112 (by decide) (fun c_112 => ?_) (fun c_112 => ?_)
                · refine wd_iload_n C dX8_take_123 rfl 1 rfl ?_
                  refine wd_sipush (v := 128) C dX8_take_124 (by decide) ?_
                  refine wd_icmp_ge C 135 dX8_take_127 (by decide) (fun c_127 => ?_) (fun c_127 => ?_)
                  · have ej_0 : p_X8_take_s2 σ p1 = (p_X8_take_s1 σ p1) := by unfold p_X8_take_s2; rw [if_neg c_89, if_pos c_97, if_neg c_112, if_pos c_127]
                    rw [ej_0] at J_89
                    exact wd_lv [0, 1] _ rfl J_89
                  · refine wd_aload_n C dX8_take_130 rfl 0 rfl ?_
                    refine wd_iload_n C dX8_take_131 rfl 1 rfl ?_
                    refine wd_callV C 1 (c_X8_sequenceByte _ K ad (p_X8_take_s1 σ p1) p1 (okm_tk1 p1 hM)) 0 (wcM_0 K ad _) rfl rfl tw_994 tw_996 tw_44 tw_72 tw_997 (by decide +kernel) rfl (by decide) (Nat.le_of_ble_eq_true rfl) dX8_take_132 _ rfl ?_
                    have ej_0 : p_X8_take_s2 σ p1 = (p_X8_sequenceByte (p_X8_take_s1 σ p1) p1) := by unfold p_X8_take_s2; rw [if_neg c_89, if_pos c_97, if_neg c_112, if_neg c_127]
                    rw [ej_0] at J_89
                    exact wd_lv [0, 1] _ rfl J_89
                · refine wd_aload_n C dX8_take_115 rfl 0 rfl ?_
                  refine wd_iload_n C dX8_take_116 rfl 1 rfl ?_
                  refine wd_callV C 1 (c_X8_letterByte _ K ad (p_X8_take_s1 σ p1) p1 (okm_tk1 p1 hM)) 0 (wcM_0 K ad _) rfl rfl tw_990 tw_992 tw_43 tw_72 tw_993 (by decide +kernel) rfl (by decide) (Nat.le_of_ble_eq_true rfl) dX8_take_117 _ rfl ?_
                  refine wd_goto C 135 dX8_take_120 (by decide) ?_
                  have ej_0 : p_X8_take_s2 σ p1 = (p_X8_letterByte (p_X8_take_s1 σ p1) p1) := by unfold p_X8_take_s2; rw [if_neg c_89, if_pos c_97, if_pos c_112]
                  rw [ej_0] at J_89
                  exact wd_lv [0, 1] _ rfl J_89
              · refine wd_aload_n C dX8_take_100 rfl 0 rfl ?_
                refine wd_iload_n C dX8_take_101 rfl 1 rfl ?_
                refine wd_callV C 1 (c_X8_control _ K ad (p_X8_take_s1 σ p1) p1 (okm_tk1 p1 hM)) 0 (wcM_0 K ad _) rfl rfl tw_986 tw_988 tw_42 tw_72 tw_989 (by decide +kernel) rfl (by decide) (Nat.le_of_ble_eq_true rfl) dX8_take_102 _ rfl ?_
                refine wd_goto C 135 dX8_take_105 (by decide) ?_
                have ej_0 : p_X8_take_s2 σ p1 = (p_X8_control (p_X8_take_s1 σ p1) p1) := by unfold p_X8_take_s2; rw [if_neg c_89, if_neg c_97]
                rw [ej_0] at J_89
                exact wd_lv [0, 1] _ rfl J_89
          · have e9 : p_X8_take σ p1 = (p_X8_take_s1 σ p1) := by rw [hJ_4]; unfold p_X8_take_r1; rw [if_neg c_48, if_neg c_54, if_neg c_68, if_pos c_82]
            exact hret _ _ _ (by rw [e9] <;> rfl) dX8_take_85
        · refine wd_aload_n C dX8_take_71 rfl 0 rfl ?_
          refine wd_iconst (v := 1) C dX8_take_72 (by decide) ?_
          refine pfM_0_24 C tw_843 1 dX8_take_73 ?_
          refine wd_goto C 135 dX8_take_76 (by decide) ?_
          have e9 : p_X8_take σ p1 = si (p_X8_take_s1 σ p1) 24 1 := by rw [hJ_4]; unfold p_X8_take_r1; rw [if_neg c_48, if_neg c_54, if_pos c_68]
          exact hret _ _ _ (by rw [e9] <;> rfl) dX8_take_135
      · refine wd_aload_n C dX8_take_57 rfl 0 rfl ?_
        refine wd_iconst (v := 0) C dX8_take_58 (by decide) ?_
        refine pfM_0_24 C tw_843 0 dX8_take_59 ?_
        refine wd_goto C 135 dX8_take_62 (by decide) ?_
        have e9 : p_X8_take σ p1 = si (p_X8_take_s1 σ p1) 24 0 := by rw [hJ_4]; unfold p_X8_take_r1; rw [if_neg c_48, if_pos c_54]
        exact hret _ _ _ (by rw [e9] <;> rfl) dX8_take_135
  refine wd_if_ne C 45 dX8_take_4 (by decide) (fun c_4 => ?_) (fun c_4 => ?_)
  · have J_4e := J_4 (by unfold p_X8_take; rw [if_neg c_4])
    have ej_0 : p_X8_take_s1 σ p1 = σ := by unfold p_X8_take_s1; rw [if_neg c_4]
    rw [ej_0] at J_4e
    exact wd_lv [0, 1] _ rfl J_4e
  · refine wd_aload_n C dX8_take_7 rfl 0 rfl ?_
    refine gfM_0_33 (x := σ.1 33) C tw_852 rfl dX8_take_8 ?_
    refine wd_if_le C 45 dX8_take_11 (by decide) (fun c_11 => ?_) (fun c_11 => ?_)
    · have J_4e := J_4 (by unfold p_X8_take; rw [if_pos c_4, if_pos c_11])
      have ej_0 : p_X8_take_s1 σ p1 = σ := by unfold p_X8_take_s1; rw [if_pos c_4, if_pos c_11]
      rw [ej_0] at J_4e
      exact wd_lv [0, 1] _ rfl J_4e
    · refine wd_iload_n C dX8_take_14 rfl 1 rfl ?_
      refine wd_sipush (v := 128) C dX8_take_15 (by decide) ?_
      refine wd_icmp_lt C 34 dX8_take_18 (by decide) (fun c_18 => ?_) (fun c_18 => ?_)
      · refine wd_aload_n C dX8_take_34 rfl 0 rfl ?_
        refine wd_iconst (v := 0) C dX8_take_35 (by decide) ?_
        refine pfM_0_33 C tw_852 0 dX8_take_36 ?_
        refine wd_aload_n C dX8_take_39 rfl 0 rfl ?_
        refine wd_ldc C tw_961 dX8_take_40 ?_
        refine wd_callV C 1 (c_X8_print _ K ad (si σ 33 0) 65533 (okm_si _ _ (by decide) hM)) 0 (wcM_0 K ad _) rfl rfl tw_962 tw_964 tw_36 tw_72 tw_965 (by decide +kernel) rfl (by decide) (Nat.le_of_ble_eq_true rfl) dX8_take_42 _ rfl ?_
        have J_4e := J_4 (by unfold p_X8_take; rw [if_pos c_4, if_neg c_11, if_pos c_18])
        have ej_0 : p_X8_take_s1 σ p1 = (p_X8_print (si σ 33 0) 65533) := by unfold p_X8_take_s1; rw [if_pos c_4, if_neg c_11, if_pos c_18]
        rw [ej_0] at J_4e
        exact wd_lv [0, 1] _ rfl J_4e
      · refine wd_iload_n C dX8_take_21 rfl 1 rfl ?_
        refine wd_sipush (v := 191) C dX8_take_22 (by decide) ?_
        refine wd_icmp_gt C 34 dX8_take_25 (by decide) (fun c_25 => ?_) (fun c_25 => ?_)
        · refine wd_aload_n C dX8_take_34 rfl 0 rfl ?_
          refine wd_iconst (v := 0) C dX8_take_35 (by decide) ?_
          refine pfM_0_33 C tw_852 0 dX8_take_36 ?_
          refine wd_aload_n C dX8_take_39 rfl 0 rfl ?_
          refine wd_ldc C tw_961 dX8_take_40 ?_
          refine wd_callV C 1 (c_X8_print _ K ad (si σ 33 0) 65533 (okm_si _ _ (by decide) hM)) 0 (wcM_0 K ad _) rfl rfl tw_962 tw_964 tw_36 tw_72 tw_965 (by decide +kernel) rfl (by decide) (Nat.le_of_ble_eq_true rfl) dX8_take_42 _ rfl ?_
          have J_4e := J_4 (by unfold p_X8_take; rw [if_pos c_4, if_neg c_11, if_neg c_18, if_pos c_25])
          have ej_0 : p_X8_take_s1 σ p1 = (p_X8_print (si σ 33 0) 65533) := by unfold p_X8_take_s1; rw [if_pos c_4, if_neg c_11, if_neg c_18, if_pos c_25]
          rw [ej_0] at J_4e
          exact wd_lv [0, 1] _ rfl J_4e
        · refine wd_aload_n C dX8_take_28 rfl 0 rfl ?_
          refine wd_iload_n C dX8_take_29 rfl 1 rfl ?_
          refine wd_callV C 1 (c_X8_further _ K ad σ p1 (hM)) 0 (wcM_0 K ad _) rfl rfl tw_953 tw_955 tw_35 tw_72 tw_956 (by decide +kernel) rfl (by decide) (Nat.le_of_ble_eq_true rfl) dX8_take_30 _ rfl ?_
          have e9 : p_X8_take σ p1 = (p_X8_further σ p1) := by unfold p_X8_take; rw [if_pos c_4, if_neg c_11, if_neg c_18, if_neg c_25]
          exact hret _ _ _ (by rw [e9] <;> rfl) dX8_take_33
