def p_X8_first_l1 (σ : St) : Nat → St → Int32 → St × Int32
  | 0, s, x1 => (s, x1)
  | n + 1, s, x1 => (if 192 ≤ x1 then (s, x1) else p_X8_first_l1 σ n (p_X8_blank s x1) (x1 + 1))
def p_X8_first_t2 (σ : St) (s : St) (x1 : Int32) : Bool := (if x1 = 4 then true else (if x1 = 8 then true else false))
def p_X8_first_l3 (σ : St) : Nat → St → Int32 → St × Int32
  | 0, s, x1 => (s, x1)
  | n + 1, s, x1 => (if 12 ≤ x1 then (s, x1) else p_X8_first_l3 σ n (sa s 4 (upd (s.2.2 4) (x1 : Int32).toNatClampNeg (vp_nar .boolean (b2i (p_X8_first_t2 σ s x1))))) (x1 + 1))
def p_X8_first (σ : St) : St := si (si (si (si (si (si ((p_X8_save (sb (sb (sb ((p_X8_first_l3 σ 12 (si (si ((p_X8_setPen ((p_X8_place (si ((p_X8_first_l1 σ 192 σ 0).1) 4 0) 0 0)) 0)) 7 0) 8 7) 0).1) 10 false) 11 false) 12 true))) 25 (-1)) 26 0) 28 0) 31 0) 24 0) 33 0
set_option maxHeartbeats 4000000 in
set_option maxRecDepth 100000 in
theorem c_X8_first (l : Launch) (K : KX) (ad : Nat → Nat) (σ : St) : Mt l K yX8_first cX8_first 2 none { frames := 2, cells := 0, slots := 0, locals := 40 } [.ref (ad 0)] (WdM K ad σ) none (WdM K ad (p_X8_first σ)) := by
  refine Mt.v (by decide +kernel) (Nat.le_of_ble_eq_true rfl) (fun X C hret => ?_)
  show WD X K 2 0 0 (WdM K ad σ) [(0, .ref (ad 0))] 0 []
  refine wd_iconst (v := 0) C dX8_first_0 (by decide) ?_
  refine wd_istore_n C [(1, .int 0), (0, .ref (ad 0))] dX8_first_1 rfl (by decide) rfl ?_
  have J_2 : WD X K 2 0 0 (WdM K ad ((p_X8_first_l1 σ 192 σ 0).1)) [(0, .ref (ad 0)), (1, .int ((p_X8_first_l1 σ 192 σ 0).2))] 20 [] := by
    refine wd_aload_n C dX8_first_20 rfl 0 rfl ?_
    refine wd_iconst (v := 0) C dX8_first_21 (by decide) ?_
    refine pfM_0_4 C tw_823 0 dX8_first_22 ?_
    refine wd_aload_n C dX8_first_25 rfl 0 rfl ?_
    refine wd_iconst (v := 0) C dX8_first_26 (by decide) ?_
    refine wd_iconst (v := 0) C dX8_first_27 (by decide) ?_
    refine wd_callV C 2 (c_X8_place _ K ad (si ((p_X8_first_l1 σ 192 σ 0).1) 4 0) 0 0) 0 (wcM_0 K ad _) rfl rfl tw_803 tw_805 tw_30 tw_72 tw_806 (by decide +kernel) rfl (by decide) (Nat.le_of_ble_eq_true rfl) dX8_first_28 _ rfl ?_
    refine wd_aload_n C dX8_first_31 rfl 0 rfl ?_
    refine wd_iconst (v := 0) C dX8_first_32 (by decide) ?_
    refine wd_callV C 1 (c_X8_setPen _ K ad ((p_X8_place (si ((p_X8_first_l1 σ 192 σ 0).1) 4 0) 0 0)) 0) 0 (wcM_0 K ad _) rfl rfl tw_807 tw_809 tw_31 tw_72 tw_810 (by decide +kernel) rfl (by decide) (Nat.le_of_ble_eq_true rfl) dX8_first_33 _ rfl ?_
    refine wd_aload_n C dX8_first_36 rfl 0 rfl ?_
    refine wd_iconst (v := 0) C dX8_first_37 (by decide) ?_
    refine pfM_0_7 C tw_826 0 dX8_first_38 ?_
    refine wd_aload_n C dX8_first_41 rfl 0 rfl ?_
    refine wd_bipush (v := 7) C dX8_first_42 (by decide) ?_
    refine pfM_0_8 C tw_827 7 dX8_first_44 ?_
    refine wd_iconst (v := 0) C dX8_first_47 (by decide) ?_
    refine wd_istore_n C [(1, .int 0), (0, .ref (ad 0))] dX8_first_48 rfl (by decide) rfl ?_
    have J_49 : WD X K 2 0 0 (WdM K ad ((p_X8_first_l3 σ 12 (si (si ((p_X8_setPen ((p_X8_place (si ((p_X8_first_l1 σ 192 σ 0).1) 4 0) 0 0)) 0)) 7 0) 8 7) 0).1)) [(0, .ref (ad 0)), (1, .int ((p_X8_first_l3 σ 12 (si (si ((p_X8_setPen ((p_X8_place (si ((p_X8_first_l1 σ 192 σ 0).1) 4 0) 0 0)) 0)) 7 0) 8 7) 0).2))] 83 [] := by
      refine wd_aload_n C dX8_first_83 rfl 0 rfl ?_
      refine wd_iconst (v := 0) C dX8_first_84 (by decide) ?_
      refine pfM_0_10 C tw_829 false dX8_first_85 ?_
      refine wd_aload_n C dX8_first_88 rfl 0 rfl ?_
      refine wd_iconst (v := 0) C dX8_first_89 (by decide) ?_
      refine pfM_0_11 C tw_830 false dX8_first_90 ?_
      refine wd_aload_n C dX8_first_93 rfl 0 rfl ?_
      refine wd_iconst (v := 1) C dX8_first_94 (by decide) ?_
      refine pfM_0_12 C tw_831 true dX8_first_95 ?_
      refine wd_aload_n C dX8_first_98 rfl 0 rfl ?_
      refine wd_callV C 0 (c_X8_save _ K ad (sb (sb (sb ((p_X8_first_l3 σ 12 (si (si ((p_X8_setPen ((p_X8_place (si ((p_X8_first_l1 σ 192 σ 0).1) 4 0) 0 0)) 0)) 7 0) 8 7) 0).1) 10 false) 11 false) 12 true)) 0 (wcM_0 K ad _) rfl rfl tw_811 tw_813 tw_32 tw_72 tw_814 (by decide +kernel) rfl (by decide) (Nat.le_of_ble_eq_true rfl) dX8_first_99 _ rfl ?_
      refine wd_aload_n C dX8_first_102 rfl 0 rfl ?_
      refine wd_iconst (v := (-1)) C dX8_first_103 (by decide) ?_
      refine pfM_0_25 C tw_844 (-1) dX8_first_104 ?_
      refine wd_aload_n C dX8_first_107 rfl 0 rfl ?_
      refine wd_iconst (v := 0) C dX8_first_108 (by decide) ?_
      refine pfM_0_26 C tw_845 0 dX8_first_109 ?_
      refine wd_aload_n C dX8_first_112 rfl 0 rfl ?_
      refine wd_iconst (v := 0) C dX8_first_113 (by decide) ?_
      refine pfM_0_28 C tw_847 0 dX8_first_114 ?_
      refine wd_aload_n C dX8_first_117 rfl 0 rfl ?_
      refine wd_iconst (v := 0) C dX8_first_118 (by decide) ?_
      refine pfM_0_31 C tw_850 0 dX8_first_119 ?_
      refine wd_aload_n C dX8_first_122 rfl 0 rfl ?_
      refine wd_iconst (v := 0) C dX8_first_123 (by decide) ?_
      refine pfM_0_24 C tw_843 0 dX8_first_124 ?_
      refine wd_aload_n C dX8_first_127 rfl 0 rfl ?_
      refine wd_iconst (v := 0) C dX8_first_128 (by decide) ?_
      refine pfM_0_33 C tw_852 0 dX8_first_129 ?_
      have e9 : p_X8_first σ = si (si (si (si (si (si ((p_X8_save (sb (sb (sb ((p_X8_first_l3 σ 12 (si (si ((p_X8_setPen ((p_X8_place (si ((p_X8_first_l1 σ 192 σ 0).1) 4 0) 0 0)) 0)) 7 0) 8 7) 0).1) 10 false) 11 false) 12 true))) 25 (-1)) 26 0) 28 0) 31 0) 24 0) 33 0 := by rfl
      exact hret _ _ _ (by rw [e9] <;> rfl) dX8_first_132
    have L_49 : ∀ (n : Nat) (s : St) (x1 : Int32), p_X8_first_l3 σ n s x1 = p_X8_first_l3 σ 12 (si (si ((p_X8_setPen ((p_X8_place (si ((p_X8_first_l1 σ 192 σ 0).1) 4 0) 0 0)) 0)) 7 0) 8 7) 0 → 0 ≤ x1.toInt ∧ 12 - x1.toInt ≤ (n : Int) → WD X K 2 0 0 (WdM K ad s) [(0, .ref (ad 0)), (1, .int x1)] 49 [] := by
      intro n
      induction n with
      | zero =>
        intro s x1 hE hI
        refine wd_iload_n C dX8_first_49 rfl 1 rfl ?_
        refine wd_bipush (v := 12) C dX8_first_50 (by decide) ?_
        refine wd_icmp_ge C 83 dX8_first_52 (by decide) (fun c_52 => ?_) (fun c_52 => ?_)
        · have eL := hE
          rw [p_X8_first_l3] at eL
          rw [← eL] at J_49
          exact wd_lv [0, 1] _ rfl J_49
        · exact absurd (ti_le.mpr (by have h0 := hI.2; (try simp only [ti_lt, ti_le, ti_eq] at h0); have z12 : (12 : Int32).toInt = 12 := (by decide); omega)) c_52
      | succ n ih =>
        intro s x1 hE hI
        refine wd_iload_n C dX8_first_49 rfl 1 rfl ?_
        refine wd_bipush (v := 12) C dX8_first_50 (by decide) ?_
        refine wd_icmp_ge C 83 dX8_first_52 (by decide) (fun c_52 => ?_) (fun c_52 => ?_)
        · have eL := hE
          rw [p_X8_first_l3, if_pos c_52] at eL
          rw [← eL] at J_49
          exact wd_lv [0, 1] _ rfl J_49
        · refine wd_aload_n C dX8_first_55 rfl 0 rfl ?_
          refine gfM_0_23 C tw_842 dX8_first_56 ?_
          refine wd_iload_n C dX8_first_59 rfl 1 rfl ?_
          refine wd_iload_n C dX8_first_60 rfl 1 rfl ?_
          refine wd_iconst (v := 4) C dX8_first_61 (by decide) ?_
          have J_62 : WD X K 2 0 0 (WdM K ad s) [(0, .ref (ad 0)), (1, .int x1)] 76 [.int (b2i (p_X8_first_t2 σ s x1)), .int x1, .ref (ad 5)] := by
            refine asM_5 (f := s.2.2 4) C (vp_in_iff.mpr (by have h0 := c_52; (try simp only [ti_lt, ti_le, ti_eq] at h0); have h1 := hI.1; (try simp only [ti_lt, ti_le, ti_eq] at h1); have z12 : (12 : Int32).toInt = 12 := (by decide); omega)) rfl dX8_first_76 ?_
            refine wd_iinc (v := x1 + 1) C [(1, .int (x1 + 1)), (0, .ref (ad 0))] dX8_first_77 1 rfl (by rfl) (by decide) rfl ?_
            refine wd_goto C 49 dX8_first_80 (by decide) ?_
            have eL := hE
            rw [p_X8_first_l3, if_neg c_52] at eL
            exact wd_lv [1, 0] _ rfl (ih (sa s 4 (upd (s.2.2 4) (x1 : Int32).toNatClampNeg (vp_nar .boolean (b2i (p_X8_first_t2 σ s x1))))) (x1 + 1) eL (by have h0 := c_52; (try simp only [ti_lt, ti_le, ti_eq] at h0); have h1 := hI.1; (try simp only [ti_lt, ti_le, ti_eq] at h1); have h2 := hI.2; (try simp only [ti_lt, ti_le, ti_eq] at h2); have z12 : (12 : Int32).toInt = 12 := (by decide); have z1 : (1 : Int32).toInt = 1 := (by decide); have e1 := ti_add (a := x1) (b := 1) (by omega) (by omega); exact ⟨by omega, by omega⟩))
          refine wd_icmp_eq C 71 dX8_first_62 (by decide) (fun c_62 => ?_) (fun c_62 => ?_)
          · refine wd_iconst (v := 1) C dX8_first_71 (by decide) ?_
            refine wd_goto C 76 dX8_first_72 (by decide) ?_
            have ej_0 : p_X8_first_t2 σ s x1 = true := by unfold p_X8_first_t2; rw [if_pos c_62]
            rw [ej_0] at J_62
            exact wd_lv [0, 1] _ rfl J_62
          · refine wd_iload_n C dX8_first_65 rfl 1 rfl ?_
            refine wd_bipush (v := 8) C dX8_first_66 (by decide) ?_
            refine wd_icmp_ne C 75 dX8_first_68 (by decide) (fun c_68 => ?_) (fun c_68 => ?_)
            · refine wd_iconst (v := 0) C dX8_first_75 (by decide) ?_
              have ej_0 : p_X8_first_t2 σ s x1 = false := by unfold p_X8_first_t2; rw [if_neg c_62, if_neg c_68]
              rw [ej_0] at J_62
              exact wd_lv [0, 1] _ rfl J_62
            · refine wd_iconst (v := 1) C dX8_first_71 (by decide) ?_
              refine wd_goto C 76 dX8_first_72 (by decide) ?_
              have ej_0 : p_X8_first_t2 σ s x1 = true := by unfold p_X8_first_t2; rw [if_neg c_62, if_pos c_68]
              rw [ej_0] at J_62
              exact wd_lv [0, 1] _ rfl J_62
    exact wd_lv [1, 0] _ rfl (L_49 12 (si (si ((p_X8_setPen ((p_X8_place (si ((p_X8_first_l1 σ 192 σ 0).1) 4 0) 0 0)) 0)) 7 0) 8 7) 0 rfl (⟨by decide, by decide⟩))
  have L_2 : ∀ (n : Nat) (s : St) (x1 : Int32), p_X8_first_l1 σ n s x1 = p_X8_first_l1 σ 192 σ 0 → 0 ≤ x1.toInt ∧ 192 - x1.toInt ≤ (n : Int) → WD X K 2 0 0 (WdM K ad s) [(0, .ref (ad 0)), (1, .int x1)] 2 [] := by
    intro n
    induction n with
    | zero =>
      intro s x1 hE hI
      refine wd_iload_n C dX8_first_2 rfl 1 rfl ?_
      refine wd_sipush (v := 192) C dX8_first_3 (by decide) ?_
      refine wd_icmp_ge C 20 dX8_first_6 (by decide) (fun c_6 => ?_) (fun c_6 => ?_)
      · have eL := hE
        rw [p_X8_first_l1] at eL
        rw [← eL] at J_2
        exact wd_lv [0, 1] _ rfl J_2
      · exact absurd (ti_le.mpr (by have h0 := hI.2; (try simp only [ti_lt, ti_le, ti_eq] at h0); have z192 : (192 : Int32).toInt = 192 := (by decide); omega)) c_6
    | succ n ih =>
      intro s x1 hE hI
      refine wd_iload_n C dX8_first_2 rfl 1 rfl ?_
      refine wd_sipush (v := 192) C dX8_first_3 (by decide) ?_
      refine wd_icmp_ge C 20 dX8_first_6 (by decide) (fun c_6 => ?_) (fun c_6 => ?_)
      · have eL := hE
        rw [p_X8_first_l1, if_pos c_6] at eL
        rw [← eL] at J_2
        exact wd_lv [0, 1] _ rfl J_2
      · refine wd_aload_n C dX8_first_9 rfl 0 rfl ?_
        refine wd_iload_n C dX8_first_10 rfl 1 rfl ?_
        refine wd_callV C 1 (c_X8_blank _ K ad s x1 (vp_in_iff.mpr (by have h0 := c_6; (try simp only [ti_lt, ti_le, ti_eq] at h0); have h1 := hI.1; (try simp only [ti_lt, ti_le, ti_eq] at h1); have z192 : (192 : Int32).toInt = 192 := (by decide); omega))) 0 (wcM_0 K ad _) rfl rfl tw_799 tw_801 tw_29 tw_72 tw_802 (by decide +kernel) rfl (by decide) (Nat.le_of_ble_eq_true rfl) dX8_first_11 _ rfl ?_
        refine wd_iinc (v := x1 + 1) C [(1, .int (x1 + 1)), (0, .ref (ad 0))] dX8_first_14 1 rfl (by rfl) (by decide) rfl ?_
        refine wd_goto C 2 dX8_first_17 (by decide) ?_
        have eL := hE
        rw [p_X8_first_l1, if_neg c_6] at eL
        exact wd_lv [1, 0] _ rfl (ih (p_X8_blank s x1) (x1 + 1) eL (by have h0 := c_6; (try simp only [ti_lt, ti_le, ti_eq] at h0); have h1 := hI.1; (try simp only [ti_lt, ti_le, ti_eq] at h1); have h2 := hI.2; (try simp only [ti_lt, ti_le, ti_eq] at h2); have z192 : (192 : Int32).toInt = 192 := (by decide); have z1 : (1 : Int32).toInt = 1 := (by decide); have e1 := ti_add (a := x1) (b := 1) (by omega) (by omega); exact ⟨by omega, by omega⟩))
  exact wd_lv [1, 0] _ rfl (L_2 192 σ 0 rfl (⟨by decide, by decide⟩))
theorem fr_f1 (σ : St) : ∀ (n : Nat) (s : St) (x : Int32), FrA (p_X8_first_l1 σ n s x).1 s := by
  intro n
  induction n with
  | zero => intro s x; exact FrA.rf s
  | succ n ih =>
    intro s x
    rw [p_X8_first_l1]
    by_cases h : (192 : Int32) ≤ x
    · rw [if_pos h]; exact FrA.rf s
    · rw [if_neg h]; exact (ih _ _).tr (fr_blank _ _)
theorem f3_1 (σ : St) : ∀ (n : Nat) (s : St) (x : Int32), (p_X8_first_l3 σ n s x).1.1 = s.1 ∧ (p_X8_first_l3 σ n s x).1.2.2 8 = s.2.2 8 := by
  intro n
  induction n with
  | zero => intro s x; exact ⟨rfl, rfl⟩
  | succ n ih =>
    intro s x
    rw [p_X8_first_l3]
    by_cases h : (12 : Int32) ≤ x
    · rw [if_pos h]; exact ⟨rfl, rfl⟩
    · rw [if_neg h]; exact ⟨(ih _ _).1, (ih _ _).2⟩
theorem okm_of {a b : St} (h1 : a.1 = b.1) (h2 : a.2.2 8 = b.2.2 8) (hM : OkM b) : OkM a := by
  unfold OkM; rw [h1, h2]; exact hM
theorem okm_pg {σ : St} {v : Int32} (hv : R2 0 1 v) (h : OkM σ) : OkM (si σ 4 v) := ⟨hv, h.2⟩
theorem okm_top {σ : St} {v : Int32} (hv : R2 0 7 v) (h : OkM σ) : OkM (si σ 7 v) := ⟨h.1, h.2.1, h.2.2.1, hv, h.2.2.2.2⟩
theorem okm_bot {σ : St} {v : Int32} (hv : R2 0 7 v) (h : OkM σ) : OkM (si σ 8 v) := ⟨h.1, h.2.1, h.2.2.1, h.2.2.2.1, hv, h.2.2.2.2.2⟩
theorem okm_wts {σ : St} {v : Int32} (hv : R2 0 64 v) (h : OkM σ) : OkM (si σ 28 v) := ⟨h.1, h.2.1, h.2.2.1, h.2.2.2.1, h.2.2.2.2.1, h.2.2.2.2.2.1, h.2.2.2.2.2.2.1, hv, h.2.2.2.2.2.2.2.2⟩
theorem okm_ts {σ : St} {v : Int32} (hv : R2 0 16 v) (h : OkM σ) : OkM (si σ 31 v) := ⟨h.1, h.2.1, h.2.2.1, h.2.2.2.1, h.2.2.2.2.1, h.2.2.2.2.2.1, h.2.2.2.2.2.2.1, h.2.2.2.2.2.2.2.1, hv, h.2.2.2.2.2.2.2.2.2⟩
theorem okm_cs {σ : St} {v : Int32} (hv : R2 0 16 v) (h : OkM σ) : OkM (si σ 32 v) := ⟨h.1, h.2.1, h.2.2.1, h.2.2.2.1, h.2.2.2.2.1, h.2.2.2.2.2.1, h.2.2.2.2.2.2.1, h.2.2.2.2.2.2.2.1, h.2.2.2.2.2.2.2.2.1, hv, h.2.2.2.2.2.2.2.2.2.2⟩
theorem okm_bg {σ : St} {v : Int32} (hv : R2 0 100 v) (h : OkM σ) : OkM (si σ 37 v) := ⟨h.1, h.2.1, h.2.2.1, h.2.2.2.1, h.2.2.2.2.1, h.2.2.2.2.2.1, h.2.2.2.2.2.2.1, h.2.2.2.2.2.2.2.1, h.2.2.2.2.2.2.2.2.1, h.2.2.2.2.2.2.2.2.2.1, hv, h.2.2.2.2.2.2.2.2.2.2.2⟩
/-- a number that is in no range -/
theorem okm_si {σ : St} (k : Nat) (v : Int32) (hk : k = 13 ∨ k = 14 ∨ k = 15 ∨ k = 16 ∨ k = 17 ∨ k = 24 ∨ k = 25 ∨ k = 26 ∨ k = 33 ∨ k = 34 ∨ k = 35 ∨ k = 39) (h : OkM σ) : OkM (si σ k v) := by
  rcases hk with rfl | rfl | rfl | rfl | rfl | rfl | rfl | rfl | rfl | rfl | rfl | rfl <;> exact h
theorem okm_first {σ : St} (hM : OkM σ) : OkM (p_X8_first σ) := by
  unfold p_X8_first
  refine okm_si _ _ (by decide) (okm_si _ _ (by decide) (okm_ts (R2.lit 0 (by decide)) (okm_wts (R2.lit 0 (by decide)) (okm_si _ _ (by decide) (okm_si _ _ (by decide) (okm_save (okm_sb _ _ (okm_sb _ _ (okm_sb _ _ ?_)))))))))
  refine okm_of (f3_1 σ _ _ _).1 (f3_1 σ _ _ _).2 ?_
  refine okm_bot (R2.lit 7 (by decide)) (okm_top (R2.lit 0 (by decide)) (okm_setPen (okm_place (R2.lit 0 (by decide)) (R2.lit 0 (by decide)) (okm_pg (R2.lit 0 (by decide)) ?_))))
  exact okm_fr (fr_f1 σ _ _ _) hM
def p_X8_put (σ : St) (p1 : Int32) : St := si (sa σ 5 (upd (σ.2.2 5) (σ.1 28 : Int32).toNatClampNeg p1)) 28 ((σ.1 28) + 1)
set_option maxHeartbeats 4000000 in
set_option maxRecDepth 100000 in
theorem c_X8_put (l : Launch) (K : KX) (ad : Nat → Nat) (σ : St) (p1 : Int32) (hw : R2 0 63 (σ.1 28)) : Mt l K yX8_put cX8_put 2 none { frames := 0, cells := 0, slots := 0, locals := 0 } [.ref (ad 0), .int p1] (WdM K ad σ) none (WdM K ad (p_X8_put σ p1)) := by
  refine Mt.v (by decide +kernel) (Nat.le_of_ble_eq_true rfl) (fun X C hret => ?_)
  show WD X K 2 0 0 (WdM K ad σ) [(0, .ref (ad 0)), (1, .int p1)] 0 []
  refine wd_aload_n C dX8_put_0 rfl 0 rfl ?_
  refine gfM_0_27 C tw_846 dX8_put_1 ?_
  refine wd_aload_n C dX8_put_4 rfl 0 rfl ?_
  refine gfM_0_28 (x := σ.1 28) C tw_847 rfl dX8_put_5 ?_
  refine wd_iload_n C dX8_put_8 rfl 1 rfl ?_
  refine asM_6 (f := σ.2.2 5) C (vp_in_iff.mpr (by have a := hw.1; have b := hw.2; omega)) rfl dX8_put_9 ?_
  refine wd_aload_n C dX8_put_10 rfl 0 rfl ?_
  refine wd_aload_n C dX8_put_11 rfl 0 rfl ?_
  refine gfM_0_28 (x := σ.1 28) C tw_847 rfl dX8_put_12 ?_
  refine wd_iconst (v := 1) C dX8_put_15 (by decide) ?_
  refine wd_iadd C dX8_put_16 ?_
  refine pfM_0_28 C tw_847 ((σ.1 28) + 1) dX8_put_17 ?_
  have e9 : p_X8_put σ p1 = si (sa σ 5 (upd (σ.2.2 5) (σ.1 28 : Int32).toNatClampNeg p1)) 28 ((σ.1 28) + 1) := by rfl
  exact hret _ _ _ (by rw [e9] <;> rfl) dX8_put_20
def p_X8_home_t1 (σ : St) (p1 : Int32) (p2 : Int32) : Int32 := (if p2 = 0 then 0 else (p_X8_atMost σ (p2 - 1) 11))
def p_X8_home_t2 (σ : St) (p1 : Int32) (p2 : Int32) : Int32 := (if σ.2.1 11 = true then (p_X8_atMost σ (((σ.1 7) + p1) - 1) (σ.1 8)) else (p_X8_atMost σ (p1 - 1) 7))
def p_X8_home (σ : St) (p1 : Int32) (p2 : Int32) : St := (p_X8_place σ (p_X8_home_t2 σ p1 p2) (p_X8_home_t1 σ p1 p2))
set_option maxHeartbeats 4000000 in
set_option maxRecDepth 100000 in
theorem c_X8_home (l : Launch) (K : KX) (ad : Nat → Nat) (σ : St) (p1 : Int32) (p2 : Int32) : Mt l K yX8_home cX8_home 4 none { frames := 1, cells := 0, slots := 0, locals := 22 } [.ref (ad 0), .int p1, .int p2] (WdM K ad σ) none (WdM K ad (p_X8_home σ p1 p2)) := by
  refine Mt.v (by decide +kernel) (Nat.le_of_ble_eq_true rfl) (fun X C hret => ?_)
  show WD X K 4 0 0 (WdM K ad σ) [(0, .ref (ad 0)), (1, .int p1), (2, .int p2)] 0 []
  refine wd_iload_n C dX8_home_0 rfl 2 rfl ?_
  have J_1 : WD X K 4 0 0 (WdM K ad σ) [(0, .ref (ad 0)), (1, .int p1), (2, .int p2)] 16 [.int (p_X8_home_t1 σ p1 p2)] := by
    refine wd_istore_n C [(3, .int (p_X8_home_t1 σ p1 p2)), (0, .ref (ad 0)), (1, .int p1), (2, .int p2)] dX8_home_16 rfl (by decide) rfl ?_
    refine wd_aload_n C dX8_home_17 rfl 1 rfl ?_
    refine wd_aload_n C dX8_home_18 rfl 1 rfl ?_
    refine gfM_0_11 (x := σ.2.1 11) C tw_830 rfl dX8_home_19 ?_
    have J_22 : WD X K 4 0 0 (WdM K ad σ) [(0, .ref (ad 0)), (1, .int p1), (2, .int p2), (3, .int (p_X8_home_t1 σ p1 p2))] 51 [.int (p_X8_home_t2 σ p1 p2), .ref (ad 0)] := by
      refine wd_iload_n C dX8_home_51 rfl 3 rfl ?_
      refine wd_callV C 2 (c_X8_place _ K ad σ (p_X8_home_t2 σ p1 p2) (p_X8_home_t1 σ p1 p2)) 0 (wcM_0 K ad _) rfl rfl tw_803 tw_805 tw_30 tw_72 tw_806 (by decide +kernel) rfl (by decide) (Nat.le_of_ble_eq_true rfl) dX8_home_52 _ rfl ?_
      have e9 : p_X8_home σ p1 p2 = (p_X8_place σ (p_X8_home_t2 σ p1 p2) (p_X8_home_t1 σ p1 p2)) := by rfl
      exact hret _ _ _ (by rw [e9] <;> rfl) dX8_home_55
    refine wd_if_eqB (b := σ.2.1 11) C 43 dX8_home_22 (by decide) (fun c_22 => ?_) (fun c_22 => ?_)
    · refine wd_iload_n C dX8_home_43 rfl 2 rfl ?_
      refine wd_iconst (v := 1) C dX8_home_44 (by decide) ?_
      refine wd_isub C dX8_home_45 ?_
      refine wd_bipush (v := 7) C dX8_home_46 (by decide) ?_
      refine wd_callS C 2 (c_X8_atMost _ K ad σ (p1 - 1) 7) tw_1026 tw_1027 tw_72 tw_1028 (by decide +kernel) rfl (by decide) (Nat.le_of_ble_eq_true rfl) dX8_home_48 _ rfl ?_
      have ej_0 : p_X8_home_t2 σ p1 p2 = (p_X8_atMost σ (p1 - 1) 7) := by unfold p_X8_home_t2; rw [if_neg c_22]
      rw [ej_0] at J_22
      exact wd_lv [1, 2, 3, 0] _ rfl J_22
    · refine wd_aload_n C dX8_home_25 rfl 1 rfl ?_
      refine gfM_0_7 (x := σ.1 7) C tw_826 rfl dX8_home_26 ?_
      refine wd_iload_n C dX8_home_29 rfl 2 rfl ?_
      refine wd_iadd C dX8_home_30 ?_
      refine wd_iconst (v := 1) C dX8_home_31 (by decide) ?_
      refine wd_isub C dX8_home_32 ?_
      refine wd_aload_n C dX8_home_33 rfl 1 rfl ?_
      refine gfM_0_8 (x := σ.1 8) C tw_827 rfl dX8_home_34 ?_
      refine wd_callS C 2 (c_X8_atMost _ K ad σ (((σ.1 7) + p1) - 1) (σ.1 8)) tw_1026 tw_1027 tw_72 tw_1028 (by decide +kernel) rfl (by decide) (Nat.le_of_ble_eq_true rfl) dX8_home_37 _ rfl ?_
      refine wd_goto C 51 dX8_home_40 (by decide) ?_
      have ej_0 : p_X8_home_t2 σ p1 p2 = (p_X8_atMost σ (((σ.1 7) + p1) - 1) (σ.1 8)) := by unfold p_X8_home_t2; rw [if_pos c_22]
      rw [ej_0] at J_22
      exact wd_lv [1, 2, 3, 0] _ rfl J_22
  refine wd_if_ne C 8 dX8_home_1 (by decide) (fun c_1 => ?_) (fun c_1 => ?_)
  · refine wd_iload_n C dX8_home_8 rfl 2 rfl ?_
    refine wd_iconst (v := 1) C dX8_home_9 (by decide) ?_
    refine wd_isub C dX8_home_10 ?_
    refine wd_bipush (v := 11) C dX8_home_11 (by decide) ?_
    refine wd_callS C 2 (c_X8_atMost _ K ad σ (p2 - 1) 11) tw_1026 tw_1027 tw_72 tw_1028 (by decide +kernel) rfl (by decide) (Nat.le_of_ble_eq_true rfl) dX8_home_13 _ rfl ?_
    have ej_0 : p_X8_home_t1 σ p1 p2 = (p_X8_atMost σ (p2 - 1) 11) := by unfold p_X8_home_t1; rw [if_neg c_1]
    rw [ej_0] at J_1
    exact wd_lv [0, 1, 2] _ rfl J_1
  · refine wd_iconst (v := 0) C dX8_home_4 (by decide) ?_
    refine wd_goto C 16 dX8_home_5 (by decide) ?_
    have ej_0 : p_X8_home_t1 σ p1 p2 = 0 := by unfold p_X8_home_t1; rw [if_pos c_1]
    rw [ej_0] at J_1
    exact wd_lv [0, 1, 2] _ rfl J_1
theorem atMost_r {σ : St} {a b : Int32} {lo hi : Int} (ha : lo ≤ a.toInt) (hb : R2 lo hi b) : R2 lo hi (p_X8_atMost σ a b) := by
  unfold p_X8_atMost p_X8_atMost_t1
  by_cases h : b ≤ a
  · rw [if_pos h]; exact hb
  · rw [if_neg h]; rw [ti_le] at h; have := hb.2; exact ⟨ha, by omega⟩
theorem atLeast_r {σ : St} {a b : Int32} {lo hi : Int} (ha : a.toInt ≤ hi) (hb : R2 lo hi b) : R2 lo hi (p_X8_atLeast σ a b) := by
  unfold p_X8_atLeast p_X8_atLeast_t1
  by_cases h : a ≤ b
  · rw [if_pos h]; exact hb
  · rw [if_neg h]; rw [ti_le] at h; have := hb.1; exact ⟨by omega, ha⟩
theorem okm_home {σ : St} {n q : Int32} (hn : R2 1 9999 n) (hq : R2 0 9999 q) (hM : OkM σ) : OkM (p_X8_home σ n q) := by
  unfold p_X8_home
  have n1 := hn.1
  have n2 := hn.2
  have q1 := hq.1
  have q2 := hq.2
  have z1 : (1 : Int32).toInt = 1 := by decide
  have t1 := hM.2.2.2.1.1
  have t2 := hM.2.2.2.1.2
  refine okm_place ?_ ?_ hM
  · unfold p_X8_home_t2
    refine R2.ite (fun _ => atMost_r ?_ hM.2.2.2.2.1) fun _ => atMost_r ?_ (R2.lit 7 (by decide))
    · have e1 := ti_add (a := σ.1 7) (b := n) (by omega) (by omega)
      have e2 := ti_sub (a := σ.1 7 + n) (b := 1) (by omega) (by omega)
      omega
    · have e2 := ti_sub (a := n) (b := 1) (by omega) (by omega)
      omega
  · unfold p_X8_home_t1
    refine R2.ite (fun _ => R2.lit 0 (by decide)) fun h => atMost_r ?_ (R2.lit 11 (by decide))
    rw [ti_eq] at h
    have z0 : (0 : Int32).toInt = 0 := by decide
    have e2 := ti_sub (a := q) (b := 1) (by omega) (by omega)
    omega
def p_X8_above_t1 (σ : St) (p1 : Int32) : Int32 := (if σ.1 5 < σ.1 7 then 0 else σ.1 7)
def p_X8_above (σ : St) (p1 : Int32) : Int32 := (p_X8_atLeast σ ((σ.1 5) - p1) (p_X8_above_t1 σ p1))
set_option maxHeartbeats 4000000 in
set_option maxRecDepth 100000 in
theorem c_X8_above (l : Launch) (K : KX) (ad : Nat → Nat) (σ : St) (p1 : Int32) : Mt l K yX8_above cX8_above 2 (some .int) { frames := 1, cells := 0, slots := 0, locals := 21 } [.ref (ad 0), .int p1] (WdM K ad σ) (some (.int (p_X8_above σ p1))) (WdM K ad σ) := by
  refine Mt.i (by decide +kernel) (Nat.le_of_ble_eq_true rfl) (fun X C hret => ?_)
  show WD X K 2 0 0 (WdM K ad σ) [(0, .ref (ad 0)), (1, .int p1)] 0 []
  refine wd_aload_n C dX8_above_0 rfl 0 rfl ?_
  refine gfM_0_5 (x := σ.1 5) C tw_824 rfl dX8_above_1 ?_
  refine wd_iload_n C dX8_above_4 rfl 1 rfl ?_
  refine wd_isub C dX8_above_5 ?_
  refine wd_aload_n C dX8_above_6 rfl 0 rfl ?_
  refine gfM_0_5 (x := σ.1 5) C tw_824 rfl dX8_above_7 ?_
  refine wd_aload_n C dX8_above_10 rfl 0 rfl ?_
  refine gfM_0_7 (x := σ.1 7) C tw_826 rfl dX8_above_11 ?_
  have J_14 : WD X K 2 0 0 (WdM K ad σ) [(0, .ref (ad 0)), (1, .int p1)] 25 [.int (p_X8_above_t1 σ p1), .int ((σ.1 5) - p1)] := by
    refine wd_callS C 2 (c_X8_atLeast _ K ad σ ((σ.1 5) - p1) (p_X8_above_t1 σ p1)) tw_1041 tw_1042 tw_72 tw_1043 (by decide +kernel) rfl (by decide) (Nat.le_of_ble_eq_true rfl) dX8_above_25 _ rfl ?_
    have e9 : p_X8_above σ p1 = (p_X8_atLeast σ ((σ.1 5) - p1) (p_X8_above_t1 σ p1)) := by rfl
    exact hret _ _ _ _ (by rw [e9]) rfl dX8_above_28
  refine wd_icmp_lt C 24 dX8_above_14 (by decide) (fun c_14 => ?_) (fun c_14 => ?_)
  · refine wd_iconst (v := 0) C dX8_above_24 (by decide) ?_
    have ej_0 : p_X8_above_t1 σ p1 = 0 := by unfold p_X8_above_t1; rw [if_pos c_14]
    rw [ej_0] at J_14
    exact wd_lv [0, 1] _ rfl J_14
  · refine wd_aload_n C dX8_above_17 rfl 0 rfl ?_
    refine gfM_0_7 (x := σ.1 7) C tw_826 rfl dX8_above_18 ?_
    refine wd_goto C 25 dX8_above_21 (by decide) ?_
    have ej_0 : p_X8_above_t1 σ p1 = σ.1 7 := by unfold p_X8_above_t1; rw [if_neg c_14]
    rw [ej_0] at J_14
    exact wd_lv [0, 1] _ rfl J_14
def p_X8_below_t1 (σ : St) (p1 : Int32) : Int32 := (if σ.1 8 < σ.1 5 then 7 else σ.1 8)
def p_X8_below (σ : St) (p1 : Int32) : Int32 := (p_X8_atMost σ ((σ.1 5) + p1) (p_X8_below_t1 σ p1))
set_option maxHeartbeats 4000000 in
set_option maxRecDepth 100000 in
theorem c_X8_below (l : Launch) (K : KX) (ad : Nat → Nat) (σ : St) (p1 : Int32) : Mt l K yX8_below cX8_below 2 (some .int) { frames := 1, cells := 0, slots := 0, locals := 21 } [.ref (ad 0), .int p1] (WdM K ad σ) (some (.int (p_X8_below σ p1))) (WdM K ad σ) := by
  refine Mt.i (by decide +kernel) (Nat.le_of_ble_eq_true rfl) (fun X C hret => ?_)
  show WD X K 2 0 0 (WdM K ad σ) [(0, .ref (ad 0)), (1, .int p1)] 0 []
  refine wd_aload_n C dX8_below_0 rfl 0 rfl ?_
  refine gfM_0_5 (x := σ.1 5) C tw_824 rfl dX8_below_1 ?_
  refine wd_iload_n C dX8_below_4 rfl 1 rfl ?_
  refine wd_iadd C dX8_below_5 ?_
  refine wd_aload_n C dX8_below_6 rfl 0 rfl ?_
  refine gfM_0_5 (x := σ.1 5) C tw_824 rfl dX8_below_7 ?_
  refine wd_aload_n C dX8_below_10 rfl 0 rfl ?_
  refine gfM_0_8 (x := σ.1 8) C tw_827 rfl dX8_below_11 ?_
  have J_14 : WD X K 2 0 0 (WdM K ad σ) [(0, .ref (ad 0)), (1, .int p1)] 26 [.int (p_X8_below_t1 σ p1), .int ((σ.1 5) + p1)] := by
    refine wd_callS C 2 (c_X8_atMost _ K ad σ ((σ.1 5) + p1) (p_X8_below_t1 σ p1)) tw_1026 tw_1027 tw_72 tw_1028 (by decide +kernel) rfl (by decide) (Nat.le_of_ble_eq_true rfl) dX8_below_26 _ rfl ?_
    have e9 : p_X8_below σ p1 = (p_X8_atMost σ ((σ.1 5) + p1) (p_X8_below_t1 σ p1)) := by rfl
    exact hret _ _ _ _ (by rw [e9]) rfl dX8_below_29
  refine wd_icmp_gt C 24 dX8_below_14 (by decide) (fun c_14 => ?_) (fun c_14 => ?_)
  · refine wd_bipush (v := 7) C dX8_below_24 (by decide) ?_
    have ej_0 : p_X8_below_t1 σ p1 = 7 := by unfold p_X8_below_t1; rw [if_pos c_14]
    rw [ej_0] at J_14
    exact wd_lv [0, 1] _ rfl J_14
  · refine wd_aload_n C dX8_below_17 rfl 0 rfl ?_
    refine gfM_0_8 (x := σ.1 8) C tw_827 rfl dX8_below_18 ?_
    refine wd_goto C 26 dX8_below_21 (by decide) ?_
    have ej_0 : p_X8_below_t1 σ p1 = σ.1 8 := by unfold p_X8_below_t1; rw [if_neg c_14]
    rw [ej_0] at J_14
    exact wd_lv [0, 1] _ rfl J_14
def p_X8_dip_s1 (σ : St) (p1 : Int32) : St := (if p1 = 0 then (p_X8_setPen σ 0) else σ)
def p_X8_dip_t2 (σ : St) (p1 : Int32) : Bool := (if p1 = 1 then true else false)
def p_X8_dip_s3 (σ : St) (p1 : Int32) : St := (if p1 = 1 then si (p_X8_dip_s1 σ p1) 13 (b2i (p_X8_dip_t2 σ p1)) else (if p1 = 22 then si (p_X8_dip_s1 σ p1) 13 (b2i (p_X8_dip_t2 σ p1)) else (p_X8_dip_s1 σ p1)))
def p_X8_dip_t4 (σ : St) (p1 : Int32) : Bool := (if p1 = 4 then true else false)
def p_X8_dip_s5 (σ : St) (p1 : Int32) : St := (if p1 = 4 then si (p_X8_dip_s3 σ p1) 14 (b2i (p_X8_dip_t4 σ p1)) else (if p1 = 24 then si (p_X8_dip_s3 σ p1) 14 (b2i (p_X8_dip_t4 σ p1)) else (p_X8_dip_s3 σ p1)))
def p_X8_dip_t6 (σ : St) (p1 : Int32) : Bool := (if p1 = 7 then true else false)
def p_X8_dip_s7 (σ : St) (p1 : Int32) : St := (if p1 = 7 then si (p_X8_dip_s5 σ p1) 15 (b2i (p_X8_dip_t6 σ p1)) else (if p1 = 27 then si (p_X8_dip_s5 σ p1) 15 (b2i (p_X8_dip_t6 σ p1)) else (p_X8_dip_s5 σ p1)))
def p_X8_dip_s8 (σ : St) (p1 : Int32) : St := (if p1 < 30 then (p_X8_dip_s7 σ p1) else (if 37 < p1 then (p_X8_dip_s7 σ p1) else si (p_X8_dip_s7 σ p1) 16 (p1 - 29)))
def p_X8_dip_s9 (σ : St) (p1 : Int32) : St := (if p1 = 39 then si (p_X8_dip_s8 σ p1) 16 0 else (p_X8_dip_s8 σ p1))
def p_X8_dip_s10 (σ : St) (p1 : Int32) : St := (if p1 < 40 then (p_X8_dip_s9 σ p1) else (if 47 < p1 then (p_X8_dip_s9 σ p1) else si (p_X8_dip_s9 σ p1) 17 (p1 - 39)))
def p_X8_dip_s11 (σ : St) (p1 : Int32) : St := (if p1 = 49 then si (p_X8_dip_s10 σ p1) 17 0 else (p_X8_dip_s10 σ p1))
def p_X8_dip (σ : St) (p1 : Int32) : St := (p_X8_dip_s11 σ p1)
set_option maxHeartbeats 4000000 in
set_option maxRecDepth 100000 in
theorem c_X8_dip (l : Launch) (K : KX) (ad : Nat → Nat) (σ : St) (p1 : Int32) : Mt l K yX8_dip cX8_dip 2 none { frames := 1, cells := 0, slots := 0, locals := 21 } [.ref (ad 0), .int p1] (WdM K ad σ) none (WdM K ad (p_X8_dip σ p1)) := by
  refine Mt.v (by decide +kernel) (Nat.le_of_ble_eq_true rfl) (fun X C hret => ?_)
  show WD X K 2 0 0 (WdM K ad σ) [(0, .ref (ad 0)), (1, .int p1)] 0 []
  refine wd_iload_n C dX8_dip_0 rfl 1 rfl ?_
  have J_1 : WD X K 2 0 0 (WdM K ad (p_X8_dip_s1 σ p1)) [(0, .ref (ad 0)), (1, .int p1)] 9 [] := by
    refine wd_iload_n C dX8_dip_9 rfl 1 rfl ?_
    refine wd_iconst (v := 1) C dX8_dip_10 (by decide) ?_
    have J_11 : WD X K 2 0 0 (WdM K ad (p_X8_dip_s3 σ p1)) [(0, .ref (ad 0)), (1, .int p1)] 34 [] := by
      refine wd_iload_n C dX8_dip_34 rfl 1 rfl ?_
      refine wd_iconst (v := 4) C dX8_dip_35 (by decide) ?_
      have J_36 : WD X K 2 0 0 (WdM K ad (p_X8_dip_s5 σ p1)) [(0, .ref (ad 0)), (1, .int p1)] 59 [] := by
        refine wd_iload_n C dX8_dip_59 rfl 1 rfl ?_
        refine wd_bipush (v := 7) C dX8_dip_60 (by decide) ?_
        have J_62 : WD X K 2 0 0 (WdM K ad (p_X8_dip_s7 σ p1)) [(0, .ref (ad 0)), (1, .int p1)] 86 [] := by
          refine wd_iload_n C dX8_dip_86 rfl 1 rfl ?_
          refine wd_bipush (v := 30) C dX8_dip_87 (by decide) ?_
          have J_89 : WD X K 2 0 0 (WdM K ad (p_X8_dip_s8 σ p1)) [(0, .ref (ad 0)), (1, .int p1)] 106 [] := by
            refine wd_iload_n C dX8_dip_106 rfl 1 rfl ?_
            refine wd_bipush (v := 39) C dX8_dip_107 (by decide) ?_
            have J_109 : WD X K 2 0 0 (WdM K ad (p_X8_dip_s9 σ p1)) [(0, .ref (ad 0)), (1, .int p1)] 117 [] := by
              refine wd_iload_n C dX8_dip_117 rfl 1 rfl ?_
              refine wd_bipush (v := 40) C dX8_dip_118 (by decide) ?_
              have J_120 : WD X K 2 0 0 (WdM K ad (p_X8_dip_s10 σ p1)) [(0, .ref (ad 0)), (1, .int p1)] 137 [] := by
                refine wd_iload_n C dX8_dip_137 rfl 1 rfl ?_
                refine wd_bipush (v := 49) C dX8_dip_138 (by decide) ?_
                have J_140 : WD X K 2 0 0 (WdM K ad (p_X8_dip_s11 σ p1)) [(0, .ref (ad 0)), (1, .int p1)] 148 [] := by
                  have e9 : p_X8_dip σ p1 = (p_X8_dip_s11 σ p1) := by rfl
                  exact hret _ _ _ (by rw [e9] <;> rfl) dX8_dip_148
                refine wd_icmp_ne C 148 dX8_dip_140 (by decide) (fun c_140 => ?_) (fun c_140 => ?_)
                · have ej_0 : p_X8_dip_s11 σ p1 = (p_X8_dip_s10 σ p1) := by unfold p_X8_dip_s11; rw [if_neg c_140]
                  rw [ej_0] at J_140
                  exact wd_lv [0, 1] _ rfl J_140
                · refine wd_aload_n C dX8_dip_143 rfl 0 rfl ?_
                  refine wd_iconst (v := 0) C dX8_dip_144 (by decide) ?_
                  refine pfM_0_17 C tw_836 0 dX8_dip_145 ?_
                  have ej_0 : p_X8_dip_s11 σ p1 = si (p_X8_dip_s10 σ p1) 17 0 := by unfold p_X8_dip_s11; rw [if_pos c_140]
                  rw [ej_0] at J_140
                  exact wd_lv [0, 1] _ rfl J_140
              refine wd_icmp_lt C 137 dX8_dip_120 (by decide) (fun c_120 => ?_) (fun c_120 => ?_)
              · have ej_0 : p_X8_dip_s10 σ p1 = (p_X8_dip_s9 σ p1) := by unfold p_X8_dip_s10; rw [if_pos c_120]
                rw [ej_0] at J_120
                exact wd_lv [0, 1] _ rfl J_120
              · refine wd_iload_n C dX8_dip_123 rfl 1 rfl ?_
                refine wd_bipush (v := 47) C dX8_dip_124 (by decide) ?_
                refine wd_icmp_gt C 137 dX8_dip_126 (by decide) (fun c_126 => ?_) (fun c_126 => ?_)
                · have ej_0 : p_X8_dip_s10 σ p1 = (p_X8_dip_s9 σ p1) := by unfold p_X8_dip_s10; rw [if_neg c_120, if_pos c_126]
                  rw [ej_0] at J_120
                  exact wd_lv [0, 1] _ rfl J_120
                · refine wd_aload_n C dX8_dip_129 rfl 0 rfl ?_
                  refine wd_iload_n C dX8_dip_130 rfl 1 rfl ?_
                  refine wd_bipush (v := 39) C dX8_dip_131 (by decide) ?_
                  refine wd_isub C dX8_dip_133 ?_
                  refine pfM_0_17 C tw_836 (p1 - 39) dX8_dip_134 ?_
                  have ej_0 : p_X8_dip_s10 σ p1 = si (p_X8_dip_s9 σ p1) 17 (p1 - 39) := by unfold p_X8_dip_s10; rw [if_neg c_120, if_neg c_126]
                  rw [ej_0] at J_120
                  exact wd_lv [0, 1] _ rfl J_120
            refine wd_icmp_ne C 117 dX8_dip_109 (by decide) (fun c_109 => ?_) (fun c_109 => ?_)
            · have ej_0 : p_X8_dip_s9 σ p1 = (p_X8_dip_s8 σ p1) := by unfold p_X8_dip_s9; rw [if_neg c_109]
              rw [ej_0] at J_109
              exact wd_lv [0, 1] _ rfl J_109
            · refine wd_aload_n C dX8_dip_112 rfl 0 rfl ?_
              refine wd_iconst (v := 0) C dX8_dip_113 (by decide) ?_
              refine pfM_0_16 C tw_835 0 dX8_dip_114 ?_
              have ej_0 : p_X8_dip_s9 σ p1 = si (p_X8_dip_s8 σ p1) 16 0 := by unfold p_X8_dip_s9; rw [if_pos c_109]
              rw [ej_0] at J_109
              exact wd_lv [0, 1] _ rfl J_109
          refine wd_icmp_lt C 106 dX8_dip_89 (by decide) (fun c_89 => ?_) (fun c_89 => ?_)
          · have ej_0 : p_X8_dip_s8 σ p1 = (p_X8_dip_s7 σ p1) := by unfold p_X8_dip_s8; rw [if_pos c_89]
            rw [ej_0] at J_89
            exact wd_lv [0, 1] _ rfl J_89
          · refine wd_iload_n C dX8_dip_92 rfl 1 rfl ?_
            refine wd_bipush (v := 37) C dX8_dip_93 (by decide) ?_
            refine wd_icmp_gt C 106 dX8_dip_95 (by decide) (fun c_95 => ?_) (fun c_95 => ?_)
            · have ej_0 : p_X8_dip_s8 σ p1 = (p_X8_dip_s7 σ p1) := by unfold p_X8_dip_s8; rw [if_neg c_89, if_pos c_95]
              rw [ej_0] at J_89
              exact wd_lv [0, 1] _ rfl J_89
            · refine wd_aload_n C dX8_dip_98 rfl 0 rfl ?_
              refine wd_iload_n C dX8_dip_99 rfl 1 rfl ?_
              refine wd_bipush (v := 29) C dX8_dip_100 (by decide) ?_
              refine wd_isub C dX8_dip_102 ?_
              refine pfM_0_16 C tw_835 (p1 - 29) dX8_dip_103 ?_
              have ej_0 : p_X8_dip_s8 σ p1 = si (p_X8_dip_s7 σ p1) 16 (p1 - 29) := by unfold p_X8_dip_s8; rw [if_neg c_89, if_neg c_95]
              rw [ej_0] at J_89
              exact wd_lv [0, 1] _ rfl J_89
        refine wd_icmp_eq C 71 dX8_dip_62 (by decide) (fun c_62 => ?_) (fun c_62 => ?_)
        · refine wd_aload_n C dX8_dip_71 rfl 0 rfl ?_
          refine wd_iload_n C dX8_dip_72 rfl 1 rfl ?_
          refine wd_bipush (v := 7) C dX8_dip_73 (by decide) ?_
          have J_75 : WD X K 2 0 0 (WdM K ad (p_X8_dip_s5 σ p1)) [(0, .ref (ad 0)), (1, .int p1)] 83 [.int (b2i (p_X8_dip_t6 σ p1)), .ref (ad 0)] := by
            refine pfM_0_15 C tw_834 (b2i (p_X8_dip_t6 σ p1)) dX8_dip_83 ?_
            have ej_0 : p_X8_dip_s7 σ p1 = si (p_X8_dip_s5 σ p1) 15 (b2i (p_X8_dip_t6 σ p1)) := by unfold p_X8_dip_s7; rw [if_pos c_62]
            rw [ej_0] at J_62
            exact wd_lv [0, 1] _ rfl J_62
          refine wd_icmp_ne C 82 dX8_dip_75 (by decide) (fun c_75 => ?_) (fun c_75 => ?_)
          · refine wd_iconst (v := 0) C dX8_dip_82 (by decide) ?_
            have ej_0 : p_X8_dip_t6 σ p1 = false := by unfold p_X8_dip_t6; rw [if_neg c_75]
            rw [ej_0] at J_75
            exact wd_lv [0, 1] _ rfl J_75
          · refine wd_iconst (v := 1) C dX8_dip_78 (by decide) ?_
            refine wd_goto C 83 dX8_dip_79 (by decide) ?_
            have ej_0 : p_X8_dip_t6 σ p1 = true := by unfold p_X8_dip_t6; rw [if_pos c_75]
            rw [ej_0] at J_75
            exact wd_lv [0, 1] _ rfl J_75
        · refine wd_iload_n C dX8_dip_65 rfl 1 rfl ?_
          refine wd_bipush (v := 27) C dX8_dip_66 (by decide) ?_
          refine wd_icmp_ne C 86 dX8_dip_68 (by decide) (fun c_68 => ?_) (fun c_68 => ?_)
          · have ej_0 : p_X8_dip_s7 σ p1 = (p_X8_dip_s5 σ p1) := by unfold p_X8_dip_s7; rw [if_neg c_62, if_neg c_68]
            rw [ej_0] at J_62
            exact wd_lv [0, 1] _ rfl J_62
          · refine wd_aload_n C dX8_dip_71 rfl 0 rfl ?_
            refine wd_iload_n C dX8_dip_72 rfl 1 rfl ?_
            refine wd_bipush (v := 7) C dX8_dip_73 (by decide) ?_
            have J_75 : WD X K 2 0 0 (WdM K ad (p_X8_dip_s5 σ p1)) [(0, .ref (ad 0)), (1, .int p1)] 83 [.int (b2i (p_X8_dip_t6 σ p1)), .ref (ad 0)] := by
              refine pfM_0_15 C tw_834 (b2i (p_X8_dip_t6 σ p1)) dX8_dip_83 ?_
              have ej_0 : p_X8_dip_s7 σ p1 = si (p_X8_dip_s5 σ p1) 15 (b2i (p_X8_dip_t6 σ p1)) := by unfold p_X8_dip_s7; rw [if_neg c_62, if_pos c_68]
              rw [ej_0] at J_62
              exact wd_lv [0, 1] _ rfl J_62
            refine wd_icmp_ne C 82 dX8_dip_75 (by decide) (fun c_75 => ?_) (fun c_75 => ?_)
            · refine wd_iconst (v := 0) C dX8_dip_82 (by decide) ?_
              have ej_0 : p_X8_dip_t6 σ p1 = false := by unfold p_X8_dip_t6; rw [if_neg c_75]
              rw [ej_0] at J_75
              exact wd_lv [0, 1] _ rfl J_75
            · refine wd_iconst (v := 1) C dX8_dip_78 (by decide) ?_
              refine wd_goto C 83 dX8_dip_79 (by decide) ?_
              have ej_0 : p_X8_dip_t6 σ p1 = true := by unfold p_X8_dip_t6; rw [if_pos c_75]
              rw [ej_0] at J_75
              exact wd_lv [0, 1] _ rfl J_75
      refine wd_icmp_eq C 45 dX8_dip_36 (by decide) (fun c_36 => ?_) (fun c_36 => ?_)
      · refine wd_aload_n C dX8_dip_45 rfl 0 rfl ?_
        refine wd_iload_n C dX8_dip_46 rfl 1 rfl ?_
        refine wd_iconst (v := 4) C dX8_dip_47 (by decide) ?_
        have J_48 : WD X K 2 0 0 (WdM K ad (p_X8_dip_s3 σ p1)) [(0, .ref (ad 0)), (1, .int p1)] 56 [.int (b2i (p_X8_dip_t4 σ p1)), .ref (ad 0)] := by
          refine pfM_0_14 C tw_833 (b2i (p_X8_dip_t4 σ p1)) dX8_dip_56 ?_
          have ej_0 : p_X8_dip_s5 σ p1 = si (p_X8_dip_s3 σ p1) 14 (b2i (p_X8_dip_t4 σ p1)) := by unfold p_X8_dip_s5; rw [if_pos c_36]
          rw [ej_0] at J_36
          exact wd_lv [0, 1] _ rfl J_36
        refine wd_icmp_ne C 55 dX8_dip_48 (by decide) (fun c_48 => ?_) (fun c_48 => ?_)
        · refine wd_iconst (v := 0) C dX8_dip_55 (by decide) ?_
          have ej_0 : p_X8_dip_t4 σ p1 = false := by unfold p_X8_dip_t4; rw [if_neg c_48]
          rw [ej_0] at J_48
          exact wd_lv [0, 1] _ rfl J_48
        · refine wd_iconst (v := 1) C dX8_dip_51 (by decide) ?_
          refine wd_goto C 56 dX8_dip_52 (by decide) ?_
          have ej_0 : p_X8_dip_t4 σ p1 = true := by unfold p_X8_dip_t4; rw [if_pos c_48]
          rw [ej_0] at J_48
          exact wd_lv [0, 1] _ rfl J_48
      · refine wd_iload_n C dX8_dip_39 rfl 1 rfl ?_
        refine wd_bipush (v := 24) C dX8_dip_40 (by decide) ?_
        refine wd_icmp_ne C 59 dX8_dip_42 (by decide) (fun c_42 => ?_) (fun c_42 => ?_)
        · have ej_0 : p_X8_dip_s5 σ p1 = (p_X8_dip_s3 σ p1) := by unfold p_X8_dip_s5; rw [if_neg c_36, if_neg c_42]
          rw [ej_0] at J_36
          exact wd_lv [0, 1] _ rfl J_36
        · refine wd_aload_n C dX8_dip_45 rfl 0 rfl ?_
          refine wd_iload_n C dX8_dip_46 rfl 1 rfl ?_
          refine wd_iconst (v := 4) C dX8_dip_47 (by decide) ?_
          have J_48 : WD X K 2 0 0 (WdM K ad (p_X8_dip_s3 σ p1)) [(0, .ref (ad 0)), (1, .int p1)] 56 [.int (b2i (p_X8_dip_t4 σ p1)), .ref (ad 0)] := by
            refine pfM_0_14 C tw_833 (b2i (p_X8_dip_t4 σ p1)) dX8_dip_56 ?_
            have ej_0 : p_X8_dip_s5 σ p1 = si (p_X8_dip_s3 σ p1) 14 (b2i (p_X8_dip_t4 σ p1)) := by unfold p_X8_dip_s5; rw [if_neg c_36, if_pos c_42]
            rw [ej_0] at J_36
            exact wd_lv [0, 1] _ rfl J_36
          refine wd_icmp_ne C 55 dX8_dip_48 (by decide) (fun c_48 => ?_) (fun c_48 => ?_)
          · refine wd_iconst (v := 0) C dX8_dip_55 (by decide) ?_
            have ej_0 : p_X8_dip_t4 σ p1 = false := by unfold p_X8_dip_t4; rw [if_neg c_48]
            rw [ej_0] at J_48
            exact wd_lv [0, 1] _ rfl J_48
          · refine wd_iconst (v := 1) C dX8_dip_51 (by decide) ?_
            refine wd_goto C 56 dX8_dip_52 (by decide) ?_
            have ej_0 : p_X8_dip_t4 σ p1 = true := by unfold p_X8_dip_t4; rw [if_pos c_48]
            rw [ej_0] at J_48
            exact wd_lv [0, 1] _ rfl J_48
    refine wd_icmp_eq C 20 dX8_dip_11 (by decide) (fun c_11 => ?_) (fun c_11 => ?_)
    · refine wd_aload_n C dX8_dip_20 rfl 0 rfl ?_
      refine wd_iload_n C dX8_dip_21 rfl 1 rfl ?_
      refine wd_iconst (v := 1) C dX8_dip_22 (by decide) ?_
      have J_23 : WD X K 2 0 0 (WdM K ad (p_X8_dip_s1 σ p1)) [(0, .ref (ad 0)), (1, .int p1)] 31 [.int (b2i (p_X8_dip_t2 σ p1)), .ref (ad 0)] := by
        refine pfM_0_13 C tw_832 (b2i (p_X8_dip_t2 σ p1)) dX8_dip_31 ?_
        have ej_0 : p_X8_dip_s3 σ p1 = si (p_X8_dip_s1 σ p1) 13 (b2i (p_X8_dip_t2 σ p1)) := by unfold p_X8_dip_s3; rw [if_pos c_11]
        rw [ej_0] at J_11
        exact wd_lv [0, 1] _ rfl J_11
      refine wd_icmp_ne C 30 dX8_dip_23 (by decide) (fun c_23 => ?_) (fun c_23 => ?_)
      · refine wd_iconst (v := 0) C dX8_dip_30 (by decide) ?_
        have ej_0 : p_X8_dip_t2 σ p1 = false := by unfold p_X8_dip_t2; rw [if_neg c_23]
        rw [ej_0] at J_23
        exact wd_lv [0, 1] _ rfl J_23
      · refine wd_iconst (v := 1) C dX8_dip_26 (by decide) ?_
        refine wd_goto C 31 dX8_dip_27 (by decide) ?_
        have ej_0 : p_X8_dip_t2 σ p1 = true := by unfold p_X8_dip_t2; rw [if_pos c_23]
        rw [ej_0] at J_23
        exact wd_lv [0, 1] _ rfl J_23
    · refine wd_iload_n C dX8_dip_14 rfl 1 rfl ?_
      refine wd_bipush (v := 22) C dX8_dip_15 (by decide) ?_
      refine wd_icmp_ne C 34 dX8_dip_17 (by decide) (fun c_17 => ?_) (fun c_17 => ?_)
      · have ej_0 : p_X8_dip_s3 σ p1 = (p_X8_dip_s1 σ p1) := by unfold p_X8_dip_s3; rw [if_neg c_11, if_neg c_17]
        rw [ej_0] at J_11
        exact wd_lv [0, 1] _ rfl J_11
      · refine wd_aload_n C dX8_dip_20 rfl 0 rfl ?_
        refine wd_iload_n C dX8_dip_21 rfl 1 rfl ?_
        refine wd_iconst (v := 1) C dX8_dip_22 (by decide) ?_
        have J_23 : WD X K 2 0 0 (WdM K ad (p_X8_dip_s1 σ p1)) [(0, .ref (ad 0)), (1, .int p1)] 31 [.int (b2i (p_X8_dip_t2 σ p1)), .ref (ad 0)] := by
          refine pfM_0_13 C tw_832 (b2i (p_X8_dip_t2 σ p1)) dX8_dip_31 ?_
          have ej_0 : p_X8_dip_s3 σ p1 = si (p_X8_dip_s1 σ p1) 13 (b2i (p_X8_dip_t2 σ p1)) := by unfold p_X8_dip_s3; rw [if_neg c_11, if_pos c_17]
          rw [ej_0] at J_11
          exact wd_lv [0, 1] _ rfl J_11
        refine wd_icmp_ne C 30 dX8_dip_23 (by decide) (fun c_23 => ?_) (fun c_23 => ?_)
        · refine wd_iconst (v := 0) C dX8_dip_30 (by decide) ?_
          have ej_0 : p_X8_dip_t2 σ p1 = false := by unfold p_X8_dip_t2; rw [if_neg c_23]
          rw [ej_0] at J_23
          exact wd_lv [0, 1] _ rfl J_23
        · refine wd_iconst (v := 1) C dX8_dip_26 (by decide) ?_
          refine wd_goto C 31 dX8_dip_27 (by decide) ?_
          have ej_0 : p_X8_dip_t2 σ p1 = true := by unfold p_X8_dip_t2; rw [if_pos c_23]
          rw [ej_0] at J_23
          exact wd_lv [0, 1] _ rfl J_23
  refine wd_if_ne C 9 dX8_dip_1 (by decide) (fun c_1 => ?_) (fun c_1 => ?_)
  · have ej_0 : p_X8_dip_s1 σ p1 = σ := by unfold p_X8_dip_s1; rw [if_neg c_1]
    rw [ej_0] at J_1
    exact wd_lv [0, 1] _ rfl J_1
  · refine wd_aload_n C dX8_dip_4 rfl 0 rfl ?_
    refine wd_iconst (v := 0) C dX8_dip_5 (by decide) ?_
    refine wd_callV C 1 (c_X8_setPen _ K ad σ 0) 0 (wcM_0 K ad _) rfl rfl tw_807 tw_809 tw_31 tw_72 tw_810 (by decide +kernel) rfl (by decide) (Nat.le_of_ble_eq_true rfl) dX8_dip_6 _ rfl ?_
    have ej_0 : p_X8_dip_s1 σ p1 = (p_X8_setPen σ 0) := by unfold p_X8_dip_s1; rw [if_pos c_1]
    rw [ej_0] at J_1
    exact wd_lv [0, 1] _ rfl J_1
