theorem okm_dip {σ : St} (p1 : Int32) (hM : OkM σ) : OkM (p_X8_dip σ p1) := by
  unfold p_X8_dip p_X8_dip_s11
  have h1 : OkM (p_X8_dip_s1 σ p1) := by unfold p_X8_dip_s1; exact okm_ite (fun _ => okm_setPen hM) fun _ => hM
  have h3 : OkM (p_X8_dip_s3 σ p1) := by unfold p_X8_dip_s3; exact okm_ite (fun _ => okm_si _ _ (by decide) h1) fun _ => okm_ite (fun _ => okm_si _ _ (by decide) h1) fun _ => h1
  have h5 : OkM (p_X8_dip_s5 σ p1) := by unfold p_X8_dip_s5; exact okm_ite (fun _ => okm_si _ _ (by decide) h3) fun _ => okm_ite (fun _ => okm_si _ _ (by decide) h3) fun _ => h3
  have h7 : OkM (p_X8_dip_s7 σ p1) := by unfold p_X8_dip_s7; exact okm_ite (fun _ => okm_si _ _ (by decide) h5) fun _ => okm_ite (fun _ => okm_si _ _ (by decide) h5) fun _ => h5
  have h8 : OkM (p_X8_dip_s8 σ p1) := by unfold p_X8_dip_s8; exact okm_ite (fun _ => h7) fun _ => okm_ite (fun _ => h7) fun _ => okm_si _ _ (by decide) h7
  have h9 : OkM (p_X8_dip_s9 σ p1) := by unfold p_X8_dip_s9; exact okm_ite (fun _ => okm_si _ _ (by decide) h8) fun _ => h8
  have h10 : OkM (p_X8_dip_s10 σ p1) := by unfold p_X8_dip_s10; exact okm_ite (fun _ => h9) fun _ => okm_ite (fun _ => h9) fun _ => okm_si _ _ (by decide) h9
  exact okm_ite (fun _ => okm_si _ _ (by decide) h10) fun _ => h10
def p_X8_set_l1 (σ : St) (p1 : Int32) (p2 : Int32) : Nat → St → Int32 → St × Int32
  | 0, s, x3 => (s, x3)
  | n + 1, s, x3 => (if p2 ≤ x3 then (s, x3) else (if 24 ≤ x3 then (s, x3) else (if s.1 25 < 0 then (s, x3) else p_X8_set_l1 σ p1 p2 n ((p_X8_print s (s.1 25))) (x3 + 1))))
def p_X8_set_s2 (σ : St) (p1 : Int32) (p2 : Int32) (s : St) (x4 : Int32) : St := (if s.2.2 8 (0 : Int32).toNatClampNeg = 3 then sa s 4 (upd (s.2.2 4) (x4 : Int32).toNatClampNeg (vp_nar .boolean 0)) else (if s.2.2 8 (0 : Int32).toNatClampNeg = 0 then (if x4 = s.1 6 then sa s 4 (upd (s.2.2 4) (x4 : Int32).toNatClampNeg (vp_nar .boolean 0)) else s) else s))
def p_X8_set_l3 (σ : St) (p1 : Int32) (p2 : Int32) : Nat → St → Int32 → St × Int32
  | 0, s, x4 => (s, x4)
  | n + 1, s, x4 => (if 12 ≤ x4 then (s, x4) else p_X8_set_l3 σ p1 p2 n (p_X8_set_s2 σ p1 p2 s x4) (x4 + 1))
def p_X8_set_t4 (σ : St) (p1 : Int32) (p2 : Int32) (s : St) (x4 : Int32) : Bool := (if p1 = 104 then true else false)
def p_X8_set_s5 (σ : St) (p1 : Int32) (p2 : Int32) (s : St) (x4 : Int32) : St := (if s.2.2 8 (x4 : Int32).toNatClampNeg = 4 then sb s 10 (p_X8_set_t4 σ p1 p2 s x4) else s)
def p_X8_set_l6 (σ : St) (p1 : Int32) (p2 : Int32) : Nat → St → Int32 → St × Int32
  | 0, s, x4 => (s, x4)
  | n + 1, s, x4 => (if (p_X8_kept s) ≤ x4 then (s, x4) else p_X8_set_l6 σ p1 p2 n (p_X8_set_s5 σ p1 p2 s x4) (x4 + 1))
def p_X8_set_s7 (σ : St) (p1 : Int32) (p2 : Int32) : St := (if σ.1 37 = 0 then (p_X8_setPen σ 0) else σ)
def p_X8_set_l8 (σ : St) (p1 : Int32) (p2 : Int32) : Nat → St → Int32 → St × Int32
  | 0, s, x3 => (s, x3)
  | n + 1, s, x3 => (if (p_X8_kept s) ≤ x3 then (s, x3) else p_X8_set_l8 σ p1 p2 n ((p_X8_dip s (s.2.2 8 (x3 : Int32).toNatClampNeg))) (x3 + 1))
def p_X8_set_t9 (σ : St) (p1 : Int32) (p2 : Int32) : Int32 := (if σ.2.2 8 (1 : Int32).toNatClampNeg = 0 then 7 else (σ.2.2 8 (1 : Int32).toNatClampNeg) - 1)
def p_X8_set_s10 (σ : St) (p1 : Int32) (p2 : Int32) : St := (if p1 = 98 then (p_X8_set_l1 σ p1 p2 24 σ 0).1 else (if p1 = 103 then (p_X8_set_l3 σ p1 p2 12 σ 0).1 else (if p1 = 104 then (p_X8_set_l6 σ p1 p2 6 σ 0).1 else (if p1 = 108 then (p_X8_set_l6 σ p1 p2 6 σ 0).1 else (if p1 = 109 then (p_X8_set_l8 σ p1 p2 6 (p_X8_set_s7 σ p1 p2) 0).1 else (if p1 = 110 then (p_X8_answer σ (σ.2.2 8 (0 : Int32).toNatClampNeg)) else (if p1 = 114 then (if (p_X8_set_t9 σ p1 p2) ≤ p2 - 1 then σ else (if 8 ≤ (p_X8_set_t9 σ p1 p2) then σ else (p_X8_home (si (si σ 7 (p2 - 1)) 8 (p_X8_set_t9 σ p1 p2)) 1 0))) else (if p1 = 115 then (p_X8_save σ) else (if p1 = 117 then (p_X8_bring σ) else σ)))))))))
def p_X8_set (σ : St) (p1 : Int32) (p2 : Int32) : St := (p_X8_set_s10 σ p1 p2)
theorem okm_set7 {σ : St} (p1 p2 : Int32) (hM : OkM σ) : OkM (p_X8_set_s7 σ p1 p2) := by
  unfold p_X8_set_s7
  exact okm_ite (fun _ => okm_setPen hM) fun _ => hM
set_option maxHeartbeats 4000000 in
set_option maxRecDepth 100000 in
theorem c_X8_set (l : Launch) (K : KX) (ad : Nat → Nat) (σ : St) (p1 : Int32) (p2 : Int32) (hM : OkM σ) : Mt l K yX8_set cX8_set 5 none { frames := 4, cells := 0, slots := 0, locals := 90 } [.ref (ad 0), .int p1, .int p2] (WdM K ad σ) none (WdM K ad (p_X8_set σ p1 p2)) := by
  refine Mt.v (by decide +kernel) (Nat.le_of_ble_eq_true rfl) (fun X C hret => ?_)
  show WD X K 5 0 0 (WdM K ad σ) [(0, .ref (ad 0)), (1, .int p1), (2, .int p2)] 0 []
  refine wd_iload_n C dX8_set_0 rfl 1 rfl ?_
  have J_1 : WD X K 5 0 0 (WdM K ad (p_X8_set_s10 σ p1 p2)) [(0, .ref (ad 0)), (1, .int p1), (2, .int p2)] 360 [] := by
    have e9 : p_X8_set σ p1 p2 = (p_X8_set_s10 σ p1 p2) := by rfl
    exact hret _ _ _ (by rw [e9] <;> rfl) dX8_set_360
  by_cases c_1_98 : p1 = 98
  · refine wd_tsw C 96 dX8_set_1 (by decide) (by rw [c_1_98]; decide +kernel) ?_
    refine wd_iconst (v := 0) C dX8_set_96 (by decide) ?_
    refine wd_istore_n C [(3, .int 0), (0, .ref (ad 0)), (1, .int p1), (2, .int p2)] dX8_set_97 rfl (by decide) rfl ?_
    have J_98 : WD X K 5 0 0 (WdM K ad ((p_X8_set_l1 σ p1 p2 24 σ 0).1)) [(0, .ref (ad 0)), (1, .int p1), (2, .int p2), (3, .int ((p_X8_set_l1 σ p1 p2 24 σ 0).2))] 130 [] := by
      refine wd_goto C 360 dX8_set_130 (by decide) ?_
      have ej_0 : p_X8_set_s10 σ p1 p2 = (p_X8_set_l1 σ p1 p2 24 σ 0).1 := by unfold p_X8_set_s10; rw [if_pos c_1_98]
      rw [ej_0] at J_1
      exact wd_lv [0, 1, 2] _ rfl J_1
    have L_98 : ∀ (n : Nat) (s : St) (x3 : Int32), p_X8_set_l1 σ p1 p2 n s x3 = p_X8_set_l1 σ p1 p2 24 σ 0 → 0 ≤ x3.toInt ∧ 24 - x3.toInt ≤ (n : Int) ∧ OkM s → WD X K 5 0 0 (WdM K ad s) [(0, .ref (ad 0)), (1, .int p1), (2, .int p2), (3, .int x3)] 98 [] := by
      intro n
      induction n with
      | zero =>
        intro s x3 hE hI
        refine wd_iload_n C dX8_set_98 rfl 3 rfl ?_
        refine wd_iload_n C dX8_set_99 rfl 2 rfl ?_
        refine wd_icmp_ge C 130 dX8_set_100 (by decide) (fun c_100 => ?_) (fun c_100 => ?_)
        · have eL := hE
          rw [p_X8_set_l1] at eL
          rw [← eL] at J_98
          exact wd_lv [0, 1, 2, 3] _ rfl J_98
        · refine wd_iload_n C dX8_set_103 rfl 3 rfl ?_
          refine wd_bipush (v := 24) C dX8_set_104 (by decide) ?_
          refine wd_icmp_ge C 130 dX8_set_106 (by decide) (fun c_106 => ?_) (fun c_106 => ?_)
          · have eL := hE
            rw [p_X8_set_l1] at eL
            rw [← eL] at J_98
            exact wd_lv [0, 1, 2, 3] _ rfl J_98
          · exact absurd (ti_le.mpr (by have h0 := hI.2.1; (try simp only [ti_lt, ti_le, ti_eq] at h0); have z24 : (24 : Int32).toInt = 24 := (by decide); omega)) c_106
      | succ n ih =>
        intro s x3 hE hI
        refine wd_iload_n C dX8_set_98 rfl 3 rfl ?_
        refine wd_iload_n C dX8_set_99 rfl 2 rfl ?_
        refine wd_icmp_ge C 130 dX8_set_100 (by decide) (fun c_100 => ?_) (fun c_100 => ?_)
        · have eL := hE
          rw [p_X8_set_l1, if_pos c_100] at eL
          rw [← eL] at J_98
          exact wd_lv [0, 1, 2, 3] _ rfl J_98
        · refine wd_iload_n C dX8_set_103 rfl 3 rfl ?_
          refine wd_bipush (v := 24) C dX8_set_104 (by decide) ?_
          refine wd_icmp_ge C 130 dX8_set_106 (by decide) (fun c_106 => ?_) (fun c_106 => ?_)
          · have eL := hE
            rw [p_X8_set_l1, if_neg c_100, if_pos c_106] at eL
            rw [← eL] at J_98
            exact wd_lv [0, 1, 2, 3] _ rfl J_98
          · refine wd_aload_n C dX8_set_109 rfl 0 rfl ?_
            refine gfM_0_25 (x := s.1 25) C tw_844 rfl dX8_set_110 ?_
            refine wd_if_lt C 130 dX8_set_113 (by decide) (fun c_113 => ?_) (fun c_113 => ?_)
            · have eL := hE
              rw [p_X8_set_l1, if_neg c_100, if_neg c_106, if_pos c_113] at eL
              rw [← eL] at J_98
              exact wd_lv [0, 1, 2, 3] _ rfl J_98
            · refine wd_aload_n C dX8_set_116 rfl 0 rfl ?_
              refine wd_aload_n C dX8_set_117 rfl 0 rfl ?_
              refine gfM_0_25 (x := s.1 25) C tw_844 rfl dX8_set_118 ?_
              refine wd_callV C 1 (c_X8_print _ K ad s (s.1 25) (hI.2.2)) 0 (wcM_0 K ad _) rfl rfl tw_962 tw_964 tw_36 tw_72 tw_965 (by decide +kernel) rfl (by decide) (Nat.le_of_ble_eq_true rfl) dX8_set_121 _ rfl ?_
              refine wd_iinc (v := x3 + 1) C [(3, .int (x3 + 1)), (0, .ref (ad 0)), (1, .int p1), (2, .int p2)] dX8_set_124 3 rfl (by rfl) (by decide) rfl ?_
              refine wd_goto C 98 dX8_set_127 (by decide) ?_
              have eL := hE
              rw [p_X8_set_l1, if_neg c_100, if_neg c_106, if_neg c_113] at eL
              exact wd_lv [1, 2, 3, 0] _ rfl (ih ((p_X8_print s (s.1 25))) (x3 + 1) eL (by have h0 := c_106; (try simp only [ti_lt, ti_le, ti_eq] at h0); have h1 := hI.1; (try simp only [ti_lt, ti_le, ti_eq] at h1); have h2 := hI.2.1; (try simp only [ti_lt, ti_le, ti_eq] at h2); have z24 : (24 : Int32).toInt = 24 := (by decide); have z1 : (1 : Int32).toInt = 1 := (by decide); have e1 := ti_add (a := x3) (b := 1) (by omega) (by omega); exact ⟨by omega, by omega, okm_print _ hI.2.2⟩))
    exact wd_lv [1, 2, 3, 0] _ rfl (L_98 24 σ 0 rfl (⟨by decide, by decide, hM⟩))
  by_cases c_1_103 : p1 = 103
  · refine wd_tsw C 245 dX8_set_1 (by decide) (by rw [c_1_103]; decide +kernel) ?_
    refine wd_iconst (v := 0) C dX8_set_245 (by decide) ?_
    refine wd_istore C [(4, .int 0), (0, .ref (ad 0)), (1, .int p1), (2, .int p2)] dX8_set_246 (by decide) rfl ?_
    have J_248 : WD X K 5 0 0 (WdM K ad ((p_X8_set_l3 σ p1 p2 12 σ 0).1)) [(0, .ref (ad 0)), (1, .int p1), (2, .int p2), (4, .int ((p_X8_set_l3 σ p1 p2 12 σ 0).2))] 297 [] := by
      refine wd_goto C 360 dX8_set_297 (by decide) ?_
      have ej_0 : p_X8_set_s10 σ p1 p2 = (p_X8_set_l3 σ p1 p2 12 σ 0).1 := by unfold p_X8_set_s10; rw [if_neg c_1_98, if_pos c_1_103]
      rw [ej_0] at J_1
      exact wd_lv [0, 1, 2] _ rfl J_1
    have L_248 : ∀ (n : Nat) (s : St) (x4 : Int32), p_X8_set_l3 σ p1 p2 n s x4 = p_X8_set_l3 σ p1 p2 12 σ 0 → 0 ≤ x4.toInt ∧ 12 - x4.toInt ≤ (n : Int) → WD X K 5 0 0 (WdM K ad s) [(0, .ref (ad 0)), (1, .int p1), (2, .int p2), (4, .int x4)] 248 [] := by
      intro n
      induction n with
      | zero =>
        intro s x4 hE hI
        refine wd_iload C dX8_set_248 3 rfl ?_
        refine wd_bipush (v := 12) C dX8_set_250 (by decide) ?_
        refine wd_icmp_ge C 297 dX8_set_252 (by decide) (fun c_252 => ?_) (fun c_252 => ?_)
        · have eL := hE
          rw [p_X8_set_l3] at eL
          rw [← eL] at J_248
          exact wd_lv [0, 1, 2, 3] _ rfl J_248
        · exact absurd (ti_le.mpr (by have h0 := hI.2; (try simp only [ti_lt, ti_le, ti_eq] at h0); have z12 : (12 : Int32).toInt = 12 := (by decide); omega)) c_252
      | succ n ih =>
        intro s x4 hE hI
        refine wd_iload C dX8_set_248 3 rfl ?_
        refine wd_bipush (v := 12) C dX8_set_250 (by decide) ?_
        refine wd_icmp_ge C 297 dX8_set_252 (by decide) (fun c_252 => ?_) (fun c_252 => ?_)
        · have eL := hE
          rw [p_X8_set_l3, if_pos c_252] at eL
          rw [← eL] at J_248
          exact wd_lv [0, 1, 2, 3] _ rfl J_248
        · refine wd_aload_n C dX8_set_255 rfl 0 rfl ?_
          refine gfM_0_36 C tw_855 dX8_set_256 ?_
          refine wd_iconst (v := 0) C dX8_set_259 (by decide) ?_
          refine alM_9 (x := s.2.2 8 (0 : Int32).toNatClampNeg) C (vp_in_iff.mpr (by decide)) rfl dX8_set_260 ?_
          refine wd_iconst (v := 3) C dX8_set_261 (by decide) ?_
          have J_262 : WD X K 5 0 0 (WdM K ad (p_X8_set_s2 σ p1 p2 s x4)) [(0, .ref (ad 0)), (1, .int p1), (2, .int p2), (4, .int x4)] 291 [] := by
            refine wd_iinc (v := x4 + 1) C [(4, .int (x4 + 1)), (0, .ref (ad 0)), (1, .int p1), (2, .int p2)] dX8_set_291 3 rfl (by rfl) (by decide) rfl ?_
            refine wd_goto C 248 dX8_set_294 (by decide) ?_
            have eL := hE
            rw [p_X8_set_l3, if_neg c_252] at eL
            exact wd_lv [1, 2, 3, 0] _ rfl (ih (p_X8_set_s2 σ p1 p2 s x4) (x4 + 1) eL (by have h0 := c_252; (try simp only [ti_lt, ti_le, ti_eq] at h0); have h1 := hI.1; (try simp only [ti_lt, ti_le, ti_eq] at h1); have h2 := hI.2; (try simp only [ti_lt, ti_le, ti_eq] at h2); have z12 : (12 : Int32).toInt = 12 := (by decide); have z1 : (1 : Int32).toInt = 1 := (by decide); have e1 := ti_add (a := x4) (b := 1) (by omega) (by omega); exact ⟨by omega, by omega⟩))
          refine wd_icmp_eq C 283 dX8_set_262 (by decide) (fun c_262 => ?_) (fun c_262 => ?_)
          · refine wd_aload_n C dX8_set_283 rfl 0 rfl ?_
            refine gfM_0_23 C tw_842 dX8_set_284 ?_
            refine wd_iload C dX8_set_287 3 rfl ?_
            refine wd_iconst (v := 0) C dX8_set_289 (by decide) ?_
            refine asM_5 (f := s.2.2 4) C (vp_in_iff.mpr (by have h0 := c_252; (try simp only [ti_lt, ti_le, ti_eq] at h0); have h1 := hI.1; (try simp only [ti_lt, ti_le, ti_eq] at h1); have z12 : (12 : Int32).toInt = 12 := (by decide); omega)) rfl dX8_set_290 ?_
            have ej_0 : p_X8_set_s2 σ p1 p2 s x4 = sa s 4 (upd (s.2.2 4) (x4 : Int32).toNatClampNeg (vp_nar .boolean 0)) := by unfold p_X8_set_s2; rw [if_pos c_262]
            rw [ej_0] at J_262
            exact wd_lv [0, 1, 2, 3] _ rfl J_262
          · refine wd_aload_n C dX8_set_265 rfl 0 rfl ?_
            refine gfM_0_36 C tw_855 dX8_set_266 ?_
            refine wd_iconst (v := 0) C dX8_set_269 (by decide) ?_
            refine alM_9 (x := s.2.2 8 (0 : Int32).toNatClampNeg) C (vp_in_iff.mpr (by decide)) rfl dX8_set_270 ?_
            refine wd_if_ne C 291 dX8_set_271 (by decide) (fun c_271 => ?_) (fun c_271 => ?_)
            · have ej_0 : p_X8_set_s2 σ p1 p2 s x4 = s := by unfold p_X8_set_s2; rw [if_neg c_262, if_neg c_271]
              rw [ej_0] at J_262
              exact wd_lv [0, 1, 2, 3] _ rfl J_262
            · refine wd_iload C dX8_set_274 3 rfl ?_
              refine wd_aload_n C dX8_set_276 rfl 0 rfl ?_
              refine gfM_0_6 (x := s.1 6) C tw_825 rfl dX8_set_277 ?_
              refine wd_icmp_ne C 291 dX8_set_280 (by decide) (fun c_280 => ?_) (fun c_280 => ?_)
              · have ej_0 : p_X8_set_s2 σ p1 p2 s x4 = s := by unfold p_X8_set_s2; rw [if_neg c_262, if_pos c_271, if_neg c_280]
                rw [ej_0] at J_262
                exact wd_lv [0, 1, 2, 3] _ rfl J_262
              · refine wd_aload_n C dX8_set_283 rfl 0 rfl ?_
                refine gfM_0_23 C tw_842 dX8_set_284 ?_
                refine wd_iload C dX8_set_287 3 rfl ?_
                refine wd_iconst (v := 0) C dX8_set_289 (by decide) ?_
                refine asM_5 (f := s.2.2 4) C (vp_in_iff.mpr (by have h0 := c_252; (try simp only [ti_lt, ti_le, ti_eq] at h0); have h1 := hI.1; (try simp only [ti_lt, ti_le, ti_eq] at h1); have z12 : (12 : Int32).toInt = 12 := (by decide); omega)) rfl dX8_set_290 ?_
                have ej_0 : p_X8_set_s2 σ p1 p2 s x4 = sa s 4 (upd (s.2.2 4) (x4 : Int32).toNatClampNeg (vp_nar .boolean 0)) := by unfold p_X8_set_s2; rw [if_neg c_262, if_pos c_271, if_pos c_280]
                rw [ej_0] at J_262
                exact wd_lv [0, 1, 2, 3] _ rfl J_262
    exact wd_lv [1, 2, 3, 0] _ rfl (L_248 12 σ 0 rfl (⟨by decide, by decide⟩))
  by_cases c_1_104 : p1 = 104
  · refine wd_tsw C 300 dX8_set_1 (by decide) (by rw [c_1_104]; decide +kernel) ?_
    refine wd_iconst (v := 0) C dX8_set_300 (by decide) ?_
    refine wd_istore C [(4, .int 0), (0, .ref (ad 0)), (1, .int p1), (2, .int p2)] dX8_set_301 (by decide) rfl ?_
    have J_303 : WD X K 5 0 0 (WdM K ad ((p_X8_set_l6 σ p1 p2 6 σ 0).1)) [(0, .ref (ad 0)), (1, .int p1), (2, .int p2), (4, .int ((p_X8_set_l6 σ p1 p2 6 σ 0).2))] 344 [] := by
      refine wd_goto C 360 dX8_set_344 (by decide) ?_
      have ej_0 : p_X8_set_s10 σ p1 p2 = (p_X8_set_l6 σ p1 p2 6 σ 0).1 := by unfold p_X8_set_s10; rw [if_neg c_1_98, if_neg c_1_103, if_pos c_1_104]
      rw [ej_0] at J_1
      exact wd_lv [0, 1, 2] _ rfl J_1
    have L_303 : ∀ (n : Nat) (s : St) (x4 : Int32), p_X8_set_l6 σ p1 p2 n s x4 = p_X8_set_l6 σ p1 p2 6 σ 0 → 0 ≤ x4.toInt ∧ 6 - x4.toInt ≤ (n : Int) ∧ True → WD X K 5 0 0 (WdM K ad s) [(0, .ref (ad 0)), (1, .int p1), (2, .int p2), (4, .int x4)] 303 [] := by
      intro n
      induction n with
      | zero =>
        intro s x4 hE hI
        refine wd_iload C dX8_set_303 3 rfl ?_
        refine wd_aload_n C dX8_set_305 rfl 0 rfl ?_
        refine wd_callV C 0 (c_X8_kept _ K ad s) 0 (wcM_0 K ad _) rfl rfl tw_1018 tw_1020 tw_50 tw_72 tw_1021 (by decide +kernel) rfl (by decide) (Nat.le_of_ble_eq_true rfl) dX8_set_306 _ rfl ?_
        refine wd_icmp_ge C 344 dX8_set_309 (by decide) (fun c_309 => ?_) (fun c_309 => ?_)
        · have eL := hE
          rw [p_X8_set_l6] at eL
          rw [← eL] at J_303
          exact wd_lv [0, 1, 2, 3] _ rfl J_303
        · exact absurd (ti_le.mpr (by have h2 := hI.2.1; have k6 := keptm6 s; omega)) c_309
      | succ n ih =>
        intro s x4 hE hI
        refine wd_iload C dX8_set_303 3 rfl ?_
        refine wd_aload_n C dX8_set_305 rfl 0 rfl ?_
        refine wd_callV C 0 (c_X8_kept _ K ad s) 0 (wcM_0 K ad _) rfl rfl tw_1018 tw_1020 tw_50 tw_72 tw_1021 (by decide +kernel) rfl (by decide) (Nat.le_of_ble_eq_true rfl) dX8_set_306 _ rfl ?_
        refine wd_icmp_ge C 344 dX8_set_309 (by decide) (fun c_309 => ?_) (fun c_309 => ?_)
        · have eL := hE
          rw [p_X8_set_l6, if_pos c_309] at eL
          rw [← eL] at J_303
          exact wd_lv [0, 1, 2, 3] _ rfl J_303
        · refine wd_aload_n C dX8_set_312 rfl 0 rfl ?_
          refine gfM_0_36 C tw_855 dX8_set_313 ?_
          refine wd_iload C dX8_set_316 3 rfl ?_
          refine alM_9 (x := s.2.2 8 (x4 : Int32).toNatClampNeg) C (num_in c_309 hI.1) rfl dX8_set_318 ?_
          refine wd_iconst (v := 4) C dX8_set_319 (by decide) ?_
          have J_320 : WD X K 5 0 0 (WdM K ad (p_X8_set_s5 σ p1 p2 s x4)) [(0, .ref (ad 0)), (1, .int p1), (2, .int p2), (4, .int x4)] 338 [] := by
            refine wd_iinc (v := x4 + 1) C [(4, .int (x4 + 1)), (0, .ref (ad 0)), (1, .int p1), (2, .int p2)] dX8_set_338 3 rfl (by rfl) (by decide) rfl ?_
            refine wd_goto C 303 dX8_set_341 (by decide) ?_
            have eL := hE
            rw [p_X8_set_l6, if_neg c_309] at eL
            exact wd_lv [1, 2, 3, 0] _ rfl (ih (p_X8_set_s5 σ p1 p2 s x4) (x4 + 1) eL (by have h0 : ¬ (p_X8_kept s).toInt ≤ x4.toInt := (fun z => c_309 (ti_le.mpr z)); have k6 := keptm6 s; have h1 := hI.1; have h2 := hI.2.1; have z1 : (1 : Int32).toInt = 1 := (by decide); have e1 := ti_add (a := x4) (b := 1) (by omega) (by omega); exact ⟨by omega, by omega, trivial⟩))
          refine wd_icmp_ne C 338 dX8_set_320 (by decide) (fun c_320 => ?_) (fun c_320 => ?_)
          · have ej_0 : p_X8_set_s5 σ p1 p2 s x4 = s := by unfold p_X8_set_s5; rw [if_neg c_320]
            rw [ej_0] at J_320
            exact wd_lv [0, 1, 2, 3] _ rfl J_320
          · refine wd_aload_n C dX8_set_323 rfl 0 rfl ?_
            refine wd_iload_n C dX8_set_324 rfl 1 rfl ?_
            refine wd_bipush (v := 104) C dX8_set_325 (by decide) ?_
            have J_327 : WD X K 5 0 0 (WdM K ad s) [(0, .ref (ad 0)), (1, .int p1), (2, .int p2), (4, .int x4)] 335 [.int (b2i (p_X8_set_t4 σ p1 p2 s x4)), .ref (ad 0)] := by
              refine pfM_0_10 C tw_829 (p_X8_set_t4 σ p1 p2 s x4) dX8_set_335 ?_
              have ej_0 : p_X8_set_s5 σ p1 p2 s x4 = sb s 10 (p_X8_set_t4 σ p1 p2 s x4) := by unfold p_X8_set_s5; rw [if_pos c_320]
              rw [ej_0] at J_320
              exact wd_lv [0, 1, 2, 3] _ rfl J_320
            refine wd_icmp_ne C 334 dX8_set_327 (by decide) (fun c_327 => ?_) (fun c_327 => ?_)
            · refine wd_iconst (v := 0) C dX8_set_334 (by decide) ?_
              have ej_0 : p_X8_set_t4 σ p1 p2 s x4 = false := by unfold p_X8_set_t4; rw [if_neg c_327]
              rw [ej_0] at J_327
              exact wd_lv [0, 1, 2, 3] _ rfl J_327
            · refine wd_iconst (v := 1) C dX8_set_330 (by decide) ?_
              refine wd_goto C 335 dX8_set_331 (by decide) ?_
              have ej_0 : p_X8_set_t4 σ p1 p2 s x4 = true := by unfold p_X8_set_t4; rw [if_pos c_327]
              rw [ej_0] at J_327
              exact wd_lv [0, 1, 2, 3] _ rfl J_327
    exact wd_lv [1, 2, 3, 0] _ rfl (L_303 6 σ 0 rfl (⟨by decide, by decide, trivial⟩))
  by_cases c_1_108 : p1 = 108
  · refine wd_tsw C 300 dX8_set_1 (by decide) (by rw [c_1_108]; decide +kernel) ?_
    refine wd_iconst (v := 0) C dX8_set_300 (by decide) ?_
    refine wd_istore C [(4, .int 0), (0, .ref (ad 0)), (1, .int p1), (2, .int p2)] dX8_set_301 (by decide) rfl ?_
    have J_303 : WD X K 5 0 0 (WdM K ad ((p_X8_set_l6 σ p1 p2 6 σ 0).1)) [(0, .ref (ad 0)), (1, .int p1), (2, .int p2), (4, .int ((p_X8_set_l6 σ p1 p2 6 σ 0).2))] 344 [] := by
      refine wd_goto C 360 dX8_set_344 (by decide) ?_
      have ej_0 : p_X8_set_s10 σ p1 p2 = (p_X8_set_l6 σ p1 p2 6 σ 0).1 := by unfold p_X8_set_s10; rw [if_neg c_1_98, if_neg c_1_103, if_neg c_1_104, if_pos c_1_108]
      rw [ej_0] at J_1
      exact wd_lv [0, 1, 2] _ rfl J_1
    have L_303 : ∀ (n : Nat) (s : St) (x4 : Int32), p_X8_set_l6 σ p1 p2 n s x4 = p_X8_set_l6 σ p1 p2 6 σ 0 → 0 ≤ x4.toInt ∧ 6 - x4.toInt ≤ (n : Int) ∧ True → WD X K 5 0 0 (WdM K ad s) [(0, .ref (ad 0)), (1, .int p1), (2, .int p2), (4, .int x4)] 303 [] := by
      intro n
      induction n with
      | zero =>
        intro s x4 hE hI
        refine wd_iload C dX8_set_303 3 rfl ?_
        refine wd_aload_n C dX8_set_305 rfl 0 rfl ?_
        refine wd_callV C 0 (c_X8_kept _ K ad s) 0 (wcM_0 K ad _) rfl rfl tw_1018 tw_1020 tw_50 tw_72 tw_1021 (by decide +kernel) rfl (by decide) (Nat.le_of_ble_eq_true rfl) dX8_set_306 _ rfl ?_
        refine wd_icmp_ge C 344 dX8_set_309 (by decide) (fun c_309 => ?_) (fun c_309 => ?_)
        · have eL := hE
          rw [p_X8_set_l6] at eL
          rw [← eL] at J_303
          exact wd_lv [0, 1, 2, 3] _ rfl J_303
        · exact absurd (ti_le.mpr (by have h2 := hI.2.1; have k6 := keptm6 s; omega)) c_309
      | succ n ih =>
        intro s x4 hE hI
        refine wd_iload C dX8_set_303 3 rfl ?_
        refine wd_aload_n C dX8_set_305 rfl 0 rfl ?_
        refine wd_callV C 0 (c_X8_kept _ K ad s) 0 (wcM_0 K ad _) rfl rfl tw_1018 tw_1020 tw_50 tw_72 tw_1021 (by decide +kernel) rfl (by decide) (Nat.le_of_ble_eq_true rfl) dX8_set_306 _ rfl ?_
        refine wd_icmp_ge C 344 dX8_set_309 (by decide) (fun c_309 => ?_) (fun c_309 => ?_)
        · have eL := hE
          rw [p_X8_set_l6, if_pos c_309] at eL
          rw [← eL] at J_303
          exact wd_lv [0, 1, 2, 3] _ rfl J_303
        · refine wd_aload_n C dX8_set_312 rfl 0 rfl ?_
          refine gfM_0_36 C tw_855 dX8_set_313 ?_
          refine wd_iload C dX8_set_316 3 rfl ?_
          refine alM_9 (x := s.2.2 8 (x4 : Int32).toNatClampNeg) C (num_in c_309 hI.1) rfl dX8_set_318 ?_
          refine wd_iconst (v := 4) C dX8_set_319 (by decide) ?_
          have J_320 : WD X K 5 0 0 (WdM K ad (p_X8_set_s5 σ p1 p2 s x4)) [(0, .ref (ad 0)), (1, .int p1), (2, .int p2), (4, .int x4)] 338 [] := by
            refine wd_iinc (v := x4 + 1) C [(4, .int (x4 + 1)), (0, .ref (ad 0)), (1, .int p1), (2, .int p2)] dX8_set_338 3 rfl (by rfl) (by decide) rfl ?_
            refine wd_goto C 303 dX8_set_341 (by decide) ?_
            have eL := hE
            rw [p_X8_set_l6, if_neg c_309] at eL
            exact wd_lv [1, 2, 3, 0] _ rfl (ih (p_X8_set_s5 σ p1 p2 s x4) (x4 + 1) eL (by have h0 : ¬ (p_X8_kept s).toInt ≤ x4.toInt := (fun z => c_309 (ti_le.mpr z)); have k6 := keptm6 s; have h1 := hI.1; have h2 := hI.2.1; have z1 : (1 : Int32).toInt = 1 := (by decide); have e1 := ti_add (a := x4) (b := 1) (by omega) (by omega); exact ⟨by omega, by omega, trivial⟩))
          refine wd_icmp_ne C 338 dX8_set_320 (by decide) (fun c_320 => ?_) (fun c_320 => ?_)
          · have ej_0 : p_X8_set_s5 σ p1 p2 s x4 = s := by unfold p_X8_set_s5; rw [if_neg c_320]
            rw [ej_0] at J_320
            exact wd_lv [0, 1, 2, 3] _ rfl J_320
          · refine wd_aload_n C dX8_set_323 rfl 0 rfl ?_
            refine wd_iload_n C dX8_set_324 rfl 1 rfl ?_
            refine wd_bipush (v := 104) C dX8_set_325 (by decide) ?_
            have J_327 : WD X K 5 0 0 (WdM K ad s) [(0, .ref (ad 0)), (1, .int p1), (2, .int p2), (4, .int x4)] 335 [.int (b2i (p_X8_set_t4 σ p1 p2 s x4)), .ref (ad 0)] := by
              refine pfM_0_10 C tw_829 (p_X8_set_t4 σ p1 p2 s x4) dX8_set_335 ?_
              have ej_0 : p_X8_set_s5 σ p1 p2 s x4 = sb s 10 (p_X8_set_t4 σ p1 p2 s x4) := by unfold p_X8_set_s5; rw [if_pos c_320]
              rw [ej_0] at J_320
              exact wd_lv [0, 1, 2, 3] _ rfl J_320
            refine wd_icmp_ne C 334 dX8_set_327 (by decide) (fun c_327 => ?_) (fun c_327 => ?_)
            · refine wd_iconst (v := 0) C dX8_set_334 (by decide) ?_
              have ej_0 : p_X8_set_t4 σ p1 p2 s x4 = false := by unfold p_X8_set_t4; rw [if_neg c_327]
              rw [ej_0] at J_327
              exact wd_lv [0, 1, 2, 3] _ rfl J_327
            · refine wd_iconst (v := 1) C dX8_set_330 (by decide) ?_
              refine wd_goto C 335 dX8_set_331 (by decide) ?_
              have ej_0 : p_X8_set_t4 σ p1 p2 s x4 = true := by unfold p_X8_set_t4; rw [if_pos c_327]
              rw [ej_0] at J_327
              exact wd_lv [0, 1, 2, 3] _ rfl J_327
    exact wd_lv [1, 2, 3, 0] _ rfl (L_303 6 σ 0 rfl (⟨by decide, by decide, trivial⟩))
  by_cases c_1_109 : p1 = 109
  · refine wd_tsw C 133 dX8_set_1 (by decide) (by rw [c_1_109]; decide +kernel) ?_
    refine wd_aload_n C dX8_set_133 rfl 0 rfl ?_
    refine gfM_0_37 (x := σ.1 37) C tw_856 rfl dX8_set_134 ?_
    have J_137 : WD X K 5 0 0 (WdM K ad (p_X8_set_s7 σ p1 p2)) [(0, .ref (ad 0)), (1, .int p1), (2, .int p2)] 145 [] := by
      refine wd_iconst (v := 0) C dX8_set_145 (by decide) ?_
      refine wd_istore_n C [(3, .int 0), (0, .ref (ad 0)), (1, .int p1), (2, .int p2)] dX8_set_146 rfl (by decide) rfl ?_
      have J_147 : WD X K 5 0 0 (WdM K ad ((p_X8_set_l8 σ p1 p2 6 (p_X8_set_s7 σ p1 p2) 0).1)) [(0, .ref (ad 0)), (1, .int p1), (2, .int p2), (3, .int ((p_X8_set_l8 σ p1 p2 6 (p_X8_set_s7 σ p1 p2) 0).2))] 171 [] := by
        refine wd_goto C 360 dX8_set_171 (by decide) ?_
        have ej_0 : p_X8_set_s10 σ p1 p2 = (p_X8_set_l8 σ p1 p2 6 (p_X8_set_s7 σ p1 p2) 0).1 := by unfold p_X8_set_s10; rw [if_neg c_1_98, if_neg c_1_103, if_neg c_1_104, if_neg c_1_108, if_pos c_1_109]
        rw [ej_0] at J_1
        exact wd_lv [0, 1, 2] _ rfl J_1
      have L_147 : ∀ (n : Nat) (s : St) (x3 : Int32), p_X8_set_l8 σ p1 p2 n s x3 = p_X8_set_l8 σ p1 p2 6 (p_X8_set_s7 σ p1 p2) 0 → 0 ≤ x3.toInt ∧ 6 - x3.toInt ≤ (n : Int) ∧ True → WD X K 5 0 0 (WdM K ad s) [(0, .ref (ad 0)), (1, .int p1), (2, .int p2), (3, .int x3)] 147 [] := by
        intro n
        induction n with
        | zero =>
          intro s x3 hE hI
          refine wd_iload_n C dX8_set_147 rfl 3 rfl ?_
          refine wd_aload_n C dX8_set_148 rfl 0 rfl ?_
          refine wd_callV C 0 (c_X8_kept _ K ad s) 0 (wcM_0 K ad _) rfl rfl tw_1018 tw_1020 tw_50 tw_72 tw_1021 (by decide +kernel) rfl (by decide) (Nat.le_of_ble_eq_true rfl) dX8_set_149 _ rfl ?_
          refine wd_icmp_ge C 171 dX8_set_152 (by decide) (fun c_152 => ?_) (fun c_152 => ?_)
          · have eL := hE
            rw [p_X8_set_l8] at eL
            rw [← eL] at J_147
            exact wd_lv [0, 1, 2, 3] _ rfl J_147
          · exact absurd (ti_le.mpr (by have h2 := hI.2.1; have k6 := keptm6 s; omega)) c_152
        | succ n ih =>
          intro s x3 hE hI
          refine wd_iload_n C dX8_set_147 rfl 3 rfl ?_
          refine wd_aload_n C dX8_set_148 rfl 0 rfl ?_
          refine wd_callV C 0 (c_X8_kept _ K ad s) 0 (wcM_0 K ad _) rfl rfl tw_1018 tw_1020 tw_50 tw_72 tw_1021 (by decide +kernel) rfl (by decide) (Nat.le_of_ble_eq_true rfl) dX8_set_149 _ rfl ?_
          refine wd_icmp_ge C 171 dX8_set_152 (by decide) (fun c_152 => ?_) (fun c_152 => ?_)
          · have eL := hE
            rw [p_X8_set_l8, if_pos c_152] at eL
            rw [← eL] at J_147
            exact wd_lv [0, 1, 2, 3] _ rfl J_147
          · refine wd_aload_n C dX8_set_155 rfl 0 rfl ?_
            refine wd_aload_n C dX8_set_156 rfl 0 rfl ?_
            refine gfM_0_36 C tw_855 dX8_set_157 ?_
            refine wd_iload_n C dX8_set_160 rfl 3 rfl ?_
            refine alM_9 (x := s.2.2 8 (x3 : Int32).toNatClampNeg) C (num_in c_152 hI.1) rfl dX8_set_161 ?_
            refine wd_callV C 1 (c_X8_dip _ K ad s (s.2.2 8 (x3 : Int32).toNatClampNeg)) 0 (wcM_0 K ad _) rfl rfl tw_1056 tw_1058 tw_58 tw_72 tw_1059 (by decide +kernel) rfl (by decide) (Nat.le_of_ble_eq_true rfl) dX8_set_162 _ rfl ?_
            refine wd_iinc (v := x3 + 1) C [(3, .int (x3 + 1)), (0, .ref (ad 0)), (1, .int p1), (2, .int p2)] dX8_set_165 3 rfl (by rfl) (by decide) rfl ?_
            refine wd_goto C 147 dX8_set_168 (by decide) ?_
            have eL := hE
            rw [p_X8_set_l8, if_neg c_152] at eL
            exact wd_lv [1, 2, 3, 0] _ rfl (ih ((p_X8_dip s (s.2.2 8 (x3 : Int32).toNatClampNeg))) (x3 + 1) eL (by have h0 : ¬ (p_X8_kept s).toInt ≤ x3.toInt := (fun z => c_152 (ti_le.mpr z)); have k6 := keptm6 s; have h1 := hI.1; have h2 := hI.2.1; have z1 : (1 : Int32).toInt = 1 := (by decide); have e1 := ti_add (a := x3) (b := 1) (by omega) (by omega); exact ⟨by omega, by omega, trivial⟩))
      exact wd_lv [1, 2, 3, 0] _ rfl (L_147 6 (p_X8_set_s7 σ p1 p2) 0 rfl (⟨by decide, by decide, trivial⟩))
    refine wd_if_ne C 145 dX8_set_137 (by decide) (fun c_137 => ?_) (fun c_137 => ?_)
    · have ej_0 : p_X8_set_s7 σ p1 p2 = σ := by unfold p_X8_set_s7; rw [if_neg c_137]
      rw [ej_0] at J_137
      exact wd_lv [0, 1, 2] _ rfl J_137
    · refine wd_aload_n C dX8_set_140 rfl 0 rfl ?_
      refine wd_iconst (v := 0) C dX8_set_141 (by decide) ?_
      refine wd_callV C 1 (c_X8_setPen _ K ad σ 0) 0 (wcM_0 K ad _) rfl rfl tw_807 tw_809 tw_31 tw_72 tw_810 (by decide +kernel) rfl (by decide) (Nat.le_of_ble_eq_true rfl) dX8_set_142 _ rfl ?_
      have ej_0 : p_X8_set_s7 σ p1 p2 = (p_X8_setPen σ 0) := by unfold p_X8_set_s7; rw [if_pos c_137]
      rw [ej_0] at J_137
      exact wd_lv [0, 1, 2] _ rfl J_137
  by_cases c_1_110 : p1 = 110
  · refine wd_tsw C 347 dX8_set_1 (by decide) (by rw [c_1_110]; decide +kernel) ?_
    refine wd_aload_n C dX8_set_347 rfl 0 rfl ?_
    refine wd_aload_n C dX8_set_348 rfl 0 rfl ?_
    refine gfM_0_36 C tw_855 dX8_set_349 ?_
    refine wd_iconst (v := 0) C dX8_set_352 (by decide) ?_
    refine alM_9 (x := σ.2.2 8 (0 : Int32).toNatClampNeg) C (vp_in_iff.mpr (by decide)) rfl dX8_set_353 ?_
    refine wd_callV C 1 (c_X8_answer _ K ad σ (σ.2.2 8 (0 : Int32).toNatClampNeg) (hM)) 0 (wcM_0 K ad _) rfl rfl tw_1060 tw_1062 tw_59 tw_72 tw_1063 (by decide +kernel) rfl (by decide) (Nat.le_of_ble_eq_true rfl) dX8_set_354 _ rfl ?_
    refine wd_goto C 360 dX8_set_357 (by decide) ?_
    have ej_0 : p_X8_set_s10 σ p1 p2 = (p_X8_answer σ (σ.2.2 8 (0 : Int32).toNatClampNeg)) := by unfold p_X8_set_s10; rw [if_neg c_1_98, if_neg c_1_103, if_neg c_1_104, if_neg c_1_108, if_neg c_1_109, if_pos c_1_110]
    rw [ej_0] at J_1
    exact wd_lv [0, 1, 2] _ rfl J_1
  by_cases c_1_114 : p1 = 114
  · refine wd_tsw C 174 dX8_set_1 (by decide) (by rw [c_1_114]; decide +kernel) ?_
    refine wd_aload_n C dX8_set_174 rfl 0 rfl ?_
    refine gfM_0_36 C tw_855 dX8_set_175 ?_
    refine wd_iconst (v := 1) C dX8_set_178 (by decide) ?_
    refine alM_9 (x := σ.2.2 8 (1 : Int32).toNatClampNeg) C (vp_in_iff.mpr (by decide)) rfl dX8_set_179 ?_
    have J_180 : WD X K 5 0 0 (WdM K ad σ) [(0, .ref (ad 0)), (1, .int p1), (2, .int p2)] 196 [.int (p_X8_set_t9 σ p1 p2)] := by
      refine wd_istore_n C [(3, .int (p_X8_set_t9 σ p1 p2)), (0, .ref (ad 0)), (1, .int p1), (2, .int p2)] dX8_set_196 rfl (by decide) rfl ?_
      refine wd_iload_n C dX8_set_197 rfl 3 rfl ?_
      refine wd_iconst (v := 1) C dX8_set_198 (by decide) ?_
      refine wd_isub C dX8_set_199 ?_
      refine wd_iload_n C dX8_set_200 rfl 0 rfl ?_
      refine wd_icmp_ge C 360 dX8_set_201 (by decide) (fun c_201 => ?_) (fun c_201 => ?_)
      · have ej_0 : p_X8_set_s10 σ p1 p2 = σ := by unfold p_X8_set_s10; rw [if_neg c_1_98, if_neg c_1_103, if_neg c_1_104, if_neg c_1_108, if_neg c_1_109, if_neg c_1_110, if_pos c_1_114, if_pos c_201]
        rw [ej_0] at J_1
        exact wd_lv [1, 2, 3] _ rfl J_1
      · refine wd_iload_n C dX8_set_204 rfl 0 rfl ?_
        refine wd_bipush (v := 8) C dX8_set_205 (by decide) ?_
        refine wd_icmp_ge C 360 dX8_set_207 (by decide) (fun c_207 => ?_) (fun c_207 => ?_)
        · have ej_0 : p_X8_set_s10 σ p1 p2 = σ := by unfold p_X8_set_s10; rw [if_neg c_1_98, if_neg c_1_103, if_neg c_1_104, if_neg c_1_108, if_neg c_1_109, if_neg c_1_110, if_pos c_1_114, if_neg c_201, if_pos c_207]
          rw [ej_0] at J_1
          exact wd_lv [1, 2, 3] _ rfl J_1
        · refine wd_aload_n C dX8_set_210 rfl 1 rfl ?_
          refine wd_iload_n C dX8_set_211 rfl 3 rfl ?_
          refine wd_iconst (v := 1) C dX8_set_212 (by decide) ?_
          refine wd_isub C dX8_set_213 ?_
          refine pfM_0_7 C tw_826 (p2 - 1) dX8_set_214 ?_
          refine wd_aload_n C dX8_set_217 rfl 1 rfl ?_
          refine wd_iload_n C dX8_set_218 rfl 0 rfl ?_
          refine pfM_0_8 C tw_827 (p_X8_set_t9 σ p1 p2) dX8_set_219 ?_
          refine wd_aload_n C dX8_set_222 rfl 1 rfl ?_
          refine wd_iconst (v := 1) C dX8_set_223 (by decide) ?_
          refine wd_iconst (v := 0) C dX8_set_224 (by decide) ?_
          refine wd_callV C 2 (c_X8_home _ K ad (si (si σ 7 (p2 - 1)) 8 (p_X8_set_t9 σ p1 p2)) 1 0) 0 (wcM_0 K ad _) rfl rfl tw_1022 tw_1024 tw_51 tw_72 tw_1025 (by decide +kernel) rfl (by decide) (Nat.le_of_ble_eq_true rfl) dX8_set_225 _ rfl ?_
          refine wd_goto C 360 dX8_set_228 (by decide) ?_
          have ej_0 : p_X8_set_s10 σ p1 p2 = (p_X8_home (si (si σ 7 (p2 - 1)) 8 (p_X8_set_t9 σ p1 p2)) 1 0) := by unfold p_X8_set_s10; rw [if_neg c_1_98, if_neg c_1_103, if_neg c_1_104, if_neg c_1_108, if_neg c_1_109, if_neg c_1_110, if_pos c_1_114, if_neg c_201, if_neg c_207]
          rw [ej_0] at J_1
          exact wd_lv [1, 2, 3] _ rfl J_1
    refine wd_if_ne C 188 dX8_set_180 (by decide) (fun c_180 => ?_) (fun c_180 => ?_)
    · refine wd_aload_n C dX8_set_188 rfl 0 rfl ?_
      refine gfM_0_36 C tw_855 dX8_set_189 ?_
      refine wd_iconst (v := 1) C dX8_set_192 (by decide) ?_
      refine alM_9 (x := σ.2.2 8 (1 : Int32).toNatClampNeg) C (vp_in_iff.mpr (by decide)) rfl dX8_set_193 ?_
      refine wd_iconst (v := 1) C dX8_set_194 (by decide) ?_
      refine wd_isub C dX8_set_195 ?_
      have ej_0 : p_X8_set_t9 σ p1 p2 = (σ.2.2 8 (1 : Int32).toNatClampNeg) - 1 := by unfold p_X8_set_t9; rw [if_neg c_180]
      rw [ej_0] at J_180
      exact wd_lv [0, 1, 2] _ rfl J_180
    · refine wd_bipush (v := 7) C dX8_set_183 (by decide) ?_
      refine wd_goto C 196 dX8_set_185 (by decide) ?_
      have ej_0 : p_X8_set_t9 σ p1 p2 = 7 := by unfold p_X8_set_t9; rw [if_pos c_180]
      rw [ej_0] at J_180
      exact wd_lv [0, 1, 2] _ rfl J_180
  by_cases c_1_115 : p1 = 115
  · refine wd_tsw C 231 dX8_set_1 (by decide) (by rw [c_1_115]; decide +kernel) ?_
    refine wd_aload_n C dX8_set_231 rfl 0 rfl ?_
    refine wd_callV C 0 (c_X8_save _ K ad σ) 0 (wcM_0 K ad _) rfl rfl tw_811 tw_813 tw_32 tw_72 tw_814 (by decide +kernel) rfl (by decide) (Nat.le_of_ble_eq_true rfl) dX8_set_232 _ rfl ?_
    refine wd_goto C 360 dX8_set_235 (by decide) ?_
    have ej_0 : p_X8_set_s10 σ p1 p2 = (p_X8_save σ) := by unfold p_X8_set_s10; rw [if_neg c_1_98, if_neg c_1_103, if_neg c_1_104, if_neg c_1_108, if_neg c_1_109, if_neg c_1_110, if_neg c_1_114, if_pos c_1_115]
    rw [ej_0] at J_1
    exact wd_lv [0, 1, 2] _ rfl J_1
  by_cases c_1_117 : p1 = 117
  · refine wd_tsw C 238 dX8_set_1 (by decide) (by rw [c_1_117]; decide +kernel) ?_
    refine wd_aload_n C dX8_set_238 rfl 0 rfl ?_
    refine wd_callV C 0 (c_X8_bring _ K ad σ) 0 (wcM_0 K ad _) rfl rfl tw_1002 tw_1004 tw_46 tw_72 tw_1005 (by decide +kernel) rfl (by decide) (Nat.le_of_ble_eq_true rfl) dX8_set_239 _ rfl ?_
    refine wd_goto C 360 dX8_set_242 (by decide) ?_
    have ej_0 : p_X8_set_s10 σ p1 p2 = (p_X8_bring σ) := by unfold p_X8_set_s10; rw [if_neg c_1_98, if_neg c_1_103, if_neg c_1_104, if_neg c_1_108, if_neg c_1_109, if_neg c_1_110, if_neg c_1_114, if_neg c_1_115, if_pos c_1_117]
    rw [ej_0] at J_1
    exact wd_lv [0, 1, 2] _ rfl J_1
  refine wd_tsw C 360 dX8_set_1 (by decide) (by rw [swT_d [98, 103, 104, 108, 109, 110, 114, 115, 117] (List.forall_mem_cons.mpr ⟨lv_neT c_1_98 (by decide), List.forall_mem_cons.mpr ⟨lv_neT c_1_103 (by decide), List.forall_mem_cons.mpr ⟨lv_neT c_1_104 (by decide), List.forall_mem_cons.mpr ⟨lv_neT c_1_108 (by decide), List.forall_mem_cons.mpr ⟨lv_neT c_1_109 (by decide), List.forall_mem_cons.mpr ⟨lv_neT c_1_110 (by decide), List.forall_mem_cons.mpr ⟨lv_neT c_1_114 (by decide), List.forall_mem_cons.mpr ⟨lv_neT c_1_115 (by decide), List.forall_mem_cons.mpr ⟨lv_neT c_1_117 (by decide), fun _ h => absurd h List.not_mem_nil⟩⟩⟩⟩⟩⟩⟩⟩⟩) (by decide +kernel)]; decide) ?_
  have ej_0 : p_X8_set_s10 σ p1 p2 = σ := by unfold p_X8_set_s10; rw [if_neg c_1_98, if_neg c_1_103, if_neg c_1_104, if_neg c_1_108, if_neg c_1_109, if_neg c_1_110, if_neg c_1_114, if_neg c_1_115, if_neg c_1_117]
  rw [ej_0] at J_1
  exact wd_lv [0, 1, 2] _ rfl J_1
theorem set1 (σ : St) (p1 p2 : Int32) : ∀ (n : Nat) (s : St) (x : Int32), OkM s → OkM (p_X8_set_l1 σ p1 p2 n s x).1 := by
  intro n
  induction n with
  | zero => intro s x h; exact h
  | succ n ih =>
    intro s x h
    rw [p_X8_set_l1]
    by_cases h1 : p2 ≤ x
    · rw [if_pos h1]; exact h
    · rw [if_neg h1]
      by_cases h2 : (24 : Int32) ≤ x
      · rw [if_pos h2]; exact h
      · rw [if_neg h2]
        by_cases h3 : s.1 25 < 0
        · rw [if_pos h3]; exact h
        · rw [if_neg h3]; exact ih _ _ (okm_print _ h)
theorem set3 (σ : St) (p1 p2 : Int32) : ∀ (n : Nat) (s : St) (x : Int32), OkM s → OkM (p_X8_set_l3 σ p1 p2 n s x).1 := by
  intro n
  induction n with
  | zero => intro s x h; exact h
  | succ n ih =>
    intro s x h
    rw [p_X8_set_l3]
    by_cases h1 : (12 : Int32) ≤ x
    · rw [if_pos h1]; exact h
    · rw [if_neg h1]
      refine ih _ _ ?_
      unfold p_X8_set_s2
      have hs : ∀ f : Nat → Int32, OkM (sa s 4 f) := fun f => okm_of (a := sa s 4 f) (b := s) rfl rfl h
      exact okm_ite (fun _ => hs _) fun _ => okm_ite (fun _ => okm_ite (fun _ => hs _) fun _ => h) fun _ => h
theorem set6 (σ : St) (p1 p2 : Int32) : ∀ (n : Nat) (s : St) (x : Int32), OkM s → OkM (p_X8_set_l6 σ p1 p2 n s x).1 := by
  intro n
  induction n with
  | zero => intro s x h; exact h
  | succ n ih =>
    intro s x h
    rw [p_X8_set_l6]
    by_cases h1 : p_X8_kept s ≤ x
    · rw [if_pos h1]; exact h
    · rw [if_neg h1]
      refine ih _ _ ?_
      unfold p_X8_set_s5
      exact okm_ite (fun _ => okm_sb _ _ h) fun _ => h
theorem set8 (σ : St) (p1 p2 : Int32) : ∀ (n : Nat) (s : St) (x : Int32), OkM s → OkM (p_X8_set_l8 σ p1 p2 n s x).1 := by
  intro n
  induction n with
  | zero => intro s x h; exact h
  | succ n ih =>
    intro s x h
    rw [p_X8_set_l8]
    by_cases h1 : p_X8_kept s ≤ x
    · rw [if_pos h1]; exact h
    · rw [if_neg h1]; exact ih _ _ (okm_dip _ h)
theorem okm_set {σ : St} (p1 p2 : Int32) (hn : R2 1 9999 p2) (hM : OkM σ) : OkM (p_X8_set σ p1 p2) := by
  unfold p_X8_set p_X8_set_s10
  refine okm_ite (fun _ => set1 σ p1 p2 _ _ _ hM) fun _ => okm_ite (fun _ => set3 σ p1 p2 _ _ _ hM) fun _ => okm_ite (fun _ => set6 σ p1 p2 _ _ _ hM) fun _ => okm_ite (fun _ => set6 σ p1 p2 _ _ _ hM) fun _ => okm_ite (fun _ => set8 σ p1 p2 _ _ _ (okm_set7 p1 p2 hM)) fun _ => okm_ite (fun _ => okm_answer _ hM) fun _ => okm_ite (fun _ => okm_ite (fun _ => hM) fun h1 => okm_ite (fun _ => hM) fun h2 => ?_) fun _ => okm_ite (fun _ => okm_save hM) fun _ => okm_ite (fun _ => okm_bring hM) fun _ => hM
  rw [ti_le] at h1 h2
  have z8 : (8 : Int32).toInt = 8 := by decide
  have z1 : (1 : Int32).toInt = 1 := by decide
  have a := hn.1
  have b := hn.2
  have e := ti_sub (a := p2) (b := 1) (by omega) (by omega)
  exact okm_home (R2.lit 1 (by decide)) (R2.lit 0 (by decide)) (okm_bot ⟨by omega, by omega⟩ (okm_top ⟨by omega, by omega⟩ hM))
