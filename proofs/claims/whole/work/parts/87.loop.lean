/-! ===== the law's loop ===== -/
section LOOP
variable {X : WX} {K : KX} {b L ao : Nat} {sc : Nat → Int32} {aD aM : Nat → Nat}
theorem in_of {i : Int32} {L : Nat} (h0 : 0 ≤ i.toInt) (h1 : i.toInt < L) : vp_in i L := by
  unfold vp_in
  rw [ti_lt, tn]
  show ¬ (i.toInt < 0 ∨ L ≤ i.toInt.toNat)
  omega
set_option maxRecDepth 100000 in
theorem law_loop (C : Cx X K cL_law 7 RL room_1) (hxw : xWs (xs X)) (hzs : Zs (xA X) (xs X) (xs X).heap) (hst : X.2.1.stackTraces = false) (hX : va_X b L sc (xs X) (xs X).heap) (hbl : b < (xs X).heap.size) (hbA : ¬ xA X b) (hL : L ≤ 1536)
    (hend : ∀ (cl sl : Nat) (wd : va_W) (lv : List (Nat × Value)), cl ≤ 1057 → sl ≤ 9472 → WD X K 7 cl sl wd lv 605 [.int 1]) :
    ∀ (f n : Nat) (i : Int32) (σ μ : St) (fo : Nat → Int64), i.toInt = 3 * (n : Int) → 3 * n ≤ L + 2 → 513 ≤ f + n → RelD σ μ → Okn σ → WD X K 7 (30 + n) (1262 + 6 * n) (wL K aD σ aM μ ao fo) (lvL b aD aM ao i) 23 [] := by
  intro f
  induction f with
  | zero => intro n i σ μ fo hi hn hf; omega
  | succ f ih =>
    intro n i σ μ fo hi hn hf hR hO
    have eL : (Int32.ofNat L).toInt = (L : Int) := by
      have := Int32.toInt_ofNat_of_lt (n := L) (by omega)
      exact this
    have eL3 : (Int32.ofNat L - 3).toInt = (L : Int) - 3 := by
      have z3 : (3 : Int32).toInt = 3 := rfl
      rw [ti_sub (by omega) (by omega), eL, z3]
    refine wd_iload C dL_law_23 0 rfl ?_
    refine wd_aload_n C dL_law_25 rfl 4 rfl ?_
    refine wd_slen C hX hbl hbA dL_law_26 ?_
    refine wd_iconst (v := 3) C dL_law_27 (by decide) ?_
    refine wd_isub C dL_law_28 ?_
    refine wd_icmp_gt C 604 dL_law_29 (by decide) (fun _ => ?_) (fun hgo => ?_)
    · refine wd_iconst (v := 1) C dL_law_604 (by decide) ?_
      exact hend _ _ _ _ (by omega) (by omega)
    · rw [ti_lt, eL3] at hgo
      have e1 : (i + 1).toInt = i.toInt + 1 := ti_add (by show _ ≤ i.toInt + 1; omega) (by show i.toInt + 1 ≤ _; omega)
      have e2 : (i + 2).toInt = i.toInt + 2 := ti_add (by show _ ≤ i.toInt + 2; omega) (by show i.toInt + 2 ≤ _; omega)
      have e3 : (i + 3).toInt = i.toInt + 3 := ti_add (by show _ ≤ i.toInt + 3; omega) (by show i.toInt + 3 ≤ _; omega)
      have in0 : vp_in i L := in_of (by omega) (by omega)
      have hlc : LC X K (30 + n) (1262 + 6 * n) b L sc σ μ i := ⟨C, hxw, hzs, hst, hX, hbl, hbA, in0, in_of (by omega) (by omega), in_of (by omega) (by omega), by show 30 + n + 1 ≤ 1057; omega, by show 1262 + 6 * n + 6 ≤ 9472; omega, hR, hO⟩
      have kk : KK X K (30 + n) (1262 + 6 * n) b aD aM ao i := by
        intro σ' μ' fo' hR' hO'
        refine wd_iinc (v := i + 3) C _ dL_law_598 0 rfl rfl (by decide) rfl ?_
        refine wd_goto C 23 dL_law_601 (by decide) ?_
        exact ih (n + 1) (i + 3) σ' μ' fo' (by omega) (by omega) (by omega) hR' hO'
      refine wd_aload_n C dL_law_32 rfl 4 rfl ?_
      refine wd_iload C dL_law_33 0 rfl ?_
      refine wd_sld C hX hbl hbA in0 dL_law_35 ?_
      refine wd_bipush (v := 31) C dL_law_36 (by decide) ?_
      refine wd_iand C dL_law_38 ?_
      generalize sc i.toNatClampNeg &&& 31 = x
      by_cases c0 : x = 0
      · subst c0; exact wd_tsw C 120 dL_law_39 (by decide) (by decide) (lc_feed hlc kk)
      by_cases c1 : x = 1
      · subst c1; exact wd_tsw C 145 dL_law_39 (by decide) (by decide) (lc_feedAll hlc kk)
      by_cases c2 : x = 2
      · subst c2; exact wd_tsw C 202 dL_law_39 (by decide) (by decide) (lc_row hlc kk)
      by_cases c3 : x = 3
      · subst c3; exact wd_tsw C 215 dL_law_39 (by decide) (by decide) (lc_column hlc kk)
      by_cases c4 : x = 4
      · subst c4; exact wd_tsw C 228 dL_law_39 (by decide) (by decide) (lc_full hlc kk)
      by_cases c5 : x = 5
      · subst c5; exact wd_tsw C 241 dL_law_39 (by decide) (by decide) (lc_pen hlc kk)
      by_cases c6 : x = 6
      · subst c6; exact wd_tsw C 254 dL_law_39 (by decide) (by decide) (lc_mode hlc kk)
      by_cases c7 : x = 7
      · subst c7; exact wd_tsw C 279 dL_law_39 (by decide) (by decide) (lc_region hlc kk)
      by_cases c8 : x = 8
      · subst c8; exact wd_tsw C 292 dL_law_39 (by decide) (by decide) (lc_tab hlc kk)
      by_cases c9 : x = 9
      · subst c9; exact wd_tsw C 317 dL_law_39 (by decide) (by decide) (lc_bells hlc kk)
      by_cases c10 : x = 10
      · subst c10; exact wd_tsw C 330 dL_law_39 (by decide) (by decide) (lc_state hlc kk)
      by_cases c11 : x = 11
      · subst c11; exact wd_tsw C 343 dL_law_39 (by decide) (by decide) (lc_code hlc kk)
      by_cases c12 : x = 12
      · subst c12; exact wd_tsw C 411 dL_law_39 (by decide) (by decide) (lc_look hlc kk)
      by_cases c13 : x = 13
      · subst c13; exact wd_tsw C 479 dL_law_39 (by decide) (by decide) (lc_cells hlc kk)
      by_cases c14 : x = 14
      · subst c14; exact wd_tsw C 516 dL_law_39 (by decide) (by decide) (lc_waiting hlc kk)
      by_cases c15 : x = 15
      · subst c15; exact wd_tsw C 529 dL_law_39 (by decide) (by decide) (lc_reply hlc kk)
      by_cases c16 : x = 16
      · subst c16; exact wd_tsw C 573 dL_law_39 (by decide) (by decide) (lc_title hlc kk)
      refine wd_tsw C 598 dL_law_39 (by decide) (by rw [swT_d [0, 1, 2, 3, 4, 5, 6, 7, 8, 9, 10, 11, 12, 13, 14, 15, 16] (List.forall_mem_cons.mpr ⟨lv_neT c0 (by decide), List.forall_mem_cons.mpr ⟨lv_neT c1 (by decide), List.forall_mem_cons.mpr ⟨lv_neT c2 (by decide), List.forall_mem_cons.mpr ⟨lv_neT c3 (by decide), List.forall_mem_cons.mpr ⟨lv_neT c4 (by decide), List.forall_mem_cons.mpr ⟨lv_neT c5 (by decide), List.forall_mem_cons.mpr ⟨lv_neT c6 (by decide), List.forall_mem_cons.mpr ⟨lv_neT c7 (by decide), List.forall_mem_cons.mpr ⟨lv_neT c8 (by decide), List.forall_mem_cons.mpr ⟨lv_neT c9 (by decide), List.forall_mem_cons.mpr ⟨lv_neT c10 (by decide), List.forall_mem_cons.mpr ⟨lv_neT c11 (by decide), List.forall_mem_cons.mpr ⟨lv_neT c12 (by decide), List.forall_mem_cons.mpr ⟨lv_neT c13 (by decide), List.forall_mem_cons.mpr ⟨lv_neT c14 (by decide), List.forall_mem_cons.mpr ⟨lv_neT c15 (by decide), List.forall_mem_cons.mpr ⟨lv_neT c16 (by decide), fun _ h => absurd h List.not_mem_nil⟩⟩⟩⟩⟩⟩⟩⟩⟩⟩⟩⟩⟩⟩⟩⟩⟩) (by decide +kernel)]; decide) ?_
      exact wd_widen (Nat.le_succ _) (Nat.le_add_right _ 6) (kk σ μ fo hR hO)
end LOOP
