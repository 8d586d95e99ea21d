/-! ===== what the law's entry gives ===== -/
theorem st_nst {s : State} {a : Array Value} (hts : ∀ w ∈ lw_tbl, w.before a s = true) : Nst s := by
  unfold Nst nests
  exact List.forall_mem_cons.mpr ⟨va_Nw.of rfl (hts _ (List.mem_append_right _ (show _ ∈ tables_1 from List.mem_append_left _ (List.mem_of_getElem? (i := 26) rfl)))), List.forall_mem_cons.mpr ⟨va_Nw.of rfl (hts _ (List.mem_append_right _ (show _ ∈ tables_1 from List.mem_append_left _ (List.mem_of_getElem? (i := 32) rfl)))), List.forall_mem_cons.mpr ⟨va_Nw.of rfl (hts _ (List.mem_append_right _ (show _ ∈ tables_1 from List.mem_append_left _ (List.mem_of_getElem? (i := 48) rfl)))), List.forall_mem_cons.mpr ⟨va_Nw.of rfl (hts _ (List.mem_append_right _ (show _ ∈ tables_1 from List.mem_append_left _ (List.mem_of_getElem? (i := 124) rfl)))), List.forall_mem_cons.mpr ⟨va_Nw.of rfl (hts _ (List.mem_append_right _ (show _ ∈ tables_1 from List.mem_append_left _ (List.mem_of_getElem? (i := 141) rfl)))), List.forall_mem_cons.mpr ⟨va_Nw.of rfl (hts _ (List.mem_append_right _ (show _ ∈ tables_1 from List.mem_append_left _ (List.mem_of_getElem? (i := 158) rfl)))), List.forall_mem_cons.mpr ⟨va_Nw.of rfl (hts _ (List.mem_append_right _ (show _ ∈ tables_1 from List.mem_append_left _ (List.mem_of_getElem? (i := 171) rfl)))), fun _ h => absurd h List.not_mem_nil⟩⟩⟩⟩⟩⟩⟩
theorem st_xws {s : State} {a : Array Value} (hts : ∀ w ∈ lw_tbl, w.before a s = true) : xWs s := by
  unfold xWs xB
  exact List.forall_mem_cons.mpr ⟨va_tabs (A := a) rfl rfl (hts _ (List.mem_append_right _ (show _ ∈ tables_1 from List.mem_append_right _ (List.mem_append_right _ (List.mem_append_left _ (List.mem_of_getElem? (i := 152) rfl)))))), List.forall_mem_cons.mpr ⟨va_tabs (A := a) rfl rfl (hts _ (List.mem_append_right _ (show _ ∈ tables_1 from List.mem_append_right _ (List.mem_append_right _ (List.mem_append_left _ (List.mem_of_getElem? (i := 229) rfl)))))), List.forall_mem_cons.mpr ⟨va_tabs (A := a) rfl rfl (hts _ (List.mem_append_right _ (show _ ∈ tables_1 from List.mem_append_right _ (List.mem_append_right _ (List.mem_append_left _ (List.mem_of_getElem? (i := 153) rfl)))))), List.forall_mem_cons.mpr ⟨va_tabs (A := a) rfl rfl (hts _ (List.mem_append_right _ (show _ ∈ tables_1 from List.mem_append_right _ (List.mem_append_right _ (List.mem_append_left _ (List.mem_of_getElem? (i := 155) rfl)))))), List.forall_mem_cons.mpr ⟨va_tabs (A := a) rfl rfl (hts _ (List.mem_append_right _ (show _ ∈ tables_1 from List.mem_append_right _ (List.mem_append_right _ (List.mem_append_left _ (List.mem_of_getElem? (i := 157) rfl)))))), fun _ h => absurd h List.not_mem_nil⟩⟩⟩⟩⟩
theorem st_zs {s : State} {b : Nat} (hts : ∀ w ∈ lw_tbl, w.before #[Value.ref b] s = true) (hgv : (Jvm.Cond.and given_1 narrow_1).before #[Value.ref b] s = true) : Zs (fun q => s.heap.size ≤ q) s s.heap := by
  have hq := flat_of_before _ hgv
  have hini : (Cond.initialized Bundle.tN).before #[Value.ref b] s = true := hts _ (List.mem_append_right _ (show _ ∈ tables_1 from List.mem_append_left _ (List.mem_of_getElem? (i := 11) rfl)))
  refine ⟨vx_Zqof (hts _ (List.mem_append_right _ (show _ ∈ tables_1 from List.mem_append_right _ (List.mem_append_right _ (List.mem_append_left _ (List.mem_of_getElem? (i := 177) rfl)))))) hini (hq _ (by decide +kernel)) (fun a h => Nat.not_le.mpr h), vx_Zqof (hts _ (List.mem_append_right _ (show _ ∈ tables_1 from List.mem_append_right _ (List.mem_append_right _ (List.mem_append_left _ (List.mem_of_getElem? (i := 179) rfl)))))) hini (hq _ (by decide +kernel)) (fun a h => Nat.not_le.mpr h)⟩
theorem st_K {s : State} {a : Array Value} (htw : ∀ w ∈ TW, w.before a s = true) : ∃ K : KX, va_K K.1 vwCl (ty3 K) s := by
  obtain ⟨c0, i0, hk0⟩ := u_known (C := RX0) (T := TX0) (N := 5) (n := 5) htw tw_X0 (htw _ tw_110)
  obtain ⟨c1, i1, hk1⟩ := u_known (C := RX1) (T := TX1) (N := 3) (n := 3) htw tw_X1 (htw _ tw_186)
  obtain ⟨c2, i2, hk2⟩ := u_known (C := RX2) (T := TX2) (N := 3) (n := 3) htw tw_X2 (htw _ tw_203)
  obtain ⟨c3, i3, hk3⟩ := u_known (C := RX3) (T := TX3) (N := 2) (n := 2) htw tw_X3 (htw _ tw_94)
  obtain ⟨c4, i4, hk4⟩ := u_known (C := RX4) (T := TX4) (N := 2) (n := 2) htw tw_X4 (htw _ tw_233)
  obtain ⟨c5, i5, hk5⟩ := u_known (C := RX5) (T := TX5) (N := 12) (n := 12) htw tw_X5 (htw _ tw_88)
  obtain ⟨c6, i6, hk6⟩ := u_known (C := RX6) (T := TX6) (N := 2) (n := 2) htw tw_X6 (htw _ tw_220)
  obtain ⟨c7, i7, hk7⟩ := u_known (C := RX7) (T := TX7) (N := 7) (n := 7) htw tw_X7 (htw _ tw_80)
  obtain ⟨c8, i8, hk8⟩ := u_known (C := RX8) (T := TX8) (N := 40) (n := 40) htw tw_X8 (htw _ tw_790)
  have arr : ∀ ty : FieldType, (Cond.arrayClass ty).before a s = true → (∀ C, ty ≠ .object C) → ∃ cA : ClassId, ArrOfT s cA ty ∧ va_RA s cA ty := by
    intro ty h hno
    obtain ⟨c, k, comp, h1, h2, h3⟩ := Cond.arrayClass_spec h
    refine ⟨c, fun n z => ⟨fun k h => (by cases h), k, h2, comp, h3⟩, ?_⟩
    cases ty with
    | object C => exact absurd rfl (hno C)
    | _ => exact h1
  obtain ⟨cI, hI⟩ := arr .int (htw _ tw_108) (fun C h => by cases h)
  obtain ⟨cZ, hZ⟩ := arr .boolean (htw _ tw_940) (fun C h => by cases h)
  obtain ⟨cJ, hJ⟩ := arr .long (htw _ tw_1141) (fun C h => by cases h)
  refine ⟨((fun k => if k = 0 then c0 else if k = 1 then c1 else if k = 2 then c2 else if k = 3 then c3 else if k = 4 then c4 else if k = 5 then c5 else if k = 6 then c6 else if k = 7 then c7 else c8, fun k => if k = 0 then i0 else if k = 1 then i1 else if k = 2 then i2 else if k = 3 then i3 else if k = 4 then i4 else if k = 5 then i5 else if k = 6 then i6 else if k = 7 then i7 else i8), cI, cZ, cJ), ?_, ?_⟩
  · intro k q hq
    match k, hq with
    | 0, hq => cases hq; exact hk0
    | 1, hq => cases hq; exact hk1
    | 2, hq => cases hq; exact hk2
    | 3, hq => cases hq; exact hk3
    | 4, hq => cases hq; exact hk4
    | 5, hq => cases hq; exact hk5
    | 6, hq => cases hq; exact hk6
    | 7, hq => cases hq; exact hk7
    | 8, hq => cases hq; exact hk8
    | k + 9, hq => simp [vwCl] at hq
  · intro k q hq
    match k, hq with
    | 0, hq => cases hq; exact hI
    | 1, hq => cases hq; exact hZ
    | 2, hq => cases hq; exact hJ
    | k + 3, hq => simp [ty3] at hq
theorem okm_zst : OkM zst := ⟨R2.lit 0 (by decide), R2.lit 0 (by decide), R2.lit 0 (by decide), R2.lit 0 (by decide), R2.lit 0 (by decide), R2.lit 0 (by decide), R2.lit 0 (by decide), R2.lit 0 (by decide), R2.lit 0 (by decide), R2.lit 0 (by decide), R2.lit 0 (by decide), fun _ _ => R2.lit 0 (by decide)⟩
theorem rel0 : RelD (p_X7_reset zst) (p_X8_first zst) := by
  have hMe := okm_first okm_zst
  obtain ⟨L, z3, ew, _, _⟩ := first_w zst
  have m24 : (p_X8_first zst).1 24 = 0 := by rw [ew]; exact mF_24 L z3
  have m33 : (p_X8_first zst).1 33 = 0 := by rw [ew]; exact mF_33 L z3
  exact ⟨rel_first zst zst, hMe, (dF_0 zst).trans m24.symm, by rw [m24]; exact R2.lit 0 (by decide), Or.inl ⟨dF_12 zst, m33⟩, fun z => absurd (m24.symm.trans z) (by decide), fun z => absurd (m24.symm.trans z) (by decide)⟩
set_option maxRecDepth 100000 in
set_option maxHeartbeats 4000000 in
theorem law_walk {X : WX} {K : KX} {b L : Nat} {sc : Nat → Int32} (C : Cx X K cL_law 7 RL room_1) (hN : Nst (xs X)) (hxw : xWs (xs X)) (hzs : Zs (xA X) (xs X) (xs X).heap) (hst : X.2.1.stackTraces = false) (hX : va_X b L sc (xs X) (xs X).heap) (hbl : b < (xs X).heap.size) (hbA : ¬ xA X b) (hL : L ≤ 1536)
    (hend : ∀ (cl sl : Nat) (wd : va_W) (lv : List (Nat × Value)), cl ≤ 1057 → sl ≤ 9472 → WD X K 7 cl sl wd lv 605 [.int 1]) : WD X K 7 0 0 [] [(0, .ref b)] 0 [] := by
  refine wd_new (ci := 7) (fs := [.null, .null, .null, .null, .null, .null, .int 0]) C tw_X7 tyX7 tyX7_ok tw_79 tw_80 tw_64 rfl (by decide +kernel) (by decide) (by decide) dL_law_0 (fun q0 => ?_)
  refine wd_eq (wd' := [(q0, .inr (7, [.null, .null, .null, .null, .null, .null, .int 0]))]) rfl rfl rfl ?_
  refine wd_dup C dL_law_3 rfl ?_
  refine wd_callI C hN (k_X7_init _ K q0) [0] [] rfl rfl rfl rfl (by decide) tw_81 tw_82 tw_64 tw_83 rfl (by decide +kernel) (by decide) (Nat.le_of_ble_eq_true rfl) dL_law_4 (fun u0 => ?_)
  generalize haD : (fun k => if k = 0 then q0 else u0 k) = aD
  have eD : aD 0 = q0 := by rw [← haD]; rfl
  show WD X K 7 _ _ (WdD K aD (p_X7_reset zst)) [(0, .ref b)] 7 [.ref q0]
  rw [← eD]
  refine wd_astore_n C [(1, .ref (aD 0)), (0, .ref b)] dL_law_7 rfl (by decide) rfl ?_
  have hR0 := rel0
  have hO0 := okn_reset zst
  generalize p_X7_reset zst = σ at *
  refine wd_new (ci := 8) (fs := [.null, .null, .null, .null, .int 0, .int 0, .int 0, .int 0, .int 0, .int 0, .int 0, .int 0, .int 0, .int 0, .int 0, .int 0, .int 0, .int 0, .int 0, .int 0, .int 0, .int 0, .int 0, .null, .int 0, .int 0, .int 0, .null, .int 0, .null, .null, .int 0, .int 0, .int 0, .int 0, .int 0, .null, .int 0, .int 0, .int 0]) C tw_X8 tyX8 tyX8_ok tw_789 tw_790 tw_72 rfl (by decide +kernel) (by decide) (by decide) dL_law_8 (fun q1 => ?_)
  refine wd_dup C dL_law_11 rfl ?_
  refine wd_callI C hN (k_X8_init _ K q1) [19] [0, 1, 2, 3, 4, 5, 6, 7, 8, 9, 10, 11, 12, 13, 14, 15, 16, 17, 18] rfl rfl rfl rfl (by decide) tw_791 tw_792 tw_72 tw_793 rfl (by decide +kernel) (by decide) (Nat.le_of_ble_eq_true rfl) dL_law_12 (fun u1 => ?_)
  generalize haM : (fun k => if k = 0 then q1 else u1 k) = aM
  have eM : aM 0 = q1 := by rw [← haM]; rfl
  generalize p_X8_first zst = μ at *
  refine wd_eq (wd' := WdD K aD σ ++ WdM K aM μ) rfl rfl rfl ?_
  rw [← eM]
  refine wd_astore_n C [(2, .ref (aM 0)), (1, .ref (aD 0)), (0, .ref b)] dL_law_15 rfl (by decide) rfl ?_
  refine wd_iconst (v := 1) C dL_law_16 (by decide) ?_
  refine wd_newL C 1 tw_1141 (by decide) (by decide) (by decide) (by decide) (by decide) dL_law_17 (fun q2 => ?_)
  refine wd_eq (wd' := wL K aD σ aM μ q2 (fun _ => 0)) (by unfold wL oL; rw [List.append_assoc]) rfl rfl ?_
  refine wd_astore_n C [(3, .ref q2), (2, .ref (aM 0)), (1, .ref (aD 0)), (0, .ref b)] dL_law_19 rfl (by decide) rfl ?_
  refine wd_iconst (v := 0) C dL_law_20 (by decide) ?_
  refine wd_istore C (lvL b aD aM q2 0) dL_law_21 (by decide) rfl ?_
  exact law_loop C hxw hzs hst hX hbl hbA hL hend 513 0 0 σ μ (fun _ => 0) rfl (by omega) (by omega) hR0 hO0
