/-! ===== the law's world: the desk, the model, the long ===== -/
def oL (K : KX) (ao : Nat) (fo : Nat → Int64) : va_W := [(ao, .inl (K.2.2.2, 1, .inr (.inl fo)))]
def wL (K : KX) (aD : Nat → Nat) (σ : St) (aM : Nat → Nat) (μ : St) (ao : Nat) (fo : Nat → Int64) : va_W := WdD K aD σ ++ (WdM K aM μ ++ oL K ao fo)
theorem h7C (K : KX) (aD : Nat → Nat) (σ : St) (aM : Nat → Nat) (μ : St) (ao : Nat) (fo : Nat → Int64) : ([0, 1, 2, 3, 4, 5, 6, 7, 8, 9, 10, 11, 12, 13, 14, 15, 16, 17, 18] : List Nat).map (fun i => (wL K aD σ aM μ ao fo)[i]?) = (WdD K aD σ).map some := rfl
theorem h7R (K : KX) (aD : Nat → Nat) (σ : St) (aM : Nat → Nat) (μ : St) (ao : Nat) (fo : Nat → Int64) : ([19, 20, 21, 22, 23, 24, 25, 26, 27, 28, 29] : List Nat).map (fun i => (wL K aD σ aM μ ao fo)[i]?) = (([19, 20, 21, 22, 23, 24, 25, 26, 27, 28, 29] : List Nat).filterMap (fun i => (wL K aD σ aM μ ao fo)[i]?)).map some := rfl
theorem h7p (K : KX) (aD : Nat → Nat) (σ : St) (aM : Nat → Nat) (μ : St) (ao : Nat) (fo : Nat → Int64) (σ' : St) : ([11, 12, 13, 14, 15, 16, 17, 18, 19, 20, 21, 22, 23, 24, 25, 26, 27, 28, 29, 0, 1, 2, 3, 4, 5, 6, 7, 8, 9, 10] : List Nat).map (fun i => ((([19, 20, 21, 22, 23, 24, 25, 26, 27, 28, 29] : List Nat).filterMap (fun i => (wL K aD σ aM μ ao fo)[i]?)) ++ WdD K aD σ')[i]?) = (wL K aD σ' aM μ ao fo).map some := rfl
theorem h8C (K : KX) (aD : Nat → Nat) (σ : St) (aM : Nat → Nat) (μ : St) (ao : Nat) (fo : Nat → Int64) : ([19, 20, 21, 22, 23, 24, 25, 26, 27, 28] : List Nat).map (fun i => (wL K aD σ aM μ ao fo)[i]?) = (WdM K aM μ).map some := rfl
theorem h8R (K : KX) (aD : Nat → Nat) (σ : St) (aM : Nat → Nat) (μ : St) (ao : Nat) (fo : Nat → Int64) : ([0, 1, 2, 3, 4, 5, 6, 7, 8, 9, 10, 11, 12, 13, 14, 15, 16, 17, 18, 29] : List Nat).map (fun i => (wL K aD σ aM μ ao fo)[i]?) = (([0, 1, 2, 3, 4, 5, 6, 7, 8, 9, 10, 11, 12, 13, 14, 15, 16, 17, 18, 29] : List Nat).filterMap (fun i => (wL K aD σ aM μ ao fo)[i]?)).map some := rfl
theorem h8p (K : KX) (aD : Nat → Nat) (σ : St) (aM : Nat → Nat) (μ : St) (ao : Nat) (fo : Nat → Int64) (μ' : St) : ([0, 1, 2, 3, 4, 5, 6, 7, 8, 9, 10, 11, 12, 13, 14, 15, 16, 17, 18, 20, 21, 22, 23, 24, 25, 26, 27, 28, 29, 19] : List Nat).map (fun i => ((([0, 1, 2, 3, 4, 5, 6, 7, 8, 9, 10, 11, 12, 13, 14, 15, 16, 17, 18, 29] : List Nat).filterMap (fun i => (wL K aD σ aM μ ao fo)[i]?)) ++ WdM K aM μ')[i]?) = (wL K aD σ aM μ' ao fo).map some := rfl
theorem Mt.l7 {l : Launch} {y : MethodName} {cc : ByteArray} {nL : Nat} {ret : Option FieldType} {rm : Room} {avs : List Value} {res : Option Value} {K : KX} {aD : Nat → Nat} {σ σ' : St} (h : Mt l K y cc nL ret rm avs (WdD K aD σ) res (WdD K aD σ')) (aM : Nat → Nat) (μ : St) (ao : Nat) (fo : Nat → Int64) : Mt l K y cc nL ret rm avs (wL K aD σ aM μ ao fo) res (wL K aD σ' aM μ ao fo) :=
  h.liftF [0, 1, 2, 3, 4, 5, 6, 7, 8, 9, 10, 11, 12, 13, 14, 15, 16, 17, 18] [19, 20, 21, 22, 23, 24, 25, 26, 27, 28, 29] [11, 12, 13, 14, 15, 16, 17, 18, 19, 20, 21, 22, 23, 24, 25, 26, 27, 28, 29, 0, 1, 2, 3, 4, 5, 6, 7, 8, 9, 10] (h7C K aD σ aM μ ao fo) rfl (h7R K aD σ aM μ ao fo) rfl (by decide) (h7p K aD σ aM μ ao fo σ') rfl
theorem Mt.l8 {l : Launch} {y : MethodName} {cc : ByteArray} {nL : Nat} {ret : Option FieldType} {rm : Room} {avs : List Value} {res : Option Value} {K : KX} {aM : Nat → Nat} {μ μ' : St} (h : Mt l K y cc nL ret rm avs (WdM K aM μ) res (WdM K aM μ')) (aD : Nat → Nat) (σ : St) (ao : Nat) (fo : Nat → Int64) : Mt l K y cc nL ret rm avs (wL K aD σ aM μ ao fo) res (wL K aD σ aM μ' ao fo) :=
  h.liftF [19, 20, 21, 22, 23, 24, 25, 26, 27, 28] [0, 1, 2, 3, 4, 5, 6, 7, 8, 9, 10, 11, 12, 13, 14, 15, 16, 17, 18, 29] [0, 1, 2, 3, 4, 5, 6, 7, 8, 9, 10, 11, 12, 13, 14, 15, 16, 17, 18, 20, 21, 22, 23, 24, 25, 26, 27, 28, 29, 19] (h8C K aD σ aM μ ao fo) rfl (h8R K aD σ aM μ ao fo) rfl (by decide) (h8p K aD σ aM μ ao fo μ') rfl
theorem Mx.l7 {l : Launch} {y : MethodName} {cc : ByteArray} {nL : Nat} {ret : Option FieldType} {rm : Room} {avs : List Value} {E : String} {K : KX} {aD : Nat → Nat} {σ : St} (h : Mx l K y cc nL ret rm avs (WdD K aD σ) E) (aM : Nat → Nat) (μ : St) (ao : Nat) (fo : Nat → Int64) : Mx l K y cc nL ret rm avs (wL K aD σ aM μ ao fo) E :=
  h.lift [0, 1, 2, 3, 4, 5, 6, 7, 8, 9, 10, 11, 12, 13, 14, 15, 16, 17, 18] [19, 20, 21, 22, 23, 24, 25, 26, 27, 28, 29] [11, 12, 13, 14, 15, 16, 17, 18, 19, 20, 21, 22, 23, 24, 25, 26, 27, 28, 29, 0, 1, 2, 3, 4, 5, 6, 7, 8, 9, 10] (h7C K aD σ aM μ ao fo) rfl (h7R K aD σ aM μ ao fo) rfl (by decide) (h7p K aD σ aM μ ao fo σ)
theorem wL_0 (K : KX) (aD : Nat → Nat) (σ : St) (aM : Nat → Nat) (μ : St) (ao : Nat) (fo : Nat → Int64) : ∃ fs, (wL K aD σ aM μ ao fo)[0]? = some (aD 0, .inr (7, fs)) := ⟨_, rfl⟩
theorem wL_19 (K : KX) (aD : Nat → Nat) (σ : St) (aM : Nat → Nat) (μ : St) (ao : Nat) (fo : Nat → Int64) : ∃ fs, (wL K aD σ aM μ ao fo)[19]? = some (aM 0, .inr (8, fs)) := ⟨_, rfl⟩
theorem wL_29 (K : KX) (aD : Nat → Nat) (σ : St) (aM : Nat → Nat) (μ : St) (ao : Nat) (fo : Nat → Int64) : (wL K aD σ aM μ ao fo)[29]? = some (ao, .inl (K.2.2.2, 1, .inr (.inl fo))) := rfl
theorem wL_set (K : KX) (aD : Nat → Nat) (σ : St) (aM : Nat → Nat) (μ : St) (ao : Nat) (fo : Nat → Int64) (g : Nat → Int64) : (wL K aD σ aM μ ao fo).set 29 (ao, .inl (K.2.2.2, 1, .inr (.inl g))) = wL K aD σ aM μ ao g := rfl
theorem in01 : vp_in 0 1 := by unfold vp_in; decide
theorem k_code (l : Launch) (K : KX) (aD : Nat → Nat) (σ : St) (aM : Nat → Nat) (μ : St) (ao : Nat) (fo : Nat → Int64) (p1 p2 : Int32) (hr : R2 0 7 p1) (hc : R2 0 11 p2) : Mh l K yL_code cL_code 5 [(0, 10, 13, 13)] { frames := 2, cells := 0, slots := 0, locals := 46 } [.ref (aD 0), .int p1, .int p2, .ref ao] (wL K aD σ aM μ ao fo) 0 (wL K aD σ aM μ ao (vp_updL fo 0 (p_X7_code σ p1 p2).toInt64)) 0 0 := by
  refine Mh.of (by decide +kernel) (Nat.le_of_ble_eq_true rfl) (fun X hX C hx hz htab hret => ?_)
  show WD X K 5 0 0 (wL K aD σ aM μ ao fo) [(0, .ref (aD 0)), (1, .int p1), (2, .int p2), (3, .ref ao)] 0 []
  refine wd_aload_n C dL_code_0 rfl 3 rfl ?_
  refine wd_iconst (v := 0) C dL_code_1 (by decide) ?_
  refine wd_aload_n C dL_code_2 rfl 0 rfl ?_
  refine wd_iload_n C dL_code_3 rfl 1 rfl ?_
  refine wd_iload_n C dL_code_4 rfl 2 rfl ?_
  refine wd_callV C 2 ((c_X7_code _ K aD σ p1 p2 hr hc).l7 aM μ ao fo) 0 (wL_0 K aD σ aM μ ao fo).choose_spec rfl rfl tw_686 tw_687 tw_688 tw_64 tw_689 (by decide +kernel) rfl (by decide) (Nat.le_of_ble_eq_true rfl) dL_code_5 _ rfl ?_
  refine wd_i2l C dL_code_8 ?_
  refine wd_last C 29 _ (wL_29 K aD σ aM μ ao fo) in01 (wL_set K aD σ aM μ ao fo _) dL_code_9 ?_
  refine wd_goto C 17 dL_code_10 (by decide) ?_
  refine wd_iconst (v := 0) C dL_code_17 (by decide) ?_
  exact hret _ _ _ _ rfl rfl dL_code_18
theorem kx_code (l : Launch) (hl : l.stackTraces = false) (K : KX) (aD : Nat → Nat) (σ : St) (aM : Nat → Nat) (μ : St) (ao : Nat) (fo : Nat → Int64) (p1 p2 : Int32) (hn : ¬ p_X7_isCell σ p1 p2 = true) : Mh l K yL_code cL_code 5 [(0, 10, 13, 13)] { frames := 7, cells := 1, slots := 6, locals := 103 } [.ref (aD 0), .int p1, .int p2, .ref ao] (wL K aD σ aM μ ao fo) 1 (wL K aD σ aM μ ao fo) 1 6 := by
  refine Mh.of (by decide +kernel) (Nat.le_of_ble_eq_true rfl) (fun X hX C hx hz htab hret => ?_)
  show WD X K 5 0 0 (wL K aD σ aM μ ao fo) [(0, .ref (aD 0)), (1, .int p1), (2, .int p2), (3, .ref ao)] 0 []
  refine wd_aload_n C dL_code_0 rfl 3 rfl ?_
  refine wd_iconst (v := 0) C dL_code_1 (by decide) ?_
  refine wd_aload_n C dL_code_2 rfl 0 rfl ?_
  refine wd_iload_n C dL_code_3 rfl 1 rfl ?_
  refine wd_iload_n C dL_code_4 rfl 2 rfl ?_
  refine wd_callX C hx hz 2 (x_X7_code _ (by rw [hX]; exact hl) K (wL K aD σ aM μ ao fo) σ (aD 0) p1 p2 hn) 0 (wL_0 K aD σ aM μ ao fo).choose_spec rfl rfl tw_686 tw_687 tw_688 tw_64 tw_689 (by decide +kernel) rfl (by decide) (Nat.le_of_ble_eq_true rfl) dL_code_5 _ rfl ⟨0, 10, 13, 13⟩ htab (by decide) (by decide) xw_ioCatch xw_ioCast (fun r => ?_)
  show WD X K 5 (0 + 1) (0 + 6) (wL K aD σ aM μ ao fo) [(0, .ref (aD 0)), (1, .int p1), (2, .int p2), (3, .ref ao)] 13 [.ref r]
  refine wd_astore C _ dL_code_13 (by decide) rfl ?_
  refine wd_iconst (v := 1) C dL_code_15 (by decide) ?_
  exact hret _ _ _ _ rfl rfl dL_code_16
theorem k_look (l : Launch) (K : KX) (aD : Nat → Nat) (σ : St) (aM : Nat → Nat) (μ : St) (ao : Nat) (fo : Nat → Int64) (p1 p2 : Int32) (hr : R2 0 7 p1) (hc : R2 0 11 p2) : Mh l K yL_look cL_look 5 [(0, 10, 13, 13)] { frames := 2, cells := 0, slots := 0, locals := 46 } [.ref (aD 0), .int p1, .int p2, .ref ao] (wL K aD σ aM μ ao fo) 0 (wL K aD σ aM μ ao (vp_updL fo 0 (p_X7_look σ p1 p2).toInt64)) 0 0 := by
  refine Mh.of (by decide +kernel) (Nat.le_of_ble_eq_true rfl) (fun X hX C hx hz htab hret => ?_)
  show WD X K 5 0 0 (wL K aD σ aM μ ao fo) [(0, .ref (aD 0)), (1, .int p1), (2, .int p2), (3, .ref ao)] 0 []
  refine wd_aload_n C dL_look_0 rfl 3 rfl ?_
  refine wd_iconst (v := 0) C dL_look_1 (by decide) ?_
  refine wd_aload_n C dL_look_2 rfl 0 rfl ?_
  refine wd_iload_n C dL_look_3 rfl 1 rfl ?_
  refine wd_iload_n C dL_look_4 rfl 2 rfl ?_
  refine wd_callV C 2 ((c_X7_look _ K aD σ p1 p2 hr hc).l7 aM μ ao fo) 0 (wL_0 K aD σ aM μ ao fo).choose_spec rfl rfl tw_758 tw_759 tw_760 tw_64 tw_761 (by decide +kernel) rfl (by decide) (Nat.le_of_ble_eq_true rfl) dL_look_5 _ rfl ?_
  refine wd_i2l C dL_look_8 ?_
  refine wd_last C 29 _ (wL_29 K aD σ aM μ ao fo) in01 (wL_set K aD σ aM μ ao fo _) dL_look_9 ?_
  refine wd_goto C 17 dL_look_10 (by decide) ?_
  refine wd_iconst (v := 0) C dL_look_17 (by decide) ?_
  exact hret _ _ _ _ rfl rfl dL_look_18
theorem kx_look (l : Launch) (hl : l.stackTraces = false) (K : KX) (aD : Nat → Nat) (σ : St) (aM : Nat → Nat) (μ : St) (ao : Nat) (fo : Nat → Int64) (p1 p2 : Int32) (hn : ¬ p_X7_isCell σ p1 p2 = true) : Mh l K yL_look cL_look 5 [(0, 10, 13, 13)] { frames := 7, cells := 1, slots := 6, locals := 103 } [.ref (aD 0), .int p1, .int p2, .ref ao] (wL K aD σ aM μ ao fo) 1 (wL K aD σ aM μ ao fo) 1 6 := by
  refine Mh.of (by decide +kernel) (Nat.le_of_ble_eq_true rfl) (fun X hX C hx hz htab hret => ?_)
  show WD X K 5 0 0 (wL K aD σ aM μ ao fo) [(0, .ref (aD 0)), (1, .int p1), (2, .int p2), (3, .ref ao)] 0 []
  refine wd_aload_n C dL_look_0 rfl 3 rfl ?_
  refine wd_iconst (v := 0) C dL_look_1 (by decide) ?_
  refine wd_aload_n C dL_look_2 rfl 0 rfl ?_
  refine wd_iload_n C dL_look_3 rfl 1 rfl ?_
  refine wd_iload_n C dL_look_4 rfl 2 rfl ?_
  refine wd_callX C hx hz 2 (x_X7_look _ (by rw [hX]; exact hl) K (wL K aD σ aM μ ao fo) σ (aD 0) p1 p2 hn) 0 (wL_0 K aD σ aM μ ao fo).choose_spec rfl rfl tw_758 tw_759 tw_760 tw_64 tw_761 (by decide +kernel) rfl (by decide) (Nat.le_of_ble_eq_true rfl) dL_look_5 _ rfl ⟨0, 10, 13, 13⟩ htab (by decide) (by decide) xw_ioCatch xw_ioCast (fun r => ?_)
  show WD X K 5 (0 + 1) (0 + 6) (wL K aD σ aM μ ao fo) [(0, .ref (aD 0)), (1, .int p1), (2, .int p2), (3, .ref ao)] 13 [.ref r]
  refine wd_astore C _ dL_look_13 (by decide) rfl ?_
  refine wd_iconst (v := 1) C dL_look_15 (by decide) ?_
  exact hret _ _ _ _ rfl rfl dL_look_16
theorem k_reply (l : Launch) (K : KX) (aD : Nat → Nat) (σ : St) (aM : Nat → Nat) (μ : St) (ao : Nat) (fo : Nat → Int64) (hw : ¬ σ.1 18 ≤ 0) : Mh l K yL_reply cL_reply 3 [(0, 8, 11, 22)] { frames := 2, cells := 0, slots := 0, locals := 44 } [.ref (aD 0), .ref ao] (wL K aD σ aM μ ao fo) 0 (wL K aD (q_X4_takeFirst_R σ).1 aM μ ao (vp_updL fo 0 (q_X4_takeFirst_R σ).2.toInt64)) 0 0 := by
  refine Mh.of (by decide +kernel) (Nat.le_of_ble_eq_true rfl) (fun X hX C hx hz htab hret => ?_)
  show WD X K 3 0 0 (wL K aD σ aM μ ao fo) [(0, .ref (aD 0)), (1, .ref ao)] 0 []
  refine wd_aload_n C dL_reply_0 rfl 1 rfl ?_
  refine wd_iconst (v := 0) C dL_reply_1 (by decide) ?_
  refine wd_aload_n C dL_reply_2 rfl 0 rfl ?_
  refine wd_callV C 0 ((c_X7_reply _ K aD σ hw).l7 aM μ ao fo) 0 (wL_0 K aD σ aM μ ao fo).choose_spec rfl rfl tw_766 tw_767 tw_768 tw_64 tw_769 (by decide +kernel) rfl (by decide) (Nat.le_of_ble_eq_true rfl) dL_reply_3 _ rfl ?_
  refine wd_i2l C dL_reply_6 ?_
  refine wd_last C 29 _ (wL_29 K aD _ aM μ ao fo) in01 (wL_set K aD _ aM μ ao fo _) dL_reply_7 ?_
  refine wd_goto C 14 dL_reply_8 (by decide) ?_
  refine wd_iconst (v := 0) C dL_reply_14 (by decide) ?_
  exact hret _ _ _ _ rfl rfl dL_reply_15
theorem kx_reply (l : Launch) (hl : l.stackTraces = false) (K : KX) (aD : Nat → Nat) (σ : St) (aM : Nat → Nat) (μ : St) (ao : Nat) (fo : Nat → Int64) (hw : σ.1 18 ≤ 0) : Mh l K yL_reply cL_reply 3 [(0, 8, 11, 22)] { frames := 7, cells := 1, slots := 6, locals := 101 } [.ref (aD 0), .ref ao] (wL K aD σ aM μ ao fo) 1 (wL K aD σ aM μ ao fo) 1 6 := by
  refine Mh.of (by decide +kernel) (Nat.le_of_ble_eq_true rfl) (fun X hX C hx hz htab hret => ?_)
  show WD X K 3 0 0 (wL K aD σ aM μ ao fo) [(0, .ref (aD 0)), (1, .ref ao)] 0 []
  refine wd_aload_n C dL_reply_0 rfl 1 rfl ?_
  refine wd_iconst (v := 0) C dL_reply_1 (by decide) ?_
  refine wd_aload_n C dL_reply_2 rfl 0 rfl ?_
  refine wd_callX C hx hz 0 ((x_X7_reply _ (by rw [hX]; exact hl) K aD σ hw).l7 aM μ ao fo) 0 (wL_0 K aD σ aM μ ao fo).choose_spec rfl rfl tw_766 tw_767 tw_768 tw_64 tw_769 (by decide +kernel) rfl (by decide) (Nat.le_of_ble_eq_true rfl) dL_reply_3 _ rfl ⟨0, 8, 11, 22⟩ htab (by decide) (by decide) xw_nsCatch xw_nsCast (fun r => ?_)
  show WD X K 3 (0 + 1) (0 + 6) (wL K aD σ aM μ ao fo) [(0, .ref (aD 0)), (1, .ref ao)] 11 [.ref r]
  refine wd_astore_n C _ dL_reply_11 rfl (by decide) rfl ?_
  refine wd_iconst (v := 1) C dL_reply_12 (by decide) ?_
  exact hret _ _ _ _ rfl rfl dL_reply_13
