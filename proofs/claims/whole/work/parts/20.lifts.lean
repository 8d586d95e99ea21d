def subC8 (σ : St) : St := (fun k => if k = 0 then σ.1 6 else if k = 1 then σ.1 7 else σ.1 8, fun k => if k = 0 then σ.2.1 3 else σ.2.1 4, σ.2.2)
def putC8 (σ τ : St) : St := sb (si (sb (si (si (σ) 6 (τ.1 0)) 7 (τ.1 1)) 3 (τ.2.1 0)) 8 (τ.1 2)) 4 (τ.2.1 1)
theorem hC_C8 (K : KX) (ad : Nat → Nat) (σ : St) : ([8] : List Nat).map (fun i => (WdD K ad σ)[i]?) = (WdC K (fun k => ad 8) (subC8 σ)).map some := rfl
theorem hR_C8 (K : KX) (ad : Nat → Nat) (σ : St) : ([0, 1, 2, 3, 4, 5, 6, 7, 9, 10, 11, 12, 13, 14, 15, 16, 17, 18] : List Nat).map (fun i => (WdD K ad σ)[i]?) = (([0, 1, 2, 3, 4, 5, 6, 7, 9, 10, 11, 12, 13, 14, 15, 16, 17, 18] : List Nat).filterMap (fun i => (WdD K ad σ)[i]?)).map some := rfl
theorem hp_C8 (K : KX) (ad : Nat → Nat) (σ τ : St) : ([0, 1, 2, 3, 4, 5, 6, 7, 18, 8, 9, 10, 11, 12, 13, 14, 15, 16, 17] : List Nat).map (fun i => ((([0, 1, 2, 3, 4, 5, 6, 7, 9, 10, 11, 12, 13, 14, 15, 16, 17, 18] : List Nat).filterMap (fun i => (WdD K ad σ)[i]?)) ++ WdC K (fun k => ad 8) τ)[i]?) = (WdD K ad (putC8 σ τ)).map some := rfl
theorem hq_C8 (K : KX) (ad : Nat → Nat) (σ : St) : ([0, 1, 2, 3, 4, 5, 6, 7, 18, 8, 9, 10, 11, 12, 13, 14, 15, 16, 17] : List Nat).map (fun i => ((([0, 1, 2, 3, 4, 5, 6, 7, 9, 10, 11, 12, 13, 14, 15, 16, 17, 18] : List Nat).filterMap (fun i => (WdD K ad σ)[i]?)) ++ WdC K (fun k => ad 8) (subC8 σ))[i]?) = (WdD K ad σ).map some := rfl
def q_X0_place_C8 (σ : St) (p1 : Int32) (p2 : Int32) : St := putC8 σ (p_X0_place (subC8 σ) p1 p2)
set_option maxRecDepth 100000 in
theorem cD_X0_place_C8 (l : Launch) (K : KX) (ad : Nat → Nat) (σ : St) (p1 : Int32) (p2 : Int32) : Mt l K yX0_place cX0_place 3 none { frames := 0, cells := 0, slots := 0, locals := 0 } [.ref (ad 8), .int p1, .int p2] (WdD K ad σ) none (WdD K ad (q_X0_place_C8 σ p1 p2)) :=
  (c_X0_place l K (fun k => ad 8) (subC8 σ) p1 p2).liftF [8] [0, 1, 2, 3, 4, 5, 6, 7, 9, 10, 11, 12, 13, 14, 15, 16, 17, 18] [0, 1, 2, 3, 4, 5, 6, 7, 18, 8, 9, 10, 11, 12, 13, 14, 15, 16, 17] (hC_C8 K ad σ) rfl (hR_C8 K ad σ) rfl (by decide) (hp_C8 K ad σ _) rfl
def q_X0_reset_C8 (σ : St) : St := putC8 σ (p_X0_reset (subC8 σ))
set_option maxRecDepth 100000 in
theorem cD_X0_reset_C8 (l : Launch) (K : KX) (ad : Nat → Nat) (σ : St) : Mt l K yX0_reset cX0_reset 1 none { frames := 1, cells := 0, slots := 0, locals := 22 } [.ref (ad 8)] (WdD K ad σ) none (WdD K ad (q_X0_reset_C8 σ)) :=
  (c_X0_reset l K (fun k => ad 8) (subC8 σ)).liftF [8] [0, 1, 2, 3, 4, 5, 6, 7, 9, 10, 11, 12, 13, 14, 15, 16, 17, 18] [0, 1, 2, 3, 4, 5, 6, 7, 18, 8, 9, 10, 11, 12, 13, 14, 15, 16, 17] (hC_C8 K ad σ) rfl (hR_C8 K ad σ) rfl (by decide) (hp_C8 K ad σ _) rfl
def q_X0_paint_C8 (σ : St) (p1 : Int32) : St := putC8 σ (p_X0_paint (subC8 σ) p1)
set_option maxRecDepth 100000 in
theorem cD_X0_paint_C8 (l : Launch) (K : KX) (ad : Nat → Nat) (σ : St) (p1 : Int32) : Mt l K yX0_paint cX0_paint 2 none { frames := 2, cells := 0, slots := 0, locals := 42 } [.ref (ad 8), .int p1] (WdD K ad σ) none (WdD K ad (q_X0_paint_C8 σ p1)) :=
  (c_X0_paint l K (fun k => ad 8) (subC8 σ) p1).liftF [8] [0, 1, 2, 3, 4, 5, 6, 7, 9, 10, 11, 12, 13, 14, 15, 16, 17, 18] [0, 1, 2, 3, 4, 5, 6, 7, 18, 8, 9, 10, 11, 12, 13, 14, 15, 16, 17] (hC_C8 K ad σ) rfl (hR_C8 K ad σ) rfl (by decide) (hp_C8 K ad σ _) rfl
def subC9 (σ : St) : St := (fun k => if k = 0 then σ.1 9 else if k = 1 then σ.1 10 else σ.1 11, fun k => if k = 0 then σ.2.1 5 else σ.2.1 6, σ.2.2)
def putC9 (σ τ : St) : St := sb (si (sb (si (si (σ) 9 (τ.1 0)) 10 (τ.1 1)) 5 (τ.2.1 0)) 11 (τ.1 2)) 6 (τ.2.1 1)
theorem hC_C9 (K : KX) (ad : Nat → Nat) (σ : St) : ([9] : List Nat).map (fun i => (WdD K ad σ)[i]?) = (WdC K (fun k => ad 9) (subC9 σ)).map some := rfl
theorem hR_C9 (K : KX) (ad : Nat → Nat) (σ : St) : ([0, 1, 2, 3, 4, 5, 6, 7, 8, 10, 11, 12, 13, 14, 15, 16, 17, 18] : List Nat).map (fun i => (WdD K ad σ)[i]?) = (([0, 1, 2, 3, 4, 5, 6, 7, 8, 10, 11, 12, 13, 14, 15, 16, 17, 18] : List Nat).filterMap (fun i => (WdD K ad σ)[i]?)).map some := rfl
theorem hp_C9 (K : KX) (ad : Nat → Nat) (σ τ : St) : ([0, 1, 2, 3, 4, 5, 6, 7, 8, 18, 9, 10, 11, 12, 13, 14, 15, 16, 17] : List Nat).map (fun i => ((([0, 1, 2, 3, 4, 5, 6, 7, 8, 10, 11, 12, 13, 14, 15, 16, 17, 18] : List Nat).filterMap (fun i => (WdD K ad σ)[i]?)) ++ WdC K (fun k => ad 9) τ)[i]?) = (WdD K ad (putC9 σ τ)).map some := rfl
theorem hq_C9 (K : KX) (ad : Nat → Nat) (σ : St) : ([0, 1, 2, 3, 4, 5, 6, 7, 8, 18, 9, 10, 11, 12, 13, 14, 15, 16, 17] : List Nat).map (fun i => ((([0, 1, 2, 3, 4, 5, 6, 7, 8, 10, 11, 12, 13, 14, 15, 16, 17, 18] : List Nat).filterMap (fun i => (WdD K ad σ)[i]?)) ++ WdC K (fun k => ad 9) (subC9 σ))[i]?) = (WdD K ad σ).map some := rfl
def q_X0_reset_C9 (σ : St) : St := putC9 σ (p_X0_reset (subC9 σ))
set_option maxRecDepth 100000 in
theorem cD_X0_reset_C9 (l : Launch) (K : KX) (ad : Nat → Nat) (σ : St) : Mt l K yX0_reset cX0_reset 1 none { frames := 1, cells := 0, slots := 0, locals := 22 } [.ref (ad 9)] (WdD K ad σ) none (WdD K ad (q_X0_reset_C9 σ)) :=
  (c_X0_reset l K (fun k => ad 9) (subC9 σ)).liftF [9] [0, 1, 2, 3, 4, 5, 6, 7, 8, 10, 11, 12, 13, 14, 15, 16, 17, 18] [0, 1, 2, 3, 4, 5, 6, 7, 8, 18, 9, 10, 11, 12, 13, 14, 15, 16, 17] (hC_C9 K ad σ) rfl (hR_C9 K ad σ) rfl (by decide) (hp_C9 K ad σ _) rfl
def subCC98 (σ : St) : St := (fun k => if k = 0 then σ.1 9 else if k = 1 then σ.1 10 else if k = 2 then σ.1 11 else if k = 3 then σ.1 6 else if k = 4 then σ.1 7 else σ.1 8, fun k => if k = 0 then σ.2.1 5 else if k = 1 then σ.2.1 6 else if k = 2 then σ.2.1 3 else σ.2.1 4, σ.2.2)
def putCC98 (σ τ : St) : St := sb (si (sb (si (si (sb (si (sb (si (si (σ) 9 (τ.1 0)) 10 (τ.1 1)) 5 (τ.2.1 0)) 11 (τ.1 2)) 6 (τ.2.1 1)) 6 (τ.1 3)) 7 (τ.1 4)) 3 (τ.2.1 2)) 8 (τ.1 5)) 4 (τ.2.1 3)
theorem hC_CC98 (K : KX) (ad : Nat → Nat) (σ : St) : ([9, 8] : List Nat).map (fun i => (WdD K ad σ)[i]?) = (WdCC K (fun k => if k = 0 then ad 9 else ad 8) (subCC98 σ)).map some := rfl
theorem hR_CC98 (K : KX) (ad : Nat → Nat) (σ : St) : ([0, 1, 2, 3, 4, 5, 6, 7, 10, 11, 12, 13, 14, 15, 16, 17, 18] : List Nat).map (fun i => (WdD K ad σ)[i]?) = (([0, 1, 2, 3, 4, 5, 6, 7, 10, 11, 12, 13, 14, 15, 16, 17, 18] : List Nat).filterMap (fun i => (WdD K ad σ)[i]?)).map some := rfl
theorem hp_CC98 (K : KX) (ad : Nat → Nat) (σ τ : St) : ([0, 1, 2, 3, 4, 5, 6, 7, 18, 17, 8, 9, 10, 11, 12, 13, 14, 15, 16] : List Nat).map (fun i => ((([0, 1, 2, 3, 4, 5, 6, 7, 10, 11, 12, 13, 14, 15, 16, 17, 18] : List Nat).filterMap (fun i => (WdD K ad σ)[i]?)) ++ WdCC K (fun k => if k = 0 then ad 9 else ad 8) τ)[i]?) = (WdD K ad (putCC98 σ τ)).map some := rfl
theorem hq_CC98 (K : KX) (ad : Nat → Nat) (σ : St) : ([0, 1, 2, 3, 4, 5, 6, 7, 18, 17, 8, 9, 10, 11, 12, 13, 14, 15, 16] : List Nat).map (fun i => ((([0, 1, 2, 3, 4, 5, 6, 7, 10, 11, 12, 13, 14, 15, 16, 17, 18] : List Nat).filterMap (fun i => (WdD K ad σ)[i]?)) ++ WdCC K (fun k => if k = 0 then ad 9 else ad 8) (subCC98 σ))[i]?) = (WdD K ad σ).map some := rfl
def q_X0_copyFrom_CC98 (σ : St) : St := putCC98 σ (p_X0_copyFrom (subCC98 σ))
set_option maxRecDepth 100000 in
theorem cD_X0_copyFrom_CC98 (l : Launch) (K : KX) (ad : Nat → Nat) (σ : St) : Mt l K yX0_copyFrom cX0_copyFrom 2 none { frames := 0, cells := 0, slots := 0, locals := 0 } [.ref (ad 9), .ref (ad 8)] (WdD K ad σ) none (WdD K ad (q_X0_copyFrom_CC98 σ)) :=
  (c_X0_copyFrom l K (fun k => if k = 0 then ad 9 else ad 8) (subCC98 σ)).liftF [9, 8] [0, 1, 2, 3, 4, 5, 6, 7, 10, 11, 12, 13, 14, 15, 16, 17, 18] [0, 1, 2, 3, 4, 5, 6, 7, 18, 17, 8, 9, 10, 11, 12, 13, 14, 15, 16] (hC_CC98 K ad σ) rfl (hR_CC98 K ad σ) rfl (by decide) (hp_CC98 K ad σ _) rfl
def subCC89 (σ : St) : St := (fun k => if k = 0 then σ.1 6 else if k = 1 then σ.1 7 else if k = 2 then σ.1 8 else if k = 3 then σ.1 9 else if k = 4 then σ.1 10 else σ.1 11, fun k => if k = 0 then σ.2.1 3 else if k = 1 then σ.2.1 4 else if k = 2 then σ.2.1 5 else σ.2.1 6, σ.2.2)
def putCC89 (σ τ : St) : St := sb (si (sb (si (si (sb (si (sb (si (si (σ) 6 (τ.1 0)) 7 (τ.1 1)) 3 (τ.2.1 0)) 8 (τ.1 2)) 4 (τ.2.1 1)) 9 (τ.1 3)) 10 (τ.1 4)) 5 (τ.2.1 2)) 11 (τ.1 5)) 6 (τ.2.1 3)
theorem hC_CC89 (K : KX) (ad : Nat → Nat) (σ : St) : ([8, 9] : List Nat).map (fun i => (WdD K ad σ)[i]?) = (WdCC K (fun k => if k = 0 then ad 8 else ad 9) (subCC89 σ)).map some := rfl
theorem hR_CC89 (K : KX) (ad : Nat → Nat) (σ : St) : ([0, 1, 2, 3, 4, 5, 6, 7, 10, 11, 12, 13, 14, 15, 16, 17, 18] : List Nat).map (fun i => (WdD K ad σ)[i]?) = (([0, 1, 2, 3, 4, 5, 6, 7, 10, 11, 12, 13, 14, 15, 16, 17, 18] : List Nat).filterMap (fun i => (WdD K ad σ)[i]?)).map some := rfl
theorem hp_CC89 (K : KX) (ad : Nat → Nat) (σ τ : St) : ([0, 1, 2, 3, 4, 5, 6, 7, 17, 18, 8, 9, 10, 11, 12, 13, 14, 15, 16] : List Nat).map (fun i => ((([0, 1, 2, 3, 4, 5, 6, 7, 10, 11, 12, 13, 14, 15, 16, 17, 18] : List Nat).filterMap (fun i => (WdD K ad σ)[i]?)) ++ WdCC K (fun k => if k = 0 then ad 8 else ad 9) τ)[i]?) = (WdD K ad (putCC89 σ τ)).map some := rfl
theorem hq_CC89 (K : KX) (ad : Nat → Nat) (σ : St) : ([0, 1, 2, 3, 4, 5, 6, 7, 17, 18, 8, 9, 10, 11, 12, 13, 14, 15, 16] : List Nat).map (fun i => ((([0, 1, 2, 3, 4, 5, 6, 7, 10, 11, 12, 13, 14, 15, 16, 17, 18] : List Nat).filterMap (fun i => (WdD K ad σ)[i]?)) ++ WdCC K (fun k => if k = 0 then ad 8 else ad 9) (subCC89 σ))[i]?) = (WdD K ad σ).map some := rfl
def q_X0_copyFrom_CC89 (σ : St) : St := putCC89 σ (p_X0_copyFrom (subCC89 σ))
set_option maxRecDepth 100000 in
theorem cD_X0_copyFrom_CC89 (l : Launch) (K : KX) (ad : Nat → Nat) (σ : St) : Mt l K yX0_copyFrom cX0_copyFrom 2 none { frames := 0, cells := 0, slots := 0, locals := 0 } [.ref (ad 8), .ref (ad 9)] (WdD K ad σ) none (WdD K ad (q_X0_copyFrom_CC89 σ)) :=
  (c_X0_copyFrom l K (fun k => if k = 0 then ad 8 else ad 9) (subCC89 σ)).liftF [8, 9] [0, 1, 2, 3, 4, 5, 6, 7, 10, 11, 12, 13, 14, 15, 16, 17, 18] [0, 1, 2, 3, 4, 5, 6, 7, 17, 18, 8, 9, 10, 11, 12, 13, 14, 15, 16] (hC_CC89 K ad σ) rfl (hR_CC89 K ad σ) rfl (by decide) (hp_CC89 K ad σ _) rfl
def subL (σ : St) : St := (fun k => if k = 0 then σ.1 12 else if k = 1 then σ.1 13 else σ.1 14, σ.2.1, σ.2.2)
def putL (σ τ : St) : St := si (si (si (σ) 12 (τ.1 0)) 13 (τ.1 1)) 14 (τ.1 2)
theorem hC_L (K : KX) (ad : Nat → Nat) (σ : St) : ([10] : List Nat).map (fun i => (WdD K ad σ)[i]?) = (WdL K (fun k => ad 10) (subL σ)).map some := rfl
theorem hR_L (K : KX) (ad : Nat → Nat) (σ : St) : ([0, 1, 2, 3, 4, 5, 6, 7, 8, 9, 11, 12, 13, 14, 15, 16, 17, 18] : List Nat).map (fun i => (WdD K ad σ)[i]?) = (([0, 1, 2, 3, 4, 5, 6, 7, 8, 9, 11, 12, 13, 14, 15, 16, 17, 18] : List Nat).filterMap (fun i => (WdD K ad σ)[i]?)).map some := rfl
theorem hp_L (K : KX) (ad : Nat → Nat) (σ τ : St) : ([0, 1, 2, 3, 4, 5, 6, 7, 8, 9, 18, 10, 11, 12, 13, 14, 15, 16, 17] : List Nat).map (fun i => ((([0, 1, 2, 3, 4, 5, 6, 7, 8, 9, 11, 12, 13, 14, 15, 16, 17, 18] : List Nat).filterMap (fun i => (WdD K ad σ)[i]?)) ++ WdL K (fun k => ad 10) τ)[i]?) = (WdD K ad (putL σ τ)).map some := rfl
theorem hq_L (K : KX) (ad : Nat → Nat) (σ : St) : ([0, 1, 2, 3, 4, 5, 6, 7, 8, 9, 18, 10, 11, 12, 13, 14, 15, 16, 17] : List Nat).map (fun i => ((([0, 1, 2, 3, 4, 5, 6, 7, 8, 9, 11, 12, 13, 14, 15, 16, 17, 18] : List Nat).filterMap (fun i => (WdD K ad σ)[i]?)) ++ WdL K (fun k => ad 10) (subL σ))[i]?) = (WdD K ad σ).map some := rfl
def q_X1_drop_L (σ : St) : St := putL σ (p_X1_drop (subL σ))
set_option maxRecDepth 100000 in
theorem cD_X1_drop_L (l : Launch) (K : KX) (ad : Nat → Nat) (σ : St) : Mt l K yX1_drop cX1_drop 1 none { frames := 0, cells := 0, slots := 0, locals := 0 } [.ref (ad 10)] (WdD K ad σ) none (WdD K ad (q_X1_drop_L σ)) :=
  (c_X1_drop l K (fun k => ad 10) (subL σ)).liftF [10] [0, 1, 2, 3, 4, 5, 6, 7, 8, 9, 11, 12, 13, 14, 15, 16, 17, 18] [0, 1, 2, 3, 4, 5, 6, 7, 8, 9, 18, 10, 11, 12, 13, 14, 15, 16, 17] (hC_L K ad σ) rfl (hR_L K ad σ) rfl (by decide) (hp_L K ad σ _) rfl
def q_X1_begin_L (σ : St) (p1 : Int32) : St := putL σ (p_X1_begin (subL σ) p1)
set_option maxRecDepth 100000 in
theorem cD_X1_begin_L (l : Launch) (K : KX) (ad : Nat → Nat) (σ : St) (p1 : Int32) : Mt l K yX1_begin cX1_begin 2 none { frames := 1, cells := 0, slots := 0, locals := 23 } [.ref (ad 10), .int p1] (WdD K ad σ) none (WdD K ad (q_X1_begin_L σ p1)) :=
  (c_X1_begin l K (fun k => ad 10) (subL σ) p1).liftF [10] [0, 1, 2, 3, 4, 5, 6, 7, 8, 9, 11, 12, 13, 14, 15, 16, 17, 18] [0, 1, 2, 3, 4, 5, 6, 7, 8, 9, 18, 10, 11, 12, 13, 14, 15, 16, 17] (hC_L K ad σ) rfl (hR_L K ad σ) rfl (by decide) (hp_L K ad σ _) rfl
def q_X1_add_L (σ : St) (p1 : Int32) : St := putL σ (p_X1_add (subL σ) p1)
set_option maxRecDepth 100000 in
theorem cD_X1_add_L (l : Launch) (K : KX) (ad : Nat → Nat) (σ : St) (p1 : Int32) : Mt l K yX1_add cX1_add 2 none { frames := 0, cells := 0, slots := 0, locals := 0 } [.ref (ad 10), .int p1] (WdD K ad σ) none (WdD K ad (q_X1_add_L σ p1)) :=
  (c_X1_add l K (fun k => ad 10) (subL σ) p1).liftF [10] [0, 1, 2, 3, 4, 5, 6, 7, 8, 9, 11, 12, 13, 14, 15, 16, 17, 18] [0, 1, 2, 3, 4, 5, 6, 7, 8, 9, 18, 10, 11, 12, 13, 14, 15, 16, 17] (hC_L K ad σ) rfl (hR_L K ad σ) rfl (by decide) (hp_L K ad σ _) rfl
def q_X1_whole_L (σ : St) : Int32 := p_X1_whole (subL σ)
set_option maxRecDepth 100000 in
theorem cD_X1_whole_L (l : Launch) (K : KX) (ad : Nat → Nat) (σ : St) : Mt l K yX1_whole cX1_whole 2 (some .int) { frames := 0, cells := 0, slots := 0, locals := 0 } [.ref (ad 10)] (WdD K ad σ) (some (.int (q_X1_whole_L σ))) (WdD K ad σ) :=
  (c_X1_whole l K (fun k => ad 10) (subL σ)).liftF [10] [0, 1, 2, 3, 4, 5, 6, 7, 8, 9, 11, 12, 13, 14, 15, 16, 17, 18] [0, 1, 2, 3, 4, 5, 6, 7, 8, 9, 18, 10, 11, 12, 13, 14, 15, 16, 17] (hC_L K ad σ) rfl (hR_L K ad σ) rfl (by decide) (hq_L K ad σ) rfl
def subN (σ : St) : St := (fun k => σ.1 15, fun k => σ.2.1 7, fun k => σ.2.2 4)
def putN (σ τ : St) : St := sa (sb (si (σ) 15 (τ.1 0)) 7 (τ.2.1 0)) 4 (τ.2.2 0)
theorem hC_N (K : KX) (ad : Nat → Nat) (σ : St) : ([11, 12] : List Nat).map (fun i => (WdD K ad σ)[i]?) = (WdN K (fun k => if k = 0 then ad 11 else ad 12) (subN σ)).map some := rfl
theorem hR_N (K : KX) (ad : Nat → Nat) (σ : St) : ([0, 1, 2, 3, 4, 5, 6, 7, 8, 9, 10, 13, 14, 15, 16, 17, 18] : List Nat).map (fun i => (WdD K ad σ)[i]?) = (([0, 1, 2, 3, 4, 5, 6, 7, 8, 9, 10, 13, 14, 15, 16, 17, 18] : List Nat).filterMap (fun i => (WdD K ad σ)[i]?)).map some := rfl
theorem hp_N (K : KX) (ad : Nat → Nat) (σ τ : St) : ([0, 1, 2, 3, 4, 5, 6, 7, 8, 9, 10, 17, 18, 11, 12, 13, 14, 15, 16] : List Nat).map (fun i => ((([0, 1, 2, 3, 4, 5, 6, 7, 8, 9, 10, 13, 14, 15, 16, 17, 18] : List Nat).filterMap (fun i => (WdD K ad σ)[i]?)) ++ WdN K (fun k => if k = 0 then ad 11 else ad 12) τ)[i]?) = (WdD K ad (putN σ τ)).map some := rfl
theorem hq_N (K : KX) (ad : Nat → Nat) (σ : St) : ([0, 1, 2, 3, 4, 5, 6, 7, 8, 9, 10, 17, 18, 11, 12, 13, 14, 15, 16] : List Nat).map (fun i => ((([0, 1, 2, 3, 4, 5, 6, 7, 8, 9, 10, 13, 14, 15, 16, 17, 18] : List Nat).filterMap (fun i => (WdD K ad σ)[i]?)) ++ WdN K (fun k => if k = 0 then ad 11 else ad 12) (subN σ))[i]?) = (WdD K ad σ).map some := rfl
def q_X2_begin_N (σ : St) : St := putN σ (p_X2_begin (subN σ))
set_option maxRecDepth 100000 in
theorem cD_X2_begin_N (l : Launch) (K : KX) (ad : Nat → Nat) (σ : St) : Mt l K yX2_begin cX2_begin 2 none { frames := 0, cells := 0, slots := 0, locals := 0 } [.ref (ad 11)] (WdD K ad σ) none (WdD K ad (q_X2_begin_N σ)) :=
  (c_X2_begin l K (fun k => if k = 0 then ad 11 else ad 12) (subN σ)).liftF [11, 12] [0, 1, 2, 3, 4, 5, 6, 7, 8, 9, 10, 13, 14, 15, 16, 17, 18] [0, 1, 2, 3, 4, 5, 6, 7, 8, 9, 10, 17, 18, 11, 12, 13, 14, 15, 16] (hC_N K ad σ) rfl (hR_N K ad σ) rfl (by decide) (hp_N K ad σ _) rfl
def q_X2_isUntouched_N (σ : St) : Bool := p_X2_isUntouched (subN σ)
set_option maxRecDepth 100000 in
theorem cD_X2_isUntouched_N (l : Launch) (K : KX) (ad : Nat → Nat) (σ : St) : Mt l K yX2_isUntouched cX2_isUntouched 1 (some .boolean) { frames := 0, cells := 0, slots := 0, locals := 0 } [.ref (ad 11)] (WdD K ad σ) (some (.int (b2i (q_X2_isUntouched_N σ)))) (WdD K ad σ) :=
  (c_X2_isUntouched l K (fun k => if k = 0 then ad 11 else ad 12) (subN σ)).liftF [11, 12] [0, 1, 2, 3, 4, 5, 6, 7, 8, 9, 10, 13, 14, 15, 16, 17, 18] [0, 1, 2, 3, 4, 5, 6, 7, 8, 9, 10, 17, 18, 11, 12, 13, 14, 15, 16] (hC_N K ad σ) rfl (hR_N K ad σ) rfl (by decide) (hq_N K ad σ) rfl
def q_X2_addDigit_N (σ : St) (p1 : Int32) : St := putN σ (p_X2_addDigit (subN σ) p1)
set_option maxRecDepth 100000 in
theorem cD_X2_addDigit_N (l : Launch) (K : KX) (ad : Nat → Nat) (σ : St) (p1 : Int32) : Mt l K yX2_addDigit cX2_addDigit 3 none { frames := 1, cells := 0, slots := 0, locals := 21 } [.ref (ad 11), .int p1] (WdD K ad σ) none (WdD K ad (q_X2_addDigit_N σ p1)) :=
  (c_X2_addDigit l K (fun k => if k = 0 then ad 11 else ad 12) (subN σ) p1).liftF [11, 12] [0, 1, 2, 3, 4, 5, 6, 7, 8, 9, 10, 13, 14, 15, 16, 17, 18] [0, 1, 2, 3, 4, 5, 6, 7, 8, 9, 10, 17, 18, 11, 12, 13, 14, 15, 16] (hC_N K ad σ) rfl (hR_N K ad σ) rfl (by decide) (hp_N K ad σ _) rfl
def q_X2_next_N (σ : St) : St := putN σ (p_X2_next (subN σ))
set_option maxRecDepth 100000 in
theorem cD_X2_next_N (l : Launch) (K : KX) (ad : Nat → Nat) (σ : St) : Mt l K yX2_next cX2_next 1 none { frames := 1, cells := 0, slots := 0, locals := 21 } [.ref (ad 11)] (WdD K ad σ) none (WdD K ad (q_X2_next_N σ)) :=
  (c_X2_next l K (fun k => if k = 0 then ad 11 else ad 12) (subN σ)).liftF [11, 12] [0, 1, 2, 3, 4, 5, 6, 7, 8, 9, 10, 13, 14, 15, 16, 17, 18] [0, 1, 2, 3, 4, 5, 6, 7, 8, 9, 10, 17, 18, 11, 12, 13, 14, 15, 16] (hC_N K ad σ) rfl (hR_N K ad σ) rfl (by decide) (hp_N K ad σ _) rfl
def q_X2_kept_N (σ : St) : Int32 := p_X2_kept (subN σ)
set_option maxRecDepth 100000 in
theorem cD_X2_kept_N (l : Launch) (K : KX) (ad : Nat → Nat) (σ : St) : Mt l K yX2_kept cX2_kept 1 (some .int) { frames := 1, cells := 0, slots := 0, locals := 21 } [.ref (ad 11)] (WdD K ad σ) (some (.int (q_X2_kept_N σ))) (WdD K ad σ) :=
  (c_X2_kept l K (fun k => if k = 0 then ad 11 else ad 12) (subN σ)).liftF [11, 12] [0, 1, 2, 3, 4, 5, 6, 7, 8, 9, 10, 13, 14, 15, 16, 17, 18] [0, 1, 2, 3, 4, 5, 6, 7, 8, 9, 10, 17, 18, 11, 12, 13, 14, 15, 16] (hC_N K ad σ) rfl (hR_N K ad σ) rfl (by decide) (hq_N K ad σ) rfl
def q_X2_valueAt_N (σ : St) (p1 : Int32) : Int32 := p_X2_valueAt (subN σ) p1
set_option maxRecDepth 100000 in
theorem cD_X2_valueAt_N (l : Launch) (K : KX) (ad : Nat → Nat) (σ : St) (p1 : Int32) : Mt l K yX2_valueAt cX2_valueAt 2 (some .int) { frames := 0, cells := 0, slots := 0, locals := 0 } [.ref (ad 11), .int p1] (WdD K ad σ) (some (.int (q_X2_valueAt_N σ p1))) (WdD K ad σ) :=
  (c_X2_valueAt l K (fun k => if k = 0 then ad 11 else ad 12) (subN σ) p1).liftF [11, 12] [0, 1, 2, 3, 4, 5, 6, 7, 8, 9, 10, 13, 14, 15, 16, 17, 18] [0, 1, 2, 3, 4, 5, 6, 7, 8, 9, 10, 17, 18, 11, 12, 13, 14, 15, 16] (hC_N K ad σ) rfl (hR_N K ad σ) rfl (by decide) (hq_N K ad σ) rfl
def subP2 (σ : St) : St := (σ.1, σ.2.1, fun k => if k = 0 then σ.2.2 0 else σ.2.2 1)
def putP2 (σ τ : St) : St := sa (sa (σ) 0 (τ.2.2 0)) 1 (τ.2.2 1)
theorem hC_P2 (K : KX) (ad : Nat → Nat) (σ : St) : ([2, 4, 5] : List Nat).map (fun i => (WdD K ad σ)[i]?) = (WdP K (fun k => if k = 0 then ad 2 else if k = 1 then ad 4 else ad 5) (subP2 σ)).map some := rfl
theorem hR_P2 (K : KX) (ad : Nat → Nat) (σ : St) : ([0, 1, 3, 6, 7, 8, 9, 10, 11, 12, 13, 14, 15, 16, 17, 18] : List Nat).map (fun i => (WdD K ad σ)[i]?) = (([0, 1, 3, 6, 7, 8, 9, 10, 11, 12, 13, 14, 15, 16, 17, 18] : List Nat).filterMap (fun i => (WdD K ad σ)[i]?)).map some := rfl
theorem hp_P2 (K : KX) (ad : Nat → Nat) (σ τ : St) : ([0, 1, 16, 2, 17, 18, 3, 4, 5, 6, 7, 8, 9, 10, 11, 12, 13, 14, 15] : List Nat).map (fun i => ((([0, 1, 3, 6, 7, 8, 9, 10, 11, 12, 13, 14, 15, 16, 17, 18] : List Nat).filterMap (fun i => (WdD K ad σ)[i]?)) ++ WdP K (fun k => if k = 0 then ad 2 else if k = 1 then ad 4 else ad 5) τ)[i]?) = (WdD K ad (putP2 σ τ)).map some := rfl
theorem hq_P2 (K : KX) (ad : Nat → Nat) (σ : St) : ([0, 1, 16, 2, 17, 18, 3, 4, 5, 6, 7, 8, 9, 10, 11, 12, 13, 14, 15] : List Nat).map (fun i => ((([0, 1, 3, 6, 7, 8, 9, 10, 11, 12, 13, 14, 15, 16, 17, 18] : List Nat).filterMap (fun i => (WdD K ad σ)[i]?)) ++ WdP K (fun k => if k = 0 then ad 2 else if k = 1 then ad 4 else ad 5) (subP2 σ))[i]?) = (WdD K ad σ).map some := rfl
def q_X3_put_P2 (σ : St) (p1 : Int32) (p2 : Int32) (p3 : Int32) : St := putP2 σ (p_X3_put (subP2 σ) p1 p2 p3)
set_option maxRecDepth 100000 in
theorem cD_X3_put_P2 (l : Launch) (K : KX) (ad : Nat → Nat) (σ : St) (p1 : Int32) (p2 : Int32) (p3 : Int32) : Mt l K yX3_put cX3_put 4 none { frames := 0, cells := 0, slots := 0, locals := 0 } [.ref (ad 2), .int p1, .int p2, .int p3] (WdD K ad σ) none (WdD K ad (q_X3_put_P2 σ p1 p2 p3)) :=
  (c_X3_put l K (fun k => if k = 0 then ad 2 else if k = 1 then ad 4 else ad 5) (subP2 σ) p1 p2 p3).liftF [2, 4, 5] [0, 1, 3, 6, 7, 8, 9, 10, 11, 12, 13, 14, 15, 16, 17, 18] [0, 1, 16, 2, 17, 18, 3, 4, 5, 6, 7, 8, 9, 10, 11, 12, 13, 14, 15] (hC_P2 K ad σ) rfl (hR_P2 K ad σ) rfl (by decide) (hp_P2 K ad σ _) rfl
def q_X3_clear_P2 (σ : St) (p1 : Int32) (p2 : Int32) : St := putP2 σ (p_X3_clear (subP2 σ) p1 p2)
set_option maxRecDepth 100000 in
theorem cD_X3_clear_P2 (l : Launch) (K : KX) (ad : Nat → Nat) (σ : St) (p1 : Int32) (p2 : Int32) : Mt l K yX3_clear cX3_clear 4 none { frames := 0, cells := 0, slots := 0, locals := 0 } [.ref (ad 2), .int p1, .int p2] (WdD K ad σ) none (WdD K ad (q_X3_clear_P2 σ p1 p2)) :=
  (c_X3_clear l K (fun k => if k = 0 then ad 2 else if k = 1 then ad 4 else ad 5) (subP2 σ) p1 p2).liftF [2, 4, 5] [0, 1, 3, 6, 7, 8, 9, 10, 11, 12, 13, 14, 15, 16, 17, 18] [0, 1, 16, 2, 17, 18, 3, 4, 5, 6, 7, 8, 9, 10, 11, 12, 13, 14, 15] (hC_P2 K ad σ) rfl (hR_P2 K ad σ) rfl (by decide) (hp_P2 K ad σ _) rfl
def q_X3_pull_P2 (σ : St) (p1 : Int32) (p2 : Int32) (p3 : Int32) : St := putP2 σ (p_X3_pull (subP2 σ) p1 p2 p3)
set_option maxRecDepth 100000 in
theorem cD_X3_pull_P2 (l : Launch) (K : KX) (ad : Nat → Nat) (σ : St) (p1 : Int32) (p2 : Int32) (p3 : Int32) (hb : p3.toInt ≤ 1000000) : Mt l K yX3_pull cX3_pull 6 none { frames := 0, cells := 0, slots := 0, locals := 0 } [.ref (ad 2), .int p1, .int p2, .int p3] (WdD K ad σ) none (WdD K ad (q_X3_pull_P2 σ p1 p2 p3)) :=
  (c_X3_pull l K (fun k => if k = 0 then ad 2 else if k = 1 then ad 4 else ad 5) (subP2 σ) p1 p2 p3 hb).liftF [2, 4, 5] [0, 1, 3, 6, 7, 8, 9, 10, 11, 12, 13, 14, 15, 16, 17, 18] [0, 1, 16, 2, 17, 18, 3, 4, 5, 6, 7, 8, 9, 10, 11, 12, 13, 14, 15] (hC_P2 K ad σ) rfl (hR_P2 K ad σ) rfl (by decide) (hp_P2 K ad σ _) rfl
def q_X3_push_P2 (σ : St) (p1 : Int32) (p2 : Int32) (p3 : Int32) : St := putP2 σ (p_X3_push (subP2 σ) p1 p2 p3)
set_option maxRecDepth 100000 in
theorem cD_X3_push_P2 (l : Launch) (K : KX) (ad : Nat → Nat) (σ : St) (p1 : Int32) (p2 : Int32) (p3 : Int32) : Mt l K yX3_push cX3_push 6 none { frames := 0, cells := 0, slots := 0, locals := 0 } [.ref (ad 2), .int p1, .int p2, .int p3] (WdD K ad σ) none (WdD K ad (q_X3_push_P2 σ p1 p2 p3)) :=
  (c_X3_push l K (fun k => if k = 0 then ad 2 else if k = 1 then ad 4 else ad 5) (subP2 σ) p1 p2 p3).liftF [2, 4, 5] [0, 1, 3, 6, 7, 8, 9, 10, 11, 12, 13, 14, 15, 16, 17, 18] [0, 1, 16, 2, 17, 18, 3, 4, 5, 6, 7, 8, 9, 10, 11, 12, 13, 14, 15] (hC_P2 K ad σ) rfl (hR_P2 K ad σ) rfl (by decide) (hp_P2 K ad σ _) rfl
def q_X3_count_P2 (σ : St) (p1 : Int32) (p2 : Int32) : Int32 := p_X3_count (subP2 σ) p1 p2
set_option maxRecDepth 100000 in
theorem cD_X3_count_P2 (l : Launch) (K : KX) (ad : Nat → Nat) (σ : St) (p1 : Int32) (p2 : Int32) : Mt l K yX3_count cX3_count 5 (some .int) { frames := 0, cells := 0, slots := 0, locals := 0 } [.ref (ad 2), .int p1, .int p2] (WdD K ad σ) (some (.int (q_X3_count_P2 σ p1 p2))) (WdD K ad σ) :=
  (c_X3_count l K (fun k => if k = 0 then ad 2 else if k = 1 then ad 4 else ad 5) (subP2 σ) p1 p2).liftF [2, 4, 5] [0, 1, 3, 6, 7, 8, 9, 10, 11, 12, 13, 14, 15, 16, 17, 18] [0, 1, 16, 2, 17, 18, 3, 4, 5, 6, 7, 8, 9, 10, 11, 12, 13, 14, 15] (hC_P2 K ad σ) rfl (hR_P2 K ad σ) rfl (by decide) (hq_P2 K ad σ) rfl
def subP3 (σ : St) : St := (σ.1, σ.2.1, fun k => if k = 0 then σ.2.2 2 else σ.2.2 3)
def putP3 (σ τ : St) : St := sa (sa (σ) 2 (τ.2.2 0)) 3 (τ.2.2 1)
theorem hC_P3 (K : KX) (ad : Nat → Nat) (σ : St) : ([3, 6, 7] : List Nat).map (fun i => (WdD K ad σ)[i]?) = (WdP K (fun k => if k = 0 then ad 3 else if k = 1 then ad 6 else ad 7) (subP3 σ)).map some := rfl
theorem hR_P3 (K : KX) (ad : Nat → Nat) (σ : St) : ([0, 1, 2, 4, 5, 8, 9, 10, 11, 12, 13, 14, 15, 16, 17, 18] : List Nat).map (fun i => (WdD K ad σ)[i]?) = (([0, 1, 2, 4, 5, 8, 9, 10, 11, 12, 13, 14, 15, 16, 17, 18] : List Nat).filterMap (fun i => (WdD K ad σ)[i]?)).map some := rfl
theorem hp_P3 (K : KX) (ad : Nat → Nat) (σ τ : St) : ([0, 1, 2, 16, 3, 4, 17, 18, 5, 6, 7, 8, 9, 10, 11, 12, 13, 14, 15] : List Nat).map (fun i => ((([0, 1, 2, 4, 5, 8, 9, 10, 11, 12, 13, 14, 15, 16, 17, 18] : List Nat).filterMap (fun i => (WdD K ad σ)[i]?)) ++ WdP K (fun k => if k = 0 then ad 3 else if k = 1 then ad 6 else ad 7) τ)[i]?) = (WdD K ad (putP3 σ τ)).map some := rfl
theorem hq_P3 (K : KX) (ad : Nat → Nat) (σ : St) : ([0, 1, 2, 16, 3, 4, 17, 18, 5, 6, 7, 8, 9, 10, 11, 12, 13, 14, 15] : List Nat).map (fun i => ((([0, 1, 2, 4, 5, 8, 9, 10, 11, 12, 13, 14, 15, 16, 17, 18] : List Nat).filterMap (fun i => (WdD K ad σ)[i]?)) ++ WdP K (fun k => if k = 0 then ad 3 else if k = 1 then ad 6 else ad 7) (subP3 σ))[i]?) = (WdD K ad σ).map some := rfl
def q_X3_put_P3 (σ : St) (p1 : Int32) (p2 : Int32) (p3 : Int32) : St := putP3 σ (p_X3_put (subP3 σ) p1 p2 p3)
set_option maxRecDepth 100000 in
theorem cD_X3_put_P3 (l : Launch) (K : KX) (ad : Nat → Nat) (σ : St) (p1 : Int32) (p2 : Int32) (p3 : Int32) : Mt l K yX3_put cX3_put 4 none { frames := 0, cells := 0, slots := 0, locals := 0 } [.ref (ad 3), .int p1, .int p2, .int p3] (WdD K ad σ) none (WdD K ad (q_X3_put_P3 σ p1 p2 p3)) :=
  (c_X3_put l K (fun k => if k = 0 then ad 3 else if k = 1 then ad 6 else ad 7) (subP3 σ) p1 p2 p3).liftF [3, 6, 7] [0, 1, 2, 4, 5, 8, 9, 10, 11, 12, 13, 14, 15, 16, 17, 18] [0, 1, 2, 16, 3, 4, 17, 18, 5, 6, 7, 8, 9, 10, 11, 12, 13, 14, 15] (hC_P3 K ad σ) rfl (hR_P3 K ad σ) rfl (by decide) (hp_P3 K ad σ _) rfl
def q_X3_clear_P3 (σ : St) (p1 : Int32) (p2 : Int32) : St := putP3 σ (p_X3_clear (subP3 σ) p1 p2)
set_option maxRecDepth 100000 in
theorem cD_X3_clear_P3 (l : Launch) (K : KX) (ad : Nat → Nat) (σ : St) (p1 : Int32) (p2 : Int32) : Mt l K yX3_clear cX3_clear 4 none { frames := 0, cells := 0, slots := 0, locals := 0 } [.ref (ad 3), .int p1, .int p2] (WdD K ad σ) none (WdD K ad (q_X3_clear_P3 σ p1 p2)) :=
  (c_X3_clear l K (fun k => if k = 0 then ad 3 else if k = 1 then ad 6 else ad 7) (subP3 σ) p1 p2).liftF [3, 6, 7] [0, 1, 2, 4, 5, 8, 9, 10, 11, 12, 13, 14, 15, 16, 17, 18] [0, 1, 2, 16, 3, 4, 17, 18, 5, 6, 7, 8, 9, 10, 11, 12, 13, 14, 15] (hC_P3 K ad σ) rfl (hR_P3 K ad σ) rfl (by decide) (hp_P3 K ad σ _) rfl
def q_X3_pull_P3 (σ : St) (p1 : Int32) (p2 : Int32) (p3 : Int32) : St := putP3 σ (p_X3_pull (subP3 σ) p1 p2 p3)
set_option maxRecDepth 100000 in
theorem cD_X3_pull_P3 (l : Launch) (K : KX) (ad : Nat → Nat) (σ : St) (p1 : Int32) (p2 : Int32) (p3 : Int32) (hb : p3.toInt ≤ 1000000) : Mt l K yX3_pull cX3_pull 6 none { frames := 0, cells := 0, slots := 0, locals := 0 } [.ref (ad 3), .int p1, .int p2, .int p3] (WdD K ad σ) none (WdD K ad (q_X3_pull_P3 σ p1 p2 p3)) :=
  (c_X3_pull l K (fun k => if k = 0 then ad 3 else if k = 1 then ad 6 else ad 7) (subP3 σ) p1 p2 p3 hb).liftF [3, 6, 7] [0, 1, 2, 4, 5, 8, 9, 10, 11, 12, 13, 14, 15, 16, 17, 18] [0, 1, 2, 16, 3, 4, 17, 18, 5, 6, 7, 8, 9, 10, 11, 12, 13, 14, 15] (hC_P3 K ad σ) rfl (hR_P3 K ad σ) rfl (by decide) (hp_P3 K ad σ _) rfl
def q_X3_push_P3 (σ : St) (p1 : Int32) (p2 : Int32) (p3 : Int32) : St := putP3 σ (p_X3_push (subP3 σ) p1 p2 p3)
set_option maxRecDepth 100000 in
theorem cD_X3_push_P3 (l : Launch) (K : KX) (ad : Nat → Nat) (σ : St) (p1 : Int32) (p2 : Int32) (p3 : Int32) : Mt l K yX3_push cX3_push 6 none { frames := 0, cells := 0, slots := 0, locals := 0 } [.ref (ad 3), .int p1, .int p2, .int p3] (WdD K ad σ) none (WdD K ad (q_X3_push_P3 σ p1 p2 p3)) :=
  (c_X3_push l K (fun k => if k = 0 then ad 3 else if k = 1 then ad 6 else ad 7) (subP3 σ) p1 p2 p3).liftF [3, 6, 7] [0, 1, 2, 4, 5, 8, 9, 10, 11, 12, 13, 14, 15, 16, 17, 18] [0, 1, 2, 16, 3, 4, 17, 18, 5, 6, 7, 8, 9, 10, 11, 12, 13, 14, 15] (hC_P3 K ad σ) rfl (hR_P3 K ad σ) rfl (by decide) (hp_P3 K ad σ _) rfl
def q_X3_count_P3 (σ : St) (p1 : Int32) (p2 : Int32) : Int32 := p_X3_count (subP3 σ) p1 p2
set_option maxRecDepth 100000 in
theorem cD_X3_count_P3 (l : Launch) (K : KX) (ad : Nat → Nat) (σ : St) (p1 : Int32) (p2 : Int32) : Mt l K yX3_count cX3_count 5 (some .int) { frames := 0, cells := 0, slots := 0, locals := 0 } [.ref (ad 3), .int p1, .int p2] (WdD K ad σ) (some (.int (q_X3_count_P3 σ p1 p2))) (WdD K ad σ) :=
  (c_X3_count l K (fun k => if k = 0 then ad 3 else if k = 1 then ad 6 else ad 7) (subP3 σ) p1 p2).liftF [3, 6, 7] [0, 1, 2, 4, 5, 8, 9, 10, 11, 12, 13, 14, 15, 16, 17, 18] [0, 1, 2, 16, 3, 4, 17, 18, 5, 6, 7, 8, 9, 10, 11, 12, 13, 14, 15] (hC_P3 K ad σ) rfl (hR_P3 K ad σ) rfl (by decide) (hq_P3 K ad σ) rfl
def subR (σ : St) : St := (fun k => σ.1 18, σ.2.1, fun k => σ.2.2 7)
def putR (σ τ : St) : St := sa (si (σ) 18 (τ.1 0)) 7 (τ.2.2 0)
theorem hC_R (K : KX) (ad : Nat → Nat) (σ : St) : ([17, 18] : List Nat).map (fun i => (WdD K ad σ)[i]?) = (WdR K (fun k => if k = 0 then ad 17 else ad 18) (subR σ)).map some := rfl
theorem hR_R (K : KX) (ad : Nat → Nat) (σ : St) : ([0, 1, 2, 3, 4, 5, 6, 7, 8, 9, 10, 11, 12, 13, 14, 15, 16] : List Nat).map (fun i => (WdD K ad σ)[i]?) = (([0, 1, 2, 3, 4, 5, 6, 7, 8, 9, 10, 11, 12, 13, 14, 15, 16] : List Nat).filterMap (fun i => (WdD K ad σ)[i]?)).map some := rfl
theorem hp_R (K : KX) (ad : Nat → Nat) (σ τ : St) : ([0, 1, 2, 3, 4, 5, 6, 7, 8, 9, 10, 11, 12, 13, 14, 15, 16, 17, 18] : List Nat).map (fun i => ((([0, 1, 2, 3, 4, 5, 6, 7, 8, 9, 10, 11, 12, 13, 14, 15, 16] : List Nat).filterMap (fun i => (WdD K ad σ)[i]?)) ++ WdR K (fun k => if k = 0 then ad 17 else ad 18) τ)[i]?) = (WdD K ad (putR σ τ)).map some := rfl
theorem hq_R (K : KX) (ad : Nat → Nat) (σ : St) : ([0, 1, 2, 3, 4, 5, 6, 7, 8, 9, 10, 11, 12, 13, 14, 15, 16, 17, 18] : List Nat).map (fun i => ((([0, 1, 2, 3, 4, 5, 6, 7, 8, 9, 10, 11, 12, 13, 14, 15, 16] : List Nat).filterMap (fun i => (WdD K ad σ)[i]?)) ++ WdR K (fun k => if k = 0 then ad 17 else ad 18) (subR σ))[i]?) = (WdD K ad σ).map some := rfl
def q_X4_clear_R (σ : St) : St := putR σ (p_X4_clear (subR σ))
set_option maxRecDepth 100000 in
theorem cD_X4_clear_R (l : Launch) (K : KX) (ad : Nat → Nat) (σ : St) : Mt l K yX4_clear cX4_clear 1 none { frames := 0, cells := 0, slots := 0, locals := 0 } [.ref (ad 17)] (WdD K ad σ) none (WdD K ad (q_X4_clear_R σ)) :=
  (c_X4_clear l K (fun k => if k = 0 then ad 17 else ad 18) (subR σ)).liftF [17, 18] [0, 1, 2, 3, 4, 5, 6, 7, 8, 9, 10, 11, 12, 13, 14, 15, 16] [0, 1, 2, 3, 4, 5, 6, 7, 8, 9, 10, 11, 12, 13, 14, 15, 16, 17, 18] (hC_R K ad σ) rfl (hR_R K ad σ) rfl (by decide) (hp_R K ad σ _) rfl
def q_X4_addWell_R (σ : St) : St := putR σ (p_X4_addWell (subR σ))
set_option maxRecDepth 100000 in
theorem cD_X4_addWell_R (l : Launch) (K : KX) (ad : Nat → Nat) (σ : St) : Mt l K yX4_addWell cX4_addWell 1 none { frames := 1, cells := 0, slots := 0, locals := 21 } [.ref (ad 17)] (WdD K ad σ) none (WdD K ad (q_X4_addWell_R σ)) :=
  (c_X4_addWell l K (fun k => if k = 0 then ad 17 else ad 18) (subR σ)).liftF [17, 18] [0, 1, 2, 3, 4, 5, 6, 7, 8, 9, 10, 11, 12, 13, 14, 15, 16] [0, 1, 2, 3, 4, 5, 6, 7, 8, 9, 10, 11, 12, 13, 14, 15, 16, 17, 18] (hC_R K ad σ) rfl (hR_R K ad σ) rfl (by decide) (hp_R K ad σ _) rfl
def q_X4_addPosition_R (σ : St) (p1 : Int32) (p2 : Int32) : St := putR σ (p_X4_addPosition (subR σ) p1 p2)
set_option maxRecDepth 100000 in
theorem cD_X4_addPosition_R (l : Launch) (K : KX) (ad : Nat → Nat) (σ : St) (p1 : Int32) (p2 : Int32) : Mt l K yX4_addPosition cX4_addPosition 4 none { frames := 1, cells := 0, slots := 0, locals := 21 } [.ref (ad 17), .int p1, .int p2] (WdD K ad σ) none (WdD K ad (q_X4_addPosition_R σ p1 p2)) :=
  (c_X4_addPosition l K (fun k => if k = 0 then ad 17 else ad 18) (subR σ) p1 p2).liftF [17, 18] [0, 1, 2, 3, 4, 5, 6, 7, 8, 9, 10, 11, 12, 13, 14, 15, 16] [0, 1, 2, 3, 4, 5, 6, 7, 8, 9, 10, 11, 12, 13, 14, 15, 16, 17, 18] (hC_R K ad σ) rfl (hR_R K ad σ) rfl (by decide) (hp_R K ad σ _) rfl
def q_X4_takeFirst_R (σ : St) : St × Int32 := (putR σ (p_X4_takeFirst (subR σ)).1, (p_X4_takeFirst (subR σ)).2)
set_option maxRecDepth 100000 in
theorem cD_X4_takeFirst_R (l : Launch) (K : KX) (ad : Nat → Nat) (σ : St) : Mt l K yX4_takeFirst cX4_takeFirst 3 (some .int) { frames := 0, cells := 0, slots := 0, locals := 0 } [.ref (ad 17)] (WdD K ad σ) (some (.int (q_X4_takeFirst_R σ).2)) (WdD K ad (q_X4_takeFirst_R σ).1) :=
  (c_X4_takeFirst l K (fun k => if k = 0 then ad 17 else ad 18) (subR σ)).liftF [17, 18] [0, 1, 2, 3, 4, 5, 6, 7, 8, 9, 10, 11, 12, 13, 14, 15, 16] [0, 1, 2, 3, 4, 5, 6, 7, 8, 9, 10, 11, 12, 13, 14, 15, 16, 17, 18] (hC_R K ad σ) rfl (hR_R K ad σ) rfl (by decide) (hp_R K ad σ _) rfl
def subT13 (σ : St) : St := (fun k => σ.1 16, σ.2.1, fun k => σ.2.2 5)
def putT13 (σ τ : St) : St := sa (si (σ) 16 (τ.1 0)) 5 (τ.2.2 0)
theorem hC_T13 (K : KX) (ad : Nat → Nat) (σ : St) : ([13, 14] : List Nat).map (fun i => (WdD K ad σ)[i]?) = (WdT K (fun k => if k = 0 then ad 13 else ad 14) (subT13 σ)).map some := rfl
theorem hR_T13 (K : KX) (ad : Nat → Nat) (σ : St) : ([0, 1, 2, 3, 4, 5, 6, 7, 8, 9, 10, 11, 12, 15, 16, 17, 18] : List Nat).map (fun i => (WdD K ad σ)[i]?) = (([0, 1, 2, 3, 4, 5, 6, 7, 8, 9, 10, 11, 12, 15, 16, 17, 18] : List Nat).filterMap (fun i => (WdD K ad σ)[i]?)).map some := rfl
theorem hp_T13 (K : KX) (ad : Nat → Nat) (σ τ : St) : ([0, 1, 2, 3, 4, 5, 6, 7, 8, 9, 10, 11, 12, 17, 18, 13, 14, 15, 16] : List Nat).map (fun i => ((([0, 1, 2, 3, 4, 5, 6, 7, 8, 9, 10, 11, 12, 15, 16, 17, 18] : List Nat).filterMap (fun i => (WdD K ad σ)[i]?)) ++ WdT K (fun k => if k = 0 then ad 13 else ad 14) τ)[i]?) = (WdD K ad (putT13 σ τ)).map some := rfl
theorem hq_T13 (K : KX) (ad : Nat → Nat) (σ : St) : ([0, 1, 2, 3, 4, 5, 6, 7, 8, 9, 10, 11, 12, 17, 18, 13, 14, 15, 16] : List Nat).map (fun i => ((([0, 1, 2, 3, 4, 5, 6, 7, 8, 9, 10, 11, 12, 15, 16, 17, 18] : List Nat).filterMap (fun i => (WdD K ad σ)[i]?)) ++ WdT K (fun k => if k = 0 then ad 13 else ad 14) (subT13 σ))[i]?) = (WdD K ad σ).map some := rfl
def q_X6_clear_T13 (σ : St) : St := putT13 σ (p_X6_clear (subT13 σ))
set_option maxRecDepth 100000 in
theorem cD_X6_clear_T13 (l : Launch) (K : KX) (ad : Nat → Nat) (σ : St) : Mt l K yX6_clear cX6_clear 1 none { frames := 0, cells := 0, slots := 0, locals := 0 } [.ref (ad 13)] (WdD K ad σ) none (WdD K ad (q_X6_clear_T13 σ)) :=
  (c_X6_clear l K (fun k => if k = 0 then ad 13 else ad 14) (subT13 σ)).liftF [13, 14] [0, 1, 2, 3, 4, 5, 6, 7, 8, 9, 10, 11, 12, 15, 16, 17, 18] [0, 1, 2, 3, 4, 5, 6, 7, 8, 9, 10, 11, 12, 17, 18, 13, 14, 15, 16] (hC_T13 K ad σ) rfl (hR_T13 K ad σ) rfl (by decide) (hp_T13 K ad σ _) rfl
def subT15 (σ : St) : St := (fun k => σ.1 17, σ.2.1, fun k => σ.2.2 6)
def putT15 (σ τ : St) : St := sa (si (σ) 17 (τ.1 0)) 6 (τ.2.2 0)
theorem hC_T15 (K : KX) (ad : Nat → Nat) (σ : St) : ([15, 16] : List Nat).map (fun i => (WdD K ad σ)[i]?) = (WdT K (fun k => if k = 0 then ad 15 else ad 16) (subT15 σ)).map some := rfl
theorem hR_T15 (K : KX) (ad : Nat → Nat) (σ : St) : ([0, 1, 2, 3, 4, 5, 6, 7, 8, 9, 10, 11, 12, 13, 14, 17, 18] : List Nat).map (fun i => (WdD K ad σ)[i]?) = (([0, 1, 2, 3, 4, 5, 6, 7, 8, 9, 10, 11, 12, 13, 14, 17, 18] : List Nat).filterMap (fun i => (WdD K ad σ)[i]?)).map some := rfl
theorem hp_T15 (K : KX) (ad : Nat → Nat) (σ τ : St) : ([0, 1, 2, 3, 4, 5, 6, 7, 8, 9, 10, 11, 12, 13, 14, 17, 18, 15, 16] : List Nat).map (fun i => ((([0, 1, 2, 3, 4, 5, 6, 7, 8, 9, 10, 11, 12, 13, 14, 17, 18] : List Nat).filterMap (fun i => (WdD K ad σ)[i]?)) ++ WdT K (fun k => if k = 0 then ad 15 else ad 16) τ)[i]?) = (WdD K ad (putT15 σ τ)).map some := rfl
theorem hq_T15 (K : KX) (ad : Nat → Nat) (σ : St) : ([0, 1, 2, 3, 4, 5, 6, 7, 8, 9, 10, 11, 12, 13, 14, 17, 18, 15, 16] : List Nat).map (fun i => ((([0, 1, 2, 3, 4, 5, 6, 7, 8, 9, 10, 11, 12, 13, 14, 17, 18] : List Nat).filterMap (fun i => (WdD K ad σ)[i]?)) ++ WdT K (fun k => if k = 0 then ad 15 else ad 16) (subT15 σ))[i]?) = (WdD K ad σ).map some := rfl
def q_X6_clear_T15 (σ : St) : St := putT15 σ (p_X6_clear (subT15 σ))
set_option maxRecDepth 100000 in
theorem cD_X6_clear_T15 (l : Launch) (K : KX) (ad : Nat → Nat) (σ : St) : Mt l K yX6_clear cX6_clear 1 none { frames := 0, cells := 0, slots := 0, locals := 0 } [.ref (ad 15)] (WdD K ad σ) none (WdD K ad (q_X6_clear_T15 σ)) :=
  (c_X6_clear l K (fun k => if k = 0 then ad 15 else ad 16) (subT15 σ)).liftF [15, 16] [0, 1, 2, 3, 4, 5, 6, 7, 8, 9, 10, 11, 12, 13, 14, 17, 18] [0, 1, 2, 3, 4, 5, 6, 7, 8, 9, 10, 11, 12, 13, 14, 17, 18, 15, 16] (hC_T15 K ad σ) rfl (hR_T15 K ad σ) rfl (by decide) (hp_T15 K ad σ _) rfl
def q_X6_add_T15 (σ : St) (p1 : Int32) : St := putT15 σ (p_X6_add (subT15 σ) p1)
set_option maxRecDepth 100000 in
theorem cD_X6_add_T15 (l : Launch) (K : KX) (ad : Nat → Nat) (σ : St) (p1 : Int32) : Mt l K yX6_add cX6_add 2 none { frames := 0, cells := 0, slots := 0, locals := 0 } [.ref (ad 15), .int p1] (WdD K ad σ) none (WdD K ad (q_X6_add_T15 σ p1)) :=
  (c_X6_add l K (fun k => if k = 0 then ad 15 else ad 16) (subT15 σ) p1).liftF [15, 16] [0, 1, 2, 3, 4, 5, 6, 7, 8, 9, 10, 11, 12, 13, 14, 17, 18] [0, 1, 2, 3, 4, 5, 6, 7, 8, 9, 10, 11, 12, 13, 14, 17, 18, 15, 16] (hC_T15 K ad σ) rfl (hR_T15 K ad σ) rfl (by decide) (hp_T15 K ad σ _) rfl
def subTT (σ : St) : St := (fun k => if k = 0 then σ.1 16 else σ.1 17, σ.2.1, fun k => if k = 0 then σ.2.2 5 else σ.2.2 6)
def putTT (σ τ : St) : St := sa (si (sa (si (σ) 16 (τ.1 0)) 5 (τ.2.2 0)) 17 (τ.1 1)) 6 (τ.2.2 1)
theorem hC_TT (K : KX) (ad : Nat → Nat) (σ : St) : ([13, 14, 15, 16] : List Nat).map (fun i => (WdD K ad σ)[i]?) = (WdTT K (fun k => if k = 0 then ad 13 else if k = 1 then ad 14 else if k = 2 then ad 15 else ad 16) (subTT σ)).map some := rfl
theorem hR_TT (K : KX) (ad : Nat → Nat) (σ : St) : ([0, 1, 2, 3, 4, 5, 6, 7, 8, 9, 10, 11, 12, 17, 18] : List Nat).map (fun i => (WdD K ad σ)[i]?) = (([0, 1, 2, 3, 4, 5, 6, 7, 8, 9, 10, 11, 12, 17, 18] : List Nat).filterMap (fun i => (WdD K ad σ)[i]?)).map some := rfl
theorem hp_TT (K : KX) (ad : Nat → Nat) (σ τ : St) : ([0, 1, 2, 3, 4, 5, 6, 7, 8, 9, 10, 11, 12, 15, 16, 17, 18, 13, 14] : List Nat).map (fun i => ((([0, 1, 2, 3, 4, 5, 6, 7, 8, 9, 10, 11, 12, 17, 18] : List Nat).filterMap (fun i => (WdD K ad σ)[i]?)) ++ WdTT K (fun k => if k = 0 then ad 13 else if k = 1 then ad 14 else if k = 2 then ad 15 else ad 16) τ)[i]?) = (WdD K ad (putTT σ τ)).map some := rfl
theorem hq_TT (K : KX) (ad : Nat → Nat) (σ : St) : ([0, 1, 2, 3, 4, 5, 6, 7, 8, 9, 10, 11, 12, 15, 16, 17, 18, 13, 14] : List Nat).map (fun i => ((([0, 1, 2, 3, 4, 5, 6, 7, 8, 9, 10, 11, 12, 17, 18] : List Nat).filterMap (fun i => (WdD K ad σ)[i]?)) ++ WdTT K (fun k => if k = 0 then ad 13 else if k = 1 then ad 14 else if k = 2 then ad 15 else ad 16) (subTT σ))[i]?) = (WdD K ad σ).map some := rfl
def q_X6_copyFrom_TT (σ : St) : St := putTT σ (p_X6_copyFrom (subTT σ))
set_option maxRecDepth 100000 in
theorem cD_X6_copyFrom_TT (l : Launch) (K : KX) (ad : Nat → Nat) (σ : St) : Mt l K yX6_copyFrom cX6_copyFrom 3 none { frames := 0, cells := 0, slots := 0, locals := 0 } [.ref (ad 13), .ref (ad 15)] (WdD K ad σ) none (WdD K ad (q_X6_copyFrom_TT σ)) :=
  (c_X6_copyFrom l K (fun k => if k = 0 then ad 13 else if k = 1 then ad 14 else if k = 2 then ad 15 else ad 16) (subTT σ)).liftF [13, 14, 15, 16] [0, 1, 2, 3, 4, 5, 6, 7, 8, 9, 10, 11, 12, 17, 18] [0, 1, 2, 3, 4, 5, 6, 7, 8, 9, 10, 11, 12, 15, 16, 17, 18, 13, 14] (hC_TT K ad σ) rfl (hR_TT K ad σ) rfl (by decide) (hp_TT K ad σ _) rfl
def q_X6_characterAt_T13 (σ : St) (p1 : Int32) : Int32 := p_X6_characterAt (subT13 σ) p1
set_option maxRecDepth 100000 in
theorem cD_X6_characterAt_T13 (l : Launch) (K : KX) (ad : Nat → Nat) (σ : St) (p1 : Int32) : Mt l K yX6_characterAt cX6_characterAt 2 (some .int) { frames := 0, cells := 0, slots := 0, locals := 0 } [.ref (ad 13), .int p1] (WdD K ad σ) (some (.int (q_X6_characterAt_T13 σ p1))) (WdD K ad σ) :=
  (c_X6_characterAt l K (fun k => if k = 0 then ad 13 else ad 14) (subT13 σ) p1).liftF [13, 14] [0, 1, 2, 3, 4, 5, 6, 7, 8, 9, 10, 11, 12, 15, 16, 17, 18] [0, 1, 2, 3, 4, 5, 6, 7, 8, 9, 10, 11, 12, 17, 18, 13, 14, 15, 16] (hC_T13 K ad σ) rfl (hR_T13 K ad σ) rfl (by decide) (hq_T13 K ad σ) rfl
