/-! ===== words that only alike tables carry ===== -/
def xWs (U : State) : Prop := ∀ w ∈ xB, w.before #[] U = true
theorem xWs.al {s U : State} (hA : s.vm.Alike U.vm) (h : xWs s) : xWs U := by
  have hh : ∀ w ∈ xB, w.before #[] s = true → w.before #[] (s.setVm U.vm) = true := by
    unfold xB
    exact List.forall_mem_cons.mpr ⟨fun z => by rw [Cond.castable_setVm hA]; exact z, List.forall_mem_cons.mpr ⟨fun z => by rw [Cond.castable_setVm hA]; exact z, List.forall_mem_cons.mpr ⟨fun z => by rw [Cond.declares_setVm hA]; exact z, List.forall_mem_cons.mpr ⟨fun z => by rw [Cond.declares_setVm hA]; exact z, List.forall_mem_cons.mpr ⟨fun z => by rw [Cond.declares_setVm hA]; exact z, fun _ h => absurd h List.not_mem_nil⟩⟩⟩⟩⟩
  have ht : ∀ w ∈ xB, w.onTables = true := by
    unfold xB
    exact List.forall_mem_cons.mpr ⟨rfl, List.forall_mem_cons.mpr ⟨rfl, List.forall_mem_cons.mpr ⟨rfl, List.forall_mem_cons.mpr ⟨rfl, List.forall_mem_cons.mpr ⟨rfl, fun _ h => absurd h List.not_mem_nil⟩⟩⟩⟩⟩
  exact fun w hw => va_tabs (u := s.setVm U.vm) (ht w hw) rfl (hh w hw (h w hw))
theorem xWs.at {s : State} {args : Array Value} (h : xWs s) {w : Cond} (hw : w ∈ xB) : w.before args s = true := by
  have ht : ∀ w ∈ xB, w.onTables = true := by
    unfold xB
    exact List.forall_mem_cons.mpr ⟨rfl, List.forall_mem_cons.mpr ⟨rfl, List.forall_mem_cons.mpr ⟨rfl, List.forall_mem_cons.mpr ⟨rfl, List.forall_mem_cons.mpr ⟨rfl, fun _ h => absurd h List.not_mem_nil⟩⟩⟩⟩⟩
  exact va_tabs (ht w hw) rfl (h w hw)
def Zs (A : Nat → Prop) (U : State) (H : Heap) : Prop := vx_Zq Bundle.tN "UNASSIGNED_STACK" Bundle.steD A U H ∧ vx_Zq Bundle.tN "SUPPRESSED_SENTINEL" Bundle.listD A U H
/-! ===== caught by the one row of this method's table ===== -/
theorem xc_catch {p : Program} {l : Launch} {e : Env} {R : Room} {s : State} {m : MethodId} {args : Array Value} {below : List Frame} {meth : Method} {c : Code} {T : State} {locs : List Loc} {cells slots : Nat}
    (X : Stand p l e R s m args below meth c T locs cells slots) {own name E : String} (hown : s.vm.findClass own = some m.cls) (x : ExceptionTableEntry) (htab : c.exceptionTable.toList = [x]) {g : JFrame} (hg : g.method = m) (hx : covers x g.pc = true) (h0 : x.catchType ≠ 0)
    (hlink : (Cond.classLink own x.catchType name).before args s = true) (hcast : (Cond.castable E name).before args s = true) {q : Addr} {ce : Cell} (hcell : T.heap[q]? = some ce) (hv : ce.vm = .none) (hcl : s.vm.findClass E = some ce.cls) :
    ∃ vm', Stand p l e R s m args below meth c (T.setVm vm') locs cells slots ∧ ∀ target, Steps p.tables e below ((T.setVm vm').setTop { g with pc := x.handlerPc, stack := [.ref q] }) target → Steps p.tables e below ((T.setTop g).pushFrame (.throwing q)) target := by
  subst hg
  have hpl : e.platform.magicAccessors = ({} : Platform).magicAccessors := by rw [X.admits.platform]
  obtain ⟨c3, c4, hc3, hc4, hasg⟩ := Cond.castable_spec hcast
  cases Option.some.inj (hc3.symm.trans hcl)
  obtain ⟨c5, hc5, hl0⟩ := Cond.classLink_spec hown hlink e.platform hpl
  cases Option.some.inj (hc4.symm.trans hc5)
  obtain ⟨dk, _, _, kt, hd, _, _, _, _, hkt, _, hopen⟩ := hl0.here
  have hW : s.WarmedH T.vm := X.warmed
  have hW2 : s.WarmedH (T.vm.noted g.method.cls x.catchType (.cls c4)) := hW.noted hd hopen (State.rightAt_cls hl0)
  refine ⟨T.vm.noted g.method.cls x.catchType (.cls c4), X.noted hW2, fun target hrest => ?_⟩
  have hobj : ∀ k, ce.vm ≠ .statics k := VmData.ne_statics_of (by rw [hv]; rfl)
  have hlT : T.vm.ClassLinks e.platform g.method.cls x.catchType c4 := hW.classLinks hl0
  obtain ⟨k9, h9, -⟩ := Vm.findClass_spec hcl
  obtain ⟨k1, hk1, -⟩ := hW2.alike.2.2 _ _ h9
  obtain ⟨k2, hk2, -⟩ := hW2.alike.2.2 _ _ hkt
  have hfit : (T.vm.noted g.method.cls x.catchType (.cls c4)).assignable ce.cls c4 = true := by rw [hW2.alike.assignable]; exact hasg
  -- the search of the table, at the state with the note laid
  have hS0 : ((T.setTop g).pushFrame (.throwing q)).vm = T.vm := Stand.throwing_vm T g q
  have hSh : ((T.setTop g).pushFrame (.throwing q)).heap = T.heap := Stand.throwing_heap T g q
  have hfind : ∀ (Q : Handler → Pre) (E9 : CtlPost) (d : Bool) (acts : List Action), wp (findHandler g q) Q E9 e d acts ((T.setTop g).pushFrame (.throwing q)) ↔ Q (.found x.handlerPc) d acts (((T.setTop g).pushFrame (.throwing q)).setVm (T.vm.noted g.method.cls x.catchType (.cls c4))) := by
    intro Q E9 d acts
    rw [W.findHandler_eq (meth := meth) (code := c) (by rw [hS0]; exact X.method') X.code, htab]
    generalize hSS : (T.setTop g).pushFrame (.throwing q) = S at *
    rw [← hS0] at hlT hk1 hk2 hfit ⊢
    rw [← hSh] at hcell
    have hcov := hx
    simp only [covers] at hcov
    obtain ⟨ha, ht⟩ := (resolveClass_links e.toSetting hlT).op (op := VmOp.resolveClass g.method.cls x.catchType) rfl
    simp [findHandler.go, hcov, h0, ha, ht, hcell, hobj, hk1, hk2, hfit, VmOp.dirties, VmOp.acts]
  -- one step: the frame goes on at the handler
  obtain ⟨hgo, hw⟩ := X.here.throwing q
  refine Steps.head hgo hw ?_
  have hstep : (stepThrowing e ((T.setTop g).pushFrame (.throwing q)) q (.java g :: below)).Is ((((T.setTop g).pushFrame (.throwing q)).setVm (T.vm.noted g.method.cls x.catchType (.cls c4))).setFrames (.java { g with pc := x.handlerPc, stack := [.ref q] } :: below)) [] := by
    simp only [stepThrowing, searchFrame, vmDo]
    generalize hr : Sem.go _ e false [] ((T.setTop g).pushFrame (.throwing q)) = res
    obtain ⟨as, rfl, ha⟩ := Sem.eq_ok_of hr (a := Handler.found x.handlerPc) (s' := ((T.setTop g).pushFrame (.throwing q)).setVm (T.vm.noted g.method.cls x.catchType (.cls c4))) (acts' := []) (by simp [hfind _ _ _ _])
    exact ⟨rfl, ha⟩
  obtain ⟨g₁, hfr⟩ := X.frames_eq
  have htl : T.frames.tail = below := by rw [hfr]; rfl
  rw [stepThread_throwing (frames_entered X.here.top _), htl, hstep.1]
  have hfr' : (T.setVm (T.vm.noted g.method.cls x.catchType (.cls c4))).frames = .java g₁ :: below := hfr
  rw [State.setTop_of_frames _ hfr'] at hrest
  have e1 : (((T.setTop g).pushFrame (.throwing q)).setVm (T.vm.noted g.method.cls x.catchType (.cls c4))).setFrames (.java { g with pc := x.handlerPc, stack := [.ref q] } :: below) = (T.setVm (T.vm.noted g.method.cls x.catchType (.cls c4))).setFrames (.java { g with pc := x.handlerPc, stack := [.ref q] } :: below) := by
    rw [State.pushFrame, State.setTop_of_frames _ hfr]
    have h2 : ∀ (u : State) (F G : List Frame) (vm9 : Vm), ((u.setFrames F).setVm vm9).setFrames G = (u.setVm vm9).setFrames G := fun u F G vm9 => by
      rw [show (u.setFrames F).setVm vm9 = (u.setVm vm9).setFrames F from rfl, State.setFrames_setFrames]
    rw [State.setFrames_setFrames, h2]
  rw [e1]
  exact hrest
/-! ===== a method that throws: contracts ===== -/
def Px (K : KX) (avs : List Value) (wd : va_W) (sz : Nat) : Array Value → State → Prop :=
  va_Pc avs (fun U => U.heap.size = sz ∧ va_P K.1 vwCl wd U.heap ∧ va_K K.1 vwCl (ty3 K) U ∧ va_D (fun _ => True) wd ∧ xWs U ∧ Zs (va_A wd sz) U U.heap)
theorem Px_blind {K : KX} {avs : List Value} {wd : va_W} {sz : Nat} : FrameBlind (Px K avs wd sz) := fun a U g mk q => by
  obtain ⟨q0, q1, qP, qK, qD, qx, qz1, qz2⟩ := q
  exact ⟨q0, q1, qP, va_K.moved (u := U) (U := U.calling g mk a) (Vm.Alike.refl U.vm) qK, qD, xWs.al (s := U) (U := U.calling g mk a) (Vm.Alike.refl U.vm) qx, vx_Zq.moved (u := U) (U := U.calling g mk a) (Vm.Alike.refl U.vm) qz1, vx_Zq.moved (u := U) (U := U.calling g mk a) (Vm.Alike.refl U.vm) qz2⟩
def Xx (K : KX) (wd : va_W) (sz : Nat) (E : String) : String → State → State → Prop := fun E' st t => E' = E ∧ va_P K.1 vwCl wd t.heap ∧ va_F (va_A wd sz) st t
def Mx (l : Launch) (K : KX) (y : MethodName) (cc : ByteArray) (nL : Nat) (ret : Option FieldType) (rm : Room) (avs : List Value) (wd : va_W) (E : String) : Prop :=
  ∀ sz : Nat, vx_Met l y (.code y cc nL ret :: TW) rm (Px K avs wd sz) (fun _ _ _ _ => False) (Xx K wd sz E) 1 6 (va_A wd sz)
theorem Mx.of {l : Launch} {K : KX} {y : MethodName} {cc : ByteArray} {nL : Nat} {ret : Option FieldType} {rm : Room} {avs : List Value} {wd : va_W} {E : String} (hl : l.stackTraces = false) (hy : plainName y.cls = true) (hav : (lg_sl avs).length ≤ nL) (hE : Bundle.fit E = true)
    (hrm : 5 < rm.frames ∧ 81 ≤ rm.locals ∧ 1 ≤ rm.cells ∧ 6 ≤ rm.slots) {ik ic : Nat} (hk : Cond.classLink y.cls ik E ∈ TW) (hini : Cond.initialized E ∈ TW) (hat : ∀ w ∈ vx_at0 y.cls ic E ["java/lang/RuntimeException", "java/lang/Exception"], w ∈ TW ∨ w ∈ xB)
    (body : ∀ (X : WX), Cx X K cc nL y.cls rm → (∀ (lv : List (Nat × Value)) (pc : Nat), decode cc pc = .ok (.new ik, 3) → decode cc (pc + 3) = .ok (.dup, 1) → decode cc (pc + 4) = .ok (.invokespecial ic, 3) → decode cc (pc + 7) = .ok (.athrow, 1) → WD X K nL 0 0 wd lv pc []) → WD X K nL 0 0 wd (lv_args 0 avs) 0 []) :
    Mx l K y cc nL ret rm avs wd E := by
  intro sz
  refine vx_ofW (cc := cc) (maxL := nL) (ret := ret) hy rfl ?_
  intro p e s m args below meth c s₁ B hml hnt hv
  obtain ⟨rfl, hsz, hP, hK, hD0, hx, hz1, hz2⟩ := hv
  subst hsz
  have hts := atoms_spec (ws := .code y cc nL ret :: TW) B.pre
  have hown : s.vm.findClass y.cls = some m.cls := findClass_of_methodNamed B.named
  have htw : ∀ w ∈ TW, w.before avs.toArray s = true := fun w h => hts w (List.mem_cons_of_mem _ h)
  have hxb : ∀ w ∈ xB, vx_ot w = true := by
    unfold xB
    exact List.forall_mem_cons.mpr ⟨rfl, List.forall_mem_cons.mpr ⟨rfl, List.forall_mem_cons.mpr ⟨rfl, List.forall_mem_cons.mpr ⟨rfl, List.forall_mem_cons.mpr ⟨rfl, fun _ h => absurd h List.not_mem_nil⟩⟩⟩⟩⟩
  have hgd : ∀ w ∈ TW, vx_ot w = true := fun w h => by unfold vx_ot; rw [tw_good w h, Bool.or_true]
  have hb := body (p, l, e, rm, s, m, avs.toArray, below, meth, c, vx_MQ below (fun _ _ _ _ => False) (Xx K wd s.heap.size E) avs.toArray s 1 6 (va_A wd s.heap.size), va_A wd s.heap.size)
    ⟨B.exec, B.bytes, hml, hown, htw, hK, fun q h => Or.inr h, rfl⟩
    (fun lv pc d0 d3 d4 d7 H locs ls hP1 hD1 hS1 hl1 => vx_throw0 (names := ["java/lang/RuntimeException", "java/lang/Exception"]) (rest := []) (A := va_A wd s.heap.size) B.exec B.bytes hl hown hE (by decide +kernel) (htw _ hk) (htw _ hini) (fun w h => (hat w h).elim (htw w) (fun z => hx.at z))
      (fun w h => by
        rcases List.mem_cons.mp h with rfl | h
        · exact hgd _ hk
        · rcases List.mem_cons.mp h with rfl | h
          · exact hgd _ hini
          · exact (hat w h).elim (hgd w) (hxb w)) hz1 hz2 hS1 (by rw [hml]; exact hl1.1) d0 d3 d4 d7 (fun x h => absurd (hnt x h) id) hrm.1 (by show 0 + (13 * (2 + 1) + 42) ≤ rm.locals; exact hrm.2.1) (by show 0 + 1 ≤ rm.cells; exact hrm.2.2.1) (by show 0 + 6 ≤ rm.slots; exact hrm.2.2.2) B.notSynchronized
      (fun t hA hz hq => ⟨rfl, hP1.kept (fun k q hk9 => hq _ (hP1 k q hk9).lt), Nat.le_trans hS1.1 hz, fun q h1 h2 => by rw [hq q (Nat.lt_of_lt_of_le h1 hS1.1)]; exact hS1.2.1 q h1 h2⟩)
      hS1.2.2 (Nat.le_refl _) (Nat.le_refl _))
  have hl9 := lv_entry avs (n := nL) hav
  rw [lg_entry_eq]
  exact hb s.heap [] _ hP hD0.self va_S.rf hl9
