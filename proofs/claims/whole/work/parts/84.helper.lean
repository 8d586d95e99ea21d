/-! ===== calls that throw and are caught; methods with a table ===== -/
theorem Mx.lift {l : Launch} {K : KX} {y : MethodName} {cc : ByteArray} {nL : Nat} {ret : Option FieldType} {rm : Room} {avs : List Value} {wc wr wd : va_W} {E : String} (h : Mx l K y cc nL ret rm avs wc E)
    (isC isR pm : List Nat) (hC : isC.map (fun i => wd[i]?) = wc.map some) (hnC : va_nd isC = true) (hR : isR.map (fun i => wd[i]?) = wr.map some) (hn : va_nd isR = true) (hdis : ∀ i ∈ isR, i ∉ isC) (hp : pm.map (fun i => (wr ++ wc)[i]?) = wd.map some) :
    Mx l K y cc nL ret rm avs wd E := by
  have sub : ∀ {D : va_G} {H : Heap} {is : List Nat} {w w2 : va_W}, is.map (fun i => w[i]?) = w2.map some → va_P D vwCl w H → va_P D vwCl w2 H := by
    intro D H is w w2 hs hP k q hq
    have h1 : (is.map (fun i => w[i]?))[k]? = some (some q) := by rw [hs, List.getElem?_map, hq]; rfl
    rw [List.getElem?_map] at h1
    cases hi : is[k]? with
    | none => rw [hi] at h1; cases h1
    | some i => rw [hi] at h1; exact hP i q (Option.some.inj h1)
  intro sz
  have hA := va_A_sub (sz := sz) isC hC
  refine MetFree.mono (h sz) ?_ (fun _ _ _ _ _ z => z) ?_
  · intro a s hv
    obtain ⟨h0, h1, hP, hK, hD, hx, hz1, hz2⟩ := hv
    exact ⟨h0, h1, sub hC hP, hK, hD.sub isC hnC hC, hx, hz1.narrow hA, hz2.narrow hA⟩
  · intro a s o t hv hq
    obtain ⟨h0, h1, hP, hK, hD, hx, hz1, hz2⟩ := hv
    subst h1
    rcases hq with ⟨hF, _⟩ | ⟨q, ho, E', ce, L, ⟨hE, hP1, hz, hk⟩, hce, hcv, hcl, hW, hsm, hL⟩
    · exact hF.elim
    · obtain ⟨hP2, hD2⟩ := va_join (A0 := va_A wd s.heap.size) hP hD.self isC isR hC hR hn hdis hk hA hP1 ((hD.sub isC hnC hC).self)
      exact Or.inr ⟨q, ho, E', ce, L, ⟨hE, sub hp hP2, hz, fun q h2 h3 => hk q h2 (fun z => h3 (hA q z))⟩, hce, hcv, hcl, hW, hsm, fun z hz9 => hA _ (hL z hz9)⟩
def Mh (l : Launch) (K : KX) (y : MethodName) (cc : ByteArray) (nL : Nat) (hh : List (Nat × Nat × Nat × Nat)) (rm : Room) (avs : List Value) (wd : va_W) (r : Int32) (wd' : va_W) (mc ms : Nat) : Prop :=
  ∀ sz : Nat, Met l y (.codeWith y cc nL (some .int) hh :: TW) rm (Px K avs wd sz) (Qm K (some (.int r)) wd wd' sz) mc ms (va_A wd sz)
theorem Mh.of {l : Launch} {K : KX} {y : MethodName} {cc : ByteArray} {nL : Nat} {hh : List (Nat × Nat × Nat × Nat)} {rm : Room} {avs : List Value} {wd : va_W} {r : Int32} {wd' : va_W} {mc ms : Nat} (hy : plainName y.cls = true) (hav : (lg_sl avs).length ≤ nL)
    (body : ∀ (X : WX), X.2.1 = l → Cx X K cc nL y.cls rm → xWs (xs X) → Zs (xA X) (xs X) (xs X).heap → (xc X).exceptionTable.toList = tableOf hh → (∀ (v : Int32) (w : va_W) (lv : List (Nat × Value)) (pc : Nat), v = r → w = wd' → decode cc pc = .ok (.ireturn, 1) → WD X K nL mc ms w lv pc [.int v]) → WD X K nL 0 0 wd (lv_args 0 avs) 0 []) :
    Mh l K y cc nL hh rm avs wd r wd' mc ms := by
  intro sz
  have hv : vx_Met l y (.codeWith y cc nL (some .int) hh :: TW) rm (Px K avs wd sz) (Qm K (some (.int r)) wd wd' sz) (fun _ _ _ => False) mc ms (va_A wd sz) := by
    refine vx_ofWH (cc := cc) (maxL := nL) (ret := some .int) (hh := hh) hy rfl ?_
    intro p e s m args below meth c s₁ B hml hv
    obtain ⟨rfl, hsz, hP, hK, hD0, hx, hz1, hz2⟩ := hv
    subst hsz
    have hts := atoms_spec (ws := .codeWith y cc nL (some .int) hh :: TW) B.pre
    have hown : s.vm.findClass y.cls = some m.cls := findClass_of_methodNamed B.named
    have htab := vx_table (x := y) B (hts _ List.mem_cons_self)
    have hb := body (p, l, e, rm, s, m, avs.toArray, below, meth, c, vx_MQ below (Qm K (some (.int r)) wd wd' s.heap.size) (fun _ _ _ => False) avs.toArray s mc ms (va_A wd s.heap.size), va_A wd s.heap.size)
      rfl ⟨B.exec, B.bytes, hml, hown, fun w h => hts w (List.mem_cons_of_mem _ h), hK, fun q h => Or.inr h, rfl⟩ hx ⟨hz1, hz2⟩ htab
      (fun v w lv pc hv hw hd H locs ls hP1 hD1 hS1 hl1 => by
        subst hv; subst hw
        exact vx_ret (W.iret B.exec B.bytes B.returns (fun t ht hW => ⟨⟨rfl, by rw [ht]; exact hP1, va_K.moved hW.alike hK, hD1⟩, hS1.F ht⟩) hS1.2.2 hd B.notSynchronized))
    have hl9 := lv_entry avs (n := nL) hav
    rw [lg_entry_eq]
    exact hb s.heap [] _ hP hD0.self va_S.rf hl9
  refine MetFree.mono hv (fun _ _ z => z) (fun _ _ _ _ _ z => z) ?_
  intro a s o t _ hq
  rcases hq with h | ⟨q, _, E, ce, L, hF, _⟩
  · exact h
  · exact hF.elim
section HCALL
variable {X : WX} {K : KX} {cc : ByteArray} {nL cells slots : Nat} {own : String} {rm : Room} {wd wd' : va_W} {lv : List (Nat × Value)} {pc : Nat} {st : List Value}
theorem wd_preX (C : Cx X K cc nL own rm) (hx : xWs (xs X)) (hz : Zs (xA X) (xs X) (xs X).heap) {avs : List Value} {H : Heap} {locs : List Loc} (hP : va_P K.1 vwCl wd H) (hD : va_D (xA X) wd) (hS : va_S (xA X) (xs X).heap H locs) : ∀ U : State, U.heap = H → (xs X).WarmedH U.vm → Px K avs wd H.size avs.toArray U := by
  intro U hU hW
  have hA : ∀ q, va_A wd H.size q → xA X q := fun q h => by
    rcases h with ⟨k, e, h⟩ | h
    · exact hD.2 k (q, e) h
    · exact C.2.2.2.2.2.2.1 q (Nat.le_trans hS.1 h)
  refine ⟨rfl, by rw [hU], by rw [hU]; exact hP, va_K.moved hW.alike C.2.2.2.2.2.1, hD.weaken (fun _ _ _ _ => trivial), hx.al hW.alike, ?_⟩
  rw [hU]
  exact ⟨((hz.1.kept (fun a h1 h2 => hS.2.1 a h1 h2)).moved hW.alike).narrow hA, ((hz.2.kept (fun a h1 h2 => hS.2.1 a h1 h2)).moved hW.alike).narrow hA⟩
theorem wd_callX (C : Cx X K cc nL own rm) (hx : xWs (xs X)) (hz : Zs (xA X) (xs X) (xs X).heap) {y : MethodName} {bytes : ByteArray} {maxL idx b ci : Nat} {ret : Option FieldType} {rc : Room} {As : List Value} {fs : List Value} {q : vw_C} {E name : String} (n : Nat)
    (hM : Mx X.2.1 K y bytes maxL ret rc (.ref b :: As) wd E) (q0 : Nat) (he : wd[q0]? = some (b, .inr (ci, fs))) (hc : vwCl[ci]? = some q) (hcq : q.1 = y.cls)
    (hlink : Cond.methodLink own idx y ∈ TW) (hin : Cond.instanceMethod y ∈ TW) (hsel : Cond.selects y.cls y y ∈ TW) (hini : Cond.initialized y.cls ∈ TW) (hcode : Cond.code y bytes maxL ret ∈ TW)
    (hy : y.cls ≠ "java/lang/invoke/MethodHandle" ∧ y.cls ≠ "java/lang/invoke/VarHandle" ∧ (parseMethodDescriptor y.desc).map (fun d => d.parameters.length) = some n) (hn : As.length = n)
    (hR : rc.cells = 1 ∧ rc.slots = 6 ∧ rc.frames + 1 ≤ rm.frames ∧ 8 + (maxL + 11) + rc.locals ≤ rm.locals ∧ cells + 1 ≤ rm.cells ∧ slots + 6 ≤ rm.slots) (hst : (st.map fun v => v.category).sum ≤ 8)
    (hd : decode cc pc = .ok (.invokevirtual idx, 3)) (st0 : List Value) (hst0 : As.reverse ++ .ref b :: st = st0)
    (xe : ExceptionTableEntry) (htab : (xc X).exceptionTable.toList = [xe]) (hcov : covers xe pc = true) (h0 : xe.catchType ≠ 0) (hcl : Cond.classLink own xe.catchType name ∈ TW) (hcast : Cond.castable E name ∈ xB)
    (kk : ∀ r : Nat, WD X K nL (cells + 1) (slots + 6) wd lv xe.handlerPc [.ref r]) : WD X K nL cells slots wd lv pc st0 := by
  subst hst0
  obtain ⟨h1, h2, h3, h4, h5, h6⟩ := hR
  intro H locs ls hP hD hS hl T hT XX
  have hA : ∀ q, va_A wd H.size q → xA X q := fun q h => by
    rcases h with ⟨k, e, h⟩ | h
    · exact hD.2 k (q, e) h
    · exact C.2.2.2.2.2.2.1 q (Nat.le_trans hS.1 h)
  have hr := vx_runV (As := As) (rest := st) (bytes := bytes) (maxL := maxL) (ret := ret) (n := n) (C := y.cls) (locs := locs) (cells := cells) (slots := slots) (below := X.2.2.2.2.2.2.2.1) (meth := xM X) (e := X.2.2.1) (g := F0 (xm X) pc ls (As.reverse ++ .ref b :: st)) ⟨C.1, C.2.1, C.2.2.1, C.2.2.2.1, C.2.2.2.2.1⟩ (hM H.size)
    ⟨⟨h1, h2, Cx.fr C h3, Cx.lo C h4, wd_hws C hcode, List.mem_cons_self, C.2.2.2.2.1 _ hcode, C.2.2.2.2.1 _ hini, ⟨hy.1, hy.2.1⟩, fun sig h => by have h9 := hy.2.2; rw [h] at h9; exact (Option.some.inj h9).symm, C.2.2.2.2.1 _ hlink⟩, C.2.2.2.2.1 _ hin, C.2.2.2.2.1 _ hsel⟩
    ⟨Px_blind, by rw [← hcq]; exact va_recv C.2.2.2.2.2.1 hP hc he, wd_preX C hx hz hP hD hS⟩ rfl hn hl.1 rfl (lv_room hst) hd ⟨Cx.ce C h5, Cx.sl C h6⟩
  rcases hr T hT XX with ⟨v, st₀, t, T', L, g0, X', hL, e1, e2, hQ, _⟩ | ⟨q9, st₀, t, T', L, E', ce, g0, X', hL, e1, e2, ⟨hE, hP1, hz1, hk1⟩, hce, hcv, hcl9, stp⟩
  · exact hQ.elim
  · subst hE
    rw [g0] at hz1 hk1
    rw [← e1] at hP1 hz1 hk1 hce
    obtain ⟨vm', X2, go⟩ := xc_catch X' C.2.2.2.1 xe htab (g := { F0 (xm X) pc ls (As.reverse ++ .ref b :: st) with stack := st }) rfl hcov h0 (C.2.2.2.2.1 _ hcl) (hx.at hcast) hce hcv hcl9
    have hS1 : va_S (xA X) (xs X).heap T'.heap (locs ++ L) := ⟨Nat.le_trans hS.1 hz1, fun q h1 h2 => by rw [hk1 q (Nat.lt_of_lt_of_le h1 hS.1) (fun z => h2 (hA q z))]; exact hS.2.1 q h1 h2, fun q hq => by
        rcases List.mem_append.mp hq with h | h
        · exact hS.2.2 q h
        · exact hA _ (hL q h)⟩
    obtain ⟨t2, a1, b1⟩ := kk q9 T'.heap (locs ++ L) ls hP1 hD hS1 hl (T'.setVm vm') rfl X2
    exact ⟨t2, stp.trans (go t2 a1), b1⟩
theorem wd_callSW (C : Cx X K cc nL own rm) (hx : xWs (xs X)) (hz : Zs (xA X) (xs X) (xs X).heap) {y : MethodName} {bytes : ByteArray} {maxL idx : Nat} {hh : List (Nat × Nat × Nat × Nat)} {rc : Room} {As : List Value} {r : Int32} {mc ms : Nat} (n : Nat)
    (hM : Mh X.2.1 K y bytes maxL hh rc As wd r wd' mc ms) (hlink : Cond.methodLink own idx y ∈ TW) (hsta : Cond.static y ∈ TW) (hini : Cond.initialized y.cls ∈ TW) (hcode : Cond.codeWith y bytes maxL (some .int) hh ∈ TW)
    (hy : y.cls ≠ "java/lang/invoke/MethodHandle" ∧ y.cls ≠ "java/lang/invoke/VarHandle" ∧ (parseMethodDescriptor y.desc).map (fun d => d.parameters.length) = some n) (hn : As.length = n)
    (hR : rc.cells = mc ∧ rc.slots = ms ∧ rc.frames + 1 ≤ rm.frames ∧ 8 + (maxL + 11) + rc.locals ≤ rm.locals ∧ cells + mc ≤ rm.cells ∧ slots + ms ≤ rm.slots) (hst : (st.map fun v => v.category).sum ≤ 8)
    (hd : decode cc pc = .ok (.invokestatic idx, 3)) (st0 : List Value) (hst0 : As.reverse ++ st = st0) (kk : WD X K nL (cells + mc) (slots + ms) wd' lv (pc + 3) (.int r :: st)) : WD X K nL cells slots wd lv pc st0 := by
  subst hst0
  obtain ⟨h1, h2, h3, h4, h5, h6⟩ := hR
  intro H locs ls hP hD hS hl T hT XX
  have hA : ∀ q, va_A wd H.size q → xA X q := fun q h => by
    rcases h with ⟨k, e, h⟩ | h
    · exact hD.2 k (q, e) h
    · exact C.2.2.2.2.2.2.1 q (Nat.le_trans hS.1 h)
  have hws : ∀ w ∈ (Cond.codeWith y bytes maxL (some .int) hh :: TW), ∀ (a' : Array Value) (U : State), (xs X).WarmedH U.vm → w.before a' U = true := fun w h a' U hW => by
    have hw : w ∈ TW := (List.mem_cons.mp h).elim (fun e => by rw [e]; exact hcode) id
    exact word_at hW (tw_GoodIn w hw) (C.2.2.2.2.1 w hw)
  have hr := vx_runSW (As := As) (rest := st) (bytes := bytes) (maxL := maxL) (ret := some .int) (hh := hh) (n := n) (locs := locs) (cells := cells) (slots := slots) (below := X.2.2.2.2.2.2.2.1) (meth := xM X) (e := X.2.2.1) (g := F0 (xm X) pc ls (As.reverse ++ st)) ⟨C.1, C.2.1, C.2.2.1, C.2.2.2.1, C.2.2.2.2.1⟩ (hM H.size)
    ⟨⟨h1, h2, Cx.fr C h3, Cx.lo C h4, hws, List.mem_cons_self⟩, C.2.2.2.2.1 _ hcode, C.2.2.2.2.1 _ hini, ⟨hy.1, hy.2.1⟩, fun sig h => by have h9 := hy.2.2; rw [h] at h9; exact (Option.some.inj h9).symm, C.2.2.2.2.1 _ hlink, C.2.2.2.2.1 _ hsta⟩
    ⟨Px_blind, wd_preX C hx hz hP hD hS⟩ rfl hn hl.1 rfl (lv_room hst) hd ⟨Cx.ce C h5, Cx.sl C h6⟩
  obtain ⟨v, st₀, t, T', L, g0, X', hL, e1, e2, ⟨⟨hv, hP1, hK1, hD1⟩, hz1, hk1⟩, stp⟩ := hr T hT XX
  cases hv
  rw [g0] at hz1 hk1
  rw [← e1] at hP1 hz1 hk1
  have hS1 : va_S (xA X) (xs X).heap T'.heap (locs ++ L) := ⟨Nat.le_trans hS.1 hz1, fun q h1 h2 => by rw [hk1 q (Nat.lt_of_lt_of_le h1 hS.1) (fun z => h2 (hA q z))]; exact hS.2.1 q h1 h2, fun q hq => by
      rcases List.mem_append.mp hq with h | h
      · exact hS.2.2 q h
      · exact hA _ (hL q h)⟩
  obtain ⟨t2, a1, b1⟩ := kk T'.heap (locs ++ L) ls hP1 (hD1.weaken (fun _ q _ h => hA q.1 h)) hS1 hl T' rfl X'
  exact ⟨t2, stp t2 a1, b1⟩
theorem wd_last (C : Cx X K cc nL own rm) {a n : Nat} {f : Nat → Int64} (q0 : Nat) (wd' : va_W) (ha : wd[q0]? = some (a, .inl (K.2.2.2, n, .inr (.inl f)))) {i : Int32} {x : Int64} (hin : vp_in i n) (hset : wd.set q0 (a, .inl (K.2.2.2, n, .inr (.inl (vp_updL f i.toNatClampNeg x)))) = wd') (hd : decode cc pc = .ok (.lastore, 1)) (kk : WD X K nL cells slots wd' lv (pc + 1) st) : WD X K nL cells slots wd lv pc (.long x :: .int i :: .ref a :: st) := by
  subst hset
  exact fun H locs ls hP hD hS hl => va_last C.1 C.2.1 C.2.2.2.2.2.1 hP hD hS q0 2 ha rfl hin hd (fun H1 locs1 hP1 hD1 hS1 => kk H1 locs1 ls hP1 hD1 hS1 hl)
theorem wd_lald (C : Cx X K cc nL own rm) {a n : Nat} {f : Nat → Int64} (q0 : Nat) (ha : wd[q0]? = some (a, .inl (K.2.2.2, n, .inr (.inl f)))) {i : Int32} (hin : vp_in i n) (hd : decode cc pc = .ok (.laload, 1)) (kk : WD X K nL cells slots wd lv (pc + 1) (.long (f i.toNatClampNeg) :: st)) : WD X K nL cells slots wd lv pc (.int i :: .ref a :: st) :=
  fun H locs ls hP hD hS hl => va_lald C.1 C.2.1 C.2.2.2.2.2.1 hP q0 2 ha rfl hin hd (kk H locs ls hP hD hS hl)
theorem wd_lcmp (C : Cx X K cc nL own rm) {x y : Int64} (hd : decode cc pc = .ok (.lcmp, 1)) (kk : WD X K nL cells slots wd lv (pc + 1) (.int (lg_cmp x y) :: st)) : WD X K nL cells slots wd lv pc (.long y :: .long x :: st) :=
  fun H locs ls hP hD hS hl => W.lcmp C.1 C.2.1 hd (kk H locs ls hP hD hS hl)
theorem wd_astore (C : Cx X K cc nL own rm) {i x : Nat} (lv' : List (Nat × Value)) (hd : decode cc pc = .ok (.astore i, 2)) (hn : i < nL) (hl2 : (i, Value.ref x) :: lv.filter (fun q => !(q.1 == i) && !(q.1 + 1 == i && q.2.category == 2)) = lv') (k : WD X K nL cells slots wd lv' (pc + 2) st) : WD X K nL cells slots wd lv pc (.ref x :: st) :=
  fun H locs ls hP hD hS hl => lv_astore C.1 C.2.1 hd hl hn hl2 (fun ls hl => k H locs ls hP hD hS hl)
end HCALL
