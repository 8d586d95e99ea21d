/-! ===== rows that make cells, constructors ===== -/
def nests : List Cond := [.methodLinkNest RX7 11 yX5_init RX7, .methodLinkNest RX5 11 yX3_init RX7, .methodLinkNest RX5 23 yX0_init RX7, .methodLinkNest RX7 18 yX1_init RX7, .methodLinkNest RX7 25 yX2_init RX7, .methodLinkNest RX7 32 yX6_init RX7, .methodLinkNest RX7 42 yX4_init RX7]
def Nst (U : State) : Prop := ∀ w ∈ nests, va_Nw w U
theorem Nst.warm {s U : State} (hW : s.WarmedH U.vm) (h : Nst s) : Nst U := by
  have hh : ∀ w ∈ nests, va_Nw w s → va_Nw w U := by
    unfold nests
    exact List.forall_mem_cons.mpr ⟨fun z => va_Nw.warmM hW z, List.forall_mem_cons.mpr ⟨fun z => va_Nw.warmM hW z, List.forall_mem_cons.mpr ⟨fun z => va_Nw.warmM hW z, List.forall_mem_cons.mpr ⟨fun z => va_Nw.warmM hW z, List.forall_mem_cons.mpr ⟨fun z => va_Nw.warmM hW z, List.forall_mem_cons.mpr ⟨fun z => va_Nw.warmM hW z, List.forall_mem_cons.mpr ⟨fun z => va_Nw.warmM hW z, fun _ h => absurd h List.not_mem_nil⟩⟩⟩⟩⟩⟩⟩
  exact fun w hw => hh w hw (h w hw)
theorem Nst.same {u U : State} (hv : u.vm = U.vm) (h : Nst u) : Nst U := by
  have hh : ∀ w ∈ nests, va_Nw w u → va_Nw w U := by
    unfold nests
    exact List.forall_mem_cons.mpr ⟨fun z => va_Nw.same rfl hv z, List.forall_mem_cons.mpr ⟨fun z => va_Nw.same rfl hv z, List.forall_mem_cons.mpr ⟨fun z => va_Nw.same rfl hv z, List.forall_mem_cons.mpr ⟨fun z => va_Nw.same rfl hv z, List.forall_mem_cons.mpr ⟨fun z => va_Nw.same rfl hv z, List.forall_mem_cons.mpr ⟨fun z => va_Nw.same rfl hv z, List.forall_mem_cons.mpr ⟨fun z => va_Nw.same rfl hv z, fun _ h => absurd h List.not_mem_nil⟩⟩⟩⟩⟩⟩⟩
  exact fun w hw => hh w hw (h w hw)
section ALLOC
variable {X : WX} {K : KX} {cc : ByteArray} {nL cells slots : Nat} {own : String} {rm : Room} {wd : va_W} {lv : List (Nat × Value)} {pc : Nat} {st : List Value}
theorem wd_new (C : Cx X K cc nL own rm) {C' : String} {T : u_T} {N ci idx : Nat} {fs : List Value} (hin : ∀ w ∈ u_ws C' T N, w ∈ TW) (ty : Nat → FieldType) (hty : ∀ k, k < N → parseFieldDescriptor (T k).2.2.1 = some (ty k)) (hcl : Cond.classLink own idx C' ∈ TW) (hinst : Cond.instantiable C' N ∈ TW) (hini : Cond.initialized C' ∈ TW) (hc : vwCl[ci]? = some (C', T, N)) (hfs : ∀ j, j < N → defaultValue (ty j) = vp_V fs j) (h1 : cells + 1 ≤ rm.cells) (h2 : slots + N ≤ rm.slots) (hd : decode cc pc = .ok (.new idx, 3))
    (kk : ∀ q : Nat, WD X K nL (cells + 1) (slots + N) (wd ++ [(q, .inr (ci, fs))]) lv (pc + 3) (.ref q :: st)) : WD X K nL cells slots wd lv pc st :=
  fun H locs ls hP hD hS hl => va_new C.1 C.2.1 C.2.2.2.2.1 hin ty hty C.2.2.2.1 (C.2.2.2.2.1 _ hcl) (C.2.2.2.2.1 _ hinst) (C.2.2.2.2.1 _ hini) C.2.2.2.2.2.1 hP hD hS C.2.2.2.2.2.2.1 hc hfs (Cx.ce C h1) (Cx.sl C h2) hd (fun q H1 hP1 hD1 hS1 => kk q H1 locs ls hP1 hD1 hS1 hl)
theorem wd_newI (C : Cx X K cc nL own rm) {n : Int32} (N : Nat) (hw : Cond.arrayClass .int ∈ TW) (hn : ¬ n < 0) (hN : n.toNatClampNeg = N) (hb : N * componentBytes .int ≤ 536870912) (h1 : cells + 1 ≤ rm.cells) (h2 : slots + N ≤ rm.slots) (hd : decode cc pc = .ok (.newarray .int, 2))
    (kk : ∀ q : Nat, WD X K nL (cells + 1) (slots + N) (wd ++ [(q, .inl (K.2.1, N, .inl (fun _ => 0)))]) lv (pc + 2) (.ref q :: st)) : WD X K nL cells slots wd lv pc (.int n :: st) :=
  fun H locs ls hP hD hS hl => va_newa (atype := .int) (ty := .int) (a0 := (N, .inl (fun _ => 0))) C.1 C.2.1 (C.2.2.2.2.1 _ hw) rfl C.2.2.2.2.2.1 hP hD hS C.2.2.2.2.2.2.1 (fun _ => rfl) hn hN hb (Cx.ce C h1) (Cx.sl C h2) hd (fun q cA H1 hK1 hP1 hD1 hS1 => by
    have e1 : (xs X).vm.findClass ("[" ++ FieldType.int.toString) = some cA := (hK1.2 3 (cA, .int) rfl).2
    have e2 : (xs X).vm.findClass ("[" ++ FieldType.int.toString) = some K.2.1 := (C.2.2.2.2.2.1.2 0 (K.2.1, .int) rfl).2
    cases Option.some.inj (e1.symm.trans e2)
    exact kk q H1 locs ls hP1 hD1 hS1 hl)
theorem wd_newZ (C : Cx X K cc nL own rm) {n : Int32} (N : Nat) (hw : Cond.arrayClass .boolean ∈ TW) (hn : ¬ n < 0) (hN : n.toNatClampNeg = N) (hb : N * componentBytes .boolean ≤ 536870912) (h1 : cells + 1 ≤ rm.cells) (h2 : slots + N ≤ rm.slots) (hd : decode cc pc = .ok (.newarray .boolean, 2))
    (kk : ∀ q : Nat, WD X K nL (cells + 1) (slots + N) (wd ++ [(q, .inl (K.2.2.1, N, .inl (fun _ => 0)))]) lv (pc + 2) (.ref q :: st)) : WD X K nL cells slots wd lv pc (.int n :: st) :=
  fun H locs ls hP hD hS hl => va_newa (atype := .boolean) (ty := .boolean) (a0 := (N, .inl (fun _ => 0))) C.1 C.2.1 (C.2.2.2.2.1 _ hw) rfl C.2.2.2.2.2.1 hP hD hS C.2.2.2.2.2.2.1 (fun _ => rfl) hn hN hb (Cx.ce C h1) (Cx.sl C h2) hd (fun q cA H1 hK1 hP1 hD1 hS1 => by
    have e1 : (xs X).vm.findClass ("[" ++ FieldType.boolean.toString) = some cA := (hK1.2 3 (cA, .boolean) rfl).2
    have e2 : (xs X).vm.findClass ("[" ++ FieldType.boolean.toString) = some K.2.2.1 := (C.2.2.2.2.2.1.2 1 (K.2.2.1, .boolean) rfl).2
    cases Option.some.inj (e1.symm.trans e2)
    exact kk q H1 locs ls hP1 hD1 hS1 hl)
theorem wd_newL (C : Cx X K cc nL own rm) {n : Int32} (N : Nat) (hw : Cond.arrayClass .long ∈ TW) (hn : ¬ n < 0) (hN : n.toNatClampNeg = N) (hb : N * componentBytes .long ≤ 536870912) (h1 : cells + 1 ≤ rm.cells) (h2 : slots + N ≤ rm.slots) (hd : decode cc pc = .ok (.newarray .long, 2))
    (kk : ∀ q : Nat, WD X K nL (cells + 1) (slots + N) (wd ++ [(q, .inl (K.2.2.2, N, .inr (.inl (fun _ => 0))))]) lv (pc + 2) (.ref q :: st)) : WD X K nL cells slots wd lv pc (.int n :: st) :=
  fun H locs ls hP hD hS hl => va_newa (atype := .long) (ty := .long) (a0 := (N, .inr (.inl (fun _ => 0)))) C.1 C.2.1 (C.2.2.2.2.1 _ hw) rfl C.2.2.2.2.2.1 hP hD hS C.2.2.2.2.2.2.1 (fun _ => rfl) hn hN hb (Cx.ce C h1) (Cx.sl C h2) hd (fun q cA H1 hK1 hP1 hD1 hS1 => by
    have e1 : (xs X).vm.findClass ("[" ++ FieldType.long.toString) = some cA := (hK1.2 3 (cA, .long) rfl).2
    have e2 : (xs X).vm.findClass ("[" ++ FieldType.long.toString) = some K.2.2.2 := (C.2.2.2.2.2.1.2 2 (K.2.2.2, .long) rfl).2
    cases Option.some.inj (e1.symm.trans e2)
    exact kk q H1 locs ls hP1 hD1 hS1 hl)
theorem wd_putF (C : Cx X K cc nL own rm) (hin2 : (xM X).name = "<init>") {N : Nat} {C' : String} {T : u_T} {ci idx a : Nat} (q0 : Nat) {fs : List Value} (wd' : va_W) (hin : ∀ w ∈ u_ws C' T N, w ∈ TW) (ty0 : Nat → FieldType) (hty : ∀ k, k < N → parseFieldDescriptor (T k).2.2.1 = some (ty0 k)) (hnm : ∀ a, a < N → ∀ b, b < N → a ≠ b → (T a).2.1 ≠ (T b).2.1) (he : wd[q0]? = some (a, .inr (ci, fs))) (hc : vwCl[ci]? = some (C', T, N)) (k : Nat) (hk : k < N) (hdecl : (T k).1 = own) (hw : Cond.fieldLink own idx own (T k).2.1 (T k).2.2.1 ∈ TW) (hfin : (T k).2.2.2 = true) {v : Value} (hn : narrow (ty0 k) v = v) (hfit : fits (ty0 k) v = true) (hlen : k < fs.length) (hset : wd.set q0 (a, .inr (ci, fs.set k v)) = wd') (hd : decode cc pc = .ok (.putfield idx, 3)) (kk : WD X K nL cells slots wd' lv (pc + 3) st) : WD X K nL cells slots wd lv pc (v :: .ref a :: st) := by
  subst hset
  exact fun H locs ls hP hD hS hl => va_putF C.1 C.2.1 C.2.2.2.2.1 hin ty0 hty hnm C.2.2.2.1 C.2.2.2.2.2.1 hP hD hS q0 he hc k hk (C.2.2.2.2.1 _ hw) (fun _ h => by rw [← hdecl]; exact h) hfin hin2 hdecl (hty k hk) hn hfit hlen hd (fun H1 locs1 hP1 hD1 hS1 => kk H1 locs1 ls hP1 hD1 hS1 hl)
theorem wd_obj (C : Cx X K cc nL own rm) {idx a : Nat} (hw : Cond.methodLink own idx objectInit ∈ TW) (hi : Cond.instanceMethod objectInit ∈ TW) (hco : Cond.code objectInit ⟨#[0xb1]⟩ 1 none ∈ TW) (hfr : 1 ≤ rm.frames) (hlo : (st.map fun v => v.category).sum + 12 ≤ rm.locals) (hd : decode cc pc = .ok (.invokespecial idx, 3)) (kk : WD X K nL cells slots wd lv (pc + 3) st) : WD X K nL cells slots wd lv pc (.ref a :: st) :=
  fun H locs ls hP hD hS hl => W.objInit (g := F0 (xm X) pc ls (.ref a :: st)) C.1 C.2.1 C.2.2.2.1 (C.2.2.2.2.1 _ hw) (C.2.2.2.2.1 _ hi) (C.2.2.2.2.1 _ hco) rfl (by rw [C.2.2.1]; exact hl.1) rfl hd (Cx.fr C hfr) (by rw [show 2 * (F0 (xm X) pc ls (.ref a :: st)).monitorRoom = 0 from rfl, Nat.zero_add]; exact Cx.lo C hlo) (kk H locs ls hP hD hS hl)
theorem wd_widen {k n : Nat} (h1 : cells ≤ k) (h2 : slots ≤ n) (kk : WD X K nL k n wd lv pc st) : WD X K nL cells slots wd lv pc st :=
  fun H locs ls hP hD hS hl => W.widen h1 h2 (kk H locs ls hP hD hS hl)
/-- cells by their places -/
theorem wd_pm (pm : List Nat) (wd' : va_W) (hs : pm.map (fun i => wd[i]?) = wd'.map some) (hn : va_nd pm = true) (kk : WD X K nL cells slots wd' lv pc st) : WD X K nL cells slots wd lv pc st := by
  intro H locs ls hP hD hS hl
  refine kk H locs ls ?_ (hD.sub pm hn hs) hS hl
  intro k q hq
  have h1 : (pm.map (fun i => wd[i]?))[k]? = some (some q) := by rw [hs, List.getElem?_map, hq]; rfl
  rw [List.getElem?_map] at h1
  cases hi : pm[k]? with
  | none => rw [hi] at h1; cases h1
  | some i => rw [hi] at h1; exact hP i q (Option.some.inj h1)
end ALLOC
/-! contracts of constructors: new cells at new places (the addresses u) -/
def Qc (K : KX) (wd : va_W) (wdOf : (Nat → Nat) → va_W) (sz : Nat) : Array Value → State → Outcome → State → Prop := fun _ s o t =>
  (∃ u : Nat → Nat, o = .returned none ∧ va_P K.1 vwCl (wdOf u) t.heap ∧ va_K K.1 vwCl (ty3 K) t ∧ va_D (va_A wd sz) (wdOf u)) ∧ va_F (va_A wd sz) s t
def Pn (K : KX) (avs : List Value) (wd : va_W) (sz : Nat) : Array Value → State → Prop :=
  va_Pc avs (fun U => U.heap.size = sz ∧ va_P K.1 vwCl wd U.heap ∧ va_K K.1 vwCl (ty3 K) U ∧ va_D (fun _ => True) wd ∧ Nst U)
def Mc (l : Launch) (K : KX) (y : MethodName) (cc : ByteArray) (nL : Nat) (rm : Room) (avs : List Value) (wd : va_W) (wdOf : (Nat → Nat) → va_W) (mc ms : Nat) : Prop :=
  ∀ sz : Nat, Met l y (.code y cc nL none :: TW) rm (Pn K avs wd sz) (Qc K wd wdOf sz) mc ms (va_A wd sz)
theorem Pn_blind {K : KX} {avs : List Value} {wd : va_W} {sz : Nat} : FrameBlind (Pn K avs wd sz) := fun a U g mk q => by
  obtain ⟨q0, q1, qP, qK, qD, qN⟩ := q
  exact ⟨q0, q1, qP, va_K.moved (u := U) (U := U.calling g mk a) (Vm.Alike.refl U.vm) qK, qD, Nst.same (u := U) (U := U.calling g mk a) rfl qN⟩
theorem Mc.of {l : Launch} {K : KX} {y : MethodName} {cc : ByteArray} {nL : Nat} {rm : Room} {avs : List Value} {wd : va_W} {wdOf : (Nat → Nat) → va_W} {mc ms : Nat} (hy : plainName y.cls = true) (hav : (lg_sl avs).length ≤ nL)
    (body : ∀ (X : WX), Cx X K cc nL y.cls rm → Nst (xs X) → (xM X).name = y.name → (∀ (u : Nat → Nat) (w : va_W) (lv : List (Nat × Value)) (pc : Nat), w = wdOf u → decode cc pc = .ok (.return_, 1) → WD X K nL mc ms w lv pc []) → WD X K nL 0 0 wd (lv_args 0 avs) 0 []) :
    Mc l K y cc nL rm avs wd wdOf mc ms := by
  intro sz
  refine Met.ofW (cc := cc) (maxL := nL) (ret := none) hy rfl ?_
  intro p e s m args below meth c s₁ B hml hv
  obtain ⟨rfl, hsz, hP, hK, hD0, hN⟩ := hv
  subst hsz
  have hts := atoms_spec (ws := .code y cc nL none :: TW) B.pre
  have hown : s.vm.findClass y.cls = some m.cls := findClass_of_methodNamed B.named
  have hlk := B.notSynchronized
  have hr := B.returns
  have C : Cx (p, l, e, rm, s, m, avs.toArray, below, meth, c, MQ below (Qc K wd wdOf s.heap.size) avs.toArray s mc ms (va_A wd s.heap.size), va_A wd s.heap.size) K cc nL y.cls rm := ⟨B.exec, B.bytes, hml, hown, fun w h => hts w (List.mem_cons_of_mem _ h), hK, fun q h => Or.inr h, rfl⟩
  have hk := body (p, l, e, rm, s, m, avs.toArray, below, meth, c, MQ below (Qc K wd wdOf s.heap.size) avs.toArray s mc ms (va_A wd s.heap.size), va_A wd s.heap.size)
    C hN (name_of_methodNamed B.named B.method).1
    (fun u w lv pc hw hd => by
      subst hw
      intro H locs ls hP1 hD1 hS1 hl1
      exact W.vret B.exec B.bytes hr (fun t ht hW => ⟨⟨u, rfl, by rw [ht]; exact hP1, va_K.moved hW.alike hK, hD1⟩, hS1.F ht⟩) hS1.2.2 hd)
  have hl := lv_entry avs (n := nL) hav
  rw [lg_entry_eq]
  exact hk s.heap [] _ hP hD0.self va_S.rf hl
section CALLC
variable {X : WX} {K : KX} {cc : ByteArray} {nL cells slots : Nat} {own : String} {rm : Room} {wd wc : va_W} {lv : List (Nat × Value)} {pc : Nat} {st : List Value}
/-- behind a constructor: the rest of the world, then the made cells -/
theorem wd_backC (C : Cx X K cc nL own rm) {wdOf : (Nat → Nat) → va_W} {mc ms : Nat} {a : Array Value} {H : Heap} {locs : List Loc} {ls : Array Slot} {st0 : List Value} (isC isR : List Nat) (hC : isC.map (fun i => wd[i]?) = wc.map some) (hR : isR.map (fun i => wd[i]?) = (isR.filterMap (fun i => wd[i]?)).map some) (hn : va_nd isR = true) (hdis : ∀ i ∈ isR, i ∉ isC)
    (hP : va_P K.1 vwCl wd H) (hD : va_D (xA X) wd) (hS : va_S (xA X) (xs X).heap H locs) (hl : lv_has ls nL lv)
    (hr : va_Run X.1 X.2.1 X.2.2.1 X.2.2.2.1 X.2.2.2.2.1 X.2.2.2.2.2.1 X.2.2.2.2.2.2.1 X.2.2.2.2.2.2.2.1 X.2.2.2.2.2.2.2.2.1 X.2.2.2.2.2.2.2.2.2.1 H locs cells slots mc ms (F0 (xm X) pc ls st0) st (Qc K wc wdOf H.size a) (va_A wc H.size))
    (kk : ∀ u : Nat → Nat, WD X K nL (cells + mc) (slots + ms) ((isR.filterMap (fun i => wd[i]?)) ++ wdOf u) lv (pc + 3) st) : xW X H locs cells slots (F0 (xm X) pc ls st0) := by
  intro T hT XX
  obtain ⟨v, st₀, t, T', L, h0, X', hL, e1, e2, ⟨⟨u, hv, hP1, hK1, hD1⟩, hz, hk⟩, stp⟩ := hr T hT XX
  cases hv
  rw [h0] at hz hk
  have hF := va_free (wc := wc) hD hS C.2.2.2.2.2.2.1 isC hC
  rw [← e1] at hP1 hz hk
  obtain ⟨hP2, hD2⟩ := va_join hP hD isC isR hC hR hn hdis hk hF hP1 hD1
  have hS1 : va_S (xA X) (xs X).heap T'.heap (locs ++ L) := ⟨Nat.le_trans hS.1 hz, fun q h1 h2 => by rw [hk q (Nat.lt_of_lt_of_le h1 hS.1) (fun z => h2 (hF q z))]; exact hS.2.1 q h1 h2, fun q hq => by
      rcases List.mem_append.mp hq with h | h
      · exact hS.2.2 q h
      · exact hF _ (hL q h)⟩
  obtain ⟨t2, a1, b1⟩ := kk u T'.heap (locs ++ L) ls hP2 hD2 hS1 hl T' rfl X'
  exact ⟨t2, stp t2 a1, b1⟩
theorem wd_preN (C : Cx X K cc nL own rm) (hN : Nst (xs X)) {avs : List Value} {H : Heap} (isC : List Nat) (hC : isC.map (fun i => wd[i]?) = wc.map some) (hnC : va_nd isC = true) (hP : va_P K.1 vwCl wd H) (hD : va_D (xA X) wd) : ∀ U : State, U.heap = H → (xs X).WarmedH U.vm → Pn K avs wc H.size avs.toArray U :=
  fun U hU hW => ⟨rfl, by rw [hU], by
    rw [hU]
    intro k q hq
    have h1 : (isC.map (fun i => wd[i]?))[k]? = some (some q) := by rw [hC, List.getElem?_map, hq]; rfl
    rw [List.getElem?_map] at h1
    cases hi : isC[k]? with
    | none => rw [hi] at h1; cases h1
    | some i => rw [hi] at h1; exact hP i q (Option.some.inj h1), va_K.moved hW.alike C.2.2.2.2.2.1, (hD.sub isC hnC hC).weaken (fun _ _ _ _ => trivial), Nst.warm hW hN⟩
/-- a nest mate's private constructor -/
theorem wd_callIN (C : Cx X K cc nL own rm) (hN : Nst (xs X)) {y : MethodName} {bytes : ByteArray} {maxL idx b : Nat} {host : String} {rc : Room} {wdOf : (Nat → Nat) → va_W} {mc ms : Nat}
    (hM : Mc X.2.1 K y bytes maxL rc [.ref b] wc wdOf mc ms) (isC isR : List Nat) (hC : isC.map (fun i => wd[i]?) = wc.map some) (hnC : va_nd isC = true) (hR : isR.map (fun i => wd[i]?) = (isR.filterMap (fun i => wd[i]?)).map some) (hn : va_nd isR = true) (hdis : ∀ i ∈ isR, i ∉ isC)
    (hnest : Cond.methodLinkNest own idx y host ∈ nests) (hin : Cond.instanceMethod y ∈ TW) (hini : Cond.initialized y.cls ∈ TW) (hcode : Cond.code y bytes maxL none ∈ TW) (hname : y.name = "<init>")
    (hy : y.cls ≠ "java/lang/invoke/MethodHandle" ∧ y.cls ≠ "java/lang/invoke/VarHandle" ∧ (parseMethodDescriptor y.desc).map (fun d => d.parameters.length) = some 0)
    (hR9 : rc.cells = mc ∧ rc.slots = ms ∧ rc.frames + 1 ≤ rm.frames ∧ 8 + (maxL + 11) + rc.locals ≤ rm.locals ∧ cells + mc ≤ rm.cells ∧ slots + ms ≤ rm.slots) (hst : (st.map fun v => v.category).sum ≤ 8)
    (hd : decode cc pc = .ok (.invokespecial idx, 3)) (kk : ∀ u : Nat → Nat, WD X K nL (cells + mc) (slots + ms) ((isR.filterMap (fun i => wd[i]?)) ++ wdOf u) lv (pc + 3) st) : WD X K nL cells slots wd lv pc (.ref b :: st) := by
  obtain ⟨h1, h2, h3, h4, h5, h6⟩ := hR9
  intro H locs ls hP hD hS hl
  refine wd_backC C isC isR hC hR hn hdis hP hD hS hl (va_runIN (As := []) (rest := st) (bytes := bytes) (maxL := maxL) (n := 0) (host := host) ⟨C.1, C.2.1, C.2.2.1, C.2.2.2.1, C.2.2.2.2.1⟩ (hM H.size)
    ⟨⟨⟨h1, h2, Cx.fr C h3, Cx.lo C h4, wd_hws C hcode, List.mem_cons_self⟩, C.2.2.2.2.1 _ hcode, C.2.2.2.2.1 _ hini, ⟨hy.1, hy.2.1⟩, fun sig h => by have h9 := hy.2.2; rw [h] at h9; exact (Option.some.inj h9).symm, va_Nw.use rfl (hN _ hnest)⟩, hname, C.2.2.2.2.1 _ hin⟩
    ⟨Pn_blind, wd_preN C hN isC hC hnC hP hD⟩ rfl rfl hl.1 rfl (lv_room hst) hd ⟨Cx.ce C h5, Cx.sl C h6⟩) kk
/-- a constructor that may be named from here -/
theorem wd_callI (C : Cx X K cc nL own rm) (hN : Nst (xs X)) {y : MethodName} {bytes : ByteArray} {maxL idx b : Nat} {rc : Room} {wdOf : (Nat → Nat) → va_W} {mc ms : Nat}
    (hM : Mc X.2.1 K y bytes maxL rc [.ref b] wc wdOf mc ms) (isC isR : List Nat) (hC : isC.map (fun i => wd[i]?) = wc.map some) (hnC : va_nd isC = true) (hR : isR.map (fun i => wd[i]?) = (isR.filterMap (fun i => wd[i]?)).map some) (hn : va_nd isR = true) (hdis : ∀ i ∈ isR, i ∉ isC)
    (hlink : Cond.methodLink own idx y ∈ TW) (hin : Cond.instanceMethod y ∈ TW) (hini : Cond.initialized y.cls ∈ TW) (hcode : Cond.code y bytes maxL none ∈ TW) (hname : y.name = "<init>")
    (hy : y.cls ≠ "java/lang/invoke/MethodHandle" ∧ y.cls ≠ "java/lang/invoke/VarHandle" ∧ (parseMethodDescriptor y.desc).map (fun d => d.parameters.length) = some 0)
    (hR9 : rc.cells = mc ∧ rc.slots = ms ∧ rc.frames + 1 ≤ rm.frames ∧ 8 + (maxL + 11) + rc.locals ≤ rm.locals ∧ cells + mc ≤ rm.cells ∧ slots + ms ≤ rm.slots) (hst : (st.map fun v => v.category).sum ≤ 8)
    (hd : decode cc pc = .ok (.invokespecial idx, 3)) (kk : ∀ u : Nat → Nat, WD X K nL (cells + mc) (slots + ms) ((isR.filterMap (fun i => wd[i]?)) ++ wdOf u) lv (pc + 3) st) : WD X K nL cells slots wd lv pc (.ref b :: st) := by
  obtain ⟨h1, h2, h3, h4, h5, h6⟩ := hR9
  intro H locs ls hP hD hS hl
  refine wd_backC C isC isR hC hR hn hdis hP hD hS hl (va_runI (As := []) (rest := st) (bytes := bytes) (maxL := maxL) (n := 0) ⟨C.1, C.2.1, C.2.2.1, C.2.2.2.1, C.2.2.2.2.1⟩ (hM H.size)
    ⟨⟨h1, h2, Cx.fr C h3, Cx.lo C h4, wd_hws C hcode, List.mem_cons_self, C.2.2.2.2.1 _ hcode, C.2.2.2.2.1 _ hini, ⟨hy.1, hy.2.1⟩, fun sig h => by have h9 := hy.2.2; rw [h] at h9; exact (Option.some.inj h9).symm, C.2.2.2.2.1 _ hlink⟩, hname, C.2.2.2.2.1 _ hin⟩
    ⟨Pn_blind, wd_preN C hN isC hC hnC hP hD⟩ rfl rfl hl.1 rfl (lv_room hst) hd ⟨Cx.ce C h5, Cx.sl C h6⟩) kk
end CALLC
