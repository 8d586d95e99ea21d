/-! ===== the words of a throw, out of the tables ===== -/
def xB : List Cond := [.castable "java/lang/IndexOutOfBoundsException" "java/lang/IndexOutOfBoundsException", .castable "java/util/NoSuchElementException" "java/util/NoSuchElementException", .declares (Bundle.init0 "java/lang/RuntimeException"), .declares (Bundle.init0 "java/lang/Exception"), .declares (Bundle.init0 Bundle.tN)]
def xP (w : Cond) : Prop := vx_no w = true → w ∈ TW ∨ w ∈ xB
theorem xt_th : ∀ w ∈ Bundle.throwableAtoms, xP w :=
  (List.forall_mem_cons.mpr ⟨(fun _ => Or.inl (twq1 (List.mem_of_getElem? (i := 11) rfl) rfl)),
    (List.forall_mem_cons.mpr ⟨(fun _ => Or.inl (twq3 (List.mem_of_getElem? (i := 172) rfl) rfl)),
    (List.forall_mem_cons.mpr ⟨(fun _ => Or.inl (twq3 (List.mem_of_getElem? (i := 181) rfl) rfl)),
    (List.forall_mem_cons.mpr ⟨(fun _ => Or.inl (twq3 (List.mem_of_getElem? (i := 184) rfl) rfl)),
    (List.forall_mem_cons.mpr ⟨(fun _ => Or.inl (twq3 (List.mem_of_getElem? (i := 187) rfl) rfl)),
    (List.forall_mem_cons.mpr ⟨(fun _ => Or.inl (twq3 (List.mem_of_getElem? (i := 189) rfl) rfl)),
    (List.forall_mem_cons.mpr ⟨(fun _ => Or.inl (twq3 (List.mem_of_getElem? (i := 173) rfl) rfl)),
    (List.forall_mem_cons.mpr ⟨(fun _ => Or.inl (twq3 (List.mem_of_getElem? (i := 174) rfl) rfl)),
    (List.forall_mem_cons.mpr ⟨(fun _ => Or.inl (twq1 (List.mem_of_getElem? (i := 22) rfl) rfl)),
    (List.forall_mem_cons.mpr ⟨(fun _ => Or.inl (twq1 (List.mem_of_getElem? (i := 23) rfl) rfl)),
    (List.forall_mem_cons.mpr ⟨(fun _ => Or.inl (twq3 (List.mem_of_getElem? (i := 175) rfl) rfl)),
    (List.forall_mem_cons.mpr ⟨(fun _ => Or.inl (twq3 (List.mem_of_getElem? (i := 180) rfl) rfl)),
    (List.forall_mem_cons.mpr ⟨(fun _ => Or.inl (twq3 (List.mem_of_getElem? (i := 185) rfl) rfl)),
    (List.forall_mem_cons.mpr ⟨(fun _ => Or.inl (twq3 (List.mem_of_getElem? (i := 201) rfl) rfl)),
    (List.forall_mem_cons.mpr ⟨(fun _ => Or.inl (twq3 (List.mem_of_getElem? (i := 162) rfl) rfl)),
    (List.forall_mem_cons.mpr ⟨(fun _ => Or.inl (twq3 (List.mem_of_getElem? (i := 202) rfl) rfl)),
    (List.forall_mem_cons.mpr ⟨(fun _ => Or.inl (twq3 (List.mem_of_getElem? (i := 164) rfl) rfl)),
    (List.forall_mem_cons.mpr ⟨(fun _ => Or.inl (twq3 (List.mem_of_getElem? (i := 203) rfl) rfl)),
    (List.forall_mem_cons.mpr ⟨(fun _ => Or.inl (twq3 (List.mem_of_getElem? (i := 166) rfl) rfl)),
    (List.forall_mem_cons.mpr ⟨(fun _ => Or.inl (twq3 (List.mem_of_getElem? (i := 176) rfl) rfl)),
    (List.forall_mem_cons.mpr ⟨(fun h => absurd h (by decide +kernel)),
    (List.forall_mem_cons.mpr ⟨(fun _ => Or.inl (twq3 (List.mem_of_getElem? (i := 178) rfl) rfl)),
    (List.forall_mem_cons.mpr ⟨(fun h => absurd h (by decide +kernel)),
    (List.forall_mem_cons.mpr ⟨(fun _ => Or.inl (twq3 (List.mem_of_getElem? (i := 168) rfl) rfl)),
    (fun _ h => absurd h List.not_mem_nil)⟩)⟩)⟩)⟩)⟩)⟩)⟩)⟩)⟩)⟩)⟩)⟩)⟩)⟩)⟩)⟩)⟩)⟩)⟩)⟩)⟩)⟩)⟩)⟩)
theorem xt_chI : ∀ w ∈ Bundle.chain0Atoms "java/lang/IndexOutOfBoundsException" ["java/lang/RuntimeException", "java/lang/Exception"], xP w :=
  (List.forall_mem_cons.mpr ⟨(fun _ => Or.inl (twq3 (List.mem_of_getElem? (i := 191) rfl) rfl)),
    (List.forall_mem_cons.mpr ⟨(fun _ => Or.inl (twq3 (List.mem_of_getElem? (i := 192) rfl) rfl)),
    (List.forall_mem_cons.mpr ⟨(fun _ => Or.inl (twq3 (List.mem_of_getElem? (i := 193) rfl) rfl)),
    (List.forall_mem_cons.mpr ⟨(fun _ => Or.inl (twq3 (List.mem_of_getElem? (i := 194) rfl) rfl)),
    (List.forall_mem_cons.mpr ⟨(fun _ => Or.inr (List.mem_of_getElem? (i := 2) rfl)),
    (List.forall_mem_cons.mpr ⟨(fun _ => Or.inl (twq3 (List.mem_of_getElem? (i := 194) rfl) rfl)),
    (List.forall_mem_cons.mpr ⟨(fun _ => Or.inl (twq3 (List.mem_of_getElem? (i := 195) rfl) rfl)),
    (List.forall_mem_cons.mpr ⟨(fun _ => Or.inl (twq3 (List.mem_of_getElem? (i := 196) rfl) rfl)),
    (List.forall_mem_cons.mpr ⟨(fun _ => Or.inl (twq3 (List.mem_of_getElem? (i := 197) rfl) rfl)),
    (List.forall_mem_cons.mpr ⟨(fun _ => Or.inr (List.mem_of_getElem? (i := 3) rfl)),
    (List.forall_mem_cons.mpr ⟨(fun _ => Or.inl (twq3 (List.mem_of_getElem? (i := 197) rfl) rfl)),
    (List.forall_mem_cons.mpr ⟨(fun _ => Or.inl (twq3 (List.mem_of_getElem? (i := 198) rfl) rfl)),
    (List.forall_mem_cons.mpr ⟨(fun _ => Or.inl (twq3 (List.mem_of_getElem? (i := 199) rfl) rfl)),
    (List.forall_mem_cons.mpr ⟨(fun _ => Or.inl (twq3 (List.mem_of_getElem? (i := 173) rfl) rfl)),
    (List.forall_mem_cons.mpr ⟨(fun _ => Or.inr (List.mem_of_getElem? (i := 4) rfl)),
    (fun _ h => absurd h List.not_mem_nil)⟩)⟩)⟩)⟩)⟩)⟩)⟩)⟩)⟩)⟩)⟩)⟩)⟩)⟩)⟩)
theorem xt_finI : ∀ w ∈ ([.methodLink RX7 108 (Bundle.init0 "java/lang/IndexOutOfBoundsException"), .instantiable "java/lang/IndexOutOfBoundsException" 6, .castable "java/lang/IndexOutOfBoundsException" "java/lang/IndexOutOfBoundsException", .selects "java/lang/IndexOutOfBoundsException" Bundle.tFill0 Bundle.tFill0, .selects "java/lang/IndexOutOfBoundsException" Bundle.tFill Bundle.tFill, .lays "java/lang/IndexOutOfBoundsException" Bundle.tN "cause" "Ljava/lang/Throwable;", .lays "java/lang/IndexOutOfBoundsException" Bundle.tN "stackTrace" Bundle.steD, .lays "java/lang/IndexOutOfBoundsException" Bundle.tN "suppressedExceptions" Bundle.listD, .lays "java/lang/IndexOutOfBoundsException" Bundle.tN "detailMessage" "Ljava/lang/String;", .isRef (.static Bundle.tN "UNASSIGNED_STACK" Bundle.steD), .isRef (.static Bundle.tN "SUPPRESSED_SENTINEL" Bundle.listD), .fieldLink Bundle.tN 198 Bundle.tN "backtrace" "Ljava/lang/Object;", .lays Bundle.tN Bundle.tN "backtrace" "Ljava/lang/Object;", .lays "java/lang/IndexOutOfBoundsException" Bundle.tN "backtrace" "Ljava/lang/Object;"] : List Cond), xP w :=
  (List.forall_mem_cons.mpr ⟨(fun _ => Or.inl (twq3 (List.mem_of_getElem? (i := 190) rfl) rfl)),
    (List.forall_mem_cons.mpr ⟨(fun _ => Or.inl (twq3 (List.mem_of_getElem? (i := 151) rfl) rfl)),
    (List.forall_mem_cons.mpr ⟨(fun _ => Or.inr (List.mem_of_getElem? (i := 0) rfl)),
    (List.forall_mem_cons.mpr ⟨(fun _ => Or.inl (twq3 (List.mem_of_getElem? (i := 159) rfl) rfl)),
    (List.forall_mem_cons.mpr ⟨(fun _ => Or.inl (twq3 (List.mem_of_getElem? (i := 160) rfl) rfl)),
    (List.forall_mem_cons.mpr ⟨(fun _ => Or.inl (twq3 (List.mem_of_getElem? (i := 161) rfl) rfl)),
    (List.forall_mem_cons.mpr ⟨(fun _ => Or.inl (twq3 (List.mem_of_getElem? (i := 163) rfl) rfl)),
    (List.forall_mem_cons.mpr ⟨(fun _ => Or.inl (twq3 (List.mem_of_getElem? (i := 165) rfl) rfl)),
    (List.forall_mem_cons.mpr ⟨(fun _ => Or.inl (twq3 (List.mem_of_getElem? (i := 167) rfl) rfl)),
    (List.forall_mem_cons.mpr ⟨(fun h => absurd h (by decide +kernel)),
    (List.forall_mem_cons.mpr ⟨(fun h => absurd h (by decide +kernel)),
    (List.forall_mem_cons.mpr ⟨(fun _ => Or.inl (twq3 (List.mem_of_getElem? (i := 171) rfl) rfl)),
    (List.forall_mem_cons.mpr ⟨(fun _ => Or.inl (twq3 (List.mem_of_getElem? (i := 170) rfl) rfl)),
    (List.forall_mem_cons.mpr ⟨(fun _ => Or.inl (twq3 (List.mem_of_getElem? (i := 169) rfl) rfl)),
    (fun _ h => absurd h List.not_mem_nil)⟩)⟩)⟩)⟩)⟩)⟩)⟩)⟩)⟩)⟩)⟩)⟩)⟩)⟩)
theorem xt_I : ∀ w ∈ vx_at0 RX7 108 "java/lang/IndexOutOfBoundsException" ["java/lang/RuntimeException", "java/lang/Exception"], w ∈ TW ∨ w ∈ xB := fun w hw => by
  have h := List.mem_filter.mp hw
  exact (List.forall_mem_append.mpr ⟨List.forall_mem_append.mpr ⟨xt_th, xt_chI⟩, xt_finI⟩) w h.1 h.2
theorem xt_chN : ∀ w ∈ Bundle.chain0Atoms "java/util/NoSuchElementException" ["java/lang/RuntimeException", "java/lang/Exception"], xP w :=
  (List.forall_mem_cons.mpr ⟨(fun _ => Or.inl (twq3 (List.mem_of_getElem? (i := 237) rfl) rfl)),
    (List.forall_mem_cons.mpr ⟨(fun _ => Or.inl (twq3 (List.mem_of_getElem? (i := 238) rfl) rfl)),
    (List.forall_mem_cons.mpr ⟨(fun _ => Or.inl (twq3 (List.mem_of_getElem? (i := 239) rfl) rfl)),
    (List.forall_mem_cons.mpr ⟨(fun _ => Or.inl (twq3 (List.mem_of_getElem? (i := 194) rfl) rfl)),
    (List.forall_mem_cons.mpr ⟨(fun _ => Or.inr (List.mem_of_getElem? (i := 2) rfl)),
    (List.forall_mem_cons.mpr ⟨(fun _ => Or.inl (twq3 (List.mem_of_getElem? (i := 194) rfl) rfl)),
    (List.forall_mem_cons.mpr ⟨(fun _ => Or.inl (twq3 (List.mem_of_getElem? (i := 195) rfl) rfl)),
    (List.forall_mem_cons.mpr ⟨(fun _ => Or.inl (twq3 (List.mem_of_getElem? (i := 196) rfl) rfl)),
    (List.forall_mem_cons.mpr ⟨(fun _ => Or.inl (twq3 (List.mem_of_getElem? (i := 197) rfl) rfl)),
    (List.forall_mem_cons.mpr ⟨(fun _ => Or.inr (List.mem_of_getElem? (i := 3) rfl)),
    (List.forall_mem_cons.mpr ⟨(fun _ => Or.inl (twq3 (List.mem_of_getElem? (i := 197) rfl) rfl)),
    (List.forall_mem_cons.mpr ⟨(fun _ => Or.inl (twq3 (List.mem_of_getElem? (i := 198) rfl) rfl)),
    (List.forall_mem_cons.mpr ⟨(fun _ => Or.inl (twq3 (List.mem_of_getElem? (i := 199) rfl) rfl)),
    (List.forall_mem_cons.mpr ⟨(fun _ => Or.inl (twq3 (List.mem_of_getElem? (i := 173) rfl) rfl)),
    (List.forall_mem_cons.mpr ⟨(fun _ => Or.inr (List.mem_of_getElem? (i := 4) rfl)),
    (fun _ h => absurd h List.not_mem_nil)⟩)⟩)⟩)⟩)⟩)⟩)⟩)⟩)⟩)⟩)⟩)⟩)⟩)⟩)⟩)
theorem xt_finN : ∀ w ∈ ([.methodLink RX7 131 (Bundle.init0 "java/util/NoSuchElementException"), .instantiable "java/util/NoSuchElementException" 6, .castable "java/util/NoSuchElementException" "java/util/NoSuchElementException", .selects "java/util/NoSuchElementException" Bundle.tFill0 Bundle.tFill0, .selects "java/util/NoSuchElementException" Bundle.tFill Bundle.tFill, .lays "java/util/NoSuchElementException" Bundle.tN "cause" "Ljava/lang/Throwable;", .lays "java/util/NoSuchElementException" Bundle.tN "stackTrace" Bundle.steD, .lays "java/util/NoSuchElementException" Bundle.tN "suppressedExceptions" Bundle.listD, .lays "java/util/NoSuchElementException" Bundle.tN "detailMessage" "Ljava/lang/String;", .isRef (.static Bundle.tN "UNASSIGNED_STACK" Bundle.steD), .isRef (.static Bundle.tN "SUPPRESSED_SENTINEL" Bundle.listD), .fieldLink Bundle.tN 198 Bundle.tN "backtrace" "Ljava/lang/Object;", .lays Bundle.tN Bundle.tN "backtrace" "Ljava/lang/Object;", .lays "java/util/NoSuchElementException" Bundle.tN "backtrace" "Ljava/lang/Object;"] : List Cond), xP w :=
  (List.forall_mem_cons.mpr ⟨(fun _ => Or.inl (twq3 (List.mem_of_getElem? (i := 236) rfl) rfl)),
    (List.forall_mem_cons.mpr ⟨(fun _ => Or.inl (twq3 (List.mem_of_getElem? (i := 228) rfl) rfl)),
    (List.forall_mem_cons.mpr ⟨(fun _ => Or.inr (List.mem_of_getElem? (i := 1) rfl)),
    (List.forall_mem_cons.mpr ⟨(fun _ => Or.inl (twq3 (List.mem_of_getElem? (i := 230) rfl) rfl)),
    (List.forall_mem_cons.mpr ⟨(fun _ => Or.inl (twq3 (List.mem_of_getElem? (i := 183) rfl) rfl)),
    (List.forall_mem_cons.mpr ⟨(fun _ => Or.inl (twq3 (List.mem_of_getElem? (i := 231) rfl) rfl)),
    (List.forall_mem_cons.mpr ⟨(fun _ => Or.inl (twq3 (List.mem_of_getElem? (i := 232) rfl) rfl)),
    (List.forall_mem_cons.mpr ⟨(fun _ => Or.inl (twq3 (List.mem_of_getElem? (i := 233) rfl) rfl)),
    (List.forall_mem_cons.mpr ⟨(fun _ => Or.inl (twq3 (List.mem_of_getElem? (i := 234) rfl) rfl)),
    (List.forall_mem_cons.mpr ⟨(fun h => absurd h (by decide +kernel)),
    (List.forall_mem_cons.mpr ⟨(fun h => absurd h (by decide +kernel)),
    (List.forall_mem_cons.mpr ⟨(fun _ => Or.inl (twq3 (List.mem_of_getElem? (i := 171) rfl) rfl)),
    (List.forall_mem_cons.mpr ⟨(fun _ => Or.inl (twq3 (List.mem_of_getElem? (i := 170) rfl) rfl)),
    (List.forall_mem_cons.mpr ⟨(fun _ => Or.inl (twq3 (List.mem_of_getElem? (i := 235) rfl) rfl)),
    (fun _ h => absurd h List.not_mem_nil)⟩)⟩)⟩)⟩)⟩)⟩)⟩)⟩)⟩)⟩)⟩)⟩)⟩)⟩)
theorem xt_N : ∀ w ∈ vx_at0 RX7 131 "java/util/NoSuchElementException" ["java/lang/RuntimeException", "java/lang/Exception"], w ∈ TW ∨ w ∈ xB := fun w hw => by
  have h := List.mem_filter.mp hw
  exact (List.forall_mem_append.mpr ⟨List.forall_mem_append.mpr ⟨xt_th, xt_chN⟩, xt_finN⟩) w h.1 h.2
theorem xw_ioLink : (Cond.classLink RX7 106 "java/lang/IndexOutOfBoundsException" : Cond) ∈ TW := twq3 (List.mem_of_getElem? (i := 150) rfl) rfl
theorem xw_nsLink : (Cond.classLink RX7 129 "java/util/NoSuchElementException" : Cond) ∈ TW := twq3 (List.mem_of_getElem? (i := 227) rfl) rfl
theorem xw_ioIni : (Cond.initialized "java/lang/IndexOutOfBoundsException" : Cond) ∈ TW := twq1 (List.mem_of_getElem? (i := 14) rfl) rfl
theorem xw_nsIni : (Cond.initialized "java/util/NoSuchElementException" : Cond) ∈ TW := twq1 (List.mem_of_getElem? (i := 15) rfl) rfl
theorem xw_ioCatch : (Cond.classLink RL 13 "java/lang/IndexOutOfBoundsException" : Cond) ∈ TW := twq3 (List.mem_of_getElem? (i := 142) rfl) rfl
theorem xw_nsCatch : (Cond.classLink RL 22 "java/util/NoSuchElementException" : Cond) ∈ TW := twq3 (List.mem_of_getElem? (i := 222) rfl) rfl
theorem xw_ioCast : (Cond.castable "java/lang/IndexOutOfBoundsException" "java/lang/IndexOutOfBoundsException" : Cond) ∈ xB := List.mem_of_getElem? (i := 0) rfl
theorem xw_nsCast : (Cond.castable "java/util/NoSuchElementException" "java/util/NoSuchElementException" : Cond) ∈ xB := List.mem_of_getElem? (i := 1) rfl
theorem xw_codeW : (Cond.codeWith yL_code cL_code 5 (some .int) [(0, 10, 13, 13)] : Cond) ∈ TW := twq3 (List.mem_of_getElem? (i := 141) rfl) rfl
theorem xw_codeS : (Cond.static yL_code : Cond) ∈ TW := twq3 (List.mem_of_getElem? (i := 140) rfl) rfl
theorem xw_lookW : (Cond.codeWith yL_look cL_look 5 (some .int) [(0, 10, 13, 13)] : Cond) ∈ TW := twq3 (List.mem_of_getElem? (i := 214) rfl) rfl
theorem xw_lookS : (Cond.static yL_look : Cond) ∈ TW := twq3 (List.mem_of_getElem? (i := 213) rfl) rfl
theorem xw_replyW : (Cond.codeWith yL_reply cL_reply 3 (some .int) [(0, 8, 11, 22)] : Cond) ∈ TW := twq3 (List.mem_of_getElem? (i := 221) rfl) rfl
theorem xw_replyS : (Cond.static yL_reply : Cond) ∈ TW := twq3 (List.mem_of_getElem? (i := 220) rfl) rfl
