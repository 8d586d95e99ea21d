/-! ===== the pen ===== -/
def iN (n : Nat) : Int32 := Int32.ofInt (n : Int)
theorem iN_of {x : Int32} {hi : Nat} (h : R2 0 (hi : Int) x) : ∃ n : Nat, n < hi + 1 ∧ x = iN n := by
  refine ⟨x.toInt.toNat, by have := h.2; omega, ?_⟩
  unfold iN
  rw [Int.toNat_of_nonneg h.1, Int32.ofInt_toInt]
set_option maxRecDepth 100000 in
theorem pen_f : ∀ b : Fin 2, ∀ u : Fin 2, ∀ r : Fin 2, ∀ c : Fin 16, ∀ g : Fin 16,
    (pn (iN b) (iN u) (iN r) (iN c) (iN g) ||| 1 = pn 1 (iN u) (iN r) (iN c) (iN g)) ∧ (pn (iN b) (iN u) (iN r) (iN c) (iN g) ||| 2 = pn (iN b) 1 (iN r) (iN c) (iN g)) ∧ (pn (iN b) (iN u) (iN r) (iN c) (iN g) ||| 4 = pn (iN b) (iN u) 1 (iN c) (iN g)) ∧
    (pn (iN b) (iN u) (iN r) (iN c) (iN g) &&& (-2) = pn 0 (iN u) (iN r) (iN c) (iN g)) ∧ (pn (iN b) (iN u) (iN r) (iN c) (iN g) &&& (-3) = pn (iN b) 0 (iN r) (iN c) (iN g)) ∧ (pn (iN b) (iN u) (iN r) (iN c) (iN g) &&& (-5) = pn (iN b) (iN u) 0 (iN c) (iN g)) ∧
    (pn (iN b) (iN u) (iN r) (iN c) (iN g) &&& (-121) = pn (iN b) (iN u) (iN r) 0 (iN g)) ∧ (pn (iN b) (iN u) (iN r) (iN c) (iN g) &&& (-1921) = pn (iN b) (iN u) (iN r) (iN c) 0) ∧ R2 0 2047 (pn (iN b) (iN u) (iN r) (iN c) (iN g)) := by
  unfold R2
  decide +kernel
set_option maxRecDepth 100000 in
theorem pen_c : ∀ b : Fin 2, ∀ u : Fin 2, ∀ r : Fin 2, ∀ g : Fin 16, ∀ c : Fin 9,
    (pn (iN b) (iN u) (iN r) 0 (iN g) ||| (iN c * 8) = pn (iN b) (iN u) (iN r) (iN c) (iN g)) ∧ (pn (iN b) (iN u) (iN r) (iN g) 0 ||| (iN c * 128) = pn (iN b) (iN u) (iN r) (iN g) (iN c)) := by
  decide +kernel
set_option maxRecDepth 100000 in
theorem pen_s : ∀ p : Fin 2048, iN p = pn (iN p &&& 1) ((iN p >>> (1 &&& 31)) &&& 1) ((iN p >>> (2 &&& 31)) &&& 1) ((iN p >>> (3 &&& 31)) &&& 15) (iN p >>> (7 &&& 31)) ∧ R2 0 1 (iN p &&& 1) ∧ R2 0 1 ((iN p >>> (1 &&& 31)) &&& 1) ∧ R2 0 1 ((iN p >>> (2 &&& 31)) &&& 1) ∧ R2 0 15 ((iN p >>> (3 &&& 31)) &&& 15) ∧ R2 0 15 (iN p >>> (7 &&& 31)) := by
  unfold R2
  decide +kernel
