theorem bI_y {P : Prop} [Decidable P] (h : P) : (1 : Int32) = bI (decide P) := by rw [decide_eq_true h]; rfl
theorem bI_n {P : Prop} [Decidable P] (h : ¬ P) : (0 : Int32) = bI (decide P) := by rw [decide_eq_false h]; rfl
theorem e_i2b : ∀ v, v < 128 → (nI v).toInt8.toInt32 = nI v := by decide +kernel
theorem e_nb : ∀ v, v < 128 → vp_nar .byte (nI v) = nI v := by decide +kernel
theorem e_i2c : ∀ v, v < 256 → ((nI v).toUInt32 % 65536).toInt32 = nI v := by decide +kernel
/-- the first n places out of another row -/
def cpy {α : Type} (n : Nat) (f g : Nat → α) : Nat → α := fun j => if j < n then f j else g j
theorem e_cpy {α : Type} {f g : Nat → α} {N : Int32} {n : Nat} (h : N.toNatClampNeg = n) : va_cpy f g (0 : Int32).toNatClampNeg (0 : Int32).toNatClampNeg N.toNatClampNeg = cpy n f g := by
  funext j
  rw [h]
  have e0 : (0 : Int32).toNatClampNeg = 0 := by decide
  rw [e0]
  by_cases q : j < n
  · rw [pk_cpy_in (Nat.zero_le _) (by omega)]
    simp [cpy, q]
  · rw [pk_cpy_out (Or.inr (by omega))]
    simp [cpy, q]
/-- what a symbol does to the printer -/
def figT : List Nat := [48, 49, 50, 51, 52, 53, 54, 55, 56, 57, 39, 35, 34, 43, 40, 42, 46, 36, 64, 59, 33, 37, 44, 46, 38, 41, 47, 60, 45, 63, 58, 61]
def letT : List Nat := [80, 81, 87, 69, 82, 84, 89, 85, 73, 79, 74, 35, 83, 90, 75, 42, 46, 70, 64, 68, 33, 72, 78, 77, 38, 76, 88, 71, 65, 66, 67, 86]
def pFg (v : Nat) (fg : Bool) : Bool := if v = 15 then false else if v = 11 then true else fg
def pW (v : Nat) : Bool := !(v == 11 || v == 15 || v == 16)
def pCh (fg : Bool) (v : Nat) : Nat := if v = 18 then 13 else if v = 24 then 10 else if v = 20 then 32 else (if fg then figT else letT).getD v 0
def pTx (v : Nat) (fg : Bool) (tx : Nat → Int32) (xz : Nat) : Nat → Int32 := if pW v then upd tx xz (nI (pCh fg v)) else tx
def pXz (v xz : Nat) : Nat := if pW v then xz + 1 else xz
