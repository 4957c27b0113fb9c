theorem fb_rngL (x : Int64) : -9223372036854775808 ≤ x.toInt ∧ x.toInt < 9223372036854775808 := by
  have h1 := Int64.le_toInt x
  have h2 := Int64.toInt_lt x
  omega
theorem fb_bmodL {z : Int} (h1 : -9223372036854775808 ≤ z) (h2 : z < 9223372036854775808) : z.bmod (2 ^ 64) = z := by
  rw [Int.bmod_eq_of_le (by omega) (by omega)]
theorem fb_addL {x y : Int64} (h1 : -9223372036854775808 ≤ x.toInt + y.toInt) (h2 : x.toInt + y.toInt < 9223372036854775808) : (x + y).toInt = x.toInt + y.toInt := by
  rw [Int64.toInt_add, fb_bmodL h1 h2]
theorem fb_subL {x y : Int64} (h1 : -9223372036854775808 ≤ x.toInt - y.toInt) (h2 : x.toInt - y.toInt < 9223372036854775808) : (x - y).toInt = x.toInt - y.toInt := by
  rw [Int64.toInt_sub, fb_bmodL h1 h2]
theorem fb_mulL {x y : Int64} (h1 : -9223372036854775808 ≤ x.toInt * y.toInt) (h2 : x.toInt * y.toInt < 9223372036854775808) : (x * y).toInt = x.toInt * y.toInt := by
  rw [Int64.toInt_mul, fb_bmodL h1 h2]
def R35 (x : Int64) : Prop := -17179869184 ≤ x.toInt ∧ x.toInt < 17179869184
def R36 (x : Int64) : Prop := 0 ≤ x.toInt ∧ x.toInt < 68719476736
theorem z_nat (x : BitVec 64) : (x.toInt = x.toNat ∧ x.toNat < 9223372036854775808) ∨ (x.toInt = (x.toNat : Int) - 18446744073709551616 ∧ 9223372036854775808 ≤ x.toNat ∧ x.toNat < 18446744073709551616) := by
  have h := BitVec.toInt_eq_toNat_cond x
  have h2 := x.isLt
  have e : (2 : Nat) ^ 64 = 18446744073709551616 := by decide
  rw [e] at h h2
  split at h <;> omega
theorem z_shr {x s : Int64} (k : Nat) (hs : (s.toBitVec.smod 64).toNat = k) : (x >>> s).toInt = x.toInt / ((2 ^ k : Nat) : Int) := by
  show (x >>> s).toBitVec.toInt = x.toBitVec.toInt / _
  rw [L_shr x s k hs, BitVec.toInt_sshiftRight, Int.shiftRight_eq_div_pow]
theorem z_shl {x s : Int64} (k : Nat) (hs : (s.toBitVec.smod 64).toNat = k) : (x <<< s).toInt = (((x.toBitVec.toNat : Int)) * ((2 ^ k : Nat) : Int)).bmod 18446744073709551616 := by
  show (x <<< s).toBitVec.toInt = _
  rw [L_shl x s k hs, BitVec.toInt_shiftLeft, Nat.shiftLeft_eq, Int.natCast_mul]
theorem z_sg (x : Int64) : (sg x).toInt = (x.toInt + 17179869184) % 34359738368 - 17179869184 := by
  unfold sg
  rw [z_shr 29 (by decide), z_shl 29 (by decide)]
  have e : ((2 ^ 29 : Nat) : Int) = 536870912 := by decide
  rw [e]
  have hx : x.toInt = x.toBitVec.toInt := rfl
  have h := z_nat x.toBitVec
  rw [hx]
  generalize x.toBitVec.toInt = a at h ⊢
  generalize x.toBitVec.toNat = b at h ⊢
  have hb := Int.bmod_def ((b : Int) * 536870912) 18446744073709551616
  rw [hb]
  split <;> omega
theorem z_andN {x m : Int64} (k : Nat) (hm : m.toBitVec.toNat = 2 ^ k - 1) (hk : k < 63) : (x &&& m).toInt = ((x.toBitVec.toNat % 2 ^ k : Nat) : Int) := by
  have e : (x &&& m).toBitVec.toNat = x.toBitVec.toNat % 2 ^ k := by
    show (x.toBitVec &&& m.toBitVec).toNat = _
    rw [BitVec.toNat_and, hm, Nat.and_two_pow_sub_one_eq_mod]
  have h := z_nat (x &&& m).toBitVec
  have h2 : x.toBitVec.toNat % 2 ^ k < 2 ^ k := Nat.mod_lt _ (Nat.two_pow_pos k)
  have h3 : 2 ^ k ≤ 2 ^ 62 := Nat.pow_le_pow_right (by decide) (by omega)
  have h4 : (2 : Nat) ^ 62 = 4611686018427387904 := by decide
  show (x &&& m).toBitVec.toInt = _
  rw [e] at h
  omega
theorem z_m36 (x : Int64) : (x &&& 68719476735).toInt = x.toInt % 68719476736 := by
  rw [z_andN 36 (by decide) (by decide)]
  have h := z_nat x.toBitVec
  have e : (2 : Nat) ^ 36 = 68719476736 := by decide
  have hx : x.toInt = x.toBitVec.toInt := rfl
  rw [e, hx]
  omega
theorem z_m35 (x : Int64) : (x &&& 34359738367).toInt = x.toInt % 34359738368 := by
  rw [z_andN 35 (by decide) (by decide)]
  have h := z_nat x.toBitVec
  have e : (2 : Nat) ^ 35 = 34359738368 := by decide
  have hx : x.toInt = x.toBitVec.toInt := rfl
  rw [e, hx]
  omega
theorem z_m18 (x : Int64) : (x &&& 262143).toInt = x.toInt % 262144 := by
  rw [z_andN 18 (by decide) (by decide)]
  have h := z_nat x.toBitVec
  have e : (2 : Nat) ^ 18 = 262144 := by decide
  have hx : x.toInt = x.toBitVec.toInt := rfl
  rw [e, hx]
  omega
theorem z_m16 (x : Int64) : (x &&& 65535).toInt = x.toInt % 65536 := by
  rw [z_andN 16 (by decide) (by decide)]
  have h := z_nat x.toBitVec
  have e : (2 : Nat) ^ 16 = 65536 := by decide
  have hx : x.toInt = x.toBitVec.toInt := rfl
  rw [e, hx]
  omega
theorem z_s16 (x : Int64) : (x >>> ((16 : Int32).toInt64 &&& 63)).toInt = x.toInt / 65536 := by rw [z_shr 16 (by decide)]; rfl
theorem z_s18 (x : Int64) : (x >>> ((18 : Int32).toInt64 &&& 63)).toInt = x.toInt / 262144 := by rw [z_shr 18 (by decide)]; rfl
theorem z_s36 (x : Int64) : (x >>> ((36 : Int32).toInt64 &&& 63)).toInt = x.toInt / 68719476736 := by rw [z_shr 36 (by decide)]; rfl
theorem z_l20 {x : Int64} (h : 0 ≤ x.toInt) (h2 : x.toInt < 65536) : (x <<< ((20 : Int32).toInt64 &&& 63)).toInt = x.toInt * 1048576 := by
  rw [z_shl 20 (by decide)]
  have e : ((2 ^ 20 : Nat) : Int) = 1048576 := by decide
  have hx : x.toInt = x.toBitVec.toInt := rfl
  have hn := z_nat x.toBitVec
  rw [hx] at h h2
  rw [e, hx]
  generalize x.toBitVec.toInt = a at h h2 hn ⊢
  generalize x.toBitVec.toNat = b at hn ⊢
  have hb := Int.bmod_def ((b : Int) * 1048576) 18446744073709551616
  rw [hb]
  split <;> omega
/-- a number's two halves -/
def tI (N : Int) : Int := (N / 68719476736 + 17179869184) % 34359738368 - 17179869184
def rI (N : Int) : Int := N % 68719476736
theorem tI_add (N M : Int) : tI (tI N * 68719476736 + rI N + M) = tI (N + M) := by unfold tI rI; omega
theorem rI_add (N M : Int) : rI (tI N * 68719476736 + rI N + M) = rI (N + M) := by unfold tI rI; omega
theorem z_add2 (a b : Int64) : ∃ k : Int, (a + b).toInt = a.toInt + b.toInt + k * 18446744073709551616 := by
  rw [Int64.toInt_add]
  have hb := Int.bmod_def (a.toInt + b.toInt) (2 ^ 64)
  have e : (2 : Nat) ^ 64 = 18446744073709551616 := by decide
  rw [e] at hb ⊢
  rw [hb]
  split
  · exact ⟨-((a.toInt + b.toInt) / 18446744073709551616), by omega⟩
  · exact ⟨-((a.toInt + b.toInt) / 18446744073709551616) - 1, by omega⟩
/-- what AC becomes, as one number -/
theorem g_top {hi lo m b : Int64} (h1 : R36 lo) (h2 : -68719476736 ≤ b.toInt) (h3 : b.toInt ≤ 68719476736) : (gTop hi lo m b).toInt = tI (hi.toInt * 68719476736 + lo.toInt + (m.toInt * 68719476736 + b.toInt)) := by
  obtain ⟨a1, a2⟩ := h1
  unfold gTop tI
  rw [z_sg]
  obtain ⟨k1, e1⟩ := z_add2 (hi + m) ((lo + b) >>> ((36 : Int32).toInt64 &&& 63))
  obtain ⟨k2, e2⟩ := z_add2 hi m
  rw [e1, e2, z_s36, fb_addL (x := lo) (y := b) (by omega) (by omega)]
  omega
theorem g_rest {hi lo m b : Int64} (h1 : R36 lo) (h2 : -68719476736 ≤ b.toInt) (h3 : b.toInt ≤ 68719476736) : (gRest lo b).toInt = rI (hi.toInt * 68719476736 + lo.toInt + (m.toInt * 68719476736 + b.toInt)) := by
  obtain ⟨a1, a2⟩ := h1
  unfold gRest rI
  rw [z_m36, fb_addL (x := lo) (y := b) (by omega) (by omega)]
  omega
theorem R36_rest (lo b : Int64) : R36 (gRest lo b) := by
  unfold gRest R36
  rw [z_m36]
  omega
theorem R35_sg (x : Int64) : R35 (sg x) := by
  unfold R35
  rw [z_sg]
  omega
theorem z_mulb {a b A B : Int} (h1 : -A ≤ a) (h2 : a ≤ A) (h3 : -B ≤ b) (h4 : b ≤ B) : -(A * B) ≤ a * b ∧ a * b ≤ A * B := by
  have hA : 0 ≤ A := by omega
  have hB : 0 ≤ B := by omega
  have e : (a * b).natAbs = a.natAbs * b.natAbs := Int.natAbs_mul a b
  have f : a.natAbs * b.natAbs ≤ A.toNat * B.toNat := Nat.mul_le_mul (by omega) (by omega)
  have g : ((A.toNat * B.toNat : Nat) : Int) = A * B := by
    rw [Int.natCast_mul, Int.toNat_of_nonneg hA, Int.toNat_of_nonneg hB]
  omega
/-- the two products that both sides are made of -/
theorem z_u {a b : Int64} (ha : R35 a) (hb : R35 b) : (ppU a b).toInt = a.toInt * (b.toInt / 262144) ∧ -1125899906842624 ≤ a.toInt * (b.toInt / 262144) ∧ a.toInt * (b.toInt / 262144) ≤ 1125899906842624 := by
  obtain ⟨a1, a2⟩ := ha
  obtain ⟨b1, b2⟩ := hb
  have h := z_mulb (a := a.toInt) (b := b.toInt / 262144) (A := 17179869184) (B := 65536) (by omega) (by omega) (by omega) (by omega)
  unfold ppU
  rw [fb_mulL (by rw [z_s18]; omega) (by rw [z_s18]; omega), z_s18]
  exact ⟨rfl, by omega, by omega⟩
theorem z_l {a b : Int64} (ha : R35 a) (hb : R35 b) : (a * (b &&& 262143)).toInt = a.toInt * (b.toInt % 262144) ∧ -4503599627370496 ≤ a.toInt * (b.toInt % 262144) ∧ a.toInt * (b.toInt % 262144) ≤ 4503599627370496 := by
  obtain ⟨a1, a2⟩ := ha
  obtain ⟨b1, b2⟩ := hb
  have h := z_mulb (a := a.toInt) (b := b.toInt % 262144) (A := 17179869184) (B := 262144) (by omega) (by omega) (by omega) (by omega)
  rw [fb_mulL (by rw [z_m18]; omega) (by rw [z_m18]; omega), z_m18]
  exact ⟨rfl, by omega, by omega⟩
theorem z_l4 {a b : Int64} (ha : R35 a) (hb : R35 b) : (ppL a b).toInt = 4 * (a.toInt * (b.toInt % 262144)) := by
  have h := (z_l ha hb).2
  have e : (4 * a).toInt = 4 * a.toInt := by
    have := ha
    unfold R35 at this
    rw [fb_mulL (by rw [show (4 : Int64).toInt = 4 by decide]; omega) (by rw [show (4 : Int64).toInt = 4 by decide]; omega), show (4 : Int64).toInt = 4 by decide]
  have g : 4 * a.toInt * (b.toInt % 262144) = 4 * (a.toInt * (b.toInt % 262144)) := Int.mul_assoc _ _ _
  unfold ppL
  rw [fb_mulL (by rw [e, z_m18, g]; omega) (by rw [e, z_m18, g]; omega), e, z_m18, g]
theorem z_sn {s x : Int64} (hs : s.toInt = 1 ∨ s.toInt = -1) (h1 : -9223372036854775808 < x.toInt) : (s * x).toInt = s.toInt * x.toInt := by
  have h2 := (fb_rngL x).2
  rcases hs with h | h
  · rw [fb_mulL (by rw [h]; omega) (by rw [h]; omega)]
  · rw [fb_mulL (by rw [h]; omega) (by rw [h]; omega)]
theorem z_sn2 {s x : Int64} (hs : s.toInt = 1 ∨ s.toInt = -1) (h1 : -9223372036854775808 < x.toInt) : (x * s).toInt = s.toInt * x.toInt := by
  rw [Int64.mul_comm]
  exact z_sn hs h1
theorem pp_val {hi lo a b s : Int64} (hlo : R36 lo) (ha : R35 a) (hb : R35 b) (hs : s.toInt = 1 ∨ s.toInt = -1) : (ppTop hi lo a b s).toInt = tI (hi.toInt * 68719476736 + lo.toInt + s.toInt * (a.toInt * (b.toInt / 262144)) * 1048576 + s.toInt * (a.toInt * (b.toInt % 262144)) * 4) ∧ (ppRest hi lo a b s).toInt = rI (hi.toInt * 68719476736 + lo.toInt + s.toInt * (a.toInt * (b.toInt / 262144)) * 1048576 + s.toInt * (a.toInt * (b.toInt % 262144)) * 4) := by
  obtain ⟨u1, u2, u3⟩ := z_u ha hb
  obtain ⟨l1, l2, l3⟩ := z_l ha hb
  have l4 := z_l4 ha hb
  generalize a.toInt * (b.toInt / 262144) = P at *
  generalize a.toInt * (b.toInt % 262144) = L at *
  have m1 : (s * (ppU a b >>> ((16 : Int32).toInt64 &&& 63))).toInt = s.toInt * (P / 65536) := by rw [z_sn hs (by rw [z_s16, u1]; omega), z_s16, u1]
  have q1 : ((ppU a b &&& 65535) <<< ((20 : Int32).toInt64 &&& 63)).toInt = P % 65536 * 1048576 := by rw [z_l20 (by rw [z_m16, u1]; omega) (by rw [z_m16, u1]; omega), z_m16, u1]
  have b1 : (s * ((ppU a b &&& 65535) <<< ((20 : Int32).toInt64 &&& 63))).toInt = s.toInt * (P % 65536 * 1048576) := by rw [z_sn hs (by rw [q1]; omega), q1]
  have m2 : (s * (ppL a b >>> ((36 : Int32).toInt64 &&& 63))).toInt = s.toInt * (4 * L / 68719476736) := by rw [z_sn hs (by rw [z_s36, l4]; omega), z_s36, l4]
  have b2 : (s * (ppL a b &&& 68719476735)).toInt = s.toInt * (4 * L % 68719476736) := by rw [z_sn hs (by rw [z_m36, l4]; omega), z_m36, l4]
  have t1 : (ppT1 hi lo a b s).toInt = tI (hi.toInt * 68719476736 + lo.toInt + (s.toInt * (P / 65536) * 68719476736 + s.toInt * (P % 65536 * 1048576))) := by
    unfold ppT1
    rw [g_top hlo (by rw [b1]; rcases hs with h | h <;> rw [h] <;> omega) (by rw [b1]; rcases hs with h | h <;> rw [h] <;> omega), m1, b1]
  have r1 : (ppR1 lo a b s).toInt = rI (hi.toInt * 68719476736 + lo.toInt + (s.toInt * (P / 65536) * 68719476736 + s.toInt * (P % 65536 * 1048576))) := by
    unfold ppR1
    rw [g_rest (hi := hi) (m := s * (ppU a b >>> ((16 : Int32).toInt64 &&& 63))) hlo (by rw [b1]; rcases hs with h | h <;> rw [h] <;> omega) (by rw [b1]; rcases hs with h | h <;> rw [h] <;> omega), m1, b1]
  have hr : R36 (ppR1 lo a b s) := R36_rest _ _
  have fin : ∀ x : Int, x = s.toInt * P * 1048576 + s.toInt * L * 4 → x = (s.toInt * (P / 65536) * 68719476736 + s.toInt * (P % 65536 * 1048576)) + (s.toInt * (4 * L / 68719476736) * 68719476736 + s.toInt * (4 * L % 68719476736)) := by
    intro x hx
    rw [hx]
    rcases hs with h | h <;> rw [h] <;> omega
  have fin2 : hi.toInt * 68719476736 + lo.toInt + s.toInt * P * 1048576 + s.toInt * L * 4 = hi.toInt * 68719476736 + lo.toInt + (s.toInt * (P / 65536) * 68719476736 + s.toInt * (P % 65536 * 1048576)) + (s.toInt * (4 * L / 68719476736) * 68719476736 + s.toInt * (4 * L % 68719476736)) := by
    have := fin _ rfl
    omega
  constructor
  · unfold ppTop
    rw [g_top hr (by rw [b2]; rcases hs with h | h <;> rw [h] <;> omega) (by rw [b2]; rcases hs with h | h <;> rw [h] <;> omega), m2, b2, t1, r1, tI_add, fin2]
  · unfold ppRest
    rw [g_rest (hi := ppT1 hi lo a b s) (m := s * (ppL a b >>> ((36 : Int32).toInt64 &&& 63))) hr (by rw [b2]; rcases hs with h | h <;> rw [h] <;> omega) (by rw [b2]; rcases hs with h | h <;> rw [h] <;> omega), m2, b2, t1, r1, rI_add, fin2]
theorem mp_val {hi lo a b s : Int64} (hlo : R36 lo) (ha : R35 a) (hb : R35 b) (hs : s.toInt = 1 ∨ s.toInt = -1) : (mpT hi lo a b s).toInt = tI (hi.toInt * 68719476736 + lo.toInt + s.toInt * (a.toInt * (b.toInt / 262144)) * 1048576 + s.toInt * (a.toInt * (b.toInt % 262144)) * 4) ∧ (mpR lo a b s).toInt = rI (hi.toInt * 68719476736 + lo.toInt + s.toInt * (a.toInt * (b.toInt / 262144)) * 1048576 + s.toInt * (a.toInt * (b.toInt % 262144)) * 4) := by
  obtain ⟨u1, u2, u3⟩ := z_u ha hb
  obtain ⟨l1, l2, l3⟩ := z_l ha hb
  unfold ppU at u1
  have hp : (mpP a b s).toInt = s.toInt * (a.toInt * (b.toInt % 262144)) * 4 := by
    have e : (a * (b &&& 262143) * 4).toInt = a.toInt * (b.toInt % 262144) * 4 := by
      rw [fb_mulL (by rw [l1, show (4 : Int64).toInt = 4 by decide]; omega) (by rw [l1, show (4 : Int64).toInt = 4 by decide]; omega), l1, show (4 : Int64).toInt = 4 by decide]
    unfold mpP
    rw [z_sn2 hs (by rw [e]; omega), e]
    exact (Int.mul_assoc _ _ _).symm
  have hq : (mpQ a b s).toInt = s.toInt * (a.toInt * (b.toInt / 262144)) := by
    unfold mpQ
    rw [z_sn2 hs (by rw [u1]; omega), u1]
  generalize a.toInt * (b.toInt / 262144) = P at *
  generalize a.toInt * (b.toInt % 262144) = L at *
  generalize s.toInt * P = P2 at *
  generalize s.toInt * L = L2 at *
  have t1 : (mpT1 hi lo a b s).toInt = tI (hi.toInt * 68719476736 + lo.toInt + (L2 * 4 / 68719476736 * 68719476736 + L2 * 4 % 68719476736)) := by
    unfold mpT1
    rw [g_top hlo (by rw [z_m36, hp]; omega) (by rw [z_m36, hp]; omega), z_s36, z_m36, hp]
  have r1 : (mpR1 lo a b s).toInt = rI (hi.toInt * 68719476736 + lo.toInt + (L2 * 4 / 68719476736 * 68719476736 + L2 * 4 % 68719476736)) := by
    unfold mpR1
    rw [g_rest (hi := hi) (m := mpP a b s >>> ((36 : Int32).toInt64 &&& 63)) hlo (by rw [z_m36, hp]; omega) (by rw [z_m36, hp]; omega), z_s36, z_m36, hp]
  have q1 : ((mpQ a b s &&& 65535) <<< ((20 : Int32).toInt64 &&& 63)).toInt = P2 % 65536 * 1048576 := by rw [z_l20 (by rw [z_m16, hq]; omega) (by rw [z_m16, hq]; omega), z_m16, hq]
  have hr : R36 (mpR1 lo a b s) := R36_rest _ _
  have fin2 : hi.toInt * 68719476736 + lo.toInt + P2 * 1048576 + L2 * 4 = hi.toInt * 68719476736 + lo.toInt + (L2 * 4 / 68719476736 * 68719476736 + L2 * 4 % 68719476736) + (P2 / 65536 * 68719476736 + P2 % 65536 * 1048576) := by omega
  constructor
  · unfold mpT
    rw [g_top hr (by rw [q1]; omega) (by rw [q1]; omega), q1, z_s16, hq, t1, r1, tI_add, fin2]
  · unfold mpR
    rw [g_rest (hi := mpT1 hi lo a b s) (m := mpQ a b s >>> ((16 : Int32).toInt64 &&& 63)) hr (by rw [q1]; omega) (by rw [q1]; omega), q1, z_s16, hq, t1, r1, rI_add, fin2]
theorem mp_top {hi lo a b s : Int64} (hlo : R36 lo) (ha : R35 a) (hb : R35 b) (hs : s.toInt = 1 ∨ s.toInt = -1) : mpT hi lo a b s = ppTop hi lo a b s := Int64.toInt_inj.mp ((mp_val hlo ha hb hs).1.trans (pp_val hlo ha hb hs).1.symm)
theorem mp_rest {hi lo a b s : Int64} (hlo : R36 lo) (ha : R35 a) (hb : R35 b) (hs : s.toInt = 1 ∨ s.toInt = -1) : mpR lo a b s = ppRest hi lo a b s := Int64.toInt_inj.mp ((mp_val (hi := hi) hlo ha hb hs).2.trans (pp_val hlo ha hb hs).2.symm)
