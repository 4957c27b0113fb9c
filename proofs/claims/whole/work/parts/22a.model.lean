/-- the model's small functions -/
def inB (v a b : Int64) : Bool := decide (¬ v < a) && decide (¬ b < v)
def sgN (x : Int64) (n : Int32) : Int64 := (x <<< ((64 - n).toInt64 &&& 63)) >>> ((64 - n).toInt64 &&& 63)
theorem sgN_35 (x : Int64) : sgN x 35 = sg x := by
  unfold sgN sg
  rw [show (64 : Int32) - 35 = 29 by decide]
theorem l2i_17 (x : Int64) : (x &&& 131071).toInt32 = x.toInt32 &&& 131071 := by
  apply Int32.toBitVec_inj.mp
  simp
theorem l2i_1 (x : Int64) : (x &&& 1).toInt32 = x.toInt32 &&& 1 := by
  apply Int32.toBitVec_inj.mp
  simp
theorem i64_toInt {n : Int32} : n.toInt64.toInt = n.toInt := Int32.toInt_toInt64 n
theorem in_ad (n : Int32) : inB n.toInt64 0 255 = ad n := by
  unfold inB ad
  have h0 : (0 : Int64).toInt = 0 := by decide
  have h1 : (255 : Int64).toInt = 255 := by decide
  have h2 : (0 : Int32).toInt = 0 := by decide
  have h3 : (256 : Int32).toInt = 256 := by decide
  rw [← Bool.decide_and]
  apply decide_eq_decide.mpr
  rw [Int64.lt_iff_toInt_lt, Int64.lt_iff_toInt_lt, Int32.lt_iff_toInt_lt, Int32.lt_iff_toInt_lt, i64_toInt, h0, h1, h2, h3]
  omega
theorem in_sy (n : Int32) : inB n.toInt64 0 31 = sy n := by
  unfold inB sy
  have h0 : (0 : Int64).toInt = 0 := by decide
  have h1 : (31 : Int64).toInt = 31 := by decide
  have h2 : (0 : Int32).toInt = 0 := by decide
  have h3 : (32 : Int32).toInt = 32 := by decide
  rw [← Bool.decide_and]
  apply decide_eq_decide.mpr
  rw [Int64.lt_iff_toInt_lt, Int64.lt_iff_toInt_lt, Int32.lt_iff_toInt_lt, Int32.lt_iff_toInt_lt, i64_toInt, h0, h1, h2, h3]
  omega
theorem inB_y {v a b : Int64} (h : ¬ v < a) (h2 : ¬ b < v) : (1 : Int32) = bI (inB v a b) := by simp [inB, h, h2, bI]
theorem inB_n1 {v a b : Int64} (h : v < a) : (0 : Int32) = bI (inB v a b) := by simp [inB, h, bI]
theorem inB_n2 {v a b : Int64} (h : b < v) : (0 : Int32) = bI (inB v a b) := by simp [inB, h, bI]
theorem fun_lgl1 : ∀ f, f < 32 → inB (nI f).toInt64 3 9 = decide (3 ≤ f ∧ f ≤ 9) := by decide +kernel
theorem fun_lgl2 : ∀ f, f < 32 → inB (nI f).toInt64 25 28 = decide (25 ≤ f ∧ f ≤ 28) := by decide +kernel
theorem lgl_t {f : Nat} (h : (3 ≤ f ∧ f ≤ 9) ∨ f = 12 ∨ f = 13 ∨ f = 17 ∨ f = 21 ∨ f = 22 ∨ (25 ≤ f ∧ f ≤ 28) ∨ f = 30 ∨ f = 31) (hf : f < 32) : lgl f = true := co_dec (N := 32) (P := fun f => ((3 ≤ f ∧ f ≤ 9) ∨ f = 12 ∨ f = 13 ∨ f = 17 ∨ f = 21 ∨ f = 22 ∨ (25 ≤ f ∧ f ≤ 28) ∨ f = 30 ∨ f = 31) → lgl f = true) (by decide +kernel) hf h
theorem lgl_f {f : Nat} (h : ¬ ((3 ≤ f ∧ f ≤ 9) ∨ f = 12 ∨ f = 13 ∨ f = 17 ∨ f = 21 ∨ f = 22 ∨ (25 ≤ f ∧ f ≤ 28) ∨ f = 30 ∨ f = 31)) (hf : f < 32) : lgl f = false := co_dec (N := 32) (P := fun f => ¬ ((3 ≤ f ∧ f ≤ 9) ∨ f = 12 ∨ f = 13 ∨ f = 17 ∨ f = 21 ∨ f = 22 ∨ (25 ≤ f ∧ f ≤ 28) ∨ f = 30 ∨ f = 31) → lgl f = false) (by decide +kernel) hf h
theorem lgl_1 {f : Nat} (h : lgl f = true) : (1 : Int32) = bI (lgl f) := by rw [h]; rfl
theorem lgl_0 {f : Nat} (h : lgl f = false) : (0 : Int32) = bI (lgl f) := by rw [h]; rfl
theorem e_half2 {j : Nat} (h : j < 256) : nI (j / 2 * 2) / 2 = nI (j / 2) := by
  have := pk_div (a := j / 2 * 2) (d := 2) (by omega) (by omega) (by omega)
  rw [show j / 2 * 2 / 2 = j / 2 by omega] at this
  exact this
theorem L_shl (a s : Int64) (k : Nat) (hs : (s.toBitVec.smod 64).toNat = k) : (a <<< s).toBitVec = a.toBitVec <<< k := by
  show a.toBitVec <<< (s.toBitVec.smod 64).toNat = _
  rw [hs]
theorem L_shr (a s : Int64) (k : Nat) (hs : (s.toBitVec.smod 64).toNat = k) : (a >>> s).toBitVec = a.toBitVec.sshiftRight k := by
  show a.toBitVec.sshiftRight (s.toBitVec.smod 64).toNat = _
  rw [hs]
theorem bv17 (b : BitVec 64) : ((b <<< 47).sshiftRight 47) <<< 18 = ((b <<< 18) <<< 29).sshiftRight 29 := by
  apply BitVec.eq_of_getLsbD_eq
  intro i hi
  simp only [BitVec.getLsbD_shiftLeft, BitVec.getLsbD_sshiftRight, BitVec.msb_eq_getLsbD_last]
  by_cases h1 : i < 18
  · have h2 : i < 64 := by omega
    have h3 : 29 + i < 64 := by omega
    have h4 : ¬ 64 ≤ i := by omega
    have h5 : ¬ (29 + i < 29) := by omega
    have h6 : 29 + i - 29 = i := by omega
    simp [h1, h2, h3, h4, h6]
  · by_cases h7 : i < 35
    · have h3 : 29 + i < 64 := by omega
      have h4 : ¬ 64 ≤ i := by omega
      have h6 : 29 + i - 29 = i := by omega
      have h8 : 47 + (i - 18) < 64 := by omega
      have h9 : ¬ 64 ≤ i - 18 := by omega
      have h10 : 47 + (i - 18) - 47 = i - 18 := by omega
      have h11 : ¬ 47 + (i - 18) < 47 := by omega
      have h12 : ¬ 29 + i < 29 := by omega
      simp [h1, hi, h3, h4, h6, h8, h9, h10, h11, h12]
    · have h3 : ¬ 29 + i < 64 := by omega
      have h4 : ¬ 64 ≤ i := by omega
      have h8 : ¬ 47 + (i - 18) < 64 := by omega
      have h9 : ¬ 64 ≤ i - 18 := by omega
      simp [h1, hi, h3, h4, h8, h9]
theorem sg17 (x : Int32) : sgN x.toInt64 17 <<< ((18 : Int32).toInt64 &&& 63) = sg (x.toInt64 <<< ((18 : Int32).toInt64 &&& 63)) := by
  unfold sgN sg
  rw [show (64 : Int32) - 17 = 47 by decide]
  apply Int64.toBitVec_inj.mp
  rw [L_shl _ _ 18 (by decide), L_shr _ _ 47 (by decide), L_shl _ _ 47 (by decide), L_shr _ _ 29 (by decide), L_shl _ _ 29 (by decide), L_shl _ _ 18 (by decide)]
  exact bv17 _
set_option maxHeartbeats 4000000 in
set_option maxRecDepth 100000 in
theorem kX10_in (l : Launch) (Z : SZ) (v : Int64) (a : Int64) (b : Int64)  : PI l yX10_in wsX10_in 0 0 Z [.long v, .long a, .long b] (bI (inB v a b)) := by
  intro D ty sz
  refine met_g (QI D (fun r (_ : Unit) => r = bI (inB v a b)) (fun _ => [])) cX10_in 6 (some .boolean) (by decide) rfl (Nat.le_of_ble_eq_true rfl) ?_
  intro p e s m below meth c A ls hx hb hr hts hown hlocks hml hin hA hP hK hD hE hS hl hsz
  clear hsz
  have hl : lv_has ls 6 [(0, .long v), (2, .long a), (4, .long b)] := hl
  refine lv_lload_n hx hb dX10_in_0 rfl (lv_at hl 0 rfl) ?_
  refine lv_lload_n hx hb dX10_in_1 rfl (lv_at hl 1 rfl) ?_
  refine W.lcmp hx hb dX10_in_2 ?_
  refine lv_if_lt (tgt := 17) hx hb dX10_in_3 (by decide) (fun c_3 => ?_) (fun c_3 => ?_)
  · skip
    have c_3 : v < a := (lg_cmp_lt _ _).mp c_3
    refine lv_iconst (v := 0) hx hb dX10_in_17 (by decide) ?_
    exact ret_z hx hb hr rfl hlocks () (by first | exact inB_y c_3 c_10 | exact inB_n1 c_3 | exact inB_n2 c_10) (fun k q h => by simp at h) hD hS dX10_in_18
  · skip
    have c_3 : ¬ v < a := fun z => c_3 ((lg_cmp_lt _ _).mpr z)
    refine lv_lload_n hx hb dX10_in_6 rfl (lv_at hl 0 rfl) ?_
    refine lv_lload hx hb dX10_in_7 (lv_at hl 2 rfl) ?_
    refine W.lcmp hx hb dX10_in_9 ?_
    refine lv_if_gt (tgt := 17) hx hb dX10_in_10 (by decide) (fun c_10 => ?_) (fun c_10 => ?_)
    · skip
      have c_10 : b < v := (lg_cmp_gt _ _).mp c_10
      refine lv_iconst (v := 0) hx hb dX10_in_17 (by decide) ?_
      exact ret_z hx hb hr rfl hlocks () (by first | exact inB_y c_3 c_10 | exact inB_n1 c_3 | exact inB_n2 c_10) (fun k q h => by simp at h) hD hS dX10_in_18
    · skip
      have c_10 : ¬ b < v := fun z => c_10 ((lg_cmp_gt _ _).mpr z)
      refine lv_iconst (v := 1) hx hb dX10_in_13 (by decide) ?_
      refine lv_goto (tgt := 18) hx hb dX10_in_14 (by decide) ?_
      exact ret_z hx hb hr rfl hlocks () (by first | exact inB_y c_3 c_10 | exact inB_n1 c_3 | exact inB_n2 c_10) (fun k q h => by simp at h) hD hS dX10_in_18

set_option maxHeartbeats 4000000 in
set_option maxRecDepth 100000 in
theorem kX10_isAddress (l : Launch) (Z : SZ) (n : Int32)  : PI l yX10_isAddress wsX10_isAddress 1 25 Z [.int n] (bI (ad n)) := by
  intro D ty sz
  refine met_g (QI D (fun r (_ : Unit) => r = bI (ad n)) (fun _ => [])) cX10_isAddress 1 (some .boolean) (by decide) rfl (Nat.le_of_ble_eq_true rfl) ?_
  intro p e s m below meth c A ls hx hb hr hts hown hlocks hml hin hA hP hK hD hE hS hl hsz
  clear hsz
  have hl : lv_has ls 1 [(0, .int n)] := hl
  refine lv_iload_n hx hb dX10_isAddress_0 rfl (lv_at hl 0 rfl) ?_
  refine lv_i2l hx hb dX10_isAddress_1 rfl ?_
  refine lv_lconst (v := 0) hx hb dX10_isAddress_2 (by decide) ?_
  refine lv_ldc2 hx hb hown (hts (.constantLong RX10 100 (255)) (by decide +kernel)) dX10_isAddress_3 ?_
  refine pS_i (As := [.long n.toInt64, .long 0, .long 255]) (rest := []) ⟨hx, hb, hml, hown, hts⟩ (kX10_in l Z n.toInt64 0 255 ) (va_cwS 3 hts gX10_isAddress_X10_in rfl rfl rfl (by decide +kernel) ⟨Nat.le_of_ble_eq_true rfl, Nat.le_of_ble_eq_true rfl⟩) hK hE hP hD hS hA hl.1 rfl rfl (Nat.le_of_ble_eq_true rfl) dX10_isAddress_6 ⟨Nat.le_of_ble_eq_true rfl, Nat.le_of_ble_eq_true rfl⟩ (fun H locs hP hS => ?_)
  refine set_i (y := bI (ad n)) (congrArg bI (in_ad n)) ?_
  exact ret_z hx hb hr (bI_nar _) hlocks () rfl (fun k q h => by simp at h) hD hS dX10_isAddress_9

set_option maxHeartbeats 4000000 in
set_option maxRecDepth 100000 in
theorem kX10_signed (l : Launch) (Z : SZ) (x : Int64) (n : Int32)  : PL l yX10_signed wsX10_signed 0 0 Z [.long x, .int n] (sgN x n) := by
  intro D ty sz
  refine met_g (QL D (fun r (_ : Unit) => r = sgN x n) (fun _ => [])) cX10_signed 3 (some .long) (by decide) rfl (Nat.le_of_ble_eq_true rfl) ?_
  intro p e s m below meth c A ls hx hb hr hts hown hlocks hml hin hA hP hK hD hE hS hl hsz
  clear hsz
  have hl : lv_has ls 3 [(0, .long x), (2, .int n)] := hl
  refine lv_lload_n hx hb dX10_signed_0 rfl (lv_at hl 0 rfl) ?_
  refine lv_bipush (v := 64) hx hb dX10_signed_1 (by decide) ?_
  refine lv_iload_n hx hb dX10_signed_3 rfl (lv_at hl 1 rfl) ?_
  refine lv_isub hx hb dX10_signed_4 ?_
  refine lv_lshl hx hb dX10_signed_5 rfl ?_
  refine lv_bipush (v := 64) hx hb dX10_signed_6 (by decide) ?_
  refine lv_iload_n hx hb dX10_signed_8 rfl (lv_at hl 1 rfl) ?_
  refine lv_isub hx hb dX10_signed_9 ?_
  refine lv_lshr hx hb dX10_signed_10 rfl ?_
  exact ret_l hx hb hr hlocks () rfl (fun k q h => by simp at h) hD hS dX10_signed_11

set_option maxHeartbeats 4000000 in
set_option maxRecDepth 100000 in
theorem kX10_longBits (l : Launch) (D : va_G) (Z : SZ) (cB cI cJ cZ : ClassId) (ksz : Nat) (m0 : Nat) (x0 : Nat) (x1 : Nat) (x8 : Nat) (x10 : Nat) (x13 : Nat) (x14 : Nat) (x21 : Nat) (x22 : Nat) (x23 : Nat) (x24 : Nat) (x25 : Nat) (x26 : Nat) (x27 : Nat) (x28 : Nat) (x29 : Nat) (x30 : Nat) (x31 : Nat) (x32 : Nat) (x33 : Nat) (x35 : Nat) (x37 : Nat) (x38 : Nat) (x45 : Nat) (x47 : Nat) (x50 : Nat) (hi : Int64) (lo : Int64) (mult : Int64) (nx : Nat) (tz : Nat) (ta : Nat) (xz : Nat) (fg : Bool) (la : Int32) (mz : Nat) (re : Int32) (en : Int32) (pv : Int32) (ts : Nat) (nw : Nat) (hr0 : Bool) (hk : Bool) (hi2 : Int64) (lo2 : Int64) (mult2 : Int64) (nx2 : Nat) (tz2 : Nat) (ta2 : Nat) (xz2 : Nat) (fg2 : Bool) (la2 : Int32) (w : Nat → Int32) (mid : Nat → Int32) (j : Nat) (hj : j < 256) : Met l yX10_longBits wsX10_longBits { frames := 0, cells := 0, slots := 0, locals := 0 } (PR D Z [(cB, .byte), (cI, .int), (cJ, .long), (cZ, .boolean)] [.ref m0, .int (nI j)] [(m0, .inr (10, [.ref x0, .ref x1, .long hi, .long lo, .long mult, .int (nI nx), .int (nI tz), .int (nI ta), .ref x8, .int (nI xz), .ref x10, .int (bI fg), .int la, .ref x13, .ref x14, .int (nI mz), .int re, .int en, .int pv, .int (nI ts), .int (nI nw), .ref x21, .ref x22, .ref x23, .ref x24, .ref x25, .ref x26, .ref x27, .ref x28, .ref x29, .ref x30, .ref x31, .ref x32, .ref x33, .int (bI hr0), .ref x35, .int (bI hk), .ref x37, .ref x38, .long hi2, .long lo2, .long mult2, .int (nI nx2), .int (nI tz2), .int (nI ta2), .ref x45, .int (nI xz2), .ref x47, .int (bI fg2), .int la2, .ref x50])), (x0, .inl (cI, 256, .inl w)), (x1, .inl (cI, 128, .inl mid))] ksz) (QL D (fun (r : Int64) (_ : Unit) => r = (lwd w mid j)) (fun (_ : Unit) => [(m0, .inr (10, [.ref x0, .ref x1, .long hi, .long lo, .long mult, .int (nI nx), .int (nI tz), .int (nI ta), .ref x8, .int (nI xz), .ref x10, .int (bI fg), .int la, .ref x13, .ref x14, .int (nI mz), .int re, .int en, .int pv, .int (nI ts), .int (nI nw), .ref x21, .ref x22, .ref x23, .ref x24, .ref x25, .ref x26, .ref x27, .ref x28, .ref x29, .ref x30, .ref x31, .ref x32, .ref x33, .int (bI hr0), .ref x35, .int (bI hk), .ref x37, .ref x38, .long hi2, .long lo2, .long mult2, .int (nI nx2), .int (nI tz2), .int (nI ta2), .ref x45, .int (nI xz2), .ref x47, .int (bI fg2), .int la2, .ref x50])), (x0, .inl (cI, 256, .inl w)), (x1, .inl (cI, 128, .inl mid))]) (va_A [(m0, .inr (10, [.ref x0, .ref x1, .long hi, .long lo, .long mult, .int (nI nx), .int (nI tz), .int (nI ta), .ref x8, .int (nI xz), .ref x10, .int (bI fg), .int la, .ref x13, .ref x14, .int (nI mz), .int re, .int en, .int pv, .int (nI ts), .int (nI nw), .ref x21, .ref x22, .ref x23, .ref x24, .ref x25, .ref x26, .ref x27, .ref x28, .ref x29, .ref x30, .ref x31, .ref x32, .ref x33, .int (bI hr0), .ref x35, .int (bI hk), .ref x37, .ref x38, .long hi2, .long lo2, .long mult2, .int (nI nx2), .int (nI tz2), .int (nI ta2), .ref x45, .int (nI xz2), .ref x47, .int (bI fg2), .int la2, .ref x50])), (x0, .inl (cI, 256, .inl w)), (x1, .inl (cI, 128, .inl mid))] ksz)) 0 0 (va_A [(m0, .inr (10, [.ref x0, .ref x1, .long hi, .long lo, .long mult, .int (nI nx), .int (nI tz), .int (nI ta), .ref x8, .int (nI xz), .ref x10, .int (bI fg), .int la, .ref x13, .ref x14, .int (nI mz), .int re, .int en, .int pv, .int (nI ts), .int (nI nw), .ref x21, .ref x22, .ref x23, .ref x24, .ref x25, .ref x26, .ref x27, .ref x28, .ref x29, .ref x30, .ref x31, .ref x32, .ref x33, .int (bI hr0), .ref x35, .int (bI hk), .ref x37, .ref x38, .long hi2, .long lo2, .long mult2, .int (nI nx2), .int (nI tz2), .int (nI ta2), .ref x45, .int (nI xz2), .ref x47, .int (bI fg2), .int la2, .ref x50])), (x0, .inl (cI, 256, .inl w)), (x1, .inl (cI, 128, .inl mid))] ksz) := by
  refine met_g (l := l) (y := yX10_longBits) (wsy := wsX10_longBits) (av := [.ref m0, .int (nI j)]) (cells := [(m0, .inr (10, [.ref x0, .ref x1, .long hi, .long lo, .long mult, .int (nI nx), .int (nI tz), .int (nI ta), .ref x8, .int (nI xz), .ref x10, .int (bI fg), .int la, .ref x13, .ref x14, .int (nI mz), .int re, .int en, .int pv, .int (nI ts), .int (nI nw), .ref x21, .ref x22, .ref x23, .ref x24, .ref x25, .ref x26, .ref x27, .ref x28, .ref x29, .ref x30, .ref x31, .ref x32, .ref x33, .int (bI hr0), .ref x35, .int (bI hk), .ref x37, .ref x38, .long hi2, .long lo2, .long mult2, .int (nI nx2), .int (nI tz2), .int (nI ta2), .ref x45, .int (nI xz2), .ref x47, .int (bI fg2), .int la2, .ref x50])), (x0, .inl (cI, 256, .inl w)), (x1, .inl (cI, 128, .inl mid))]) (sz := ksz) (QL D (fun (r : Int64) (_ : Unit) => r = (lwd w mid j)) (fun (_ : Unit) => [(m0, .inr (10, [.ref x0, .ref x1, .long hi, .long lo, .long mult, .int (nI nx), .int (nI tz), .int (nI ta), .ref x8, .int (nI xz), .ref x10, .int (bI fg), .int la, .ref x13, .ref x14, .int (nI mz), .int re, .int en, .int pv, .int (nI ts), .int (nI nw), .ref x21, .ref x22, .ref x23, .ref x24, .ref x25, .ref x26, .ref x27, .ref x28, .ref x29, .ref x30, .ref x31, .ref x32, .ref x33, .int (bI hr0), .ref x35, .int (bI hk), .ref x37, .ref x38, .long hi2, .long lo2, .long mult2, .int (nI nx2), .int (nI tz2), .int (nI ta2), .ref x45, .int (nI xz2), .ref x47, .int (bI fg2), .int la2, .ref x50])), (x0, .inl (cI, 256, .inl w)), (x1, .inl (cI, 128, .inl mid))])) cX10_longBits 3 (some .long) (by decide) rfl (Nat.le_of_ble_eq_true rfl) ?_
  intro p e s m below meth c A ls hx hb hr hts hown hlocks hml hin hA hP hK hD hE hS hl hsz
  clear hsz
  have hl : lv_has ls 3 [(0, .ref m0), (1, .int (nI j))] := hl
  refine lv_iload_n hx hb dX10_longBits_0 rfl (lv_at hl 1 rfl) ?_
  refine lv_sipush (v := 254) hx hb dX10_longBits_1 (by decide) ?_
  refine lv_iand hx hb dX10_longBits_4 ?_
  refine set_i (y := nI (j / 2 * 2)) (e_a254 j hj) ?_
  refine lv_istore_n (lv' := [(2, .int (nI (j / 2 * 2))), (0, .ref m0), (1, .int (nI j))]) hx hb dX10_longBits_5 rfl hl (by decide) rfl (fun ls hl => ?_)
  refine lv_aload_n hx hb dX10_longBits_6 rfl (lv_at hl 1 rfl) ?_
  refine va_get (D := D) (ci := 10) (v := .ref x0) (C := RX10) (T := TX10) (N := 51) hx hb hts (by decide +kernel) hown hK hP 0 rfl rfl 0 (by decide) (hts (.fieldLink RX10 7 "TapeEngineModel" "word" "[I") (by decide +kernel)) (fun _ h9 => h9) rfl dX10_longBits_7 ?_
  refine lv_iload_n hx hb dX10_longBits_10 rfl (lv_at hl 0 rfl) ?_
  refine lv_iconst (v := 1) hx hb dX10_longBits_11 (by decide) ?_
  refine lv_iadd hx hb dX10_longBits_12 ?_
  refine set_i (y := nI (j / 2 * 2 + 1)) (nI_1 _) ?_
  refine xs_iald (k := (j / 2 * 2 + 1)) hx hb hK hP 1 1 rfl rfl (by first | assumption | omega) (by decide) dX10_longBits_13 ?_
  refine lv_i2l hx hb dX10_longBits_14 rfl ?_
  refine lv_bipush (v := 18) hx hb dX10_longBits_15 (by decide) ?_
  refine lv_lshl hx hb dX10_longBits_17 rfl ?_
  refine lv_aload_n hx hb dX10_longBits_18 rfl (lv_at hl 1 rfl) ?_
  refine va_get (D := D) (ci := 10) (v := .ref x1) (C := RX10) (T := TX10) (N := 51) hx hb hts (by decide +kernel) hown hK hP 0 rfl rfl 1 (by decide) (hts (.fieldLink RX10 13 "TapeEngineModel" "middle" "[I") (by decide +kernel)) (fun _ h9 => h9) rfl dX10_longBits_19 ?_
  refine lv_iload_n hx hb dX10_longBits_22 rfl (lv_at hl 0 rfl) ?_
  refine lv_iconst (v := 2) hx hb dX10_longBits_23 (by decide) ?_
  refine lv_idiv hx hb dX10_longBits_24 (by decide) ?_
  refine set_i (y := nI (j / 2)) (e_half2 hj) ?_
  refine xs_iald (k := (j / 2)) hx hb hK hP 2 1 rfl rfl (by first | assumption | omega) (by decide) dX10_longBits_25 ?_
  refine lv_i2l hx hb dX10_longBits_26 rfl ?_
  refine lv_bipush (v := 17) hx hb dX10_longBits_27 (by decide) ?_
  refine lv_lshl hx hb dX10_longBits_29 rfl ?_
  refine lv_lor hx hb dX10_longBits_30 ?_
  refine lv_aload_n hx hb dX10_longBits_31 rfl (lv_at hl 1 rfl) ?_
  refine va_get (D := D) (ci := 10) (v := .ref x0) (C := RX10) (T := TX10) (N := 51) hx hb hts (by decide +kernel) hown hK hP 0 rfl rfl 0 (by decide) (hts (.fieldLink RX10 7 "TapeEngineModel" "word" "[I") (by decide +kernel)) (fun _ h9 => h9) rfl dX10_longBits_32 ?_
  refine lv_iload_n hx hb dX10_longBits_35 rfl (lv_at hl 0 rfl) ?_
  refine xs_iald (k := (j / 2 * 2)) hx hb hK hP 1 1 rfl rfl (by first | assumption | omega) (by decide) dX10_longBits_36 ?_
  refine lv_i2l hx hb dX10_longBits_37 rfl ?_
  refine lv_lor hx hb dX10_longBits_38 ?_
  exact ret_l hx hb hr hlocks () rfl (hP.sub [0, 1, 2] rfl) (hD.sub [0, 1, 2] (by decide) rfl) hS dX10_longBits_39

set_option maxHeartbeats 4000000 in
set_option maxRecDepth 100000 in
theorem kX10_layLong (l : Launch) (D : va_G) (Z : SZ) (cB cI cJ cZ : ClassId) (ksz : Nat) (m0 : Nat) (x0 : Nat) (x1 : Nat) (x8 : Nat) (x10 : Nat) (x13 : Nat) (x14 : Nat) (x21 : Nat) (x22 : Nat) (x23 : Nat) (x24 : Nat) (x25 : Nat) (x26 : Nat) (x27 : Nat) (x28 : Nat) (x29 : Nat) (x30 : Nat) (x31 : Nat) (x32 : Nat) (x33 : Nat) (x35 : Nat) (x37 : Nat) (x38 : Nat) (x45 : Nat) (x47 : Nat) (x50 : Nat) (hi : Int64) (lo : Int64) (mult : Int64) (nx : Nat) (tz : Nat) (ta : Nat) (xz : Nat) (fg : Bool) (la : Int32) (mz : Nat) (re : Int32) (en : Int32) (pv : Int32) (ts : Nat) (nw : Nat) (hr0 : Bool) (hk : Bool) (hi2 : Int64) (lo2 : Int64) (mult2 : Int64) (nx2 : Nat) (tz2 : Nat) (ta2 : Nat) (xz2 : Nat) (fg2 : Bool) (la2 : Int32) (w : Nat → Int32) (mid : Nat → Int32) (j : Nat) (x : Int64) (hj : j < 256) : Met l yX10_layLong wsX10_layLong { frames := 0, cells := 0, slots := 0, locals := 0 } (PR D Z [(cB, .byte), (cI, .int), (cJ, .long), (cZ, .boolean)] [.ref m0, .int (nI j), .long x] [(m0, .inr (10, [.ref x0, .ref x1, .long hi, .long lo, .long mult, .int (nI nx), .int (nI tz), .int (nI ta), .ref x8, .int (nI xz), .ref x10, .int (bI fg), .int la, .ref x13, .ref x14, .int (nI mz), .int re, .int en, .int pv, .int (nI ts), .int (nI nw), .ref x21, .ref x22, .ref x23, .ref x24, .ref x25, .ref x26, .ref x27, .ref x28, .ref x29, .ref x30, .ref x31, .ref x32, .ref x33, .int (bI hr0), .ref x35, .int (bI hk), .ref x37, .ref x38, .long hi2, .long lo2, .long mult2, .int (nI nx2), .int (nI tz2), .int (nI ta2), .ref x45, .int (nI xz2), .ref x47, .int (bI fg2), .int la2, .ref x50])), (x0, .inl (cI, 256, .inl w)), (x1, .inl (cI, 128, .inl mid))] ksz) (QV D (fun (u : (Nat → Int32) × (Nat → Int32)) => u.1 = (llW w j x) ∧ u.2 = (llM mid j x)) (fun (u : (Nat → Int32) × (Nat → Int32)) => [(m0, .inr (10, [.ref x0, .ref x1, .long hi, .long lo, .long mult, .int (nI nx), .int (nI tz), .int (nI ta), .ref x8, .int (nI xz), .ref x10, .int (bI fg), .int la, .ref x13, .ref x14, .int (nI mz), .int re, .int en, .int pv, .int (nI ts), .int (nI nw), .ref x21, .ref x22, .ref x23, .ref x24, .ref x25, .ref x26, .ref x27, .ref x28, .ref x29, .ref x30, .ref x31, .ref x32, .ref x33, .int (bI hr0), .ref x35, .int (bI hk), .ref x37, .ref x38, .long hi2, .long lo2, .long mult2, .int (nI nx2), .int (nI tz2), .int (nI ta2), .ref x45, .int (nI xz2), .ref x47, .int (bI fg2), .int la2, .ref x50])), (x0, .inl (cI, 256, .inl u.1)), (x1, .inl (cI, 128, .inl u.2))]) (va_A [(m0, .inr (10, [.ref x0, .ref x1, .long hi, .long lo, .long mult, .int (nI nx), .int (nI tz), .int (nI ta), .ref x8, .int (nI xz), .ref x10, .int (bI fg), .int la, .ref x13, .ref x14, .int (nI mz), .int re, .int en, .int pv, .int (nI ts), .int (nI nw), .ref x21, .ref x22, .ref x23, .ref x24, .ref x25, .ref x26, .ref x27, .ref x28, .ref x29, .ref x30, .ref x31, .ref x32, .ref x33, .int (bI hr0), .ref x35, .int (bI hk), .ref x37, .ref x38, .long hi2, .long lo2, .long mult2, .int (nI nx2), .int (nI tz2), .int (nI ta2), .ref x45, .int (nI xz2), .ref x47, .int (bI fg2), .int la2, .ref x50])), (x0, .inl (cI, 256, .inl w)), (x1, .inl (cI, 128, .inl mid))] ksz)) 0 0 (va_A [(m0, .inr (10, [.ref x0, .ref x1, .long hi, .long lo, .long mult, .int (nI nx), .int (nI tz), .int (nI ta), .ref x8, .int (nI xz), .ref x10, .int (bI fg), .int la, .ref x13, .ref x14, .int (nI mz), .int re, .int en, .int pv, .int (nI ts), .int (nI nw), .ref x21, .ref x22, .ref x23, .ref x24, .ref x25, .ref x26, .ref x27, .ref x28, .ref x29, .ref x30, .ref x31, .ref x32, .ref x33, .int (bI hr0), .ref x35, .int (bI hk), .ref x37, .ref x38, .long hi2, .long lo2, .long mult2, .int (nI nx2), .int (nI tz2), .int (nI ta2), .ref x45, .int (nI xz2), .ref x47, .int (bI fg2), .int la2, .ref x50])), (x0, .inl (cI, 256, .inl w)), (x1, .inl (cI, 128, .inl mid))] ksz) := by
  refine met_g (l := l) (y := yX10_layLong) (wsy := wsX10_layLong) (av := [.ref m0, .int (nI j), .long x]) (cells := [(m0, .inr (10, [.ref x0, .ref x1, .long hi, .long lo, .long mult, .int (nI nx), .int (nI tz), .int (nI ta), .ref x8, .int (nI xz), .ref x10, .int (bI fg), .int la, .ref x13, .ref x14, .int (nI mz), .int re, .int en, .int pv, .int (nI ts), .int (nI nw), .ref x21, .ref x22, .ref x23, .ref x24, .ref x25, .ref x26, .ref x27, .ref x28, .ref x29, .ref x30, .ref x31, .ref x32, .ref x33, .int (bI hr0), .ref x35, .int (bI hk), .ref x37, .ref x38, .long hi2, .long lo2, .long mult2, .int (nI nx2), .int (nI tz2), .int (nI ta2), .ref x45, .int (nI xz2), .ref x47, .int (bI fg2), .int la2, .ref x50])), (x0, .inl (cI, 256, .inl w)), (x1, .inl (cI, 128, .inl mid))]) (sz := ksz) (QV D (fun (u : (Nat → Int32) × (Nat → Int32)) => u.1 = (llW w j x) ∧ u.2 = (llM mid j x)) (fun (u : (Nat → Int32) × (Nat → Int32)) => [(m0, .inr (10, [.ref x0, .ref x1, .long hi, .long lo, .long mult, .int (nI nx), .int (nI tz), .int (nI ta), .ref x8, .int (nI xz), .ref x10, .int (bI fg), .int la, .ref x13, .ref x14, .int (nI mz), .int re, .int en, .int pv, .int (nI ts), .int (nI nw), .ref x21, .ref x22, .ref x23, .ref x24, .ref x25, .ref x26, .ref x27, .ref x28, .ref x29, .ref x30, .ref x31, .ref x32, .ref x33, .int (bI hr0), .ref x35, .int (bI hk), .ref x37, .ref x38, .long hi2, .long lo2, .long mult2, .int (nI nx2), .int (nI tz2), .int (nI ta2), .ref x45, .int (nI xz2), .ref x47, .int (bI fg2), .int la2, .ref x50])), (x0, .inl (cI, 256, .inl u.1)), (x1, .inl (cI, 128, .inl u.2))])) cX10_layLong 5 none (by decide) rfl (Nat.le_of_ble_eq_true rfl) ?_
  intro p e s m below meth c A ls hx hb hr hts hown hlocks hml hin hA hP hK hD hE hS hl hsz
  clear hsz
  have hl : lv_has ls 5 [(0, .ref m0), (1, .int (nI j)), (2, .long x)] := hl
  refine lv_iload_n hx hb dX10_layLong_0 rfl (lv_at hl 1 rfl) ?_
  refine lv_sipush (v := 254) hx hb dX10_layLong_1 (by decide) ?_
  refine lv_iand hx hb dX10_layLong_4 ?_
  refine set_i (y := nI (j / 2 * 2)) (e_a254 j hj) ?_
  refine lv_istore (lv' := [(4, .int (nI (j / 2 * 2))), (0, .ref m0), (1, .int (nI j)), (2, .long x)]) hx hb dX10_layLong_5 hl (by decide) rfl (fun ls hl => ?_)
  refine lv_aload_n hx hb dX10_layLong_7 rfl (lv_at hl 1 rfl) ?_
  refine va_get (D := D) (ci := 10) (v := .ref x0) (C := RX10) (T := TX10) (N := 51) hx hb hts (by decide +kernel) hown hK hP 0 rfl rfl 0 (by decide) (hts (.fieldLink RX10 7 "TapeEngineModel" "word" "[I") (by decide +kernel)) (fun _ h9 => h9) rfl dX10_layLong_8 ?_
  refine lv_iload hx hb dX10_layLong_11 (lv_at hl 0 rfl) ?_
  refine lv_iconst (v := 1) hx hb dX10_layLong_13 (by decide) ?_
  refine lv_iadd hx hb dX10_layLong_14 ?_
  refine set_i (y := nI (j / 2 * 2 + 1)) (nI_1 _) ?_
  refine lv_lload_n hx hb dX10_layLong_15 rfl (lv_at hl 3 rfl) ?_
  refine lv_bipush (v := 18) hx hb dX10_layLong_16 (by decide) ?_
  refine lv_lshr hx hb dX10_layLong_18 rfl ?_
  refine lv_ldc2 hx hb hown (hts (.constantLong RX10 106 (131071)) (by decide +kernel)) dX10_layLong_19 ?_
  refine lv_land hx hb dX10_layLong_22 ?_
  refine lv_l2i hx hb dX10_layLong_23 rfl ?_
  refine set_i (y := (x >>> ((18 : Int32).toInt64 &&& 63)).toInt32 &&& 131071) (l2i_17 _) ?_
  refine xs_iast (k := (j / 2 * 2 + 1)) hx hb hK hP hD hS 1 1 rfl rfl (by first | assumption | omega) (by decide) dX10_layLong_24 (fun H locs hP hD hS => ?_)
  have hP : va_P D vwCl [(m0, .inr (10, [.ref x0, .ref x1, .long hi, .long lo, .long mult, .int (nI nx), .int (nI tz), .int (nI ta), .ref x8, .int (nI xz), .ref x10, .int (bI fg), .int la, .ref x13, .ref x14, .int (nI mz), .int re, .int en, .int pv, .int (nI ts), .int (nI nw), .ref x21, .ref x22, .ref x23, .ref x24, .ref x25, .ref x26, .ref x27, .ref x28, .ref x29, .ref x30, .ref x31, .ref x32, .ref x33, .int (bI hr0), .ref x35, .int (bI hk), .ref x37, .ref x38, .long hi2, .long lo2, .long mult2, .int (nI nx2), .int (nI tz2), .int (nI ta2), .ref x45, .int (nI xz2), .ref x47, .int (bI fg2), .int la2, .ref x50])), (x0, .inl (cI, 256, .inl (upd w (j / 2 * 2 + 1) ((x >>> ((18 : Int32).toInt64 &&& 63)).toInt32 &&& 131071)))), (x1, .inl (cI, 128, .inl mid))] H := hP
  have hD : va_D A [(m0, .inr (10, [.ref x0, .ref x1, .long hi, .long lo, .long mult, .int (nI nx), .int (nI tz), .int (nI ta), .ref x8, .int (nI xz), .ref x10, .int (bI fg), .int la, .ref x13, .ref x14, .int (nI mz), .int re, .int en, .int pv, .int (nI ts), .int (nI nw), .ref x21, .ref x22, .ref x23, .ref x24, .ref x25, .ref x26, .ref x27, .ref x28, .ref x29, .ref x30, .ref x31, .ref x32, .ref x33, .int (bI hr0), .ref x35, .int (bI hk), .ref x37, .ref x38, .long hi2, .long lo2, .long mult2, .int (nI nx2), .int (nI tz2), .int (nI ta2), .ref x45, .int (nI xz2), .ref x47, .int (bI fg2), .int la2, .ref x50])), (x0, .inl (cI, 256, .inl (upd w (j / 2 * 2 + 1) ((x >>> ((18 : Int32).toInt64 &&& 63)).toInt32 &&& 131071)))), (x1, .inl (cI, 128, .inl mid))] := hD
  refine lv_aload_n hx hb dX10_layLong_25 rfl (lv_at hl 1 rfl) ?_
  refine va_get (D := D) (ci := 10) (v := .ref x1) (C := RX10) (T := TX10) (N := 51) hx hb hts (by decide +kernel) hown hK hP 0 rfl rfl 1 (by decide) (hts (.fieldLink RX10 13 "TapeEngineModel" "middle" "[I") (by decide +kernel)) (fun _ h9 => h9) rfl dX10_layLong_26 ?_
  refine lv_iload hx hb dX10_layLong_29 (lv_at hl 0 rfl) ?_
  refine lv_iconst (v := 2) hx hb dX10_layLong_31 (by decide) ?_
  refine lv_idiv hx hb dX10_layLong_32 (by decide) ?_
  refine set_i (y := nI (j / 2)) (e_half2 hj) ?_
  refine lv_lload_n hx hb dX10_layLong_33 rfl (lv_at hl 3 rfl) ?_
  refine lv_bipush (v := 17) hx hb dX10_layLong_34 (by decide) ?_
  refine lv_lshr hx hb dX10_layLong_36 rfl ?_
  refine lv_lconst (v := 1) hx hb dX10_layLong_37 (by decide) ?_
  refine lv_land hx hb dX10_layLong_38 ?_
  refine lv_l2i hx hb dX10_layLong_39 rfl ?_
  refine set_i (y := (x >>> ((17 : Int32).toInt64 &&& 63)).toInt32 &&& 1) (l2i_1 _) ?_
  refine xs_iast (k := (j / 2)) hx hb hK hP hD hS 2 1 rfl rfl (by first | assumption | omega) (by decide) dX10_layLong_40 (fun H locs hP hD hS => ?_)
  have hP : va_P D vwCl [(m0, .inr (10, [.ref x0, .ref x1, .long hi, .long lo, .long mult, .int (nI nx), .int (nI tz), .int (nI ta), .ref x8, .int (nI xz), .ref x10, .int (bI fg), .int la, .ref x13, .ref x14, .int (nI mz), .int re, .int en, .int pv, .int (nI ts), .int (nI nw), .ref x21, .ref x22, .ref x23, .ref x24, .ref x25, .ref x26, .ref x27, .ref x28, .ref x29, .ref x30, .ref x31, .ref x32, .ref x33, .int (bI hr0), .ref x35, .int (bI hk), .ref x37, .ref x38, .long hi2, .long lo2, .long mult2, .int (nI nx2), .int (nI tz2), .int (nI ta2), .ref x45, .int (nI xz2), .ref x47, .int (bI fg2), .int la2, .ref x50])), (x0, .inl (cI, 256, .inl (upd w (j / 2 * 2 + 1) ((x >>> ((18 : Int32).toInt64 &&& 63)).toInt32 &&& 131071)))), (x1, .inl (cI, 128, .inl (upd mid (j / 2) ((x >>> ((17 : Int32).toInt64 &&& 63)).toInt32 &&& 1))))] H := hP
  have hD : va_D A [(m0, .inr (10, [.ref x0, .ref x1, .long hi, .long lo, .long mult, .int (nI nx), .int (nI tz), .int (nI ta), .ref x8, .int (nI xz), .ref x10, .int (bI fg), .int la, .ref x13, .ref x14, .int (nI mz), .int re, .int en, .int pv, .int (nI ts), .int (nI nw), .ref x21, .ref x22, .ref x23, .ref x24, .ref x25, .ref x26, .ref x27, .ref x28, .ref x29, .ref x30, .ref x31, .ref x32, .ref x33, .int (bI hr0), .ref x35, .int (bI hk), .ref x37, .ref x38, .long hi2, .long lo2, .long mult2, .int (nI nx2), .int (nI tz2), .int (nI ta2), .ref x45, .int (nI xz2), .ref x47, .int (bI fg2), .int la2, .ref x50])), (x0, .inl (cI, 256, .inl (upd w (j / 2 * 2 + 1) ((x >>> ((18 : Int32).toInt64 &&& 63)).toInt32 &&& 131071)))), (x1, .inl (cI, 128, .inl (upd mid (j / 2) ((x >>> ((17 : Int32).toInt64 &&& 63)).toInt32 &&& 1))))] := hD
  refine lv_aload_n hx hb dX10_layLong_41 rfl (lv_at hl 1 rfl) ?_
  refine va_get (D := D) (ci := 10) (v := .ref x0) (C := RX10) (T := TX10) (N := 51) hx hb hts (by decide +kernel) hown hK hP 0 rfl rfl 0 (by decide) (hts (.fieldLink RX10 7 "TapeEngineModel" "word" "[I") (by decide +kernel)) (fun _ h9 => h9) rfl dX10_layLong_42 ?_
  refine lv_iload hx hb dX10_layLong_45 (lv_at hl 0 rfl) ?_
  refine lv_lload_n hx hb dX10_layLong_47 rfl (lv_at hl 3 rfl) ?_
  refine lv_ldc2 hx hb hown (hts (.constantLong RX10 106 (131071)) (by decide +kernel)) dX10_layLong_48 ?_
  refine lv_land hx hb dX10_layLong_51 ?_
  refine lv_l2i hx hb dX10_layLong_52 rfl ?_
  refine set_i (y := x.toInt32 &&& 131071) (l2i_17 _) ?_
  refine xs_iast (k := (j / 2 * 2)) hx hb hK hP hD hS 1 1 rfl rfl (by first | assumption | omega) (by decide) dX10_layLong_53 (fun H locs hP hD hS => ?_)
  have hP : va_P D vwCl [(m0, .inr (10, [.ref x0, .ref x1, .long hi, .long lo, .long mult, .int (nI nx), .int (nI tz), .int (nI ta), .ref x8, .int (nI xz), .ref x10, .int (bI fg), .int la, .ref x13, .ref x14, .int (nI mz), .int re, .int en, .int pv, .int (nI ts), .int (nI nw), .ref x21, .ref x22, .ref x23, .ref x24, .ref x25, .ref x26, .ref x27, .ref x28, .ref x29, .ref x30, .ref x31, .ref x32, .ref x33, .int (bI hr0), .ref x35, .int (bI hk), .ref x37, .ref x38, .long hi2, .long lo2, .long mult2, .int (nI nx2), .int (nI tz2), .int (nI ta2), .ref x45, .int (nI xz2), .ref x47, .int (bI fg2), .int la2, .ref x50])), (x0, .inl (cI, 256, .inl (upd (upd w (j / 2 * 2 + 1) ((x >>> ((18 : Int32).toInt64 &&& 63)).toInt32 &&& 131071)) (j / 2 * 2) (x.toInt32 &&& 131071)))), (x1, .inl (cI, 128, .inl (upd mid (j / 2) ((x >>> ((17 : Int32).toInt64 &&& 63)).toInt32 &&& 1))))] H := hP
  have hD : va_D A [(m0, .inr (10, [.ref x0, .ref x1, .long hi, .long lo, .long mult, .int (nI nx), .int (nI tz), .int (nI ta), .ref x8, .int (nI xz), .ref x10, .int (bI fg), .int la, .ref x13, .ref x14, .int (nI mz), .int re, .int en, .int pv, .int (nI ts), .int (nI nw), .ref x21, .ref x22, .ref x23, .ref x24, .ref x25, .ref x26, .ref x27, .ref x28, .ref x29, .ref x30, .ref x31, .ref x32, .ref x33, .int (bI hr0), .ref x35, .int (bI hk), .ref x37, .ref x38, .long hi2, .long lo2, .long mult2, .int (nI nx2), .int (nI tz2), .int (nI ta2), .ref x45, .int (nI xz2), .ref x47, .int (bI fg2), .int la2, .ref x50])), (x0, .inl (cI, 256, .inl (upd (upd w (j / 2 * 2 + 1) ((x >>> ((18 : Int32).toInt64 &&& 63)).toInt32 &&& 131071)) (j / 2 * 2) (x.toInt32 &&& 131071)))), (x1, .inl (cI, 128, .inl (upd mid (j / 2) ((x >>> ((17 : Int32).toInt64 &&& 63)).toInt32 &&& 1))))] := hD
  exact ret_v hx hb hr hlocks ((upd (upd w (j / 2 * 2 + 1) ((x >>> ((18 : Int32).toInt64 &&& 63)).toInt32 &&& 131071)) (j / 2 * 2) (x.toInt32 &&& 131071)), (upd mid (j / 2) ((x >>> ((17 : Int32).toInt64 &&& 63)).toInt32 &&& 1))) ⟨rfl, rfl⟩ (hP.sub [0, 1, 2] rfl) (hD.sub [0, 1, 2] (by decide) rfl) hS dX10_layLong_54

set_option maxHeartbeats 4000000 in
set_option maxRecDepth 100000 in
theorem kX10_isFunction (l : Launch) (Z : SZ) (f : Nat) (hf : f < 32) : PI l yX10_isFunction wsX10_isFunction 1 25 Z [.int (nI f)] (bI (lgl f)) := by
  intro D ty sz
  refine met_g (QI D (fun r (_ : Unit) => r = bI (lgl f)) (fun _ => [])) cX10_isFunction 1 (some .boolean) (by decide) rfl (Nat.le_of_ble_eq_true rfl) ?_
  intro p e s m below meth c A ls hx hb hr hts hown hlocks hml hin hA hP hK hD hE hS hl hsz
  clear hsz
  have hl : lv_has ls 1 [(0, .int (nI f))] := hl
  refine lv_iload_n hx hb dX10_isFunction_0 rfl (lv_at hl 0 rfl) ?_
  refine lv_i2l hx hb dX10_isFunction_1 rfl ?_
  refine lv_ldc2 hx hb hown (hts (.constantLong RX10 166 (3)) (by decide +kernel)) dX10_isFunction_2 ?_
  refine lv_ldc2 hx hb hown (hts (.constantLong RX10 168 (9)) (by decide +kernel)) dX10_isFunction_5 ?_
  refine pS_i (As := [.long ((nI f).toInt64), .long 3, .long 9]) (rest := []) ⟨hx, hb, hml, hown, hts⟩ (kX10_in l Z ((nI f).toInt64) 3 9 ) (va_cwS 3 hts gX10_isFunction_X10_in rfl rfl rfl (by decide +kernel) ⟨Nat.le_of_ble_eq_true rfl, Nat.le_of_ble_eq_true rfl⟩) hK hE hP hD hS hA hl.1 rfl rfl (Nat.le_of_ble_eq_true rfl) dX10_isFunction_8 ⟨Nat.le_of_ble_eq_true rfl, Nat.le_of_ble_eq_true rfl⟩ (fun H locs hP hS => ?_)
  refine set_i (y := bI (decide (3 ≤ f ∧ f ≤ 9))) (congrArg bI (fun_lgl1 f hf)) ?_
  refine lv_if_ne (tgt := 70) hx hb dX10_isFunction_11 (by decide) (fun c_11 => ?_) (fun c_11 => ?_)
  · skip
    have c_11 := bI_t c_11
    have c_11 := of_decide_eq_true c_11
    refine lv_iconst (v := 1) hx hb dX10_isFunction_70 (by decide) ?_
    refine lv_goto (tgt := 75) hx hb dX10_isFunction_71 (by decide) ?_
    exact ret_z hx hb hr rfl hlocks () (by first | exact lgl_1 (lgl_t (by omega) hf) | exact lgl_0 (lgl_f (by omega) hf)) (fun k q h => by simp at h) hD hS dX10_isFunction_75
  · skip
    have c_11 := bI_f c_11
    have c_11 := of_decide_eq_false c_11
    refine lv_iload_n hx hb dX10_isFunction_14 rfl (lv_at hl 0 rfl) ?_
    refine lv_bipush (v := (nI 12)) hx hb dX10_isFunction_15 (by decide) ?_
    refine lv_icmp_eq (tgt := 70) hx hb dX10_isFunction_17 (by decide) (fun c_17 => ?_) (fun c_17 => ?_)
    · skip
      have c_17 : f = 12 := (nI_eq (a := f) (b := 12) (by omega) (by omega)).mp c_17
      refine lv_iconst (v := 1) hx hb dX10_isFunction_70 (by decide) ?_
      refine lv_goto (tgt := 75) hx hb dX10_isFunction_71 (by decide) ?_
      exact ret_z hx hb hr rfl hlocks () (by first | exact lgl_1 (lgl_t (by omega) hf) | exact lgl_0 (lgl_f (by omega) hf)) (fun k q h => by simp at h) hD hS dX10_isFunction_75
    · skip
      have c_17 : ¬ f = 12 := fun z => c_17 ((nI_eq (a := f) (b := 12) (by omega) (by omega)).mpr z)
      refine lv_iload_n hx hb dX10_isFunction_20 rfl (lv_at hl 0 rfl) ?_
      refine lv_bipush (v := (nI 13)) hx hb dX10_isFunction_21 (by decide) ?_
      refine lv_icmp_eq (tgt := 70) hx hb dX10_isFunction_23 (by decide) (fun c_23 => ?_) (fun c_23 => ?_)
      · skip
        have c_23 : f = 13 := (nI_eq (a := f) (b := 13) (by omega) (by omega)).mp c_23
        refine lv_iconst (v := 1) hx hb dX10_isFunction_70 (by decide) ?_
        refine lv_goto (tgt := 75) hx hb dX10_isFunction_71 (by decide) ?_
        exact ret_z hx hb hr rfl hlocks () (by first | exact lgl_1 (lgl_t (by omega) hf) | exact lgl_0 (lgl_f (by omega) hf)) (fun k q h => by simp at h) hD hS dX10_isFunction_75
      · skip
        have c_23 : ¬ f = 13 := fun z => c_23 ((nI_eq (a := f) (b := 13) (by omega) (by omega)).mpr z)
        refine lv_iload_n hx hb dX10_isFunction_26 rfl (lv_at hl 0 rfl) ?_
        refine lv_bipush (v := (nI 17)) hx hb dX10_isFunction_27 (by decide) ?_
        refine lv_icmp_eq (tgt := 70) hx hb dX10_isFunction_29 (by decide) (fun c_29 => ?_) (fun c_29 => ?_)
        · skip
          have c_29 : f = 17 := (nI_eq (a := f) (b := 17) (by omega) (by omega)).mp c_29
          refine lv_iconst (v := 1) hx hb dX10_isFunction_70 (by decide) ?_
          refine lv_goto (tgt := 75) hx hb dX10_isFunction_71 (by decide) ?_
          exact ret_z hx hb hr rfl hlocks () (by first | exact lgl_1 (lgl_t (by omega) hf) | exact lgl_0 (lgl_f (by omega) hf)) (fun k q h => by simp at h) hD hS dX10_isFunction_75
        · skip
          have c_29 : ¬ f = 17 := fun z => c_29 ((nI_eq (a := f) (b := 17) (by omega) (by omega)).mpr z)
          refine lv_iload_n hx hb dX10_isFunction_32 rfl (lv_at hl 0 rfl) ?_
          refine lv_bipush (v := (nI 21)) hx hb dX10_isFunction_33 (by decide) ?_
          refine lv_icmp_eq (tgt := 70) hx hb dX10_isFunction_35 (by decide) (fun c_35 => ?_) (fun c_35 => ?_)
          · skip
            have c_35 : f = 21 := (nI_eq (a := f) (b := 21) (by omega) (by omega)).mp c_35
            refine lv_iconst (v := 1) hx hb dX10_isFunction_70 (by decide) ?_
            refine lv_goto (tgt := 75) hx hb dX10_isFunction_71 (by decide) ?_
            exact ret_z hx hb hr rfl hlocks () (by first | exact lgl_1 (lgl_t (by omega) hf) | exact lgl_0 (lgl_f (by omega) hf)) (fun k q h => by simp at h) hD hS dX10_isFunction_75
          · skip
            have c_35 : ¬ f = 21 := fun z => c_35 ((nI_eq (a := f) (b := 21) (by omega) (by omega)).mpr z)
            refine lv_iload_n hx hb dX10_isFunction_38 rfl (lv_at hl 0 rfl) ?_
            refine lv_bipush (v := (nI 22)) hx hb dX10_isFunction_39 (by decide) ?_
            refine lv_icmp_eq (tgt := 70) hx hb dX10_isFunction_41 (by decide) (fun c_41 => ?_) (fun c_41 => ?_)
            · skip
              have c_41 : f = 22 := (nI_eq (a := f) (b := 22) (by omega) (by omega)).mp c_41
              refine lv_iconst (v := 1) hx hb dX10_isFunction_70 (by decide) ?_
              refine lv_goto (tgt := 75) hx hb dX10_isFunction_71 (by decide) ?_
              exact ret_z hx hb hr rfl hlocks () (by first | exact lgl_1 (lgl_t (by omega) hf) | exact lgl_0 (lgl_f (by omega) hf)) (fun k q h => by simp at h) hD hS dX10_isFunction_75
            · skip
              have c_41 : ¬ f = 22 := fun z => c_41 ((nI_eq (a := f) (b := 22) (by omega) (by omega)).mpr z)
              refine lv_iload_n hx hb dX10_isFunction_44 rfl (lv_at hl 0 rfl) ?_
              refine lv_i2l hx hb dX10_isFunction_45 rfl ?_
              refine lv_ldc2 hx hb hown (hts (.constantLong RX10 170 (25)) (by decide +kernel)) dX10_isFunction_46 ?_
              refine lv_ldc2 hx hb hown (hts (.constantLong RX10 172 (28)) (by decide +kernel)) dX10_isFunction_49 ?_
              refine pS_i (As := [.long ((nI f).toInt64), .long 25, .long 28]) (rest := []) ⟨hx, hb, hml, hown, hts⟩ (kX10_in l Z ((nI f).toInt64) 25 28 ) (va_cwS 3 hts gX10_isFunction_X10_in rfl rfl rfl (by decide +kernel) ⟨Nat.le_of_ble_eq_true rfl, Nat.le_of_ble_eq_true rfl⟩) hK hE hP hD hS hA hl.1 rfl rfl (Nat.le_of_ble_eq_true rfl) dX10_isFunction_52 ⟨Nat.le_of_ble_eq_true rfl, Nat.le_of_ble_eq_true rfl⟩ (fun H locs hP hS => ?_)
              refine set_i (y := bI (decide (25 ≤ f ∧ f ≤ 28))) (congrArg bI (fun_lgl2 f hf)) ?_
              refine lv_if_ne (tgt := 70) hx hb dX10_isFunction_55 (by decide) (fun c_55 => ?_) (fun c_55 => ?_)
              · skip
                have c_55 := bI_t c_55
                have c_55 := of_decide_eq_true c_55
                refine lv_iconst (v := 1) hx hb dX10_isFunction_70 (by decide) ?_
                refine lv_goto (tgt := 75) hx hb dX10_isFunction_71 (by decide) ?_
                exact ret_z hx hb hr rfl hlocks () (by first | exact lgl_1 (lgl_t (by omega) hf) | exact lgl_0 (lgl_f (by omega) hf)) (fun k q h => by simp at h) hD hS dX10_isFunction_75
              · skip
                have c_55 := bI_f c_55
                have c_55 := of_decide_eq_false c_55
                refine lv_iload_n hx hb dX10_isFunction_58 rfl (lv_at hl 0 rfl) ?_
                refine lv_bipush (v := (nI 30)) hx hb dX10_isFunction_59 (by decide) ?_
                refine lv_icmp_eq (tgt := 70) hx hb dX10_isFunction_61 (by decide) (fun c_61 => ?_) (fun c_61 => ?_)
                · skip
                  have c_61 : f = 30 := (nI_eq (a := f) (b := 30) (by omega) (by omega)).mp c_61
                  refine lv_iconst (v := 1) hx hb dX10_isFunction_70 (by decide) ?_
                  refine lv_goto (tgt := 75) hx hb dX10_isFunction_71 (by decide) ?_
                  exact ret_z hx hb hr rfl hlocks () (by first | exact lgl_1 (lgl_t (by omega) hf) | exact lgl_0 (lgl_f (by omega) hf)) (fun k q h => by simp at h) hD hS dX10_isFunction_75
                · skip
                  have c_61 : ¬ f = 30 := fun z => c_61 ((nI_eq (a := f) (b := 30) (by omega) (by omega)).mpr z)
                  refine lv_iload_n hx hb dX10_isFunction_64 rfl (lv_at hl 0 rfl) ?_
                  refine lv_bipush (v := (nI 31)) hx hb dX10_isFunction_65 (by decide) ?_
                  refine lv_icmp_ne (tgt := 74) hx hb dX10_isFunction_67 (by decide) (fun c_67 => ?_) (fun c_67 => ?_)
                  · skip
                    have c_67 : ¬ f = 31 := fun z => c_67 ((nI_eq (a := f) (b := 31) (by omega) (by omega)).mpr z)
                    refine lv_iconst (v := 0) hx hb dX10_isFunction_74 (by decide) ?_
                    exact ret_z hx hb hr rfl hlocks () (by first | exact lgl_1 (lgl_t (by omega) hf) | exact lgl_0 (lgl_f (by omega) hf)) (fun k q h => by simp at h) hD hS dX10_isFunction_75
                  · skip
                    have c_67 : f = 31 := (nI_eq (a := f) (b := 31) (by omega) (by omega)).mp c_67
                    refine lv_iconst (v := 1) hx hb dX10_isFunction_70 (by decide) ?_
                    refine lv_goto (tgt := 75) hx hb dX10_isFunction_71 (by decide) ?_
                    exact ret_z hx hb hr rfl hlocks () (by first | exact lgl_1 (lgl_t (by omega) hf) | exact lgl_0 (lgl_f (by omega) hf)) (fun k q h => by simp at h) hD hS dX10_isFunction_75

set_option maxHeartbeats 4000000 in
set_option maxRecDepth 100000 in
theorem kX10_grow (l : Launch) (D : va_G) (Z : SZ) (cB cI cJ cZ : ClassId) (ksz : Nat) (m0 : Nat) (x0 : Nat) (x1 : Nat) (x8 : Nat) (x10 : Nat) (x13 : Nat) (x14 : Nat) (x21 : Nat) (x22 : Nat) (x23 : Nat) (x24 : Nat) (x25 : Nat) (x26 : Nat) (x27 : Nat) (x28 : Nat) (x29 : Nat) (x30 : Nat) (x31 : Nat) (x32 : Nat) (x33 : Nat) (x35 : Nat) (x37 : Nat) (x38 : Nat) (x45 : Nat) (x47 : Nat) (x50 : Nat) (hi : Int64) (lo : Int64) (mult : Int64) (nx : Nat) (tz : Nat) (ta : Nat) (xz : Nat) (fg : Bool) (la : Int32) (mz : Nat) (re : Int32) (en : Int32) (pv : Int32) (ts : Nat) (nw : Nat) (hr0 : Bool) (hk : Bool) (hi2 : Int64) (lo2 : Int64) (mult2 : Int64) (nx2 : Nat) (tz2 : Nat) (ta2 : Nat) (xz2 : Nat) (fg2 : Bool) (la2 : Int32) (a : Int64) (b : Int64)  : Met l yX10_grow wsX10_grow { frames := 1, cells := 0, slots := 0, locals := 22 } (PR D Z [(cB, .byte), (cI, .int), (cJ, .long), (cZ, .boolean)] [.ref m0, .long a, .long b] [(m0, .inr (10, [.ref x0, .ref x1, .long hi, .long lo, .long mult, .int (nI nx), .int (nI tz), .int (nI ta), .ref x8, .int (nI xz), .ref x10, .int (bI fg), .int la, .ref x13, .ref x14, .int (nI mz), .int re, .int en, .int pv, .int (nI ts), .int (nI nw), .ref x21, .ref x22, .ref x23, .ref x24, .ref x25, .ref x26, .ref x27, .ref x28, .ref x29, .ref x30, .ref x31, .ref x32, .ref x33, .int (bI hr0), .ref x35, .int (bI hk), .ref x37, .ref x38, .long hi2, .long lo2, .long mult2, .int (nI nx2), .int (nI tz2), .int (nI ta2), .ref x45, .int (nI xz2), .ref x47, .int (bI fg2), .int la2, .ref x50]))] ksz) (QV D (fun (u : Int64 × Int64) => u.1 = (gTop hi lo a b) ∧ u.2 = (gRest lo b)) (fun (u : Int64 × Int64) => [(m0, .inr (10, [.ref x0, .ref x1, .long u.1, .long u.2, .long mult, .int (nI nx), .int (nI tz), .int (nI ta), .ref x8, .int (nI xz), .ref x10, .int (bI fg), .int la, .ref x13, .ref x14, .int (nI mz), .int re, .int en, .int pv, .int (nI ts), .int (nI nw), .ref x21, .ref x22, .ref x23, .ref x24, .ref x25, .ref x26, .ref x27, .ref x28, .ref x29, .ref x30, .ref x31, .ref x32, .ref x33, .int (bI hr0), .ref x35, .int (bI hk), .ref x37, .ref x38, .long hi2, .long lo2, .long mult2, .int (nI nx2), .int (nI tz2), .int (nI ta2), .ref x45, .int (nI xz2), .ref x47, .int (bI fg2), .int la2, .ref x50]))]) (va_A [(m0, .inr (10, [.ref x0, .ref x1, .long hi, .long lo, .long mult, .int (nI nx), .int (nI tz), .int (nI ta), .ref x8, .int (nI xz), .ref x10, .int (bI fg), .int la, .ref x13, .ref x14, .int (nI mz), .int re, .int en, .int pv, .int (nI ts), .int (nI nw), .ref x21, .ref x22, .ref x23, .ref x24, .ref x25, .ref x26, .ref x27, .ref x28, .ref x29, .ref x30, .ref x31, .ref x32, .ref x33, .int (bI hr0), .ref x35, .int (bI hk), .ref x37, .ref x38, .long hi2, .long lo2, .long mult2, .int (nI nx2), .int (nI tz2), .int (nI ta2), .ref x45, .int (nI xz2), .ref x47, .int (bI fg2), .int la2, .ref x50]))] ksz)) 0 0 (va_A [(m0, .inr (10, [.ref x0, .ref x1, .long hi, .long lo, .long mult, .int (nI nx), .int (nI tz), .int (nI ta), .ref x8, .int (nI xz), .ref x10, .int (bI fg), .int la, .ref x13, .ref x14, .int (nI mz), .int re, .int en, .int pv, .int (nI ts), .int (nI nw), .ref x21, .ref x22, .ref x23, .ref x24, .ref x25, .ref x26, .ref x27, .ref x28, .ref x29, .ref x30, .ref x31, .ref x32, .ref x33, .int (bI hr0), .ref x35, .int (bI hk), .ref x37, .ref x38, .long hi2, .long lo2, .long mult2, .int (nI nx2), .int (nI tz2), .int (nI ta2), .ref x45, .int (nI xz2), .ref x47, .int (bI fg2), .int la2, .ref x50]))] ksz) := by
  refine met_g (l := l) (y := yX10_grow) (wsy := wsX10_grow) (av := [.ref m0, .long a, .long b]) (cells := [(m0, .inr (10, [.ref x0, .ref x1, .long hi, .long lo, .long mult, .int (nI nx), .int (nI tz), .int (nI ta), .ref x8, .int (nI xz), .ref x10, .int (bI fg), .int la, .ref x13, .ref x14, .int (nI mz), .int re, .int en, .int pv, .int (nI ts), .int (nI nw), .ref x21, .ref x22, .ref x23, .ref x24, .ref x25, .ref x26, .ref x27, .ref x28, .ref x29, .ref x30, .ref x31, .ref x32, .ref x33, .int (bI hr0), .ref x35, .int (bI hk), .ref x37, .ref x38, .long hi2, .long lo2, .long mult2, .int (nI nx2), .int (nI tz2), .int (nI ta2), .ref x45, .int (nI xz2), .ref x47, .int (bI fg2), .int la2, .ref x50]))]) (sz := ksz) (QV D (fun (u : Int64 × Int64) => u.1 = (gTop hi lo a b) ∧ u.2 = (gRest lo b)) (fun (u : Int64 × Int64) => [(m0, .inr (10, [.ref x0, .ref x1, .long u.1, .long u.2, .long mult, .int (nI nx), .int (nI tz), .int (nI ta), .ref x8, .int (nI xz), .ref x10, .int (bI fg), .int la, .ref x13, .ref x14, .int (nI mz), .int re, .int en, .int pv, .int (nI ts), .int (nI nw), .ref x21, .ref x22, .ref x23, .ref x24, .ref x25, .ref x26, .ref x27, .ref x28, .ref x29, .ref x30, .ref x31, .ref x32, .ref x33, .int (bI hr0), .ref x35, .int (bI hk), .ref x37, .ref x38, .long hi2, .long lo2, .long mult2, .int (nI nx2), .int (nI tz2), .int (nI ta2), .ref x45, .int (nI xz2), .ref x47, .int (bI fg2), .int la2, .ref x50]))])) cX10_grow 7 none (by decide) rfl (Nat.le_of_ble_eq_true rfl) ?_
  intro p e s m below meth c A ls hx hb hr hts hown hlocks hml hin hA hP hK hD hE hS hl hsz
  clear hsz
  have hl : lv_has ls 7 [(0, .ref m0), (1, .long a), (3, .long b)] := hl
  refine lv_aload_n hx hb dX10_grow_0 rfl (lv_at hl 0 rfl) ?_
  refine va_get (D := D) (ci := 10) (v := .long lo) (C := RX10) (T := TX10) (N := 51) hx hb hts (by decide +kernel) hown hK hP 0 rfl rfl 3 (by decide) (hts (.fieldLink RX10 139 "TapeEngineModel" "rest" "J") (by decide +kernel)) (fun _ h9 => h9) rfl dX10_grow_1 ?_
  refine lv_lload_n hx hb dX10_grow_4 rfl (lv_at hl 2 rfl) ?_
  refine lv_ladd hx hb dX10_grow_5 ?_
  refine lv_lstore (lv' := [(5, .long (lo + b)), (0, .ref m0), (1, .long a), (3, .long b)]) hx hb dX10_grow_6 hl (by decide) rfl (fun ls hl => ?_)
  refine lv_aload_n hx hb dX10_grow_8 rfl (lv_at hl 1 rfl) ?_
  refine lv_aload_n hx hb dX10_grow_9 rfl (lv_at hl 1 rfl) ?_
  refine va_get (D := D) (ci := 10) (v := .long hi) (C := RX10) (T := TX10) (N := 51) hx hb hts (by decide +kernel) hown hK hP 0 rfl rfl 2 (by decide) (hts (.fieldLink RX10 135 "TapeEngineModel" "top" "J") (by decide +kernel)) (fun _ h9 => h9) rfl dX10_grow_10 ?_
  refine lv_lload_n hx hb dX10_grow_13 rfl (lv_at hl 2 rfl) ?_
  refine lv_ladd hx hb dX10_grow_14 ?_
  refine lv_lload hx hb dX10_grow_15 (lv_at hl 0 rfl) ?_
  refine lv_bipush (v := 36) hx hb dX10_grow_17 (by decide) ?_
  refine lv_lshr hx hb dX10_grow_19 rfl ?_
  refine lv_ladd hx hb dX10_grow_20 ?_
  refine lv_bipush (v := 35) hx hb dX10_grow_21 (by decide) ?_
  refine pS_l (As := [.long ((hi + a) + ((lo + b) >>> ((36 : Int32).toInt64 &&& 63))), .int 35]) (rest := [.ref m0]) ⟨hx, hb, hml, hown, hts⟩ (kX10_signed l Z ((hi + a) + ((lo + b) >>> ((36 : Int32).toInt64 &&& 63))) 35 ) (va_cwS 2 hts gX10_grow_X10_signed rfl rfl rfl (by decide +kernel) ⟨Nat.le_of_ble_eq_true rfl, Nat.le_of_ble_eq_true rfl⟩) hK hE hP hD hS hA hl.1 rfl rfl (Nat.le_of_ble_eq_true rfl) dX10_grow_23 ⟨Nat.le_of_ble_eq_true rfl, Nat.le_of_ble_eq_true rfl⟩ (fun H locs hP hS => ?_)
  refine set_l (y := gTop hi lo a b) (sgN_35 _) ?_
  refine va_put (D := D) (ci := 10) (v := .long (gTop hi lo a b)) (ty := .long) (C := RX10) (T := TX10) (N := 51) hx hb hts (by decide +kernel) tyX10 tyX10_ok nmX10 hown hK hP hD hS 0 rfl rfl 2 (by decide) (hts (.fieldLink RX10 135 "TapeEngineModel" "top" "J") (by decide +kernel)) (fun _ h9 => h9) rfl (by decide +kernel) rfl rfl (Nat.le_of_ble_eq_true rfl) dX10_grow_26 (fun H locs hP hD hS => ?_)
  have hP : va_P D vwCl [(m0, .inr (10, [.ref x0, .ref x1, .long (gTop hi lo a b), .long lo, .long mult, .int (nI nx), .int (nI tz), .int (nI ta), .ref x8, .int (nI xz), .ref x10, .int (bI fg), .int la, .ref x13, .ref x14, .int (nI mz), .int re, .int en, .int pv, .int (nI ts), .int (nI nw), .ref x21, .ref x22, .ref x23, .ref x24, .ref x25, .ref x26, .ref x27, .ref x28, .ref x29, .ref x30, .ref x31, .ref x32, .ref x33, .int (bI hr0), .ref x35, .int (bI hk), .ref x37, .ref x38, .long hi2, .long lo2, .long mult2, .int (nI nx2), .int (nI tz2), .int (nI ta2), .ref x45, .int (nI xz2), .ref x47, .int (bI fg2), .int la2, .ref x50]))] H := hP
  have hD : va_D A [(m0, .inr (10, [.ref x0, .ref x1, .long (gTop hi lo a b), .long lo, .long mult, .int (nI nx), .int (nI tz), .int (nI ta), .ref x8, .int (nI xz), .ref x10, .int (bI fg), .int la, .ref x13, .ref x14, .int (nI mz), .int re, .int en, .int pv, .int (nI ts), .int (nI nw), .ref x21, .ref x22, .ref x23, .ref x24, .ref x25, .ref x26, .ref x27, .ref x28, .ref x29, .ref x30, .ref x31, .ref x32, .ref x33, .int (bI hr0), .ref x35, .int (bI hk), .ref x37, .ref x38, .long hi2, .long lo2, .long mult2, .int (nI nx2), .int (nI tz2), .int (nI ta2), .ref x45, .int (nI xz2), .ref x47, .int (bI fg2), .int la2, .ref x50]))] := hD
  refine lv_aload_n hx hb dX10_grow_29 rfl (lv_at hl 1 rfl) ?_
  refine lv_lload hx hb dX10_grow_30 (lv_at hl 0 rfl) ?_
  refine lv_ldc2 hx hb hown (hts (.constantLong RX10 146 (68719476735)) (by decide +kernel)) dX10_grow_32 ?_
  refine lv_land hx hb dX10_grow_35 ?_
  refine va_put (D := D) (ci := 10) (v := .long ((lo + b) &&& 68719476735)) (ty := .long) (C := RX10) (T := TX10) (N := 51) hx hb hts (by decide +kernel) tyX10 tyX10_ok nmX10 hown hK hP hD hS 0 rfl rfl 3 (by decide) (hts (.fieldLink RX10 139 "TapeEngineModel" "rest" "J") (by decide +kernel)) (fun _ h9 => h9) rfl (by decide +kernel) rfl rfl (Nat.le_of_ble_eq_true rfl) dX10_grow_36 (fun H locs hP hD hS => ?_)
  have hP : va_P D vwCl [(m0, .inr (10, [.ref x0, .ref x1, .long (gTop hi lo a b), .long ((lo + b) &&& 68719476735), .long mult, .int (nI nx), .int (nI tz), .int (nI ta), .ref x8, .int (nI xz), .ref x10, .int (bI fg), .int la, .ref x13, .ref x14, .int (nI mz), .int re, .int en, .int pv, .int (nI ts), .int (nI nw), .ref x21, .ref x22, .ref x23, .ref x24, .ref x25, .ref x26, .ref x27, .ref x28, .ref x29, .ref x30, .ref x31, .ref x32, .ref x33, .int (bI hr0), .ref x35, .int (bI hk), .ref x37, .ref x38, .long hi2, .long lo2, .long mult2, .int (nI nx2), .int (nI tz2), .int (nI ta2), .ref x45, .int (nI xz2), .ref x47, .int (bI fg2), .int la2, .ref x50]))] H := hP
  have hD : va_D A [(m0, .inr (10, [.ref x0, .ref x1, .long (gTop hi lo a b), .long ((lo + b) &&& 68719476735), .long mult, .int (nI nx), .int (nI tz), .int (nI ta), .ref x8, .int (nI xz), .ref x10, .int (bI fg), .int la, .ref x13, .ref x14, .int (nI mz), .int re, .int en, .int pv, .int (nI ts), .int (nI nw), .ref x21, .ref x22, .ref x23, .ref x24, .ref x25, .ref x26, .ref x27, .ref x28, .ref x29, .ref x30, .ref x31, .ref x32, .ref x33, .int (bI hr0), .ref x35, .int (bI hk), .ref x37, .ref x38, .long hi2, .long lo2, .long mult2, .int (nI nx2), .int (nI tz2), .int (nI ta2), .ref x45, .int (nI xz2), .ref x47, .int (bI fg2), .int la2, .ref x50]))] := hD
  exact ret_v hx hb hr hlocks ((gTop hi lo a b), ((lo + b) &&& 68719476735)) ⟨rfl, rfl⟩ (hP.sub [0] rfl) (hD.sub [0] (by decide) rfl) hS dX10_grow_39
