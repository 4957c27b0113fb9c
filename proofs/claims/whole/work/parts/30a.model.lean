theorem R35_opd (w mid : Nat → Int32) (o : Nat) : R35 (opd w mid o) := by
  unfold opd
  split
  · exact R35_sg _
  · exact R35_sg _
theorem qHi_eq {o : Nat} {w mid : Nat → Int32} {hi lo mult : Int64} (h1 : R36 lo) (h2 : R35 mult) : qHi o w mid hi lo mult = sHi o w mid hi lo mult := by
  unfold qHi
  by_cases q : o / 4096 = 31
  · rw [if_pos q, mp_top h1 h2 (R35_opd _ _ _) (Or.inl (by decide)), sHi, if_neg (by omega), rHi, if_neg (by omega), if_neg (by omega), if_pos q]
    rfl
  · rw [if_neg q]
    by_cases q2 : o / 4096 = 22
    · rw [if_pos q2, mp_top h1 h2 (R35_opd _ _ _) (Or.inr (by decide)), sHi, if_neg (by omega), rHi, if_neg (by omega), if_neg (by omega), if_neg (by omega), if_pos q2]
      rfl
    · rw [if_neg q2]
theorem qLo_eq {o : Nat} {w mid : Nat → Int32} {hi lo mult : Int64} (h1 : R36 lo) (h2 : R35 mult) : qLo o w mid hi lo mult = sLo o w mid hi lo mult := by
  unfold qLo
  by_cases q : o / 4096 = 31
  · rw [if_pos q, mp_rest (hi := hi) h1 h2 (R35_opd _ _ _) (Or.inl (by decide)), sLo, if_neg (by omega), rLo, if_neg (by omega), if_neg (by omega), if_pos q]
    rfl
  · rw [if_neg q]
    by_cases q2 : o / 4096 = 22
    · rw [if_pos q2, mp_rest (hi := hi) h1 h2 (R35_opd _ _ _) (Or.inr (by decide)), sLo, if_neg (by omega), rLo, if_neg (by omega), if_neg (by omega), if_neg (by omega), if_pos q2]
      rfl
    · rw [if_neg q2]
theorem R35_rMu {o : Nat} {w mid : Nat → Int32} {mult : Int64} (h : R35 mult) : R35 (rMu o w mid mult) := by
  unfold rMu
  split
  · exact R35_opd _ _ _
  · exact h
theorem R36_nat {x : Int64} (h : x.toBitVec.toNat < 2 ^ 36) : R36 x := by
  have e : (2 : Nat) ^ 36 = 68719476736 := by decide
  have hn := z_nat x.toBitVec
  show 0 ≤ x.toBitVec.toInt ∧ x.toBitVec.toInt < 68719476736
  omega
theorem R36_toN {x : Int64} (h : R36 x) : x.toBitVec.toNat < 2 ^ 36 ∧ x.toBitVec.toInt = x.toBitVec.toNat := by
  have e : (2 : Nat) ^ 36 = 68719476736 := by decide
  have hn := z_nat x.toBitVec
  have h1 : 0 ≤ x.toBitVec.toInt := h.1
  have h2 : x.toBitVec.toInt < 68719476736 := h.2
  omega
theorem sr_a : ∀ p, p < 18 → (((nI p).toInt64 &&& 63).toBitVec.smod 64).toNat = p := by decide +kernel
theorem sr_b : ∀ p, p < 18 → (((36 - nI p).toInt64 &&& 63).toBitVec.smod 64).toNat = 36 - p := by decide +kernel
theorem sr_c : ∀ p, p < 18 → (((1 : Int64) <<< ((nI p).toInt64 &&& 63)) - 1).toBitVec.toNat = 2 ^ p - 1 := by decide +kernel
theorem R36_sr {hi lo : Int64} {p : Nat} (hp : p < 18) (h : R36 lo) : R36 (srRest hi lo (nI p)) := by
  apply R36_nat
  obtain ⟨h1, h2⟩ := R36_toN h
  unfold srRest
  have e1 : (lo >>> ((nI p).toInt64 &&& 63)).toBitVec.toNat < 2 ^ 36 := by
    have hz := z_shr (x := lo) p (sr_a p hp)
    have hd : lo.toBitVec.toInt / ((2 ^ p : Nat) : Int) = ((lo.toBitVec.toNat / 2 ^ p : Nat) : Int) := by rw [h2]; exact (Int.natCast_ediv _ _).symm
    have hz2 : (lo >>> ((nI p).toInt64 &&& 63)).toBitVec.toInt = ((lo.toBitVec.toNat / 2 ^ p : Nat) : Int) := hz.trans hd
    have hn := z_nat (lo >>> ((nI p).toInt64 &&& 63)).toBitVec
    have hl : lo.toBitVec.toNat / 2 ^ p ≤ lo.toBitVec.toNat := Nat.div_le_self _ _
    have e : (2 : Nat) ^ 36 = 68719476736 := by decide
    generalize lo.toBitVec.toNat / 2 ^ p = d at hz2 hl
    omega
  have e2 : ((hi &&& (((1 : Int64) <<< ((nI p).toInt64 &&& 63)) - 1)) <<< ((36 - nI p).toInt64 &&& 63)).toBitVec.toNat < 2 ^ 36 := by
    rw [L_shl _ _ (36 - p) (sr_b p hp), BitVec.toNat_shiftLeft, Nat.shiftLeft_eq]
    have hm : (hi &&& (((1 : Int64) <<< ((nI p).toInt64 &&& 63)) - 1)).toBitVec.toNat < 2 ^ p := by
      show (hi.toBitVec &&& (((1 : Int64) <<< ((nI p).toInt64 &&& 63)) - 1).toBitVec).toNat < _
      rw [BitVec.toNat_and, sr_c p hp, Nat.and_two_pow_sub_one_eq_mod]
      exact Nat.mod_lt _ (Nat.two_pow_pos p)
    refine Nat.lt_of_le_of_lt (Nat.mod_le _ _) ?_
    refine Nat.lt_of_lt_of_le ((Nat.mul_lt_mul_right (Nat.two_pow_pos _)).mpr hm) ?_
    rw [← Nat.pow_add]
    exact Nat.pow_le_pow_right (by decide) (by omega)
  show ((lo >>> ((nI p).toInt64 &&& 63)).toBitVec ||| ((hi &&& (((1 : Int64) <<< ((nI p).toInt64 &&& 63)) - 1)) <<< ((36 - nI p).toInt64 &&& 63)).toBitVec).toNat < 2 ^ 36
  rw [BitVec.toNat_or]
  exact Nat.or_lt_two_pow e1 e2
theorem ftz_le (o : Nat) : ∀ n, ftz o n ≤ n
  | 0 => Nat.le_refl _
  | n + 1 => by
    have := ftz_le o n
    rw [ftz]
    split
    · omega
    · split <;> omega
theorem R36_mask (x : Int64) : R36 (x &&& 68719476735) := by
  unfold R36
  rw [z_m36]
  omega
theorem R36_sLo {o : Nat} {w mid : Nat → Int32} {hi lo mult : Int64} (h : R36 lo) : R36 (sLo o w mid hi lo mult) := by
  unfold sLo
  split
  · exact ⟨by decide, by decide⟩
  · unfold rLo
    split
    · exact R36_rest _ _
    · split
      · exact R36_rest _ _
      · split
        · exact R36_rest _ _
        · split
          · exact R36_rest _ _
          · split
            · exact R36_rest _ _
            · split
              · have := ftz_le o 16
                exact R36_sr (by omega) h
              · split
                · exact R36_mask _
                · split
                  · exact R36_rest _ _
                  · exact h
theorem sLa_ok {o : Nat} {w : Nat → Int32} {la : Int32} (hw : RW w) (h : la = -1 ∨ iN la < 32) : sLa o w la = -1 ∨ iN (sLa o w la) < 32 := by
  unfold sLa
  split
  · right
    have := hw (hadr o)
    unfold sSy
    rw [iN_nI (by omega)]
    omega
  · exact h
theorem in_3000 (v : Int32) : inB v.toInt64 0 3000 = decide (¬ v < 0 ∧ v ≤ 3000) := by
  unfold inB
  rw [← Bool.decide_and]
  apply decide_eq_decide.mpr
  rw [Int64.lt_iff_toInt_lt, Int64.lt_iff_toInt_lt, Int32.lt_iff_toInt_lt, Int32.le_iff_toInt_le, i64_toInt, show (0 : Int64).toInt = 0 by decide, show (3000 : Int64).toInt = 3000 by decide, show (0 : Int32).toInt = 0 by decide, show (3000 : Int32).toInt = 3000 by decide]
  omega
section RN2
variable {τ : Type} {nt : MT → τ → τ} {tp : Nat → Int32} {tz : Nat} {im : Nat → Int32} {n c : Nat} {S : MT} {T : τ}
theorem rn_end (h : c = n) : rnR nt tp tz im (n - c) c S T = (c, S, T, 0) := by
  rw [show n - c = 0 by omega]
  rfl
theorem rn_haltV {v : Int32} (h : c < n) (h2 : ¬ (0 < c ∧ tB (im (mNx S)) = true)) (e : v = mH tz S) (hv : ¬ v = 0) : rnR nt tp tz im (n - c) c S T = (c, S, T, v) := by
  rw [e]
  exact rn_halt h h2 (e ▸ hv)
theorem rn_goZ (h : c < n) (h2 : ¬ (0 < c ∧ tB (im (mNx S)) = true)) (h3 : mH tz S = 0) (h4 : mO S / 4096 = 13) : rnR nt tp tz im (n - c) c S T = (c + 1, mDo tp S, nt S T, 1) := by
  rw [rn_go h h2 h3, if_pos h4, if_neg (by decide)]
theorem rn_goN (h : c < n) (h2 : ¬ (0 < c ∧ tB (im (mNx S)) = true)) (h3 : mH tz S = 0) (h4 : ¬ mO S / 4096 = 13) : rnR nt tp tz im (n - c) c S T = rnR nt tp tz im (n - (c + 1)) (c + 1) (mDo tp S) (nt S T) := by
  rw [rn_go h h2 h3, if_neg h4, if_pos rfl]
end RN2
abbrev KT : Type := (Nat → Int64) × (Nat → Int64) × (Nat → Int64) × (Nat → Int32) × (Nat → Int32) × (Nat → Int32) × (Nat → Int32) × (Nat → Int32) × (Nat → Int32) × (Nat → Int32) × (Nat → Int32) × (Nat → Int32) × (Nat → Int32) × Nat × Nat
def kNote (S : MT) (T : KT) : KT := (vp_updL (T.1) (T.2.2.2.2.2.2.2.2.2.2.2.2.2.1) (mHi S), vp_updL (T.2.1) (T.2.2.2.2.2.2.2.2.2.2.2.2.2.1) (mLo S), vp_updL (T.2.2.1) (T.2.2.2.2.2.2.2.2.2.2.2.2.2.1) (mMu S), upd (T.2.2.2.1) (T.2.2.2.2.2.2.2.2.2.2.2.2.2.1) (nI (mNx S)), upd (T.2.2.2.2.1) (T.2.2.2.2.2.2.2.2.2.2.2.2.2.1) (nI (mTa S)), upd (T.2.2.2.2.2.1) (T.2.2.2.2.2.2.2.2.2.2.2.2.2.1) (nI (mXz S)), upd (T.2.2.2.2.2.2.1) (T.2.2.2.2.2.2.2.2.2.2.2.2.2.1) (bI (mFg S)), upd (T.2.2.2.2.2.2.2.1) (T.2.2.2.2.2.2.2.2.2.2.2.2.2.1) (mLa S), upd (T.2.2.2.2.2.2.2.2.1) (T.2.2.2.2.2.2.2.2.2.2.2.2.2.1) (nI (mO S / 4096)), upd (T.2.2.2.2.2.2.2.2.2.1) (T.2.2.2.2.2.2.2.2.2.2.2.2.2.1) (nI (mO S / 2 % 256 / 2 * 2)), upd (T.2.2.2.2.2.2.2.2.2.2.1) (T.2.2.2.2.2.2.2.2.2.2.2.2.2.1) (mW S (mO S / 2 % 256 / 2 * 2)), upd (T.2.2.2.2.2.2.2.2.2.2.2.1) (T.2.2.2.2.2.2.2.2.2.2.2.2.2.1) (mW S (mO S / 2 % 256 / 2 * 2 + 1)), upd (T.2.2.2.2.2.2.2.2.2.2.2.2.1) (T.2.2.2.2.2.2.2.2.2.2.2.2.2.1) (mMid S (mO S / 2 % 256 / 2)), (T.2.2.2.2.2.2.2.2.2.2.2.2.2.1 + 1) % 100, min (T.2.2.2.2.2.2.2.2.2.2.2.2.2.2 + 1) 100)
set_option maxHeartbeats 4000000 in
set_option maxRecDepth 100000 in
theorem kX10_act_s (l : Launch) (D : va_G) (Z : SZ) (cB cI cJ cZ : ClassId) (ksz : Nat) (m0 : Nat) (x0 : Nat) (x1 : Nat) (x8 : Nat) (x10 : Nat) (x13 : Nat) (x14 : Nat) (x21 : Nat) (x22 : Nat) (x23 : Nat) (x24 : Nat) (x25 : Nat) (x26 : Nat) (x27 : Nat) (x28 : Nat) (x29 : Nat) (x30 : Nat) (x31 : Nat) (x32 : Nat) (x33 : Nat) (x35 : Nat) (x37 : Nat) (x38 : Nat) (x45 : Nat) (x47 : Nat) (x50 : Nat) (hi : Int64) (lo : Int64) (mult : Int64) (nx : Nat) (tz : Nat) (ta : Nat) (xz : Nat) (fg : Bool) (la : Int32) (mz : Nat) (re : Int32) (en : Int32) (pv : Int32) (ts : Nat) (nw : Nat) (hr0 : Bool) (hk : Bool) (hi2 : Int64) (lo2 : Int64) (mult2 : Int64) (nx2 : Nat) (tz2 : Nat) (ta2 : Nat) (xz2 : Nat) (fg2 : Bool) (la2 : Int32) (w : Nat → Int32) (mid : Nat → Int32) (tp : Nat → Int32) (tx : Nat → Int32) (dn : Nat → Int32) (yTop : Nat → Int64) (yRest : Nat → Int64) (yMult : Nat → Int64) (yNext : Nat → Int32) (yTape : Nat → Int32) (yText : Nat → Int32) (yFig : Nat → Int32) (yLast : Nat → Int32) (yFun : Nat → Int32) (yPair : Nat → Int32) (yLow : Nat → Int32) (yHigh : Nat → Int32) (yMid : Nat → Int32) (o : Nat) (ho : o < 131072) (hnx : nx < 256) (hnw : nw < 100) (hts9 : ts ≤ 100) (hw : ∀ k : Nat, iN (w k) < 131072) (hz : tz ≤ 1000) (h8 : o / 4096 = 8 → ta < tz) (h9 : o / 4096 = 9 → xz < 400) (htp : ∀ k : Nat, iN (tp k) < 32) (hla9 : la = -1 ∨ iN la < 32) (hmu35 : R35 mult) (hlo36 : R36 lo) : Met l yX10_act wsX10_act { frames := 3, cells := 0, slots := 0, locals := 80 } (PR D Z [(cB, .byte), (cI, .int), (cJ, .long), (cZ, .boolean)] [.ref m0, .int (nI o)] [(m0, .inr (10, [.ref x0, .ref x1, .long hi, .long lo, .long mult, .int (nI nx), .int (nI tz), .int (nI ta), .ref x8, .int (nI xz), .ref x10, .int (bI fg), .int la, .ref x13, .ref x14, .int (nI mz), .int re, .int en, .int pv, .int (nI ts), .int (nI nw), .ref x21, .ref x22, .ref x23, .ref x24, .ref x25, .ref x26, .ref x27, .ref x28, .ref x29, .ref x30, .ref x31, .ref x32, .ref x33, .int (bI hr0), .ref x35, .int (bI hk), .ref x37, .ref x38, .long hi2, .long lo2, .long mult2, .int (nI nx2), .int (nI tz2), .int (nI ta2), .ref x45, .int (nI xz2), .ref x47, .int (bI fg2), .int la2, .ref x50])), (x0, .inl (cI, 256, .inl w)), (x1, .inl (cI, 128, .inl mid)), (x8, .inl (cI, 1000, .inl tp)), (x10, .inl (cI, 400, .inl tx)), (x13, .inl (cI, 32, .inl dn)), (x21, .inl (cJ, 100, .inr (.inl yTop))), (x22, .inl (cJ, 100, .inr (.inl yRest))), (x23, .inl (cJ, 100, .inr (.inl yMult))), (x24, .inl (cI, 100, .inl yNext)), (x25, .inl (cI, 100, .inl yTape)), (x26, .inl (cI, 100, .inl yText)), (x27, .inl (cZ, 100, .inl yFig)), (x28, .inl (cI, 100, .inl yLast)), (x29, .inl (cI, 100, .inl yFun)), (x30, .inl (cI, 100, .inl yPair)), (x31, .inl (cI, 100, .inl yLow)), (x32, .inl (cI, 100, .inl yHigh)), (x33, .inl (cI, 100, .inl yMid))] ksz) (QV D (fun (u : (Nat → Int64) × (Nat → Int64) × (Nat → Int64) × (Nat → Int32) × (Nat → Int32) × (Nat → Int32) × (Nat → Int32) × (Nat → Int32) × (Nat → Int32) × (Nat → Int32) × (Nat → Int32) × (Nat → Int32) × (Nat → Int32) × (Nat → Int32) × (Nat → Int32) × Int64 × Int64 × Int64 × Nat × Nat × (Nat → Int32) × Nat × Bool × Int32 × (Nat → Int32) × Nat) => u.1 = (vp_updL yTop nw (hi)) ∧ u.2.1 = (vp_updL yRest nw (lo)) ∧ u.2.2.1 = (vp_updL yMult nw (mult)) ∧ u.2.2.2.1 = (upd yNext nw (nI nx)) ∧ u.2.2.2.2.1 = (upd yTape nw (nI ta)) ∧ u.2.2.2.2.2.1 = (upd yText nw (nI xz)) ∧ u.2.2.2.2.2.2.1 = (upd yFig nw (bI fg)) ∧ u.2.2.2.2.2.2.2.1 = (upd yLast nw (la)) ∧ u.2.2.2.2.2.2.2.2.1 = (upd yFun nw (nI (o / 4096))) ∧ u.2.2.2.2.2.2.2.2.2.1 = (upd yPair nw (nI (o / 2 % 256 / 2 * 2))) ∧ u.2.2.2.2.2.2.2.2.2.2.1 = (upd yLow nw (w (o / 2 % 256 / 2 * 2))) ∧ u.2.2.2.2.2.2.2.2.2.2.2.1 = (upd yHigh nw (w (o / 2 % 256 / 2 * 2 + 1))) ∧ u.2.2.2.2.2.2.2.2.2.2.2.2.1 = (upd yMid nw (mid (o / 2 % 256 / 2))) ∧ u.2.2.2.2.2.2.2.2.2.2.2.2.2.1 = (sW o w hi (tp ta) la) ∧ u.2.2.2.2.2.2.2.2.2.2.2.2.2.2.1 = (sMid o mid hi (tp ta)) ∧ u.2.2.2.2.2.2.2.2.2.2.2.2.2.2.2.1 = (sHi o w mid hi lo mult) ∧ u.2.2.2.2.2.2.2.2.2.2.2.2.2.2.2.2.1 = (sLo o w mid hi lo mult) ∧ u.2.2.2.2.2.2.2.2.2.2.2.2.2.2.2.2.2.1 = (rMu o w mid mult) ∧ u.2.2.2.2.2.2.2.2.2.2.2.2.2.2.2.2.2.2.1 = (sNx o hi nx) ∧ u.2.2.2.2.2.2.2.2.2.2.2.2.2.2.2.2.2.2.2.1 = (sTa o ta) ∧ u.2.2.2.2.2.2.2.2.2.2.2.2.2.2.2.2.2.2.2.2.1 = (sTx o w tx xz fg) ∧ u.2.2.2.2.2.2.2.2.2.2.2.2.2.2.2.2.2.2.2.2.2.1 = (sXz o w xz) ∧ u.2.2.2.2.2.2.2.2.2.2.2.2.2.2.2.2.2.2.2.2.2.2.1 = (sFg o w fg) ∧ u.2.2.2.2.2.2.2.2.2.2.2.2.2.2.2.2.2.2.2.2.2.2.2.1 = (sLa o w la) ∧ u.2.2.2.2.2.2.2.2.2.2.2.2.2.2.2.2.2.2.2.2.2.2.2.2.1 = (sDn o dn) ∧ u.2.2.2.2.2.2.2.2.2.2.2.2.2.2.2.2.2.2.2.2.2.2.2.2.2 = (min (ts + 1) 100)) (fun (u : (Nat → Int64) × (Nat → Int64) × (Nat → Int64) × (Nat → Int32) × (Nat → Int32) × (Nat → Int32) × (Nat → Int32) × (Nat → Int32) × (Nat → Int32) × (Nat → Int32) × (Nat → Int32) × (Nat → Int32) × (Nat → Int32) × (Nat → Int32) × (Nat → Int32) × Int64 × Int64 × Int64 × Nat × Nat × (Nat → Int32) × Nat × Bool × Int32 × (Nat → Int32) × Nat) => [(m0, .inr (10, [.ref x0, .ref x1, .long u.2.2.2.2.2.2.2.2.2.2.2.2.2.2.2.1, .long u.2.2.2.2.2.2.2.2.2.2.2.2.2.2.2.2.1, .long u.2.2.2.2.2.2.2.2.2.2.2.2.2.2.2.2.2.1, .int (nI u.2.2.2.2.2.2.2.2.2.2.2.2.2.2.2.2.2.2.1), .int (nI tz), .int (nI u.2.2.2.2.2.2.2.2.2.2.2.2.2.2.2.2.2.2.2.1), .ref x8, .int (nI u.2.2.2.2.2.2.2.2.2.2.2.2.2.2.2.2.2.2.2.2.2.1), .ref x10, .int (bI u.2.2.2.2.2.2.2.2.2.2.2.2.2.2.2.2.2.2.2.2.2.2.1), .int u.2.2.2.2.2.2.2.2.2.2.2.2.2.2.2.2.2.2.2.2.2.2.2.1, .ref x13, .ref x14, .int (nI mz), .int re, .int en, .int pv, .int (nI u.2.2.2.2.2.2.2.2.2.2.2.2.2.2.2.2.2.2.2.2.2.2.2.2.2), .int (nI ((nw + 1) % 100)), .ref x21, .ref x22, .ref x23, .ref x24, .ref x25, .ref x26, .ref x27, .ref x28, .ref x29, .ref x30, .ref x31, .ref x32, .ref x33, .int (bI hr0), .ref x35, .int (bI hk), .ref x37, .ref x38, .long hi2, .long lo2, .long mult2, .int (nI nx2), .int (nI tz2), .int (nI ta2), .ref x45, .int (nI xz2), .ref x47, .int (bI fg2), .int la2, .ref x50])), (x0, .inl (cI, 256, .inl u.2.2.2.2.2.2.2.2.2.2.2.2.2.1)), (x1, .inl (cI, 128, .inl u.2.2.2.2.2.2.2.2.2.2.2.2.2.2.1)), (x8, .inl (cI, 1000, .inl tp)), (x10, .inl (cI, 400, .inl u.2.2.2.2.2.2.2.2.2.2.2.2.2.2.2.2.2.2.2.2.1)), (x13, .inl (cI, 32, .inl u.2.2.2.2.2.2.2.2.2.2.2.2.2.2.2.2.2.2.2.2.2.2.2.2.1)), (x21, .inl (cJ, 100, .inr (.inl u.1))), (x22, .inl (cJ, 100, .inr (.inl u.2.1))), (x23, .inl (cJ, 100, .inr (.inl u.2.2.1))), (x24, .inl (cI, 100, .inl u.2.2.2.1)), (x25, .inl (cI, 100, .inl u.2.2.2.2.1)), (x26, .inl (cI, 100, .inl u.2.2.2.2.2.1)), (x27, .inl (cZ, 100, .inl u.2.2.2.2.2.2.1)), (x28, .inl (cI, 100, .inl u.2.2.2.2.2.2.2.1)), (x29, .inl (cI, 100, .inl u.2.2.2.2.2.2.2.2.1)), (x30, .inl (cI, 100, .inl u.2.2.2.2.2.2.2.2.2.1)), (x31, .inl (cI, 100, .inl u.2.2.2.2.2.2.2.2.2.2.1)), (x32, .inl (cI, 100, .inl u.2.2.2.2.2.2.2.2.2.2.2.1)), (x33, .inl (cI, 100, .inl u.2.2.2.2.2.2.2.2.2.2.2.2.1))]) (va_A [(m0, .inr (10, [.ref x0, .ref x1, .long hi, .long lo, .long mult, .int (nI nx), .int (nI tz), .int (nI ta), .ref x8, .int (nI xz), .ref x10, .int (bI fg), .int la, .ref x13, .ref x14, .int (nI mz), .int re, .int en, .int pv, .int (nI ts), .int (nI nw), .ref x21, .ref x22, .ref x23, .ref x24, .ref x25, .ref x26, .ref x27, .ref x28, .ref x29, .ref x30, .ref x31, .ref x32, .ref x33, .int (bI hr0), .ref x35, .int (bI hk), .ref x37, .ref x38, .long hi2, .long lo2, .long mult2, .int (nI nx2), .int (nI tz2), .int (nI ta2), .ref x45, .int (nI xz2), .ref x47, .int (bI fg2), .int la2, .ref x50])), (x0, .inl (cI, 256, .inl w)), (x1, .inl (cI, 128, .inl mid)), (x8, .inl (cI, 1000, .inl tp)), (x10, .inl (cI, 400, .inl tx)), (x13, .inl (cI, 32, .inl dn)), (x21, .inl (cJ, 100, .inr (.inl yTop))), (x22, .inl (cJ, 100, .inr (.inl yRest))), (x23, .inl (cJ, 100, .inr (.inl yMult))), (x24, .inl (cI, 100, .inl yNext)), (x25, .inl (cI, 100, .inl yTape)), (x26, .inl (cI, 100, .inl yText)), (x27, .inl (cZ, 100, .inl yFig)), (x28, .inl (cI, 100, .inl yLast)), (x29, .inl (cI, 100, .inl yFun)), (x30, .inl (cI, 100, .inl yPair)), (x31, .inl (cI, 100, .inl yLow)), (x32, .inl (cI, 100, .inl yHigh)), (x33, .inl (cI, 100, .inl yMid))] ksz)) 0 0 (va_A [(m0, .inr (10, [.ref x0, .ref x1, .long hi, .long lo, .long mult, .int (nI nx), .int (nI tz), .int (nI ta), .ref x8, .int (nI xz), .ref x10, .int (bI fg), .int la, .ref x13, .ref x14, .int (nI mz), .int re, .int en, .int pv, .int (nI ts), .int (nI nw), .ref x21, .ref x22, .ref x23, .ref x24, .ref x25, .ref x26, .ref x27, .ref x28, .ref x29, .ref x30, .ref x31, .ref x32, .ref x33, .int (bI hr0), .ref x35, .int (bI hk), .ref x37, .ref x38, .long hi2, .long lo2, .long mult2, .int (nI nx2), .int (nI tz2), .int (nI ta2), .ref x45, .int (nI xz2), .ref x47, .int (bI fg2), .int la2, .ref x50])), (x0, .inl (cI, 256, .inl w)), (x1, .inl (cI, 128, .inl mid)), (x8, .inl (cI, 1000, .inl tp)), (x10, .inl (cI, 400, .inl tx)), (x13, .inl (cI, 32, .inl dn)), (x21, .inl (cJ, 100, .inr (.inl yTop))), (x22, .inl (cJ, 100, .inr (.inl yRest))), (x23, .inl (cJ, 100, .inr (.inl yMult))), (x24, .inl (cI, 100, .inl yNext)), (x25, .inl (cI, 100, .inl yTape)), (x26, .inl (cI, 100, .inl yText)), (x27, .inl (cZ, 100, .inl yFig)), (x28, .inl (cI, 100, .inl yLast)), (x29, .inl (cI, 100, .inl yFun)), (x30, .inl (cI, 100, .inl yPair)), (x31, .inl (cI, 100, .inl yLow)), (x32, .inl (cI, 100, .inl yHigh)), (x33, .inl (cI, 100, .inl yMid))] ksz) := by
  have e1 : qHi o w mid hi lo mult = sHi o w mid hi lo mult := qHi_eq hlo36 hmu35
  have e2 : qLo o w mid hi lo mult = sLo o w mid hi lo mult := qLo_eq hlo36 hmu35
  have h := kX10_act l D Z cB cI cJ cZ ksz m0 x0 x1 x8 x10 x13 x14 x21 x22 x23 x24 x25 x26 x27 x28 x29 x30 x31 x32 x33 x35 x37 x38 x45 x47 x50 hi lo mult nx tz ta xz fg la mz re en pv ts nw hr0 hk hi2 lo2 mult2 nx2 tz2 ta2 xz2 fg2 la2 w mid tp tx dn yTop yRest yMult yNext yTape yText yFig yLast yFun yPair yLow yHigh yMid o ho hnx hnw hts9 hw hz h8 h9 htp hla9
  rw [e1, e2] at h
  exact h
