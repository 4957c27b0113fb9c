theorem TV_back {tz : Nat} {tps : Nat → Int32} {nw ts : Nat} (hn : nw < 100) (h : TV tz tps nw ts) (h2 : ts ≤ 100) : TV tz tps (prv nw) (ts - 1) := by
  intro j hj
  have := h (j + 1) (by omega)
  rw [show (prv nw + 100 - j) % 100 = (nw + 100 - (j + 1)) % 100 by have := prv_mod hn; omega]
  exact this
theorem back_ok {ad : Nat → Int32} {od : Nat → Int32} {pr : Nat → Int64} {hs : Nat → Int64} {los : Nat → Int64} {ms : Nat → Int64} {tps : Nat → Int32} {txs : Nat → Int32} {shs : Nat → Int32} {las : Nat → Int32} {yTop : Nat → Int64} {yRest : Nat → Int64} {yMult : Nat → Int64} {yNext : Nat → Int32} {yTape : Nat → Int32} {yText : Nat → Int32} {yFig : Nat → Int32} {yLast : Nat → Int32} {yFun : Nat → Int32} {yPair : Nat → Int32} {yLow : Nat → Int32} {yHigh : Nat → Int32} {yMid : Nat → Int32} {w mid dn : Nat → Int32} {lo mult : Int64} {nx : Nat} {tp : Nat → Int32} {tz ta : Nat} {tx : Nat → Int32} {xz : Nat} {la : Int32} {nw ts : Nat} (hs0 : 0 < ts) (hM : MI w mid lo mult nx tp tz ta tx xz la) (h : TI tz ad od pr hs los ms tps txs shs las nw ts yTop yRest yMult yNext yTape yText yFig yLast yFun yPair yLow yHigh yMid) :
    (upd (upd w (iN (yPair ((nw + 99) % 100))) (yLow ((nw + 99) % 100))) (iN (yPair ((nw + 99) % 100)) + 1) (yHigh ((nw + 99) % 100)) = llW w (iN (od nw) / 2 % 256) (pr nw)) ∧ (upd mid (iN (yPair ((nw + 99) % 100)) / 2) (yMid ((nw + 99) % 100)) = llM mid (iN (od nw) / 2 % 256) (pr nw)) ∧ (upd dn (iN (yFun ((nw + 99) % 100))) (dn (iN (yFun ((nw + 99) % 100))) - 1) = upd dn (iN (od nw) / 4096) (dn (iN (od nw) / 4096) - 1)) ∧
    (yTop ((nw + 99) % 100) = hs nw ∧ yRest ((nw + 99) % 100) = los nw ∧ yMult ((nw + 99) % 100) = ms nw ∧ yNext ((nw + 99) % 100) = ad nw ∧ yTape ((nw + 99) % 100) = tps nw ∧ yText ((nw + 99) % 100) = txs nw ∧ yFig ((nw + 99) % 100) = shs nw ∧ yLast ((nw + 99) % 100) = las nw) ∧ (((nw + 99) % 100) = prv nw) ∧
    MI (llW w (iN (od nw) / 2 % 256) (pr nw)) (llM mid (iN (od nw) / 2 % 256) (pr nw)) (los nw) (ms nw) (iN (ad nw)) tp tz (iN (tps nw)) tx (iN (txs nw)) (las nw) ∧ TI tz ad od pr hs los ms tps txs shs las (prv nw) (ts - 1) yTop yRest yMult yNext yTape yText yFig yLast yFun yPair yLow yHigh yMid := by
  obtain ⟨i1, i2, ⟨c1, c2, c3, c4, c5, c6, c7⟩, ⟨k1, k2, k3, k4, k5, k6⟩, iv, ie⟩ := h
  have hE := ie ((nw + 99) % 100) (by omega)
  unfold TE at hE
  rw [show (((nw + 99) % 100) + 1) % 100 = nw by omega] at hE
  obtain ⟨a1, a2, a3, a4, a5, a6, a7, a8, a9, a10, a11⟩ := hE
  obtain ⟨h1, h2, h3, h4, h5, h6, h7, h8, h9, h10, h11⟩ := hM
  have ho := c1 nw
  have hv := iv 0 hs0
  rw [show (nw + 100 - 0) % 100 = nw by omega] at hv
  refine ⟨?_, ?_, ?_, ⟨a3.symm, a4.symm, a5.symm, a1.symm, a6.symm, a7.symm, a8.symm, a9.symm⟩, (prv_mod i1).symm, ⟨RW_llW h1, RM_llM h2, c4 _, c5 _, c3 _, h6, h7, hv, h9, c6 _, c7 _⟩, ⟨prv_lt i1, by omega, ⟨c1, c2, c3, c4, c5, c6, c7⟩, ⟨k1, k2, k3, k4, k5, k6⟩, TV_back i1 iv i2, ie⟩⟩
  · rw [a2, ll_w (k4 _) (k6 _) (k5 _), a11]
  · rw [a2, ll_m (k4 _) (k6 _) (k5 _), a11, show iN (od nw) / 2 % 256 / 2 * 2 / 2 = iN (od nw) / 2 % 256 / 2 by omega]
  · rw [a10]
