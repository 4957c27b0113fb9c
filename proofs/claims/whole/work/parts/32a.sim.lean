/-! what can be taken back: class and model hold the same -/
theorem nxt_mod {n : Nat} (h : n < 100) : nxt n = (n + 1) % 100 := by unfold nxt; split <;> omega
theorem prv_mod {n : Nat} (h : n < 100) : prv n = (n + 99) % 100 := by unfold prv; split <;> omega
def TCr (ad : Nat → Int32) (od : Nat → Int32) (los : Nat → Int64) (ms : Nat → Int64) (txs : Nat → Int32) (shs : Nat → Int32) (las : Nat → Int32) : Prop := RW od ∧ RB shs ∧ (∀ k : Nat, iN (ad k) < 256) ∧ (∀ k : Nat, R36 (los k)) ∧ (∀ k : Nat, R35 (ms k)) ∧ (∀ k : Nat, iN (txs k) ≤ 400) ∧ (∀ k : Nat, LAok (las k))
def TKr (yFun : Nat → Int32) (yPair : Nat → Int32) (yFig : Nat → Int32) (yHigh : Nat → Int32) (yLow : Nat → Int32) (yMid : Nat → Int32) : Prop := (∀ k : Nat, iN (yFun k) < 32) ∧ (∀ k : Nat, iN (yPair k) < 255) ∧ RB yFig ∧ RW yHigh ∧ RW yLow ∧ RM yMid
def TE (ad : Nat → Int32) (od : Nat → Int32) (pr : Nat → Int64) (hs : Nat → Int64) (los : Nat → Int64) (ms : Nat → Int64) (tps : Nat → Int32) (txs : Nat → Int32) (shs : Nat → Int32) (las : Nat → Int32) (yTop : Nat → Int64) (yRest : Nat → Int64) (yMult : Nat → Int64) (yNext : Nat → Int32) (yTape : Nat → Int32) (yText : Nat → Int32) (yFig : Nat → Int32) (yLast : Nat → Int32) (yFun : Nat → Int32) (yPair : Nat → Int32) (yLow : Nat → Int32) (yHigh : Nat → Int32) (yMid : Nat → Int32) (k : Nat) : Prop := ad ((k + 1) % 100) = yNext k ∧ pr ((k + 1) % 100) = lbits (yHigh k) (yMid k) (yLow k) ∧ hs ((k + 1) % 100) = yTop k ∧ los ((k + 1) % 100) = yRest k ∧ ms ((k + 1) % 100) = yMult k ∧ tps ((k + 1) % 100) = yTape k ∧ txs ((k + 1) % 100) = yText k ∧ shs ((k + 1) % 100) = yFig k ∧ las ((k + 1) % 100) = yLast k ∧ iN (yFun k) = iN (od ((k + 1) % 100)) / 4096 ∧ iN (yPair k) = iN (od ((k + 1) % 100)) / 2 % 256 / 2 * 2
def TV (tz : Nat) (tps : Nat → Int32) (nw ts : Nat) : Prop := ∀ j : Nat, j < ts → iN (tps ((nw + 100 - j) % 100)) ≤ tz
def TI (tz : Nat) (ad : Nat → Int32) (od : Nat → Int32) (pr : Nat → Int64) (hs : Nat → Int64) (los : Nat → Int64) (ms : Nat → Int64) (tps : Nat → Int32) (txs : Nat → Int32) (shs : Nat → Int32) (las : Nat → Int32) (nw ts : Nat) (yTop : Nat → Int64) (yRest : Nat → Int64) (yMult : Nat → Int64) (yNext : Nat → Int32) (yTape : Nat → Int32) (yText : Nat → Int32) (yFig : Nat → Int32) (yLast : Nat → Int32) (yFun : Nat → Int32) (yPair : Nat → Int32) (yLow : Nat → Int32) (yHigh : Nat → Int32) (yMid : Nat → Int32) : Prop := nw < 100 ∧ ts ≤ 100 ∧ TCr ad od los ms txs shs las ∧ TKr yFun yPair yFig yHigh yLow yMid ∧ TV tz tps nw ts ∧ ∀ k : Nat, k < 100 → TE ad od pr hs los ms tps txs shs las yTop yRest yMult yNext yTape yText yFig yLast yFun yPair yLow yHigh yMid k
def TJ (tz : Nat) (T : CT) (K : KT) : Prop := K.2.2.2.2.2.2.2.2.2.2.2.2.2.1 = T.2.2.2.2.2.2.2.2.2.2.1 ∧ K.2.2.2.2.2.2.2.2.2.2.2.2.2.2 = T.2.2.2.2.2.2.2.2.2.2.2 ∧ TI tz (T.1) (T.2.1) (T.2.2.1) (T.2.2.2.1) (T.2.2.2.2.1) (T.2.2.2.2.2.1) (T.2.2.2.2.2.2.1) (T.2.2.2.2.2.2.2.1) (T.2.2.2.2.2.2.2.2.1) (T.2.2.2.2.2.2.2.2.2.1) (T.2.2.2.2.2.2.2.2.2.2.1) (T.2.2.2.2.2.2.2.2.2.2.2) (K.1) (K.2.1) (K.2.2.1) (K.2.2.2.1) (K.2.2.2.2.1) (K.2.2.2.2.2.1) (K.2.2.2.2.2.2.1) (K.2.2.2.2.2.2.2.1) (K.2.2.2.2.2.2.2.2.1) (K.2.2.2.2.2.2.2.2.2.1) (K.2.2.2.2.2.2.2.2.2.2.1) (K.2.2.2.2.2.2.2.2.2.2.2.1) (K.2.2.2.2.2.2.2.2.2.2.2.2.1)
theorem mO_lt {tp : Nat → Int32} {tz : Nat} {S : MT} (h : SI tp tz S) : mO S < 131072 := h.1 _
theorem TJ_note {tp : Nat → Int32} {tz : Nat} {S : MT} {T : CT} {K : KT} (hS : SI tp tz S) (h : TJ tz T K) : TJ tz (cNote S T) (kNote S K) := by
  obtain ⟨ad, od, pr, hs, los, ms, tps, txs, shs, las, nw, ts⟩ := T
  obtain ⟨yTop, yRest, yMult, yNext, yTape, yText, yFig, yLast, yFun, yPair, yLow, yHigh, yMid, nk, tk⟩ := K
  have hO := mO_lt hS
  obtain ⟨h1, h2, h3, h4, h5, h6, h7, h8, h9, h10, h11⟩ := hS
  obtain ⟨e1, e2, i1, i2, ⟨c1, c2, c3, c4, c5, c6, c7⟩, ⟨k1, k2, k3, k4, k5, k6⟩, iv, ie⟩ := h
  have e1 : nk = nw := e1
  have e2 : tk = ts := e2
  subst e1
  subst e2
  have i1 : nk < 100 := i1
  have i2 : tk ≤ 100 := i2
  have ex := nxt_mod i1
  refine ⟨ex.symm, rfl, nxt_lt _, Nat.min_le_right _ _, ⟨?_, ?_, ?_, ?_, ?_, ?_, ?_⟩, ⟨?_, ?_, ?_, ?_, ?_, ?_⟩, ?_, ?_⟩
  · exact all_upd (p := fun y => iN y < 131072) c1 _ (by rw [iN_nI (by omega)]; exact hO)
  · exact RB_upd c2 _ _
  · exact all_upd (p := fun y => iN y < 256) c3 _ (by rw [iN_nI (by omega)]; exact h5)
  · exact all_updL (p := fun y => R36 y) c4 _ h3
  · exact all_updL (p := fun y => R35 y) c5 _ h4
  · exact all_upd (p := fun y => iN y ≤ 400) c6 _ (by rw [iN_nI (by omega)]; exact h10)
  · exact all_upd (p := fun y => LAok y) c7 _ h11
  · exact all_upd (p := fun y => iN y < 32) k1 _ (by rw [iN_nI (by omega)]; omega)
  · exact all_upd (p := fun y => iN y < 255) k2 _ (by rw [iN_nI (by omega)]; omega)
  · exact RB_upd k3 _ _
  · exact all_upd (p := fun y => iN y < 131072) k4 _ (h1 _)
  · exact all_upd (p := fun y => iN y < 131072) k5 _ (h1 _)
  · exact all_upd (p := fun y => iN y < 2) k6 _ (h2 _)
  · intro j hj
    show iN (upd tps (nxt nk) (nI (mTa S)) ((nxt nk + 100 - j) % 100)) ≤ tz
    have hj : j < min (tk + 1) 100 := hj
    by_cases q : j = 0
    · subst q
      rw [show (nxt nk + 100 - 0) % 100 = nxt nk by have := nxt_lt nk; omega, pk_us, iN_nI (by omega)]
      exact h8
    · have := iv (j - 1) (show j - 1 < tk by omega)
      rw [pk_un (by omega), show (nxt nk + 100 - j) % 100 = (nk + 100 - (j - 1)) % 100 by omega]
      exact this
  · intro k hk
    by_cases q : k = nk
    · subst q
      unfold TE
      rw [← ex]
      refine ⟨?_, ?_, ?_, ?_, ?_, ?_, ?_, ?_, ?_, ?_, ?_⟩
      · show upd ad (nxt k) _ (nxt k) = upd yNext k _ k
        rw [pk_us, pk_us]
      · show vp_updL pr (nxt k) _ (nxt k) = lbits (upd yHigh k _ k) (upd yMid k _ k) (upd yLow k _ k)
        rw [pk_uLs, pk_us, pk_us, pk_us]
        rfl
      · show vp_updL hs (nxt k) _ (nxt k) = vp_updL yTop k _ k
        rw [pk_uLs, pk_uLs]
      · show vp_updL los (nxt k) _ (nxt k) = vp_updL yRest k _ k
        rw [pk_uLs, pk_uLs]
      · show vp_updL ms (nxt k) _ (nxt k) = vp_updL yMult k _ k
        rw [pk_uLs, pk_uLs]
      · show upd tps (nxt k) _ (nxt k) = upd yTape k _ k
        rw [pk_us, pk_us]
      · show upd txs (nxt k) _ (nxt k) = upd yText k _ k
        rw [pk_us, pk_us]
      · show upd shs (nxt k) _ (nxt k) = upd yFig k _ k
        rw [pk_us, pk_us]
      · show upd las (nxt k) _ (nxt k) = upd yLast k _ k
        rw [pk_us, pk_us]
      · show iN (upd yFun k (nI (mO S / 4096)) k) = iN (upd od (nxt k) (nI (mO S)) (nxt k)) / 4096
        rw [pk_us, pk_us, iN_nI (by omega), iN_nI (by omega)]
      · show iN (upd yPair k (nI (mO S / 2 % 256 / 2 * 2)) k) = iN (upd od (nxt k) (nI (mO S)) (nxt k)) / 2 % 256 / 2 * 2
        rw [pk_us, pk_us, iN_nI (by omega), iN_nI (by omega)]
    · have hE := ie k hk
      have hn : (k + 1) % 100 ≠ nxt nk := by omega
      obtain ⟨a1, a2, a3, a4, a5, a6, a7, a8, a9, a10, a11⟩ := hE
      refine ⟨?_, ?_, ?_, ?_, ?_, ?_, ?_, ?_, ?_, ?_, ?_⟩
      · show upd ad (nxt nk) _ _ = upd yNext nk _ k
        rw [pk_un hn, pk_un q]; exact a1
      · show vp_updL pr (nxt nk) _ _ = lbits (upd yHigh nk _ k) (upd yMid nk _ k) (upd yLow nk _ k)
        rw [pk_uLn hn, pk_un q, pk_un q, pk_un q]; exact a2
      · show vp_updL hs (nxt nk) _ _ = vp_updL yTop nk _ k
        rw [pk_uLn hn, pk_uLn q]; exact a3
      · show vp_updL los (nxt nk) _ _ = vp_updL yRest nk _ k
        rw [pk_uLn hn, pk_uLn q]; exact a4
      · show vp_updL ms (nxt nk) _ _ = vp_updL yMult nk _ k
        rw [pk_uLn hn, pk_uLn q]; exact a5
      · show upd tps (nxt nk) _ _ = upd yTape nk _ k
        rw [pk_un hn, pk_un q]; exact a6
      · show upd txs (nxt nk) _ _ = upd yText nk _ k
        rw [pk_un hn, pk_un q]; exact a7
      · show upd shs (nxt nk) _ _ = upd yFig nk _ k
        rw [pk_un hn, pk_un q]; exact a8
      · show upd las (nxt nk) _ _ = upd yLast nk _ k
        rw [pk_un hn, pk_un q]; exact a9
      · show iN (upd yFun nk _ k) = iN (upd od (nxt nk) _ _) / 4096
        rw [pk_un hn, pk_un q]; exact a10
      · show iN (upd yPair nk _ k) = iN (upd od (nxt nk) _ _) / 2 % 256 / 2 * 2
        rw [pk_un hn, pk_un q]; exact a11
theorem run_sim {tp : Nat → Int32} {tz : Nat} {im : Nat → Int32} : ∀ (n c : Nat) (S : MT) (T : CT) (K : KT), SI tp tz S → TJ tz T K → ∃ (c1 : Nat) (S1 : MT) (T1 : CT) (K1 : KT) (r1 : Int32), rnR cNote tp tz im n c S T = (c1, S1, T1, r1) ∧ rnR kNote tp tz im n c S K = (c1, S1, K1, r1) ∧ SI tp tz S1 ∧ TJ tz T1 K1
  | 0, c, S, T, K, hS, hT => ⟨c, S, T, K, 0, rfl, rfl, hS, hT⟩
  | n + 1, c, S, T, K, hS, hT => by
    rw [rnR, rnR]
    by_cases q : 0 < c ∧ tB (im (mNx S)) = true
    · rw [if_pos q, if_pos q]
      exact ⟨c, S, T, K, 5, rfl, rfl, hS, hT⟩
    · rw [if_neg q, if_neg q]
      by_cases q2 : mH tz S = 0
      · rw [if_pos q2, if_pos q2]
        by_cases q3 : mO S / 4096 = 13
        · rw [if_pos q3, if_pos q3]
          exact ⟨c + 1, mDo tp S, cNote S T, kNote S K, 1, rfl, rfl, SI_do hS q2, TJ_note hS hT⟩
        · rw [if_neg q3, if_neg q3]
          exact run_sim n (c + 1) (mDo tp S) (cNote S T) (kNote S K) (SI_do hS q2) (TJ_note hS hT)
      · rw [if_neg q2, if_neg q2]
        exact ⟨c, S, T, K, mH tz S, rfl, rfl, hS, hT⟩
