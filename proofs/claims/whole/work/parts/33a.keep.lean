/-! what each call keeps of the invariant -/
theorem TI_0 {ad : Nat → Int32} {od : Nat → Int32} {pr : Nat → Int64} {hs : Nat → Int64} {los : Nat → Int64} {ms : Nat → Int64} {tps : Nat → Int32} {txs : Nat → Int32} {shs : Nat → Int32} {las : Nat → Int32} {yTop : Nat → Int64} {yRest : Nat → Int64} {yMult : Nat → Int64} {yNext : Nat → Int32} {yTape : Nat → Int32} {yText : Nat → Int32} {yFig : Nat → Int32} {yLast : Nat → Int32} {yFun : Nat → Int32} {yPair : Nat → Int32} {yLow : Nat → Int32} {yHigh : Nat → Int32} {yMid : Nat → Int32} {tz tz2 nw ts : Nat} (h : TI tz ad od pr hs los ms tps txs shs las nw ts yTop yRest yMult yNext yTape yText yFig yLast yFun yPair yLow yHigh yMid) : TI tz2 ad od pr hs los ms tps txs shs las nw 0 yTop yRest yMult yNext yTape yText yFig yLast yFun yPair yLow yHigh yMid := ⟨h.1, Nat.zero_le _, h.2.2.1, h.2.2.2.1, fun j hj => absurd hj (Nat.not_lt_zero _), h.2.2.2.2.2⟩
theorem TI_if {ad : Nat → Int32} {od : Nat → Int32} {pr : Nat → Int64} {hs : Nat → Int64} {los : Nat → Int64} {ms : Nat → Int64} {tps : Nat → Int32} {txs : Nat → Int32} {shs : Nat → Int32} {las : Nat → Int32} {yTop : Nat → Int64} {yRest : Nat → Int64} {yMult : Nat → Int64} {yNext : Nat → Int32} {yTape : Nat → Int32} {yText : Nat → Int32} {yFig : Nat → Int32} {yLast : Nat → Int32} {yFun : Nat → Int32} {yPair : Nat → Int32} {yLow : Nat → Int32} {yHigh : Nat → Int32} {yMid : Nat → Int32} {tz nw ts : Nat} {P : Prop} [Decidable P] (h : TI tz ad od pr hs los ms tps txs shs las nw ts yTop yRest yMult yNext yTape yText yFig yLast yFun yPair yLow yHigh yMid) : TI tz ad od pr hs los ms tps txs shs las nw (if P then 0 else ts) yTop yRest yMult yNext yTape yText yFig yLast yFun yPair yLow yHigh yMid := by
  by_cases q : P
  · rw [if_pos q]; exact TI_0 h
  · rw [if_neg q]; exact h
theorem TI_if2 {ad : Nat → Int32} {od : Nat → Int32} {pr : Nat → Int64} {hs : Nat → Int64} {los : Nat → Int64} {ms : Nat → Int64} {tps : Nat → Int32} {txs : Nat → Int32} {shs : Nat → Int32} {las : Nat → Int32} {yTop : Nat → Int64} {yRest : Nat → Int64} {yMult : Nat → Int64} {yNext : Nat → Int32} {yTape : Nat → Int32} {yText : Nat → Int32} {yFig : Nat → Int32} {yLast : Nat → Int32} {yFun : Nat → Int32} {yPair : Nat → Int32} {yLow : Nat → Int32} {yHigh : Nat → Int32} {yMid : Nat → Int32} {tz tz2 nw ts : Nat} {P : Prop} [Decidable P] (h : TI tz ad od pr hs los ms tps txs shs las nw ts yTop yRest yMult yNext yTape yText yFig yLast yFun yPair yLow yHigh yMid) : TI (if P then tz2 else tz) ad od pr hs los ms tps txs shs las nw (if P then 0 else ts) yTop yRest yMult yNext yTape yText yFig yLast yFun yPair yLow yHigh yMid := by
  by_cases q : P
  · rw [if_pos q, if_pos q]; exact TI_0 h
  · rw [if_neg q, if_neg q]; exact h
theorem iN_le {v : Int32} {n : Nat} (h1 : ¬ v < 0) (h2 : v ≤ nI n) (hn : n < 2147483648) : iN v ≤ n := by
  obtain ⟨j, hj, rfl⟩ := nI_of h1
  rw [iN_nI (by omega)]
  exact nI_leL hj hn h2
theorem RW_store {w : Nat → Int32} {n v : Int32} (h : RW w) : RW (if okS n v then upd w n.toNatClampNeg v else w) := by
  by_cases q : okS n v
  · rw [if_pos q]
    have := iN_le (n := 131071) q.2.1 q.2.2 (by decide)
    exact RW_upd h _ (by omega)
  · rw [if_neg q]; exact h
theorem RW_llW {w : Nat → Int32} {j : Nat} {x : Int64} (h : RW w) : RW (llW w j x) := RW_upd (RW_upd h _ (iN_m17 _)) _ (iN_m17 _)
theorem RM_llM {mid : Nat → Int32} {j : Nat} {x : Int64} (h : RM mid) : RM (llM mid j x) := all_upd (p := fun y => iN y < 2) h _ (iN_m1 _)
theorem RW_storeL {w : Nat → Int32} {n : Int32} {v : Int64} (h : RW w) : RW (if okL n v then llW w n.toNatClampNeg v else w) := by
  split
  · exact RW_llW h
  · exact h
theorem RM_storeL {mid : Nat → Int32} {n : Int32} {v : Int64} (h : RM mid) : RM (if okL n v then llM mid n.toNatClampNeg v else mid) := by
  split
  · exact RM_llM h
  · exact h
theorem RW_order {w : Nat → Int32} {n f a : Int32} {lg : Bool} (h : RW w) : RW (if okO n f a then upd w n.toNatClampNeg (orW f a lg) else w) := by
  by_cases q : okO n f a
  · rw [if_pos q]
    obtain ⟨_, q2, q3, q4⟩ := q
    obtain ⟨jf, hf, rfl⟩ := sy_of q2
    obtain ⟨ja, ha, rfl⟩ := nI_of q3
    have ha2 := nI_leL (k := 1023) ha (by decide) q4
    rw [← orW_m hf (by omega) lg]
    exact RW_upd h _ (iN_m17 _)
  · rw [if_neg q]; exact h
theorem R36_set {lo a b : Int64} (h : R36 lo) : R36 (if okT a b then b else lo) := by
  by_cases q : okT a b
  · rw [if_pos q]
    obtain ⟨_, _, q3, q4⟩ := q
    have h0 : (0 : Int64).toInt = 0 := by decide
    have h1 : (68719476735 : Int64).toInt = 68719476735 := by decide
    rw [Int64.lt_iff_toInt_lt, h0] at q3
    rw [Int64.le_iff_toInt_le, h1] at q4
    exact ⟨by omega, by omega⟩
  · rw [if_neg q]; exact h
theorem T5_pn (v : Int64) : ∀ (k : Nat) (tp : Nat → Int32) (tz : Nat), T5 tp → T5 (pnT v k tp tz)
  | 0, _, _, h => h
  | k + 1, tp, tz, h => T5_pn v k _ _ (all_upd (p := fun y => iN y < 32) h _ (symv_lt v k))
theorem T5_punch {v : Int64} {n : Int32} {tp : Nat → Int32} {tz : Nat} (h : T5 tp) : T5 (if okP n tz then pnT v n.toNatClampNeg tp tz else tp) := by
  split
  · exact T5_pn _ _ _ _ h
  · exact h
theorem tz_punch {n : Int32} {tz ta : Nat} (h : tz ≤ 1000) (h2 : ta ≤ tz) : (if okP n tz then tz + n.toNatClampNeg else tz) ≤ 1000 ∧ ta ≤ (if okP n tz then tz + n.toNatClampNeg else tz) := by
  by_cases q : okP n tz
  · rw [if_pos q]
    have := q.2.2
    omega
  · rw [if_neg q]; exact ⟨h, h2⟩
theorem nx_start {n : Int32} {nx : Nat} (h : nx < 256) : (if ad n = true then n.toNatClampNeg else nx) < 256 := by
  by_cases q : ad n = true
  · rw [if_pos q]
    obtain ⟨j, hj, rfl⟩ := ad_of q
    rw [ad_clamp hj]; exact hj
  · rw [if_neg q]; exact h
theorem cn_f {ct : Nat → Int32} {j : Nat} (hj : j < 256) (b : Bool) : cn (upd ct j (bI b)) + (if tB (ct j) = true then 1 else 0) = cn ct + (if b = true then 1 else 0) := by
  have h := fb_ct_upd (fun k => tB (ct k)) b (i := j) (n := 256) hj
  have e : cn (upd ct j (bI b)) = fb_ct (fun k => if k = j then b else tB (ct k)) 256 := fb_ct_cong (fun k _ => by
    by_cases q : k = j
    · subst q
      rw [pk_us, tB_bI, if_pos rfl]
    · rw [pk_un q, if_neg q])
  rw [e]
  exact h
theorem mk_ok {n : Int32} {on : Bool} {im : Nat → Int32} {mz : Nat} (h1 : RB im) (h2 : mz ≤ 8) (h3 : mz = cn im) : RB (if okM n on im mz then upd im n.toNatClampNeg (bI on) else im) ∧ (if okM n on im mz then mkM n on im mz else mz) ≤ 8 ∧ (if okM n on im mz then mkM n on im mz else mz) = cn (if okM n on im mz then upd im n.toNatClampNeg (bI on) else im) := by
  by_cases q : okM n on im mz
  · rw [if_pos q, if_pos q]
    obtain ⟨q1, q2⟩ := q
    obtain ⟨j, hj, rfl⟩ := ad_of q1
    have hc := cn_f (ct := im) hj on
    unfold mkF at q2
    rw [ad_clamp hj] at q2
    unfold mkM
    rw [ad_clamp hj]
    refine ⟨RB_upd h1 _ _, ?_⟩
    by_cases z : tB (im j) = on
    · rw [if_pos z]
      rw [z] at hc
      exact ⟨h2, by omega⟩
    · rw [if_neg z]
      cases on
      · have e : tB (im j) = true := by
          cases hh : tB (im j)
          · exact absurd hh z
          · rfl
        rw [if_pos e, if_neg (by decide)] at hc
        rw [if_neg (by decide)]
        omega
      · have e : tB (im j) = false := by
          cases hh : tB (im j)
          · rfl
          · exact absurd hh z
        have hz : ¬ 8 ≤ mz := fun y => q2 ⟨rfl, e, y⟩
        rw [if_neg (by rw [e]; decide), if_pos rfl] at hc
        rw [if_pos rfl]
        omega
  · rw [if_neg q, if_neg q]
    exact ⟨h1, h2, h3⟩
theorem mk_pos {im : Nat → Int32} {mz : Nat} (h3 : mz = cn im) : ∀ j : Nat, j < 256 → tB (im j) = true → 0 < mz := by
  intro j hj h
  rw [h3]
  exact fb_ct_pos.mpr ⟨j, hj, h⟩
/-- the loader keeps the ranges -/
theorem ldR_ok {tp : Nat → Int32} {tz : Nat} : ∀ (k : Nat) (w : Nat → Int32) (nx pl ld ta : Nat), RW w → nx < 256 → pl < 256 → ta ≤ tz → RW (ldR tp tz k w nx pl ld ta).1 ∧ (ldR tp tz k w nx pl ld ta).2.1 < 256 ∧ (ldR tp tz k w nx pl ld ta).2.2.2.2.1 ≤ tz
  | 0, w, nx, pl, ld, ta, h1, h2, _, h4 => ⟨h1, h2, h4⟩
  | k + 1, w, nx, pl, ld, ta, h1, h2, h3, h4 => by
    have a1 : RW (kW tp tz ta w pl) := by
      unfold kW
      split
      · exact RW_upd h1 _ (iN_m17 _)
      · split
        · exact RW_upd h1 _ (by rw [iN_nI (by omega)]; omega)
        · exact h1
    have a2 : kNx tp tz ta nx < 256 := by
      unfold kNx
      split <;> omega
    have a3 : kPl tp tz ta pl < 256 := kPl_lt h3
    have a4 := (kTa_in (tp := tp) h4).2.1
    rw [ldR]
    split
    · exact ldR_ok k _ _ _ _ _ a1 a2 a3 a4
    · exact ⟨a1, a2, a4⟩
theorem ldA_ok {tp : Nat → Int32} {tz : Nat} {w : Nat → Int32} {nx ta : Nat} (h1 : RW w) (h2 : nx < 256) (h4 : ta ≤ tz) : RW (ldA tp tz w nx ta).1 ∧ (ldA tp tz w nx ta).2.1 < 256 ∧ (ldA tp tz w nx ta).2.2.2.2.1 ≤ tz := by
  refine ldR_ok _ _ _ _ _ _ ?_ h2 (by decide) h4
  unfold ldW0
  exact RW_upd (RW_upd h1 _ (iN_m17 _)) _ (iN_m17 _)
/-- what is come to, seen from both -/
theorem altB_cong {o : Nat} {ct cm : Nat → Int32} (h : ∀ k, k < 256 → tB (ct k) = tB (cm k)) : altB o ct = altB o cm := by
  rw [al_def, al_def]
  unfold alI
  rw [h _ (by omega), h _ (by omega), h _ (by omega)]
theorem frs_cong {p q : Nat → Bool} : ∀ n, (∀ k, k < n → p k = q k) → frs p n = frs q n
  | 0, _ => rfl
  | n + 1, h => by
    rw [frs, frs, frs_cong n (fun k hk => h k (by omega)), h n (by omega)]
theorem altR_cong {w ct cm : Nat → Int32} (h : ∀ k, k < 256 → tB (ct k) = tB (cm k)) : altR w ct = altR w cm := by
  have e : frs (altP w ct) 256 = frs (altP w cm) 256 := frs_cong 256 (fun k hk => by
    unfold altP
    rw [h k hk, altB_cong h])
  unfold altR
  rw [e]
theorem altR_none {w ct : Nat → Int32} (h : ∀ k, k < 256 → tB (ct k) = false) : altR w ct = -1 := (altR_no (i := 256) (fun k hk => al_f1 (h k hk)) (Nat.le_refl _)).symm
theorem alt_eq {w ct cm : Nat → Int32} {hr0 : Bool} (h : ∀ k, k < 256 → tB (ct k) = tB (cm k)) (h2 : hr0 = false → ∀ k, k < 256 → tB (ct k) = false) : altR w ct = if hr0 = true then altR w cm else -1 := by
  cases hr0
  · rw [if_neg (by decide)]
    exact altR_none (h2 rfl)
  · rw [if_pos rfl]
    exact altR_cong h
theorem aRd_eq {n : Int32} {ct cm : Nat → Int32} (h : ∀ k, k < 256 → tB (ct k) = tB (cm k)) : aRd n ct = aRd n cm := by
  unfold aRd
  by_cases q : ad n = true
  · obtain ⟨j, hj, rfl⟩ := ad_of q
    rw [if_pos q, if_pos q, ad_clamp hj, h j hj]
  · rw [if_neg q, if_neg q]
theorem cn_cong {ct cm : Nat → Int32} (h : ∀ k, k < 256 → tB (ct k) = tB (cm k)) : cn ct = cn cm := fb_ct_cong h
/-- a run, seen from both -/
theorem run_eq {tp : Nat → Int32} {tz n : Nat} {im : Nat → Int32} {S Sc Sk : MT} {T Tc : CT} {K Kk : KT} {kc kk : Nat} {rc rk : Int32} (hS : SI tp tz S) (hT : TJ tz T K) (hc : rnR cNote tp tz im n 0 S T = (kc, Sc, Tc, rc)) (hk : rnR kNote tp tz im n 0 S K = (kk, Sk, Kk, rk)) : kc = kk ∧ Sc = Sk ∧ rc = rk ∧ SI tp tz Sc ∧ TJ tz Tc Kk := by
  obtain ⟨c1, S1, T1, K1, r1, e1, e2, s1, s2⟩ := run_sim n 0 S T K hS hT
  rw [hc] at e1
  rw [hk] at e2
  simp only [Prod.mk.injEq] at e1 e2
  obtain ⟨a1, a2, a3, a4⟩ := e1
  obtain ⟨b1, b2, b3, b4⟩ := e2
  refine ⟨a1.trans b1.symm, a2.trans b2.symm, a4.trans b4.symm, ?_, ?_⟩
  · rw [a2]; exact s1
  · rw [a3, b3]; exact s2
