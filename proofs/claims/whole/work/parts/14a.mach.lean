theorem sNx_3a {o nx : Nat} {hi : Int64} (h : o / 4096 = 3) (c : ¬ hi < 0) : o / 2 % 256 = sNx o hi nx := by rw [sNx, if_pos h, if_pos (Int64.not_lt.mp c)]
theorem sNx_3b {o nx : Nat} {hi : Int64} (h : o / 4096 = 3) (c : hi < 0) : (nx + 1) % 256 = sNx o hi nx := by rw [sNx, if_pos h, if_neg (Int64.not_le.mpr c)]
theorem sNx_27a {o nx : Nat} {hi : Int64} (h : o / 4096 = 27) (c : 0 ≤ hi) : (nx + 1) % 256 = sNx o hi nx := by rw [sNx, if_neg (by omega), if_pos h, if_pos c]
theorem sNx_27b {o nx : Nat} {hi : Int64} (h : o / 4096 = 27) (c : ¬ 0 ≤ hi) : o / 2 % 256 = sNx o hi nx := by rw [sNx, if_neg (by omega), if_pos h, if_neg c]
theorem hadr_lt {o : Nat} : hadr o < 256 := by unfold hadr; split <;> omega
def nxt (n : Nat) : Nat := if n + 1 < 100 then n + 1 else 0
def prv (n : Nat) : Nat := if 0 < n then n - 1 else 99
theorem nxt_lt (n : Nat) : nxt n < 100 := by unfold nxt; split <;> omega
theorem prv_lt {n : Nat} (h : n < 100) : prv n < 100 := by unfold prv; split <;> omega
theorem e_min {n : Nat} (h : n < 1000) : (if (100 : Int32) < nI (n + 1) then (100 : Int32) else nI (n + 1)) = nI (min (n + 1) 100) := by
  by_cases q : 100 < n + 1
  · rw [if_pos (show (100 : Int32) < nI (n + 1) from nI_lt (a := 100) q (by omega)), Nat.min_eq_right (by omega)]; rfl
  · rw [if_neg (show ¬ (100 : Int32) < nI (n + 1) from nI_nlt (a := 100) (b := n + 1) (by omega) (by omega)), Nat.min_eq_left (by omega)]
set_option maxHeartbeats 4000000 in
set_option maxRecDepth 100000 in
theorem kX3_reckon (l : Launch) (D : va_G) (Z : SZ) (cB cI cJ cZ : ClassId) (ksz : Nat) (h0 : Nat) (a1 : Nat) (a2 : Nat) (a3 : Nat) (a4 : Nat) (a5 : Nat) (a6 : Nat) (a7 : Nat) (w : Nat → Int32) (mid : Nat → Int32) (hi : Int64) (lo : Int64) (mult : Int64) (nx : Nat) (o : Nat) (ho : o < 131072) : Met l yX3_reckon wsX3_reckon { frames := 3, cells := 0, slots := 0, locals := 76 } (PR D Z [(cB, .byte), (cI, .int), (cJ, .long), (cZ, .boolean)] [.ref h0, .int (nI o)] [(h0, .inr (3, [.ref a1, .ref a2, .ref a3, .ref a4, .ref a5, .long mult, .int (nI nx)])), (a1, .inr (5, [.ref a6, .ref a7])), (a6, .inl (cI, 256, .inl w)), (a7, .inl (cI, 128, .inl mid)), (a2, .inr (0, [.long hi, .long lo]))] ksz) (QV D (fun (u : Int64 × Int64 × Int64) => u.1 = (rHi o w mid hi lo mult) ∧ u.2.1 = (rLo o w mid hi lo mult) ∧ u.2.2 = (rMu o w mid mult)) (fun (u : Int64 × Int64 × Int64) => [(h0, .inr (3, [.ref a1, .ref a2, .ref a3, .ref a4, .ref a5, .long u.2.2, .int (nI nx)])), (a1, .inr (5, [.ref a6, .ref a7])), (a6, .inl (cI, 256, .inl w)), (a7, .inl (cI, 128, .inl mid)), (a2, .inr (0, [.long u.1, .long u.2.1]))]) (va_A [(h0, .inr (3, [.ref a1, .ref a2, .ref a3, .ref a4, .ref a5, .long mult, .int (nI nx)])), (a1, .inr (5, [.ref a6, .ref a7])), (a6, .inl (cI, 256, .inl w)), (a7, .inl (cI, 128, .inl mid)), (a2, .inr (0, [.long hi, .long lo]))] ksz)) 0 0 (va_A [(h0, .inr (3, [.ref a1, .ref a2, .ref a3, .ref a4, .ref a5, .long mult, .int (nI nx)])), (a1, .inr (5, [.ref a6, .ref a7])), (a6, .inl (cI, 256, .inl w)), (a7, .inl (cI, 128, .inl mid)), (a2, .inr (0, [.long hi, .long lo]))] ksz) := by
  refine met_g (QV D (fun (u : Int64 × Int64 × Int64) => u.1 = (rHi o w mid hi lo mult) ∧ u.2.1 = (rLo o w mid hi lo mult) ∧ u.2.2 = (rMu o w mid mult)) (fun (u : Int64 × Int64 × Int64) => [(h0, .inr (3, [.ref a1, .ref a2, .ref a3, .ref a4, .ref a5, .long u.2.2, .int (nI nx)])), (a1, .inr (5, [.ref a6, .ref a7])), (a6, .inl (cI, 256, .inl w)), (a7, .inl (cI, 128, .inl mid)), (a2, .inr (0, [.long u.1, .long u.2.1]))])) cX3_reckon 2 none (by decide) rfl (Nat.le_of_ble_eq_true rfl) ?_
  intro p e s m below meth c A ls hx hb hr hts hown hlocks hml hin hA hP hK hD hE hS hl hsz
  clear hsz
  have hl : lv_has ls 2 [(0, .ref h0), (1, .int (nI o))] := hl
  refine lv_iload_n hx hb dX3_reckon_0 rfl (lv_at hl 1 rfl) ?_
  refine pN_i (As := [.int (nI o)]) (rest := []) ⟨hx, hb, hml, hown, hts⟩ (kX9_functionOf l Z o (by first | assumption | omega)) ⟨va_cnB 1 hts gX3_reckon_X9_functionOf_n59 rfl rfl rfl (nm_X3_59 hE) (hts (.initialized RX9) (by decide +kernel)) (by decide +kernel) ⟨Nat.le_of_ble_eq_true rfl, Nat.le_of_ble_eq_true rfl⟩, (hts (.static yX9_functionOf) (by decide +kernel)), trivial⟩ hK hE hP hD hS hA hl.1 rfl rfl (Nat.le_of_ble_eq_true rfl) dX3_reckon_1 ⟨Nat.le_of_ble_eq_true rfl, Nat.le_of_ble_eq_true rfl⟩ (fun H locs hP hS => ?_)
  have hv : o / 4096 = 28 ∨ o / 4096 = 12 ∨ o / 4096 = 21 ∨ o / 4096 = 31 ∨ o / 4096 = 22 ∨ o / 4096 = 30 ∨ o / 4096 = 4 ∨ o / 4096 = 25 ∨ o / 4096 = 6 ∨ (¬ o / 4096 = 28 ∧ ¬ o / 4096 = 12 ∧ ¬ o / 4096 = 21 ∧ ¬ o / 4096 = 31 ∧ ¬ o / 4096 = 22 ∧ ¬ o / 4096 = 30 ∧ ¬ o / 4096 = 4 ∧ ¬ o / 4096 = 25 ∧ ¬ o / 4096 = 6) := by omega
  rcases hv with cv | cv | cv | cv | cv | cv | cv | cv | cv | cv
  · skip
    refine lv_tab (tgt := 132) hx hb dX3_reckon_4 (by rw [cv] <;> decide +kernel) (by decide) (by decide) ?_
    refine lv_aload_n hx hb dX3_reckon_132 rfl (lv_at hl 0 rfl) ?_
    refine va_get (D := D) (ci := 3) (v := .ref a2) (C := RX3) (T := TX3) (N := 7) hx hb hts (by decide +kernel) hown hK hP 0 rfl rfl 1 (by decide) (hts (.fieldLink RX3 21 "TapeEngine$Machine" "ac" "LTapeEngine$Accumulator;") (by decide +kernel)) (fun _ h9 => h9) rfl dX3_reckon_133 ?_
    refine lv_aload_n hx hb dX3_reckon_136 rfl (lv_at hl 0 rfl) ?_
    refine lv_iload_n hx hb dX3_reckon_137 rfl (lv_at hl 1 rfl) ?_
    refine kV_l (As := [.int (nI o)]) (rest := [.ref a2]) (wr := [(a2, .inr (0, [.long hi, .long lo]))]) ⟨hx, hb, hml, hown, hts⟩ (kX3_operand l D Z cB cI cJ cZ H.size h0 a1 a2 a3 a4 a5 a6 a7 w mid mult nx o (by first | assumption | omega)) (cwV 1 hts gX3_reckon_X3_operand rfl rfl rfl (by decide +kernel) ⟨Nat.le_of_ble_eq_true rfl, Nat.le_of_ble_eq_true rfl⟩) hK hE hP hD hS hA 0 3 rfl rfl rfl [0, 1, 2, 3] [4] rfl rfl rfl rfl rfl (by decide) hl.1 rfl rfl (Nat.le_of_ble_eq_true rfl) dX3_reckon_138 ⟨Nat.le_of_ble_eq_true rfl, Nat.le_of_ble_eq_true rfl⟩ (fun r u H locs hp hP hD hS => ?_)
    try dsimp only at hp
    have hq_0 := hp
    have hq_0 := hq_0.symm
    subst hq_0
    have hP : va_P D vwCl [(a2, .inr (0, [.long hi, .long lo])), (h0, .inr (3, [.ref a1, .ref a2, .ref a3, .ref a4, .ref a5, .long mult, .int (nI nx)])), (a1, .inr (5, [.ref a6, .ref a7])), (a6, .inl (cI, 256, .inl w)), (a7, .inl (cI, 128, .inl mid))] H := hP
    have hD : va_D A [(a2, .inr (0, [.long hi, .long lo])), (h0, .inr (3, [.ref a1, .ref a2, .ref a3, .ref a4, .ref a5, .long mult, .int (nI nx)])), (a1, .inr (5, [.ref a6, .ref a7])), (a6, .inl (cI, 256, .inl w)), (a7, .inl (cI, 128, .inl mid))] := hD
    refine lv_lconst (v := 0) hx hb dX3_reckon_141 (by decide) ?_
    refine kV_v (As := [.long (opd w mid o), .long 0]) (rest := []) (wr := [(h0, .inr (3, [.ref a1, .ref a2, .ref a3, .ref a4, .ref a5, .long mult, .int (nI nx)])), (a1, .inr (5, [.ref a6, .ref a7])), (a6, .inl (cI, 256, .inl w)), (a7, .inl (cI, 128, .inl mid))]) ⟨hx, hb, hml, hown, hts⟩ (kX0_plus l D Z cB cI cJ cZ H.size a2 hi lo (opd w mid o) 0 ) (cwV 2 hts gX3_reckon_X0_plus rfl rfl rfl (by decide +kernel) ⟨Nat.le_of_ble_eq_true rfl, Nat.le_of_ble_eq_true rfl⟩) hK hE hP hD hS hA 0 0 rfl rfl rfl [0] [1, 2, 3, 4] rfl rfl rfl rfl rfl (by decide) hl.1 rfl rfl (Nat.le_of_ble_eq_true rfl) dX3_reckon_142 ⟨Nat.le_of_ble_eq_true rfl, Nat.le_of_ble_eq_true rfl⟩ (fun u H locs hp hP hD hS => ?_)
    obtain ⟨v_1, v_2⟩ := u
    try dsimp only at hp
    obtain ⟨hq_0, hq_1⟩ := hp
    have hq_0 := hq_0.symm
    subst hq_0
    have hq_1 := hq_1.symm
    subst hq_1
    have hP : va_P D vwCl [(h0, .inr (3, [.ref a1, .ref a2, .ref a3, .ref a4, .ref a5, .long mult, .int (nI nx)])), (a1, .inr (5, [.ref a6, .ref a7])), (a6, .inl (cI, 256, .inl w)), (a7, .inl (cI, 128, .inl mid)), (a2, .inr (0, [.long (gTop hi lo (opd w mid o) (0 : Int64)), .long (gRest lo (0 : Int64))]))] H := hP
    have hD : va_D A [(h0, .inr (3, [.ref a1, .ref a2, .ref a3, .ref a4, .ref a5, .long mult, .int (nI nx)])), (a1, .inr (5, [.ref a6, .ref a7])), (a6, .inl (cI, 256, .inl w)), (a7, .inl (cI, 128, .inl mid)), (a2, .inr (0, [.long (gTop hi lo (opd w mid o) (0 : Int64)), .long (gRest lo (0 : Int64))]))] := hD
    refine lv_goto (tgt := 282) hx hb dX3_reckon_145 (by decide) ?_
    exact ret_v hx hb hr hlocks ((gTop hi lo (opd w mid o) (0 : Int64)), (gRest lo (0 : Int64)), mult) ⟨(by first | (simp only [rHi, cv]; done) | (simp [rHi, cv]; done) | (simp [rHi, rHi, rLo, rMu, cv]; done)), (by first | (simp only [rLo, cv]; done) | (simp [rLo, cv]; done) | (simp [rLo, rHi, rLo, rMu, cv]; done)), (by first | (simp only [rMu, cv]; done) | (simp [rMu, cv]; done) | (simp [rMu, rHi, rLo, rMu, cv]; done))⟩ (hP.sub [0, 1, 2, 3, 4] rfl) (hD.sub [0, 1, 2, 3, 4] (by decide) rfl) hS dX3_reckon_282
  · skip
    refine lv_tab (tgt := 148) hx hb dX3_reckon_4 (by rw [cv] <;> decide +kernel) (by decide) (by decide) ?_
    refine lv_aload_n hx hb dX3_reckon_148 rfl (lv_at hl 0 rfl) ?_
    refine va_get (D := D) (ci := 3) (v := .ref a2) (C := RX3) (T := TX3) (N := 7) hx hb hts (by decide +kernel) hown hK hP 0 rfl rfl 1 (by decide) (hts (.fieldLink RX3 21 "TapeEngine$Machine" "ac" "LTapeEngine$Accumulator;") (by decide +kernel)) (fun _ h9 => h9) rfl dX3_reckon_149 ?_
    refine lv_aload_n hx hb dX3_reckon_152 rfl (lv_at hl 0 rfl) ?_
    refine lv_iload_n hx hb dX3_reckon_153 rfl (lv_at hl 1 rfl) ?_
    refine kV_l (As := [.int (nI o)]) (rest := [.ref a2]) (wr := [(a2, .inr (0, [.long hi, .long lo]))]) ⟨hx, hb, hml, hown, hts⟩ (kX3_operand l D Z cB cI cJ cZ H.size h0 a1 a2 a3 a4 a5 a6 a7 w mid mult nx o (by first | assumption | omega)) (cwV 1 hts gX3_reckon_X3_operand rfl rfl rfl (by decide +kernel) ⟨Nat.le_of_ble_eq_true rfl, Nat.le_of_ble_eq_true rfl⟩) hK hE hP hD hS hA 0 3 rfl rfl rfl [0, 1, 2, 3] [4] rfl rfl rfl rfl rfl (by decide) hl.1 rfl rfl (Nat.le_of_ble_eq_true rfl) dX3_reckon_154 ⟨Nat.le_of_ble_eq_true rfl, Nat.le_of_ble_eq_true rfl⟩ (fun r u H locs hp hP hD hS => ?_)
    try dsimp only at hp
    have hq_0 := hp
    have hq_0 := hq_0.symm
    subst hq_0
    have hP : va_P D vwCl [(a2, .inr (0, [.long hi, .long lo])), (h0, .inr (3, [.ref a1, .ref a2, .ref a3, .ref a4, .ref a5, .long mult, .int (nI nx)])), (a1, .inr (5, [.ref a6, .ref a7])), (a6, .inl (cI, 256, .inl w)), (a7, .inl (cI, 128, .inl mid))] H := hP
    have hD : va_D A [(a2, .inr (0, [.long hi, .long lo])), (h0, .inr (3, [.ref a1, .ref a2, .ref a3, .ref a4, .ref a5, .long mult, .int (nI nx)])), (a1, .inr (5, [.ref a6, .ref a7])), (a6, .inl (cI, 256, .inl w)), (a7, .inl (cI, 128, .inl mid))] := hD
    refine lv_lneg hx hb dX3_reckon_157 ?_
    refine lv_lconst (v := 0) hx hb dX3_reckon_158 (by decide) ?_
    refine kV_v (As := [.long (-(opd w mid o)), .long 0]) (rest := []) (wr := [(h0, .inr (3, [.ref a1, .ref a2, .ref a3, .ref a4, .ref a5, .long mult, .int (nI nx)])), (a1, .inr (5, [.ref a6, .ref a7])), (a6, .inl (cI, 256, .inl w)), (a7, .inl (cI, 128, .inl mid))]) ⟨hx, hb, hml, hown, hts⟩ (kX0_plus l D Z cB cI cJ cZ H.size a2 hi lo (-(opd w mid o)) 0 ) (cwV 2 hts gX3_reckon_X0_plus rfl rfl rfl (by decide +kernel) ⟨Nat.le_of_ble_eq_true rfl, Nat.le_of_ble_eq_true rfl⟩) hK hE hP hD hS hA 0 0 rfl rfl rfl [0] [1, 2, 3, 4] rfl rfl rfl rfl rfl (by decide) hl.1 rfl rfl (Nat.le_of_ble_eq_true rfl) dX3_reckon_159 ⟨Nat.le_of_ble_eq_true rfl, Nat.le_of_ble_eq_true rfl⟩ (fun u H locs hp hP hD hS => ?_)
    obtain ⟨v_3, v_4⟩ := u
    try dsimp only at hp
    obtain ⟨hq_0, hq_1⟩ := hp
    have hq_0 := hq_0.symm
    subst hq_0
    have hq_1 := hq_1.symm
    subst hq_1
    have hP : va_P D vwCl [(h0, .inr (3, [.ref a1, .ref a2, .ref a3, .ref a4, .ref a5, .long mult, .int (nI nx)])), (a1, .inr (5, [.ref a6, .ref a7])), (a6, .inl (cI, 256, .inl w)), (a7, .inl (cI, 128, .inl mid)), (a2, .inr (0, [.long (gTop hi lo (-(opd w mid o)) (0 : Int64)), .long (gRest lo (0 : Int64))]))] H := hP
    have hD : va_D A [(h0, .inr (3, [.ref a1, .ref a2, .ref a3, .ref a4, .ref a5, .long mult, .int (nI nx)])), (a1, .inr (5, [.ref a6, .ref a7])), (a6, .inl (cI, 256, .inl w)), (a7, .inl (cI, 128, .inl mid)), (a2, .inr (0, [.long (gTop hi lo (-(opd w mid o)) (0 : Int64)), .long (gRest lo (0 : Int64))]))] := hD
    refine lv_goto (tgt := 282) hx hb dX3_reckon_162 (by decide) ?_
    exact ret_v hx hb hr hlocks ((gTop hi lo (-(opd w mid o)) (0 : Int64)), (gRest lo (0 : Int64)), mult) ⟨(by first | (simp only [rHi, cv]; done) | (simp [rHi, cv]; done) | (simp [rHi, rHi, rLo, rMu, cv]; done)), (by first | (simp only [rLo, cv]; done) | (simp [rLo, cv]; done) | (simp [rLo, rHi, rLo, rMu, cv]; done)), (by first | (simp only [rMu, cv]; done) | (simp [rMu, cv]; done) | (simp [rMu, rHi, rLo, rMu, cv]; done))⟩ (hP.sub [0, 1, 2, 3, 4] rfl) (hD.sub [0, 1, 2, 3, 4] (by decide) rfl) hS dX3_reckon_282
  · skip
    refine lv_tab (tgt := 165) hx hb dX3_reckon_4 (by rw [cv] <;> decide +kernel) (by decide) (by decide) ?_
    refine lv_aload_n hx hb dX3_reckon_165 rfl (lv_at hl 0 rfl) ?_
    refine lv_aload_n hx hb dX3_reckon_166 rfl (lv_at hl 0 rfl) ?_
    refine lv_iload_n hx hb dX3_reckon_167 rfl (lv_at hl 1 rfl) ?_
    refine kV_l (As := [.int (nI o)]) (rest := [.ref h0]) (wr := [(a2, .inr (0, [.long hi, .long lo]))]) ⟨hx, hb, hml, hown, hts⟩ (kX3_operand l D Z cB cI cJ cZ H.size h0 a1 a2 a3 a4 a5 a6 a7 w mid mult nx o (by first | assumption | omega)) (cwV 1 hts gX3_reckon_X3_operand rfl rfl rfl (by decide +kernel) ⟨Nat.le_of_ble_eq_true rfl, Nat.le_of_ble_eq_true rfl⟩) hK hE hP hD hS hA 0 3 rfl rfl rfl [0, 1, 2, 3] [4] rfl rfl rfl rfl rfl (by decide) hl.1 rfl rfl (Nat.le_of_ble_eq_true rfl) dX3_reckon_168 ⟨Nat.le_of_ble_eq_true rfl, Nat.le_of_ble_eq_true rfl⟩ (fun r u H locs hp hP hD hS => ?_)
    try dsimp only at hp
    have hq_0 := hp
    have hq_0 := hq_0.symm
    subst hq_0
    have hP : va_P D vwCl [(a2, .inr (0, [.long hi, .long lo])), (h0, .inr (3, [.ref a1, .ref a2, .ref a3, .ref a4, .ref a5, .long mult, .int (nI nx)])), (a1, .inr (5, [.ref a6, .ref a7])), (a6, .inl (cI, 256, .inl w)), (a7, .inl (cI, 128, .inl mid))] H := hP
    have hD : va_D A [(a2, .inr (0, [.long hi, .long lo])), (h0, .inr (3, [.ref a1, .ref a2, .ref a3, .ref a4, .ref a5, .long mult, .int (nI nx)])), (a1, .inr (5, [.ref a6, .ref a7])), (a6, .inl (cI, 256, .inl w)), (a7, .inl (cI, 128, .inl mid))] := hD
    refine va_put (D := D) (ci := 3) (v := .long (opd w mid o)) (ty := .long) (C := RX3) (T := TX3) (N := 7) hx hb hts (by decide +kernel) tyX3 tyX3_ok nmX3 hown hK hP hD hS 1 rfl rfl 5 (by decide) (hts (.fieldLink RX3 43 "TapeEngine$Machine" "mult" "J") (by decide +kernel)) (fun _ h9 => h9) rfl (by decide +kernel) rfl rfl (Nat.le_of_ble_eq_true rfl) dX3_reckon_171 (fun H locs hP hD hS => ?_)
    have hP : va_P D vwCl [(a2, .inr (0, [.long hi, .long lo])), (h0, .inr (3, [.ref a1, .ref a2, .ref a3, .ref a4, .ref a5, .long (opd w mid o), .int (nI nx)])), (a1, .inr (5, [.ref a6, .ref a7])), (a6, .inl (cI, 256, .inl w)), (a7, .inl (cI, 128, .inl mid))] H := hP
    have hD : va_D A [(a2, .inr (0, [.long hi, .long lo])), (h0, .inr (3, [.ref a1, .ref a2, .ref a3, .ref a4, .ref a5, .long (opd w mid o), .int (nI nx)])), (a1, .inr (5, [.ref a6, .ref a7])), (a6, .inl (cI, 256, .inl w)), (a7, .inl (cI, 128, .inl mid))] := hD
    refine lv_goto (tgt := 282) hx hb dX3_reckon_174 (by decide) ?_
    exact ret_v hx hb hr hlocks (hi, lo, (opd w mid o)) ⟨(by first | (simp only [rHi, cv]; done) | (simp [rHi, cv]; done) | (simp [rHi, rHi, rLo, rMu, cv]; done)), (by first | (simp only [rLo, cv]; done) | (simp [rLo, cv]; done) | (simp [rLo, rHi, rLo, rMu, cv]; done)), (by first | (simp only [rMu, cv]; done) | (simp [rMu, cv]; done) | (simp [rMu, rHi, rLo, rMu, cv]; done))⟩ (hP.sub [1, 2, 3, 4, 0] rfl) (hD.sub [1, 2, 3, 4, 0] (by decide) rfl) hS dX3_reckon_282
  · skip
    refine lv_tab (tgt := 177) hx hb dX3_reckon_4 (by rw [cv] <;> decide +kernel) (by decide) (by decide) ?_
    refine lv_aload_n hx hb dX3_reckon_177 rfl (lv_at hl 0 rfl) ?_
    refine va_get (D := D) (ci := 3) (v := .ref a2) (C := RX3) (T := TX3) (N := 7) hx hb hts (by decide +kernel) hown hK hP 0 rfl rfl 1 (by decide) (hts (.fieldLink RX3 21 "TapeEngine$Machine" "ac" "LTapeEngine$Accumulator;") (by decide +kernel)) (fun _ h9 => h9) rfl dX3_reckon_178 ?_
    refine lv_aload_n hx hb dX3_reckon_181 rfl (lv_at hl 0 rfl) ?_
    refine va_get (D := D) (ci := 3) (v := .long mult) (C := RX3) (T := TX3) (N := 7) hx hb hts (by decide +kernel) hown hK hP 0 rfl rfl 5 (by decide) (hts (.fieldLink RX3 43 "TapeEngine$Machine" "mult" "J") (by decide +kernel)) (fun _ h9 => h9) rfl dX3_reckon_182 ?_
    refine lv_aload_n hx hb dX3_reckon_185 rfl (lv_at hl 0 rfl) ?_
    refine lv_iload_n hx hb dX3_reckon_186 rfl (lv_at hl 1 rfl) ?_
    refine kV_l (As := [.int (nI o)]) (rest := [.long mult, .ref a2]) (wr := [(a2, .inr (0, [.long hi, .long lo]))]) ⟨hx, hb, hml, hown, hts⟩ (kX3_operand l D Z cB cI cJ cZ H.size h0 a1 a2 a3 a4 a5 a6 a7 w mid mult nx o (by first | assumption | omega)) (cwV 1 hts gX3_reckon_X3_operand rfl rfl rfl (by decide +kernel) ⟨Nat.le_of_ble_eq_true rfl, Nat.le_of_ble_eq_true rfl⟩) hK hE hP hD hS hA 0 3 rfl rfl rfl [0, 1, 2, 3] [4] rfl rfl rfl rfl rfl (by decide) hl.1 rfl rfl (Nat.le_of_ble_eq_true rfl) dX3_reckon_187 ⟨Nat.le_of_ble_eq_true rfl, Nat.le_of_ble_eq_true rfl⟩ (fun r u H locs hp hP hD hS => ?_)
    try dsimp only at hp
    have hq_0 := hp
    have hq_0 := hq_0.symm
    subst hq_0
    have hP : va_P D vwCl [(a2, .inr (0, [.long hi, .long lo])), (h0, .inr (3, [.ref a1, .ref a2, .ref a3, .ref a4, .ref a5, .long mult, .int (nI nx)])), (a1, .inr (5, [.ref a6, .ref a7])), (a6, .inl (cI, 256, .inl w)), (a7, .inl (cI, 128, .inl mid))] H := hP
    have hD : va_D A [(a2, .inr (0, [.long hi, .long lo])), (h0, .inr (3, [.ref a1, .ref a2, .ref a3, .ref a4, .ref a5, .long mult, .int (nI nx)])), (a1, .inr (5, [.ref a6, .ref a7])), (a6, .inl (cI, 256, .inl w)), (a7, .inl (cI, 128, .inl mid))] := hD
    refine lv_iconst (v := 1) hx hb dX3_reckon_190 (by decide) ?_
    refine kV_v (As := [.long mult, .long (opd w mid o), .int 1]) (rest := []) (wr := [(h0, .inr (3, [.ref a1, .ref a2, .ref a3, .ref a4, .ref a5, .long mult, .int (nI nx)])), (a1, .inr (5, [.ref a6, .ref a7])), (a6, .inl (cI, 256, .inl w)), (a7, .inl (cI, 128, .inl mid))]) ⟨hx, hb, hml, hown, hts⟩ (kX0_plusProduct l D Z cB cI cJ cZ H.size a2 hi lo mult (opd w mid o) 1 ) (cwV 3 hts gX3_reckon_X0_plusProduct rfl rfl rfl (by decide +kernel) ⟨Nat.le_of_ble_eq_true rfl, Nat.le_of_ble_eq_true rfl⟩) hK hE hP hD hS hA 0 0 rfl rfl rfl [0] [1, 2, 3, 4] rfl rfl rfl rfl rfl (by decide) hl.1 rfl rfl (Nat.le_of_ble_eq_true rfl) dX3_reckon_191 ⟨Nat.le_of_ble_eq_true rfl, Nat.le_of_ble_eq_true rfl⟩ (fun u H locs hp hP hD hS => ?_)
    obtain ⟨v_5, v_6⟩ := u
    try dsimp only at hp
    obtain ⟨hq_0, hq_1⟩ := hp
    have hq_0 := hq_0.symm
    subst hq_0
    have hq_1 := hq_1.symm
    subst hq_1
    have hP : va_P D vwCl [(h0, .inr (3, [.ref a1, .ref a2, .ref a3, .ref a4, .ref a5, .long mult, .int (nI nx)])), (a1, .inr (5, [.ref a6, .ref a7])), (a6, .inl (cI, 256, .inl w)), (a7, .inl (cI, 128, .inl mid)), (a2, .inr (0, [.long (ppTop hi lo mult (opd w mid o) (1 : Int32).toInt64), .long (ppRest hi lo mult (opd w mid o) (1 : Int32).toInt64)]))] H := hP
    have hD : va_D A [(h0, .inr (3, [.ref a1, .ref a2, .ref a3, .ref a4, .ref a5, .long mult, .int (nI nx)])), (a1, .inr (5, [.ref a6, .ref a7])), (a6, .inl (cI, 256, .inl w)), (a7, .inl (cI, 128, .inl mid)), (a2, .inr (0, [.long (ppTop hi lo mult (opd w mid o) (1 : Int32).toInt64), .long (ppRest hi lo mult (opd w mid o) (1 : Int32).toInt64)]))] := hD
    refine lv_goto (tgt := 282) hx hb dX3_reckon_194 (by decide) ?_
    exact ret_v hx hb hr hlocks ((ppTop hi lo mult (opd w mid o) (1 : Int32).toInt64), (ppRest hi lo mult (opd w mid o) (1 : Int32).toInt64), mult) ⟨(by first | (simp only [rHi, cv]; done) | (simp [rHi, cv]; done) | (simp [rHi, rHi, rLo, rMu, cv]; done)), (by first | (simp only [rLo, cv]; done) | (simp [rLo, cv]; done) | (simp [rLo, rHi, rLo, rMu, cv]; done)), (by first | (simp only [rMu, cv]; done) | (simp [rMu, cv]; done) | (simp [rMu, rHi, rLo, rMu, cv]; done))⟩ (hP.sub [0, 1, 2, 3, 4] rfl) (hD.sub [0, 1, 2, 3, 4] (by decide) rfl) hS dX3_reckon_282
  · skip
    refine lv_tab (tgt := 197) hx hb dX3_reckon_4 (by rw [cv] <;> decide +kernel) (by decide) (by decide) ?_
    refine lv_aload_n hx hb dX3_reckon_197 rfl (lv_at hl 0 rfl) ?_
    refine va_get (D := D) (ci := 3) (v := .ref a2) (C := RX3) (T := TX3) (N := 7) hx hb hts (by decide +kernel) hown hK hP 0 rfl rfl 1 (by decide) (hts (.fieldLink RX3 21 "TapeEngine$Machine" "ac" "LTapeEngine$Accumulator;") (by decide +kernel)) (fun _ h9 => h9) rfl dX3_reckon_198 ?_
    refine lv_aload_n hx hb dX3_reckon_201 rfl (lv_at hl 0 rfl) ?_
    refine va_get (D := D) (ci := 3) (v := .long mult) (C := RX3) (T := TX3) (N := 7) hx hb hts (by decide +kernel) hown hK hP 0 rfl rfl 5 (by decide) (hts (.fieldLink RX3 43 "TapeEngine$Machine" "mult" "J") (by decide +kernel)) (fun _ h9 => h9) rfl dX3_reckon_202 ?_
    refine lv_aload_n hx hb dX3_reckon_205 rfl (lv_at hl 0 rfl) ?_
    refine lv_iload_n hx hb dX3_reckon_206 rfl (lv_at hl 1 rfl) ?_
    refine kV_l (As := [.int (nI o)]) (rest := [.long mult, .ref a2]) (wr := [(a2, .inr (0, [.long hi, .long lo]))]) ⟨hx, hb, hml, hown, hts⟩ (kX3_operand l D Z cB cI cJ cZ H.size h0 a1 a2 a3 a4 a5 a6 a7 w mid mult nx o (by first | assumption | omega)) (cwV 1 hts gX3_reckon_X3_operand rfl rfl rfl (by decide +kernel) ⟨Nat.le_of_ble_eq_true rfl, Nat.le_of_ble_eq_true rfl⟩) hK hE hP hD hS hA 0 3 rfl rfl rfl [0, 1, 2, 3] [4] rfl rfl rfl rfl rfl (by decide) hl.1 rfl rfl (Nat.le_of_ble_eq_true rfl) dX3_reckon_207 ⟨Nat.le_of_ble_eq_true rfl, Nat.le_of_ble_eq_true rfl⟩ (fun r u H locs hp hP hD hS => ?_)
    try dsimp only at hp
    have hq_0 := hp
    have hq_0 := hq_0.symm
    subst hq_0
    have hP : va_P D vwCl [(a2, .inr (0, [.long hi, .long lo])), (h0, .inr (3, [.ref a1, .ref a2, .ref a3, .ref a4, .ref a5, .long mult, .int (nI nx)])), (a1, .inr (5, [.ref a6, .ref a7])), (a6, .inl (cI, 256, .inl w)), (a7, .inl (cI, 128, .inl mid))] H := hP
    have hD : va_D A [(a2, .inr (0, [.long hi, .long lo])), (h0, .inr (3, [.ref a1, .ref a2, .ref a3, .ref a4, .ref a5, .long mult, .int (nI nx)])), (a1, .inr (5, [.ref a6, .ref a7])), (a6, .inl (cI, 256, .inl w)), (a7, .inl (cI, 128, .inl mid))] := hD
    refine lv_iconst (v := (-1)) hx hb dX3_reckon_210 (by decide) ?_
    refine kV_v (As := [.long mult, .long (opd w mid o), .int (-1)]) (rest := []) (wr := [(h0, .inr (3, [.ref a1, .ref a2, .ref a3, .ref a4, .ref a5, .long mult, .int (nI nx)])), (a1, .inr (5, [.ref a6, .ref a7])), (a6, .inl (cI, 256, .inl w)), (a7, .inl (cI, 128, .inl mid))]) ⟨hx, hb, hml, hown, hts⟩ (kX0_plusProduct l D Z cB cI cJ cZ H.size a2 hi lo mult (opd w mid o) (-1) ) (cwV 3 hts gX3_reckon_X0_plusProduct rfl rfl rfl (by decide +kernel) ⟨Nat.le_of_ble_eq_true rfl, Nat.le_of_ble_eq_true rfl⟩) hK hE hP hD hS hA 0 0 rfl rfl rfl [0] [1, 2, 3, 4] rfl rfl rfl rfl rfl (by decide) hl.1 rfl rfl (Nat.le_of_ble_eq_true rfl) dX3_reckon_211 ⟨Nat.le_of_ble_eq_true rfl, Nat.le_of_ble_eq_true rfl⟩ (fun u H locs hp hP hD hS => ?_)
    obtain ⟨v_7, v_8⟩ := u
    try dsimp only at hp
    obtain ⟨hq_0, hq_1⟩ := hp
    have hq_0 := hq_0.symm
    subst hq_0
    have hq_1 := hq_1.symm
    subst hq_1
    have hP : va_P D vwCl [(h0, .inr (3, [.ref a1, .ref a2, .ref a3, .ref a4, .ref a5, .long mult, .int (nI nx)])), (a1, .inr (5, [.ref a6, .ref a7])), (a6, .inl (cI, 256, .inl w)), (a7, .inl (cI, 128, .inl mid)), (a2, .inr (0, [.long (ppTop hi lo mult (opd w mid o) (-1 : Int32).toInt64), .long (ppRest hi lo mult (opd w mid o) (-1 : Int32).toInt64)]))] H := hP
    have hD : va_D A [(h0, .inr (3, [.ref a1, .ref a2, .ref a3, .ref a4, .ref a5, .long mult, .int (nI nx)])), (a1, .inr (5, [.ref a6, .ref a7])), (a6, .inl (cI, 256, .inl w)), (a7, .inl (cI, 128, .inl mid)), (a2, .inr (0, [.long (ppTop hi lo mult (opd w mid o) (-1 : Int32).toInt64), .long (ppRest hi lo mult (opd w mid o) (-1 : Int32).toInt64)]))] := hD
    refine lv_goto (tgt := 282) hx hb dX3_reckon_214 (by decide) ?_
    exact ret_v hx hb hr hlocks ((ppTop hi lo mult (opd w mid o) (-1 : Int32).toInt64), (ppRest hi lo mult (opd w mid o) (-1 : Int32).toInt64), mult) ⟨(by first | (simp only [rHi, cv]; done) | (simp [rHi, cv]; done) | (simp [rHi, rHi, rLo, rMu, cv]; done)), (by first | (simp only [rLo, cv]; done) | (simp [rLo, cv]; done) | (simp [rLo, rHi, rLo, rMu, cv]; done)), (by first | (simp only [rMu, cv]; done) | (simp [rMu, cv]; done) | (simp [rMu, rHi, rLo, rMu, cv]; done))⟩ (hP.sub [0, 1, 2, 3, 4] rfl) (hD.sub [0, 1, 2, 3, 4] (by decide) rfl) hS dX3_reckon_282
  · skip
    refine lv_tab (tgt := 217) hx hb dX3_reckon_4 (by rw [cv] <;> decide +kernel) (by decide) (by decide) ?_
    refine lv_aload_n hx hb dX3_reckon_217 rfl (lv_at hl 0 rfl) ?_
    refine va_get (D := D) (ci := 3) (v := .ref a2) (C := RX3) (T := TX3) (N := 7) hx hb hts (by decide +kernel) hown hK hP 0 rfl rfl 1 (by decide) (hts (.fieldLink RX3 21 "TapeEngine$Machine" "ac" "LTapeEngine$Accumulator;") (by decide +kernel)) (fun _ h9 => h9) rfl dX3_reckon_218 ?_
    refine lv_aload_n hx hb dX3_reckon_221 rfl (lv_at hl 0 rfl) ?_
    refine va_get (D := D) (ci := 3) (v := .long mult) (C := RX3) (T := TX3) (N := 7) hx hb hts (by decide +kernel) hown hK hP 0 rfl rfl 5 (by decide) (hts (.fieldLink RX3 43 "TapeEngine$Machine" "mult" "J") (by decide +kernel)) (fun _ h9 => h9) rfl dX3_reckon_222 ?_
    refine lv_aload_n hx hb dX3_reckon_225 rfl (lv_at hl 0 rfl) ?_
    refine lv_iload_n hx hb dX3_reckon_226 rfl (lv_at hl 1 rfl) ?_
    refine kV_l (As := [.int (nI o)]) (rest := [.long mult, .ref a2]) (wr := [(a2, .inr (0, [.long hi, .long lo]))]) ⟨hx, hb, hml, hown, hts⟩ (kX3_operand l D Z cB cI cJ cZ H.size h0 a1 a2 a3 a4 a5 a6 a7 w mid mult nx o (by first | assumption | omega)) (cwV 1 hts gX3_reckon_X3_operand rfl rfl rfl (by decide +kernel) ⟨Nat.le_of_ble_eq_true rfl, Nat.le_of_ble_eq_true rfl⟩) hK hE hP hD hS hA 0 3 rfl rfl rfl [0, 1, 2, 3] [4] rfl rfl rfl rfl rfl (by decide) hl.1 rfl rfl (Nat.le_of_ble_eq_true rfl) dX3_reckon_227 ⟨Nat.le_of_ble_eq_true rfl, Nat.le_of_ble_eq_true rfl⟩ (fun r u H locs hp hP hD hS => ?_)
    try dsimp only at hp
    have hq_0 := hp
    have hq_0 := hq_0.symm
    subst hq_0
    have hP : va_P D vwCl [(a2, .inr (0, [.long hi, .long lo])), (h0, .inr (3, [.ref a1, .ref a2, .ref a3, .ref a4, .ref a5, .long mult, .int (nI nx)])), (a1, .inr (5, [.ref a6, .ref a7])), (a6, .inl (cI, 256, .inl w)), (a7, .inl (cI, 128, .inl mid))] H := hP
    have hD : va_D A [(a2, .inr (0, [.long hi, .long lo])), (h0, .inr (3, [.ref a1, .ref a2, .ref a3, .ref a4, .ref a5, .long mult, .int (nI nx)])), (a1, .inr (5, [.ref a6, .ref a7])), (a6, .inl (cI, 256, .inl w)), (a7, .inl (cI, 128, .inl mid))] := hD
    refine lv_land hx hb dX3_reckon_230 ?_
    refine lv_lconst (v := 0) hx hb dX3_reckon_231 (by decide) ?_
    refine kV_v (As := [.long (mult &&& (opd w mid o)), .long 0]) (rest := []) (wr := [(h0, .inr (3, [.ref a1, .ref a2, .ref a3, .ref a4, .ref a5, .long mult, .int (nI nx)])), (a1, .inr (5, [.ref a6, .ref a7])), (a6, .inl (cI, 256, .inl w)), (a7, .inl (cI, 128, .inl mid))]) ⟨hx, hb, hml, hown, hts⟩ (kX0_plus l D Z cB cI cJ cZ H.size a2 hi lo (mult &&& (opd w mid o)) 0 ) (cwV 2 hts gX3_reckon_X0_plus rfl rfl rfl (by decide +kernel) ⟨Nat.le_of_ble_eq_true rfl, Nat.le_of_ble_eq_true rfl⟩) hK hE hP hD hS hA 0 0 rfl rfl rfl [0] [1, 2, 3, 4] rfl rfl rfl rfl rfl (by decide) hl.1 rfl rfl (Nat.le_of_ble_eq_true rfl) dX3_reckon_232 ⟨Nat.le_of_ble_eq_true rfl, Nat.le_of_ble_eq_true rfl⟩ (fun u H locs hp hP hD hS => ?_)
    obtain ⟨v_9, v_10⟩ := u
    try dsimp only at hp
    obtain ⟨hq_0, hq_1⟩ := hp
    have hq_0 := hq_0.symm
    subst hq_0
    have hq_1 := hq_1.symm
    subst hq_1
    have hP : va_P D vwCl [(h0, .inr (3, [.ref a1, .ref a2, .ref a3, .ref a4, .ref a5, .long mult, .int (nI nx)])), (a1, .inr (5, [.ref a6, .ref a7])), (a6, .inl (cI, 256, .inl w)), (a7, .inl (cI, 128, .inl mid)), (a2, .inr (0, [.long (gTop hi lo (mult &&& (opd w mid o)) (0 : Int64)), .long (gRest lo (0 : Int64))]))] H := hP
    have hD : va_D A [(h0, .inr (3, [.ref a1, .ref a2, .ref a3, .ref a4, .ref a5, .long mult, .int (nI nx)])), (a1, .inr (5, [.ref a6, .ref a7])), (a6, .inl (cI, 256, .inl w)), (a7, .inl (cI, 128, .inl mid)), (a2, .inr (0, [.long (gTop hi lo (mult &&& (opd w mid o)) (0 : Int64)), .long (gRest lo (0 : Int64))]))] := hD
    refine lv_goto (tgt := 282) hx hb dX3_reckon_235 (by decide) ?_
    exact ret_v hx hb hr hlocks ((gTop hi lo (mult &&& (opd w mid o)) (0 : Int64)), (gRest lo (0 : Int64)), mult) ⟨(by first | (simp only [rHi, cv]; done) | (simp [rHi, cv]; done) | (simp [rHi, rHi, rLo, rMu, cv]; done)), (by first | (simp only [rLo, cv]; done) | (simp [rLo, cv]; done) | (simp [rLo, rHi, rLo, rMu, cv]; done)), (by first | (simp only [rMu, cv]; done) | (simp [rMu, cv]; done) | (simp [rMu, rHi, rLo, rMu, cv]; done))⟩ (hP.sub [0, 1, 2, 3, 4] rfl) (hD.sub [0, 1, 2, 3, 4] (by decide) rfl) hS dX3_reckon_282
  · skip
    refine lv_tab (tgt := 238) hx hb dX3_reckon_4 (by rw [cv] <;> decide +kernel) (by decide) (by decide) ?_
    refine lv_aload_n hx hb dX3_reckon_238 rfl (lv_at hl 0 rfl) ?_
    refine va_get (D := D) (ci := 3) (v := .ref a2) (C := RX3) (T := TX3) (N := 7) hx hb hts (by decide +kernel) hown hK hP 0 rfl rfl 1 (by decide) (hts (.fieldLink RX3 21 "TapeEngine$Machine" "ac" "LTapeEngine$Accumulator;") (by decide +kernel)) (fun _ h9 => h9) rfl dX3_reckon_239 ?_
    refine lv_aload_n hx hb dX3_reckon_242 rfl (lv_at hl 0 rfl) ?_
    refine lv_iload_n hx hb dX3_reckon_243 rfl (lv_at hl 1 rfl) ?_
    refine kV_i (As := [.int (nI o)]) (rest := [.ref a2]) (wr := [(a1, .inr (5, [.ref a6, .ref a7])), (a6, .inl (cI, 256, .inl w)), (a7, .inl (cI, 128, .inl mid)), (a2, .inr (0, [.long hi, .long lo]))]) ⟨hx, hb, hml, hown, hts⟩ (kX3_shiftOf l D Z cB cI cJ cZ H.size h0 a1 a2 a3 a4 a5 mult nx o (by first | assumption | omega)) (cwV 1 hts gX3_reckon_X3_shiftOf rfl rfl rfl (by decide +kernel) ⟨Nat.le_of_ble_eq_true rfl, Nat.le_of_ble_eq_true rfl⟩) hK hE hP hD hS hA 0 3 rfl rfl rfl [0] [1, 2, 3, 4] rfl rfl rfl rfl rfl (by decide) hl.1 rfl rfl (Nat.le_of_ble_eq_true rfl) dX3_reckon_244 ⟨Nat.le_of_ble_eq_true rfl, Nat.le_of_ble_eq_true rfl⟩ (fun r u H locs hp hP hD hS => ?_)
    try dsimp only at hp
    have hq_0 := hp
    have hq_0 := hq_0.symm
    subst hq_0
    have hP : va_P D vwCl [(a1, .inr (5, [.ref a6, .ref a7])), (a6, .inl (cI, 256, .inl w)), (a7, .inl (cI, 128, .inl mid)), (a2, .inr (0, [.long hi, .long lo])), (h0, .inr (3, [.ref a1, .ref a2, .ref a3, .ref a4, .ref a5, .long mult, .int (nI nx)]))] H := hP
    have hD : va_D A [(a1, .inr (5, [.ref a6, .ref a7])), (a6, .inl (cI, 256, .inl w)), (a7, .inl (cI, 128, .inl mid)), (a2, .inr (0, [.long hi, .long lo])), (h0, .inr (3, [.ref a1, .ref a2, .ref a3, .ref a4, .ref a5, .long mult, .int (nI nx)]))] := hD
    refine kV_v (As := [.int (shp o)]) (rest := []) (wr := [(a1, .inr (5, [.ref a6, .ref a7])), (a6, .inl (cI, 256, .inl w)), (a7, .inl (cI, 128, .inl mid)), (h0, .inr (3, [.ref a1, .ref a2, .ref a3, .ref a4, .ref a5, .long mult, .int (nI nx)]))]) ⟨hx, hb, hml, hown, hts⟩ (kX0_shiftRight l D Z cB cI cJ cZ H.size a2 hi lo (shp o) ) (cwV 1 hts gX3_reckon_X0_shiftRight rfl rfl rfl (by decide +kernel) ⟨Nat.le_of_ble_eq_true rfl, Nat.le_of_ble_eq_true rfl⟩) hK hE hP hD hS hA 0 0 rfl rfl rfl [3] [0, 1, 2, 4] rfl rfl rfl rfl rfl (by decide) hl.1 rfl rfl (Nat.le_of_ble_eq_true rfl) dX3_reckon_247 ⟨Nat.le_of_ble_eq_true rfl, Nat.le_of_ble_eq_true rfl⟩ (fun u H locs hp hP hD hS => ?_)
    obtain ⟨v_11, v_12⟩ := u
    try dsimp only at hp
    obtain ⟨hq_0, hq_1⟩ := hp
    have hq_0 := hq_0.symm
    subst hq_0
    have hq_1 := hq_1.symm
    subst hq_1
    have hP : va_P D vwCl [(a1, .inr (5, [.ref a6, .ref a7])), (a6, .inl (cI, 256, .inl w)), (a7, .inl (cI, 128, .inl mid)), (h0, .inr (3, [.ref a1, .ref a2, .ref a3, .ref a4, .ref a5, .long mult, .int (nI nx)])), (a2, .inr (0, [.long (srTop hi (shp o)), .long (srRest hi lo (shp o))]))] H := hP
    have hD : va_D A [(a1, .inr (5, [.ref a6, .ref a7])), (a6, .inl (cI, 256, .inl w)), (a7, .inl (cI, 128, .inl mid)), (h0, .inr (3, [.ref a1, .ref a2, .ref a3, .ref a4, .ref a5, .long mult, .int (nI nx)])), (a2, .inr (0, [.long (srTop hi (shp o)), .long (srRest hi lo (shp o))]))] := hD
    refine lv_goto (tgt := 282) hx hb dX3_reckon_250 (by decide) ?_
    exact ret_v hx hb hr hlocks ((srTop hi (shp o)), (srRest hi lo (shp o)), mult) ⟨(by first | (simp only [rHi, cv]; done) | (simp [rHi, cv]; done) | (simp [rHi, rHi, rLo, rMu, cv]; done)), (by first | (simp only [rLo, cv]; done) | (simp [rLo, cv]; done) | (simp [rLo, rHi, rLo, rMu, cv]; done)), (by first | (simp only [rMu, cv]; done) | (simp [rMu, cv]; done) | (simp [rMu, rHi, rLo, rMu, cv]; done))⟩ (hP.sub [3, 0, 1, 2, 4] rfl) (hD.sub [3, 0, 1, 2, 4] (by decide) rfl) hS dX3_reckon_282
  · skip
    refine lv_tab (tgt := 253) hx hb dX3_reckon_4 (by rw [cv] <;> decide +kernel) (by decide) (by decide) ?_
    refine lv_aload_n hx hb dX3_reckon_253 rfl (lv_at hl 0 rfl) ?_
    refine va_get (D := D) (ci := 3) (v := .ref a2) (C := RX3) (T := TX3) (N := 7) hx hb hts (by decide +kernel) hown hK hP 0 rfl rfl 1 (by decide) (hts (.fieldLink RX3 21 "TapeEngine$Machine" "ac" "LTapeEngine$Accumulator;") (by decide +kernel)) (fun _ h9 => h9) rfl dX3_reckon_254 ?_
    refine lv_aload_n hx hb dX3_reckon_257 rfl (lv_at hl 0 rfl) ?_
    refine lv_iload_n hx hb dX3_reckon_258 rfl (lv_at hl 1 rfl) ?_
    refine kV_i (As := [.int (nI o)]) (rest := [.ref a2]) (wr := [(a1, .inr (5, [.ref a6, .ref a7])), (a6, .inl (cI, 256, .inl w)), (a7, .inl (cI, 128, .inl mid)), (a2, .inr (0, [.long hi, .long lo]))]) ⟨hx, hb, hml, hown, hts⟩ (kX3_shiftOf l D Z cB cI cJ cZ H.size h0 a1 a2 a3 a4 a5 mult nx o (by first | assumption | omega)) (cwV 1 hts gX3_reckon_X3_shiftOf rfl rfl rfl (by decide +kernel) ⟨Nat.le_of_ble_eq_true rfl, Nat.le_of_ble_eq_true rfl⟩) hK hE hP hD hS hA 0 3 rfl rfl rfl [0] [1, 2, 3, 4] rfl rfl rfl rfl rfl (by decide) hl.1 rfl rfl (Nat.le_of_ble_eq_true rfl) dX3_reckon_259 ⟨Nat.le_of_ble_eq_true rfl, Nat.le_of_ble_eq_true rfl⟩ (fun r u H locs hp hP hD hS => ?_)
    try dsimp only at hp
    have hq_0 := hp
    have hq_0 := hq_0.symm
    subst hq_0
    have hP : va_P D vwCl [(a1, .inr (5, [.ref a6, .ref a7])), (a6, .inl (cI, 256, .inl w)), (a7, .inl (cI, 128, .inl mid)), (a2, .inr (0, [.long hi, .long lo])), (h0, .inr (3, [.ref a1, .ref a2, .ref a3, .ref a4, .ref a5, .long mult, .int (nI nx)]))] H := hP
    have hD : va_D A [(a1, .inr (5, [.ref a6, .ref a7])), (a6, .inl (cI, 256, .inl w)), (a7, .inl (cI, 128, .inl mid)), (a2, .inr (0, [.long hi, .long lo])), (h0, .inr (3, [.ref a1, .ref a2, .ref a3, .ref a4, .ref a5, .long mult, .int (nI nx)]))] := hD
    refine kV_v (As := [.int (shp o)]) (rest := []) (wr := [(a1, .inr (5, [.ref a6, .ref a7])), (a6, .inl (cI, 256, .inl w)), (a7, .inl (cI, 128, .inl mid)), (h0, .inr (3, [.ref a1, .ref a2, .ref a3, .ref a4, .ref a5, .long mult, .int (nI nx)]))]) ⟨hx, hb, hml, hown, hts⟩ (kX0_shiftLeft l D Z cB cI cJ cZ H.size a2 hi lo (shp o) ) (cwV 1 hts gX3_reckon_X0_shiftLeft rfl rfl rfl (by decide +kernel) ⟨Nat.le_of_ble_eq_true rfl, Nat.le_of_ble_eq_true rfl⟩) hK hE hP hD hS hA 0 0 rfl rfl rfl [3] [0, 1, 2, 4] rfl rfl rfl rfl rfl (by decide) hl.1 rfl rfl (Nat.le_of_ble_eq_true rfl) dX3_reckon_262 ⟨Nat.le_of_ble_eq_true rfl, Nat.le_of_ble_eq_true rfl⟩ (fun u H locs hp hP hD hS => ?_)
    obtain ⟨v_13, v_14⟩ := u
    try dsimp only at hp
    obtain ⟨hq_0, hq_1⟩ := hp
    have hq_0 := hq_0.symm
    subst hq_0
    have hq_1 := hq_1.symm
    subst hq_1
    have hP : va_P D vwCl [(a1, .inr (5, [.ref a6, .ref a7])), (a6, .inl (cI, 256, .inl w)), (a7, .inl (cI, 128, .inl mid)), (h0, .inr (3, [.ref a1, .ref a2, .ref a3, .ref a4, .ref a5, .long mult, .int (nI nx)])), (a2, .inr (0, [.long (slTop hi lo (shp o)), .long (slRest lo (shp o))]))] H := hP
    have hD : va_D A [(a1, .inr (5, [.ref a6, .ref a7])), (a6, .inl (cI, 256, .inl w)), (a7, .inl (cI, 128, .inl mid)), (h0, .inr (3, [.ref a1, .ref a2, .ref a3, .ref a4, .ref a5, .long mult, .int (nI nx)])), (a2, .inr (0, [.long (slTop hi lo (shp o)), .long (slRest lo (shp o))]))] := hD
    refine lv_goto (tgt := 282) hx hb dX3_reckon_265 (by decide) ?_
    exact ret_v hx hb hr hlocks ((slTop hi lo (shp o)), (slRest lo (shp o)), mult) ⟨(by first | (simp only [rHi, cv]; done) | (simp [rHi, cv]; done) | (simp [rHi, rHi, rLo, rMu, cv]; done)), (by first | (simp only [rLo, cv]; done) | (simp [rLo, cv]; done) | (simp [rLo, rHi, rLo, rMu, cv]; done)), (by first | (simp only [rMu, cv]; done) | (simp [rMu, cv]; done) | (simp [rMu, rHi, rLo, rMu, cv]; done))⟩ (hP.sub [3, 0, 1, 2, 4] rfl) (hD.sub [3, 0, 1, 2, 4] (by decide) rfl) hS dX3_reckon_282
  · skip
    refine lv_tab (tgt := 268) hx hb dX3_reckon_4 (by rw [cv] <;> decide +kernel) (by decide) (by decide) ?_
    refine lv_aload_n hx hb dX3_reckon_268 rfl (lv_at hl 0 rfl) ?_
    refine va_get (D := D) (ci := 3) (v := .ref a2) (C := RX3) (T := TX3) (N := 7) hx hb hts (by decide +kernel) hown hK hP 0 rfl rfl 1 (by decide) (hts (.fieldLink RX3 21 "TapeEngine$Machine" "ac" "LTapeEngine$Accumulator;") (by decide +kernel)) (fun _ h9 => h9) rfl dX3_reckon_269 ?_
    refine lv_lconst (v := 0) hx hb dX3_reckon_272 (by decide) ?_
    refine lv_ldc2 hx hb hown (hts (.constantLong RX3 129 (34359738368)) (by decide +kernel)) dX3_reckon_273 ?_
    refine kV_v (As := [.long 0, .long 34359738368]) (rest := []) (wr := [(h0, .inr (3, [.ref a1, .ref a2, .ref a3, .ref a4, .ref a5, .long mult, .int (nI nx)])), (a1, .inr (5, [.ref a6, .ref a7])), (a6, .inl (cI, 256, .inl w)), (a7, .inl (cI, 128, .inl mid))]) ⟨hx, hb, hml, hown, hts⟩ (kX0_plus l D Z cB cI cJ cZ H.size a2 hi lo 0 34359738368 ) (cwV 2 hts gX3_reckon_X0_plus rfl rfl rfl (by decide +kernel) ⟨Nat.le_of_ble_eq_true rfl, Nat.le_of_ble_eq_true rfl⟩) hK hE hP hD hS hA 0 0 rfl rfl rfl [4] [0, 1, 2, 3] rfl rfl rfl rfl rfl (by decide) hl.1 rfl rfl (Nat.le_of_ble_eq_true rfl) dX3_reckon_276 ⟨Nat.le_of_ble_eq_true rfl, Nat.le_of_ble_eq_true rfl⟩ (fun u H locs hp hP hD hS => ?_)
    obtain ⟨v_15, v_16⟩ := u
    try dsimp only at hp
    obtain ⟨hq_0, hq_1⟩ := hp
    have hq_0 := hq_0.symm
    subst hq_0
    have hq_1 := hq_1.symm
    subst hq_1
    have hP : va_P D vwCl [(h0, .inr (3, [.ref a1, .ref a2, .ref a3, .ref a4, .ref a5, .long mult, .int (nI nx)])), (a1, .inr (5, [.ref a6, .ref a7])), (a6, .inl (cI, 256, .inl w)), (a7, .inl (cI, 128, .inl mid)), (a2, .inr (0, [.long (gTop hi lo (0 : Int64) (34359738368 : Int64)), .long (gRest lo (34359738368 : Int64))]))] H := hP
    have hD : va_D A [(h0, .inr (3, [.ref a1, .ref a2, .ref a3, .ref a4, .ref a5, .long mult, .int (nI nx)])), (a1, .inr (5, [.ref a6, .ref a7])), (a6, .inl (cI, 256, .inl w)), (a7, .inl (cI, 128, .inl mid)), (a2, .inr (0, [.long (gTop hi lo (0 : Int64) (34359738368 : Int64)), .long (gRest lo (34359738368 : Int64))]))] := hD
    refine lv_goto (tgt := 282) hx hb dX3_reckon_279 (by decide) ?_
    exact ret_v hx hb hr hlocks ((gTop hi lo (0 : Int64) (34359738368 : Int64)), (gRest lo (34359738368 : Int64)), mult) ⟨(by first | (simp only [rHi, cv]; done) | (simp [rHi, cv]; done) | (simp [rHi, rHi, rLo, rMu, cv]; done)), (by first | (simp only [rLo, cv]; done) | (simp [rLo, cv]; done) | (simp [rLo, rHi, rLo, rMu, cv]; done)), (by first | (simp only [rMu, cv]; done) | (simp [rMu, cv]; done) | (simp [rMu, rHi, rLo, rMu, cv]; done))⟩ (hP.sub [0, 1, 2, 3, 4] rfl) (hD.sub [0, 1, 2, 3, 4] (by decide) rfl) hS dX3_reckon_282
  · skip
    refine lv_tab (tgt := 282) hx hb dX3_reckon_4 (co_dec (N := 32) (P := fun v => (¬ v = 28 ∧ ¬ v = 12 ∧ ¬ v = 21 ∧ ¬ v = 31 ∧ ¬ v = 22 ∧ ¬ v = 30 ∧ ¬ v = 4 ∧ ¬ v = 25 ∧ ¬ v = 6) → tabT 4 31 278 #[234, 278, 264, 278, 278, 278, 278, 278, 144, 278, 278, 278, 278, 278, 278, 278, 278, 161, 193, 278, 278, 249, 278, 278, 128, 278, 213, 173] (nI v) = 278) (by decide +kernel) (show o / 4096 < 32 by omega) cv) (by decide) (by decide) ?_
    exact ret_v hx hb hr hlocks (hi, lo, mult) ⟨(by first | (simp only [rHi, cv]; done) | (simp [rHi, cv]; done) | (simp [rHi, rHi, rLo, rMu, cv]; done)), (by first | (simp only [rLo, cv]; done) | (simp [rLo, cv]; done) | (simp [rLo, rHi, rLo, rMu, cv]; done)), (by first | (simp only [rMu, cv]; done) | (simp [rMu, cv]; done) | (simp [rMu, rHi, rLo, rMu, cv]; done))⟩ (hP.sub [0, 1, 2, 3, 4] rfl) (hD.sub [0, 1, 2, 3, 4] (by decide) rfl) hS dX3_reckon_282
