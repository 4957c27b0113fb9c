set_option maxHeartbeats 4000000 in
set_option maxRecDepth 100000 in
theorem kX9_load (l : Launch) (D : va_G) (Z : SZ) (cB cI cJ cZ : ClassId) (ksz : Nat) (e0 : Nat) (h0 : Nat) (g0 : Nat) (t0 : Nat) (l0 : Nat) (k0 : Nat) (f0 : Nat) (hk : Bool) (re : Int32) (t1 : Nat) (t2 : Nat) (t3 : Nat) (t4 : Nat) (t5 : Nat) (t6 : Nat) (t7 : Nat) (t8 : Nat) (t9 : Nat) (t10 : Nat) (nw : Nat) (ts : Nat) (a1 : Nat) (a2 : Nat) (a3 : Nat) (a4 : Nat) (a5 : Nat) (a6 : Nat) (a7 : Nat) (a8 : Nat) (w : Nat → Int32) (mult : Int64) (tp : Nat → Int32) (tz : Nat) (ta : Nat) (nx : Nat) (pv : Int32) (en : Int32) (ld : Nat) (ht : ∀ k : Nat, iN (tp k) < 32) (hz : tz ≤ 1000) (ha0 : ta ≤ tz) : Met l yX9_load wsX9_load { frames := 4, cells := 0, slots := 0, locals := 92 } (PR D Z [(cB, .byte), (cI, .int), (cJ, .long), (cZ, .boolean)] [.ref e0] [(e0, .inr (9, [.ref h0, .ref g0, .ref t0, .ref l0, .ref k0, .ref f0, .int (bI hk), .int re])), (t0, .inr (8, [.ref t1, .ref t2, .ref t3, .ref t4, .ref t5, .ref t6, .ref t7, .ref t8, .ref t9, .ref t10, .int (nI nw), .int (nI ts)])), (l0, .inr (2, [.int pv, .int en, .int (nI ld)])), (h0, .inr (3, [.ref a1, .ref a2, .ref a3, .ref a4, .ref a5, .long mult, .int (nI nx)])), (a1, .inr (5, [.ref a6, .ref a7])), (a6, .inl (cI, 256, .inl w)), (a3, .inr (7, [.ref a8, .int (nI tz), .int (nI ta)])), (a8, .inl (cB, 1000, .inl tp))] ksz) (QI D (fun (r : Int32) (u : (Nat → Int32) × Nat × Nat × Nat × Nat × Int32) => r = (nI (ldA tp tz w nx ta).2.2.2.1) ∧ u.1 = ((ldA tp tz w nx ta).1) ∧ u.2.1 = ((ldA tp tz w nx ta).2.1) ∧ u.2.2.1 = ((ldA tp tz w nx ta).2.2.1) ∧ u.2.2.2.1 = ((ldA tp tz w nx ta).2.2.2.1) ∧ u.2.2.2.2.1 = ((ldA tp tz w nx ta).2.2.2.2.1) ∧ u.2.2.2.2.2 = ((ldA tp tz w nx ta).2.2.2.2.2)) (fun (u : (Nat → Int32) × Nat × Nat × Nat × Nat × Int32) => [(e0, .inr (9, [.ref h0, .ref g0, .ref t0, .ref l0, .ref k0, .ref f0, .int (bI hk), .int re])), (t0, .inr (8, [.ref t1, .ref t2, .ref t3, .ref t4, .ref t5, .ref t6, .ref t7, .ref t8, .ref t9, .ref t10, .int (nI nw), .int (nI 0)])), (l0, .inr (2, [.int (nI u.2.2.1), .int u.2.2.2.2.2, .int (nI u.2.2.2.1)])), (h0, .inr (3, [.ref a1, .ref a2, .ref a3, .ref a4, .ref a5, .long mult, .int (nI u.2.1)])), (a1, .inr (5, [.ref a6, .ref a7])), (a6, .inl (cI, 256, .inl u.1)), (a3, .inr (7, [.ref a8, .int (nI tz), .int (nI u.2.2.2.2.1)])), (a8, .inl (cB, 1000, .inl tp))]) (va_A [(e0, .inr (9, [.ref h0, .ref g0, .ref t0, .ref l0, .ref k0, .ref f0, .int (bI hk), .int re])), (t0, .inr (8, [.ref t1, .ref t2, .ref t3, .ref t4, .ref t5, .ref t6, .ref t7, .ref t8, .ref t9, .ref t10, .int (nI nw), .int (nI ts)])), (l0, .inr (2, [.int pv, .int en, .int (nI ld)])), (h0, .inr (3, [.ref a1, .ref a2, .ref a3, .ref a4, .ref a5, .long mult, .int (nI nx)])), (a1, .inr (5, [.ref a6, .ref a7])), (a6, .inl (cI, 256, .inl w)), (a3, .inr (7, [.ref a8, .int (nI tz), .int (nI ta)])), (a8, .inl (cB, 1000, .inl tp))] ksz)) 0 0 (va_A [(e0, .inr (9, [.ref h0, .ref g0, .ref t0, .ref l0, .ref k0, .ref f0, .int (bI hk), .int re])), (t0, .inr (8, [.ref t1, .ref t2, .ref t3, .ref t4, .ref t5, .ref t6, .ref t7, .ref t8, .ref t9, .ref t10, .int (nI nw), .int (nI ts)])), (l0, .inr (2, [.int pv, .int en, .int (nI ld)])), (h0, .inr (3, [.ref a1, .ref a2, .ref a3, .ref a4, .ref a5, .long mult, .int (nI nx)])), (a1, .inr (5, [.ref a6, .ref a7])), (a6, .inl (cI, 256, .inl w)), (a3, .inr (7, [.ref a8, .int (nI tz), .int (nI ta)])), (a8, .inl (cB, 1000, .inl tp))] ksz) := by
  refine met_g (QI D (fun (r : Int32) (u : (Nat → Int32) × Nat × Nat × Nat × Nat × Int32) => r = (nI (ldA tp tz w nx ta).2.2.2.1) ∧ u.1 = ((ldA tp tz w nx ta).1) ∧ u.2.1 = ((ldA tp tz w nx ta).2.1) ∧ u.2.2.1 = ((ldA tp tz w nx ta).2.2.1) ∧ u.2.2.2.1 = ((ldA tp tz w nx ta).2.2.2.1) ∧ u.2.2.2.2.1 = ((ldA tp tz w nx ta).2.2.2.2.1) ∧ u.2.2.2.2.2 = ((ldA tp tz w nx ta).2.2.2.2.2)) (fun (u : (Nat → Int32) × Nat × Nat × Nat × Nat × Int32) => [(e0, .inr (9, [.ref h0, .ref g0, .ref t0, .ref l0, .ref k0, .ref f0, .int (bI hk), .int re])), (t0, .inr (8, [.ref t1, .ref t2, .ref t3, .ref t4, .ref t5, .ref t6, .ref t7, .ref t8, .ref t9, .ref t10, .int (nI nw), .int (nI 0)])), (l0, .inr (2, [.int (nI u.2.2.1), .int u.2.2.2.2.2, .int (nI u.2.2.2.1)])), (h0, .inr (3, [.ref a1, .ref a2, .ref a3, .ref a4, .ref a5, .long mult, .int (nI u.2.1)])), (a1, .inr (5, [.ref a6, .ref a7])), (a6, .inl (cI, 256, .inl u.1)), (a3, .inr (7, [.ref a8, .int (nI tz), .int (nI u.2.2.2.2.1)])), (a8, .inl (cB, 1000, .inl tp))])) cX9_load 1 (some .int) (by decide) rfl (Nat.le_of_ble_eq_true rfl) ?_
  intro p e s m below meth c A ls hx hb hr hts hown hlocks hml hin hA hP hK hD hE hS hl hsz
  clear hsz
  have hl : lv_has ls 1 [(0, .ref e0)] := hl
  refine lv_aload_n hx hb dX9_load_0 rfl (lv_at hl 0 rfl) ?_
  refine va_get (D := D) (ci := 9) (v := .ref t0) (C := RX9) (T := TX9) (N := 8) hx hb hts (by decide +kernel) hown hK hP 0 rfl rfl 2 (by decide) (hts (.fieldLink RX9 22 "TapeEngine" "trail" "LTapeEngine$Trail;") (by decide +kernel)) (fun _ h9 => h9) rfl dX9_load_1 ?_
  refine kV_v (As := []) (rest := []) (wr := [(e0, .inr (9, [.ref h0, .ref g0, .ref t0, .ref l0, .ref k0, .ref f0, .int (bI hk), .int re])), (l0, .inr (2, [.int pv, .int en, .int (nI ld)])), (h0, .inr (3, [.ref a1, .ref a2, .ref a3, .ref a4, .ref a5, .long mult, .int (nI nx)])), (a1, .inr (5, [.ref a6, .ref a7])), (a6, .inl (cI, 256, .inl w)), (a3, .inr (7, [.ref a8, .int (nI tz), .int (nI ta)])), (a8, .inl (cB, 1000, .inl tp))]) ⟨hx, hb, hml, hown, hts⟩ (kX8_forget l D Z cB cI cJ cZ s.heap.size t0 t1 t2 t3 t4 t5 t6 t7 t8 t9 t10 nw ts ) (cwV 0 hts gX9_load_X8_forget rfl rfl rfl (by decide +kernel) ⟨Nat.le_of_ble_eq_true rfl, Nat.le_of_ble_eq_true rfl⟩) hK hE hP hD hS hA 0 8 rfl rfl rfl [1] [0, 2, 3, 4, 5, 6, 7] rfl rfl rfl rfl rfl (by decide) hl.1 rfl rfl (Nat.le_of_ble_eq_true rfl) dX9_load_4 ⟨Nat.le_of_ble_eq_true rfl, Nat.le_of_ble_eq_true rfl⟩ (fun u H locs hp hP hD hS => ?_)
  have hP : va_P D vwCl [(e0, .inr (9, [.ref h0, .ref g0, .ref t0, .ref l0, .ref k0, .ref f0, .int (bI hk), .int re])), (l0, .inr (2, [.int pv, .int en, .int (nI ld)])), (h0, .inr (3, [.ref a1, .ref a2, .ref a3, .ref a4, .ref a5, .long mult, .int (nI nx)])), (a1, .inr (5, [.ref a6, .ref a7])), (a6, .inl (cI, 256, .inl w)), (a3, .inr (7, [.ref a8, .int (nI tz), .int (nI ta)])), (a8, .inl (cB, 1000, .inl tp)), (t0, .inr (8, [.ref t1, .ref t2, .ref t3, .ref t4, .ref t5, .ref t6, .ref t7, .ref t8, .ref t9, .ref t10, .int (nI nw), .int (nI 0)]))] H := hP
  have hD : va_D A [(e0, .inr (9, [.ref h0, .ref g0, .ref t0, .ref l0, .ref k0, .ref f0, .int (bI hk), .int re])), (l0, .inr (2, [.int pv, .int en, .int (nI ld)])), (h0, .inr (3, [.ref a1, .ref a2, .ref a3, .ref a4, .ref a5, .long mult, .int (nI nx)])), (a1, .inr (5, [.ref a6, .ref a7])), (a6, .inl (cI, 256, .inl w)), (a3, .inr (7, [.ref a8, .int (nI tz), .int (nI ta)])), (a8, .inl (cB, 1000, .inl tp)), (t0, .inr (8, [.ref t1, .ref t2, .ref t3, .ref t4, .ref t5, .ref t6, .ref t7, .ref t8, .ref t9, .ref t10, .int (nI nw), .int (nI 0)]))] := hD
  refine lv_aload_n hx hb dX9_load_7 rfl (lv_at hl 0 rfl) ?_
  refine va_get (D := D) (ci := 9) (v := .ref l0) (C := RX9) (T := TX9) (N := 8) hx hb hts (by decide +kernel) hown hK hP 0 rfl rfl 3 (by decide) (hts (.fieldLink RX9 29 "TapeEngine" "loader" "LTapeEngine$Loader;") (by decide +kernel)) (fun _ h9 => h9) rfl dX9_load_8 ?_
  refine lv_aload_n hx hb dX9_load_11 rfl (lv_at hl 0 rfl) ?_
  refine va_get (D := D) (ci := 9) (v := .ref h0) (C := RX9) (T := TX9) (N := 8) hx hb hts (by decide +kernel) hown hK hP 0 rfl rfl 0 (by decide) (hts (.fieldLink RX9 10 "TapeEngine" "machine" "LTapeEngine$Machine;") (by decide +kernel)) (fun _ h9 => h9) rfl dX9_load_12 ?_
  refine kV_i (As := [.ref h0]) (rest := []) (wr := [(e0, .inr (9, [.ref h0, .ref g0, .ref t0, .ref l0, .ref k0, .ref f0, .int (bI hk), .int re])), (t0, .inr (8, [.ref t1, .ref t2, .ref t3, .ref t4, .ref t5, .ref t6, .ref t7, .ref t8, .ref t9, .ref t10, .int (nI nw), .int (nI 0)]))]) ⟨hx, hb, hml, hown, hts⟩ (kX2_takeTape l D Z cB cI cJ cZ H.size l0 h0 a1 a2 a3 a4 a5 a6 a7 a8 w mult nx ld pv en tp tz ta (by first | assumption | omega) (by first | assumption | omega) (by first | assumption | omega)) (cwV 1 hts gX9_load_X2_takeTape rfl rfl rfl (by decide +kernel) ⟨Nat.le_of_ble_eq_true rfl, Nat.le_of_ble_eq_true rfl⟩) hK hE hP hD hS hA 0 2 rfl rfl rfl [1, 2, 3, 4, 5, 6] [0, 7] rfl rfl rfl rfl rfl (by decide) hl.1 rfl rfl (Nat.le_of_ble_eq_true rfl) dX9_load_15 ⟨Nat.le_of_ble_eq_true rfl, Nat.le_of_ble_eq_true rfl⟩ (fun r u H locs hp hP hD hS => ?_)
  obtain ⟨v_1, v_2, v_3, v_4, v_5, v_6⟩ := u
  try dsimp only at hp
  obtain ⟨hq_0, hq_1, hq_2, hq_3, hq_4, hq_5, hq_6⟩ := hp
  have hq_0 := hq_0.symm
  subst hq_0
  have hq_1 := hq_1.symm
  subst hq_1
  have hq_2 := hq_2.symm
  subst hq_2
  have hq_3 := hq_3.symm
  subst hq_3
  have hq_4 := hq_4.symm
  subst hq_4
  have hq_5 := hq_5.symm
  subst hq_5
  have hq_6 := hq_6.symm
  subst hq_6
  have hP : va_P D vwCl [(e0, .inr (9, [.ref h0, .ref g0, .ref t0, .ref l0, .ref k0, .ref f0, .int (bI hk), .int re])), (t0, .inr (8, [.ref t1, .ref t2, .ref t3, .ref t4, .ref t5, .ref t6, .ref t7, .ref t8, .ref t9, .ref t10, .int (nI nw), .int (nI 0)])), (l0, .inr (2, [.int (nI ((ldA tp tz w nx ta).2.2.1)), .int ((ldA tp tz w nx ta).2.2.2.2.2), .int (nI ((ldA tp tz w nx ta).2.2.2.1))])), (h0, .inr (3, [.ref a1, .ref a2, .ref a3, .ref a4, .ref a5, .long mult, .int (nI ((ldA tp tz w nx ta).2.1))])), (a1, .inr (5, [.ref a6, .ref a7])), (a6, .inl (cI, 256, .inl ((ldA tp tz w nx ta).1))), (a3, .inr (7, [.ref a8, .int (nI tz), .int (nI ((ldA tp tz w nx ta).2.2.2.2.1))])), (a8, .inl (cB, 1000, .inl tp))] H := hP
  have hD : va_D A [(e0, .inr (9, [.ref h0, .ref g0, .ref t0, .ref l0, .ref k0, .ref f0, .int (bI hk), .int re])), (t0, .inr (8, [.ref t1, .ref t2, .ref t3, .ref t4, .ref t5, .ref t6, .ref t7, .ref t8, .ref t9, .ref t10, .int (nI nw), .int (nI 0)])), (l0, .inr (2, [.int (nI ((ldA tp tz w nx ta).2.2.1)), .int ((ldA tp tz w nx ta).2.2.2.2.2), .int (nI ((ldA tp tz w nx ta).2.2.2.1))])), (h0, .inr (3, [.ref a1, .ref a2, .ref a3, .ref a4, .ref a5, .long mult, .int (nI ((ldA tp tz w nx ta).2.1))])), (a1, .inr (5, [.ref a6, .ref a7])), (a6, .inl (cI, 256, .inl ((ldA tp tz w nx ta).1))), (a3, .inr (7, [.ref a8, .int (nI tz), .int (nI ((ldA tp tz w nx ta).2.2.2.2.1))])), (a8, .inl (cB, 1000, .inl tp))] := hD
  exact ret_i hx hb hr hlocks (((ldA tp tz w nx ta).1), ((ldA tp tz w nx ta).2.1), ((ldA tp tz w nx ta).2.2.1), ((ldA tp tz w nx ta).2.2.2.1), ((ldA tp tz w nx ta).2.2.2.2.1), ((ldA tp tz w nx ta).2.2.2.2.2)) ⟨(by rfl), (by rfl), (by rfl), (by rfl), (by rfl), (by rfl), (by rfl)⟩ (hP.sub [0, 1, 2, 3, 4, 5, 6, 7] rfl) (hD.sub [0, 1, 2, 3, 4, 5, 6, 7] (by decide) rfl) hS dX9_load_18

set_option maxHeartbeats 4000000 in
set_option maxRecDepth 100000 in
theorem kX9_mark (l : Launch) (D : va_G) (Z : SZ) (cB cI cJ cZ : ClassId) (ksz : Nat) (e0 : Nat) (h0 : Nat) (g0 : Nat) (t0 : Nat) (l0 : Nat) (k0 : Nat) (f0 : Nat) (hk : Bool) (re : Int32) (k1 : Nat) (im : Nat → Int32) (mz : Nat) (n : Int32) (on : Bool) (hm : RB im) (hz : mz ≤ 8) (hpz : ∀ j : Nat, j < 256 → tB (im j) = true → 0 < mz) : Met l yX9_mark wsX9_mark { frames := 2, cells := 0, slots := 0, locals := 43 } (PR D Z [(cB, .byte), (cI, .int), (cJ, .long), (cZ, .boolean)] [.ref e0, .int n, .int (bI on)] [(e0, .inr (9, [.ref h0, .ref g0, .ref t0, .ref l0, .ref k0, .ref f0, .int (bI hk), .int re])), (k0, .inr (4, [.ref k1, .int (nI mz)])), (k1, .inl (cZ, 256, .inl im))] ksz) (QI D (fun (r : Int32) (u : (Nat → Int32) × Nat) => r = (aM n on im mz) ∧ u.1 = (if okM n on im mz then upd im n.toNatClampNeg (bI on) else im) ∧ u.2 = (if okM n on im mz then mkM n on im mz else mz)) (fun (u : (Nat → Int32) × Nat) => [(e0, .inr (9, [.ref h0, .ref g0, .ref t0, .ref l0, .ref k0, .ref f0, .int (bI hk), .int re])), (k0, .inr (4, [.ref k1, .int (nI u.2)])), (k1, .inl (cZ, 256, .inl u.1))]) (va_A [(e0, .inr (9, [.ref h0, .ref g0, .ref t0, .ref l0, .ref k0, .ref f0, .int (bI hk), .int re])), (k0, .inr (4, [.ref k1, .int (nI mz)])), (k1, .inl (cZ, 256, .inl im))] ksz)) 0 0 (va_A [(e0, .inr (9, [.ref h0, .ref g0, .ref t0, .ref l0, .ref k0, .ref f0, .int (bI hk), .int re])), (k0, .inr (4, [.ref k1, .int (nI mz)])), (k1, .inl (cZ, 256, .inl im))] ksz) := by
  refine met_g (QI D (fun (r : Int32) (u : (Nat → Int32) × Nat) => r = (aM n on im mz) ∧ u.1 = (if okM n on im mz then upd im n.toNatClampNeg (bI on) else im) ∧ u.2 = (if okM n on im mz then mkM n on im mz else mz)) (fun (u : (Nat → Int32) × Nat) => [(e0, .inr (9, [.ref h0, .ref g0, .ref t0, .ref l0, .ref k0, .ref f0, .int (bI hk), .int re])), (k0, .inr (4, [.ref k1, .int (nI u.2)])), (k1, .inl (cZ, 256, .inl u.1))])) cX9_mark 4 (some .int) (by decide) rfl (Nat.le_of_ble_eq_true rfl) ?_
  intro p e s m below meth c A ls hx hb hr hts hown hlocks hml hin hA hP hK hD hE hS hl hsz
  clear hsz
  have hl : lv_has ls 4 [(0, .ref e0), (1, .int n), (2, .int (bI on))] := hl
  refine lv_iload_n hx hb dX9_mark_0 rfl (lv_at hl 1 rfl) ?_
  refine pS_i (As := [.int n]) (rest := []) ⟨hx, hb, hml, hown, hts⟩ (kX9_isAddress l Z n ) (va_cwS 1 hts gX9_mark_X9_isAddress rfl rfl rfl (by decide +kernel) ⟨Nat.le_of_ble_eq_true rfl, Nat.le_of_ble_eq_true rfl⟩) hK hE hP hD hS hA hl.1 rfl rfl (Nat.le_of_ble_eq_true rfl) dX9_mark_1 ⟨Nat.le_of_ble_eq_true rfl, Nat.le_of_ble_eq_true rfl⟩ (fun H locs hP hS => ?_)
  refine lv_if_ne (tgt := 10) hx hb dX9_mark_4 (by decide) (fun c_4 => ?_) (fun c_4 => ?_)
  · skip
    have c_4 := bI_t c_4
    obtain ⟨j, hj9, rfl⟩ := ad_of c_4
    refine lv_aload_n hx hb dX9_mark_10 rfl (lv_at hl 0 rfl) ?_
    refine va_get (D := D) (ci := 9) (v := .ref k0) (C := RX9) (T := TX9) (N := 8) hx hb hts (by decide +kernel) hown hK hP 0 rfl rfl 4 (by decide) (hts (.fieldLink RX9 36 "TapeEngine" "marks" "LTapeEngine$Marks;") (by decide +kernel)) (fun _ h9 => h9) rfl dX9_mark_11 ?_
    refine lv_iload_n hx hb dX9_mark_14 rfl (lv_at hl 1 rfl) ?_
    refine kV_i (As := [.int (nI j)]) (rest := []) (wr := [(e0, .inr (9, [.ref h0, .ref g0, .ref t0, .ref l0, .ref k0, .ref f0, .int (bI hk), .int re]))]) ⟨hx, hb, hml, hown, hts⟩ (kX4_isAt l D Z cB cI cJ cZ H.size k0 k1 im mz j (by first | assumption | omega) (by first | assumption | omega)) (cwV 1 hts gX9_mark_X4_isAt rfl rfl rfl (by decide +kernel) ⟨Nat.le_of_ble_eq_true rfl, Nat.le_of_ble_eq_true rfl⟩) hK hE hP hD hS hA 0 4 rfl rfl rfl [1, 2] [0] rfl rfl rfl rfl rfl (by decide) hl.1 rfl rfl (Nat.le_of_ble_eq_true rfl) dX9_mark_15 ⟨Nat.le_of_ble_eq_true rfl, Nat.le_of_ble_eq_true rfl⟩ (fun r u H locs hp hP hD hS => ?_)
    try dsimp only at hp
    have hq_0 := hp
    have hq_0 := hq_0.symm
    subst hq_0
    have hP : va_P D vwCl [(e0, .inr (9, [.ref h0, .ref g0, .ref t0, .ref l0, .ref k0, .ref f0, .int (bI hk), .int re])), (k0, .inr (4, [.ref k1, .int (nI mz)])), (k1, .inl (cZ, 256, .inl im))] H := hP
    have hD : va_D A [(e0, .inr (9, [.ref h0, .ref g0, .ref t0, .ref l0, .ref k0, .ref f0, .int (bI hk), .int re])), (k0, .inr (4, [.ref k1, .int (nI mz)])), (k1, .inl (cZ, 256, .inl im))] := hD
    refine lv_istore_n (lv' := [(3, .int (bI (tB (im j)))), (0, .ref e0), (1, .int (nI j)), (2, .int (bI on))]) hx hb dX9_mark_18 rfl hl (by decide) rfl (fun ls hl => ?_)
    refine lv_iload_n hx hb dX9_mark_19 rfl (lv_at hl 3 rfl) ?_
    refine lv_if_eq (tgt := 42) hx hb dX9_mark_20 (by decide) (fun c_20 => ?_) (fun c_20 => ?_)
    · skip
      have c_20 := bI_f c_20
      have hok : okM (nI j) on im mz := by first | exact okM_a (ad_nI hj9) c_20 | exact okM_b (ad_nI hj9) ((congrArg (fun x => tB (im x)) (ad_clamp hj9)).trans c_24) | exact okM_c (ad_nI hj9) c_36
      refine lv_aload_n hx hb dX9_mark_42 rfl (lv_at hl 1 rfl) ?_
      refine va_get (D := D) (ci := 9) (v := .ref k0) (C := RX9) (T := TX9) (N := 8) hx hb hts (by decide +kernel) hown hK hP 0 rfl rfl 4 (by decide) (hts (.fieldLink RX9 36 "TapeEngine" "marks" "LTapeEngine$Marks;") (by decide +kernel)) (fun _ h9 => h9) rfl dX9_mark_43 ?_
      refine lv_iload_n hx hb dX9_mark_46 rfl (lv_at hl 2 rfl) ?_
      refine lv_iload_n hx hb dX9_mark_47 rfl (lv_at hl 3 rfl) ?_
      refine kV_v (As := [.int (nI j), .int (bI on)]) (rest := []) (wr := [(e0, .inr (9, [.ref h0, .ref g0, .ref t0, .ref l0, .ref k0, .ref f0, .int (bI hk), .int re]))]) ⟨hx, hb, hml, hown, hts⟩ (kX4_put l D Z cB cI cJ cZ H.size k0 k1 im mz j on (by first | assumption | omega) (by first | assumption | omega) (by first | assumption | omega) (hpz j hj9)) (cwV 2 hts gX9_mark_X4_put rfl rfl rfl (by decide +kernel) ⟨Nat.le_of_ble_eq_true rfl, Nat.le_of_ble_eq_true rfl⟩) hK hE hP hD hS hA 0 4 rfl rfl rfl [1, 2] [0] rfl rfl rfl rfl rfl (by decide) hl.1 rfl rfl (Nat.le_of_ble_eq_true rfl) dX9_mark_48 ⟨Nat.le_of_ble_eq_true rfl, Nat.le_of_ble_eq_true rfl⟩ (fun u H locs hp hP hD hS => ?_)
      obtain ⟨v_1, v_2⟩ := u
      try dsimp only at hp
      obtain ⟨hq_0, hq_1⟩ := hp
      have hq_0 := hq_0.symm
      subst hq_0
      have hq_1 := hq_1.symm
      subst hq_1
      have hP : va_P D vwCl [(e0, .inr (9, [.ref h0, .ref g0, .ref t0, .ref l0, .ref k0, .ref f0, .int (bI hk), .int re])), (k0, .inr (4, [.ref k1, .int (nI (if tB (im j) = on then mz else if on then mz + 1 else mz - 1))])), (k1, .inl (cZ, 256, .inl (upd im j (bI on))))] H := hP
      have hD : va_D A [(e0, .inr (9, [.ref h0, .ref g0, .ref t0, .ref l0, .ref k0, .ref f0, .int (bI hk), .int re])), (k0, .inr (4, [.ref k1, .int (nI (if tB (im j) = on then mz else if on then mz + 1 else mz - 1))])), (k1, .inl (cZ, 256, .inl (upd im j (bI on))))] := hD
      refine lv_iload_n hx hb dX9_mark_51 rfl (lv_at hl 0 rfl) ?_
      refine lv_if_eq (tgt := 59) hx hb dX9_mark_52 (by decide) (fun c_52 => ?_) (fun c_52 => ?_)
      · skip
        have c_52 := bI_f c_52
        refine lv_iconst (v := 0) hx hb dX9_mark_59 (by decide) ?_
        exact ret_i hx hb hr hlocks ((upd im j (bI on)), (if tB (im j) = on then mz else if on then mz + 1 else mz - 1)) ⟨(by first | exact hres | (rw [← aM_1 hok, ad_clamp hj9, c_52]; rfl)), (by first | exact (if_neg hno).symm | (rw [if_pos hok, ad_clamp hj9])), (by first | exact (if_neg hno).symm | (rw [if_pos hok, mkM, ad_clamp hj9]))⟩ (hP.sub [0, 1, 2] rfl) (hD.sub [0, 1, 2] (by decide) rfl) hS dX9_mark_60
      · skip
        have c_52 := bI_t c_52
        refine lv_iconst (v := 1) hx hb dX9_mark_55 (by decide) ?_
        refine lv_goto (tgt := 60) hx hb dX9_mark_56 (by decide) ?_
        exact ret_i hx hb hr hlocks ((upd im j (bI on)), (if tB (im j) = on then mz else if on then mz + 1 else mz - 1)) ⟨(by first | exact hres | (rw [← aM_1 hok, ad_clamp hj9, c_52]; rfl)), (by first | exact (if_neg hno).symm | (rw [if_pos hok, ad_clamp hj9])), (by first | exact (if_neg hno).symm | (rw [if_pos hok, mkM, ad_clamp hj9]))⟩ (hP.sub [0, 1, 2] rfl) (hD.sub [0, 1, 2] (by decide) rfl) hS dX9_mark_60
    · skip
      have c_20 := bI_t c_20
      refine lv_iload_n hx hb dX9_mark_23 rfl (lv_at hl 0 rfl) ?_
      refine lv_if_ne (tgt := 42) hx hb dX9_mark_24 (by decide) (fun c_24 => ?_) (fun c_24 => ?_)
      · skip
        have c_24 := bI_t c_24
        have hok : okM (nI j) on im mz := by first | exact okM_a (ad_nI hj9) c_20 | exact okM_b (ad_nI hj9) ((congrArg (fun x => tB (im x)) (ad_clamp hj9)).trans c_24) | exact okM_c (ad_nI hj9) c_36
        refine lv_aload_n hx hb dX9_mark_42 rfl (lv_at hl 1 rfl) ?_
        refine va_get (D := D) (ci := 9) (v := .ref k0) (C := RX9) (T := TX9) (N := 8) hx hb hts (by decide +kernel) hown hK hP 0 rfl rfl 4 (by decide) (hts (.fieldLink RX9 36 "TapeEngine" "marks" "LTapeEngine$Marks;") (by decide +kernel)) (fun _ h9 => h9) rfl dX9_mark_43 ?_
        refine lv_iload_n hx hb dX9_mark_46 rfl (lv_at hl 2 rfl) ?_
        refine lv_iload_n hx hb dX9_mark_47 rfl (lv_at hl 3 rfl) ?_
        refine kV_v (As := [.int (nI j), .int (bI on)]) (rest := []) (wr := [(e0, .inr (9, [.ref h0, .ref g0, .ref t0, .ref l0, .ref k0, .ref f0, .int (bI hk), .int re]))]) ⟨hx, hb, hml, hown, hts⟩ (kX4_put l D Z cB cI cJ cZ H.size k0 k1 im mz j on (by first | assumption | omega) (by first | assumption | omega) (by first | assumption | omega) (hpz j hj9)) (cwV 2 hts gX9_mark_X4_put rfl rfl rfl (by decide +kernel) ⟨Nat.le_of_ble_eq_true rfl, Nat.le_of_ble_eq_true rfl⟩) hK hE hP hD hS hA 0 4 rfl rfl rfl [1, 2] [0] rfl rfl rfl rfl rfl (by decide) hl.1 rfl rfl (Nat.le_of_ble_eq_true rfl) dX9_mark_48 ⟨Nat.le_of_ble_eq_true rfl, Nat.le_of_ble_eq_true rfl⟩ (fun u H locs hp hP hD hS => ?_)
        obtain ⟨v_3, v_4⟩ := u
        try dsimp only at hp
        obtain ⟨hq_0, hq_1⟩ := hp
        have hq_0 := hq_0.symm
        subst hq_0
        have hq_1 := hq_1.symm
        subst hq_1
        have hP : va_P D vwCl [(e0, .inr (9, [.ref h0, .ref g0, .ref t0, .ref l0, .ref k0, .ref f0, .int (bI hk), .int re])), (k0, .inr (4, [.ref k1, .int (nI (if tB (im j) = on then mz else if on then mz + 1 else mz - 1))])), (k1, .inl (cZ, 256, .inl (upd im j (bI on))))] H := hP
        have hD : va_D A [(e0, .inr (9, [.ref h0, .ref g0, .ref t0, .ref l0, .ref k0, .ref f0, .int (bI hk), .int re])), (k0, .inr (4, [.ref k1, .int (nI (if tB (im j) = on then mz else if on then mz + 1 else mz - 1))])), (k1, .inl (cZ, 256, .inl (upd im j (bI on))))] := hD
        refine lv_iload_n hx hb dX9_mark_51 rfl (lv_at hl 0 rfl) ?_
        refine lv_if_eq (tgt := 59) hx hb dX9_mark_52 (by decide) (fun c_52 => ?_) (fun c_52 => ?_)
        · skip
          have c_52 := bI_f c_52
          refine lv_iconst (v := 0) hx hb dX9_mark_59 (by decide) ?_
          exact ret_i hx hb hr hlocks ((upd im j (bI on)), (if tB (im j) = on then mz else if on then mz + 1 else mz - 1)) ⟨(by first | exact hres | (rw [← aM_1 hok, ad_clamp hj9, c_52]; rfl)), (by first | exact (if_neg hno).symm | (rw [if_pos hok, ad_clamp hj9])), (by first | exact (if_neg hno).symm | (rw [if_pos hok, mkM, ad_clamp hj9]))⟩ (hP.sub [0, 1, 2] rfl) (hD.sub [0, 1, 2] (by decide) rfl) hS dX9_mark_60
        · skip
          have c_52 := bI_t c_52
          refine lv_iconst (v := 1) hx hb dX9_mark_55 (by decide) ?_
          refine lv_goto (tgt := 60) hx hb dX9_mark_56 (by decide) ?_
          exact ret_i hx hb hr hlocks ((upd im j (bI on)), (if tB (im j) = on then mz else if on then mz + 1 else mz - 1)) ⟨(by first | exact hres | (rw [← aM_1 hok, ad_clamp hj9, c_52]; rfl)), (by first | exact (if_neg hno).symm | (rw [if_pos hok, ad_clamp hj9])), (by first | exact (if_neg hno).symm | (rw [if_pos hok, mkM, ad_clamp hj9]))⟩ (hP.sub [0, 1, 2] rfl) (hD.sub [0, 1, 2] (by decide) rfl) hS dX9_mark_60
      · skip
        have c_24 := bI_f c_24
        refine lv_aload_n hx hb dX9_mark_27 rfl (lv_at hl 1 rfl) ?_
        refine va_get (D := D) (ci := 9) (v := .ref k0) (C := RX9) (T := TX9) (N := 8) hx hb hts (by decide +kernel) hown hK hP 0 rfl rfl 4 (by decide) (hts (.fieldLink RX9 36 "TapeEngine" "marks" "LTapeEngine$Marks;") (by decide +kernel)) (fun _ h9 => h9) rfl dX9_mark_28 ?_
        refine va_getN (D := D) (ci := 4) (v := .int (nI mz)) (C := RX4) (T := TX4) (N := 2) hx hb hts (by decide +kernel) hown hK hP 1 rfl rfl 1 (by decide) (va_Nw.use rfl (nf_X9_172 hE)) (fun _ h9 => h9) rfl dX9_mark_31 ?_
        refine lv_bipush (v := (nI 8)) hx hb dX9_mark_34 (by decide) ?_
        refine lv_icmp_lt (tgt := 42) hx hb dX9_mark_36 (by decide) (fun c_36 => ?_) (fun c_36 => ?_)
        · skip
          have c_36 : mz < 8 := (nI_ltI (a := mz) (b := 8) (by omega) (by omega)).mp c_36
          have hok : okM (nI j) on im mz := by first | exact okM_a (ad_nI hj9) c_20 | exact okM_b (ad_nI hj9) ((congrArg (fun x => tB (im x)) (ad_clamp hj9)).trans c_24) | exact okM_c (ad_nI hj9) c_36
          refine lv_aload_n hx hb dX9_mark_42 rfl (lv_at hl 1 rfl) ?_
          refine va_get (D := D) (ci := 9) (v := .ref k0) (C := RX9) (T := TX9) (N := 8) hx hb hts (by decide +kernel) hown hK hP 0 rfl rfl 4 (by decide) (hts (.fieldLink RX9 36 "TapeEngine" "marks" "LTapeEngine$Marks;") (by decide +kernel)) (fun _ h9 => h9) rfl dX9_mark_43 ?_
          refine lv_iload_n hx hb dX9_mark_46 rfl (lv_at hl 2 rfl) ?_
          refine lv_iload_n hx hb dX9_mark_47 rfl (lv_at hl 3 rfl) ?_
          refine kV_v (As := [.int (nI j), .int (bI on)]) (rest := []) (wr := [(e0, .inr (9, [.ref h0, .ref g0, .ref t0, .ref l0, .ref k0, .ref f0, .int (bI hk), .int re]))]) ⟨hx, hb, hml, hown, hts⟩ (kX4_put l D Z cB cI cJ cZ H.size k0 k1 im mz j on (by first | assumption | omega) (by first | assumption | omega) (by first | assumption | omega) (hpz j hj9)) (cwV 2 hts gX9_mark_X4_put rfl rfl rfl (by decide +kernel) ⟨Nat.le_of_ble_eq_true rfl, Nat.le_of_ble_eq_true rfl⟩) hK hE hP hD hS hA 0 4 rfl rfl rfl [1, 2] [0] rfl rfl rfl rfl rfl (by decide) hl.1 rfl rfl (Nat.le_of_ble_eq_true rfl) dX9_mark_48 ⟨Nat.le_of_ble_eq_true rfl, Nat.le_of_ble_eq_true rfl⟩ (fun u H locs hp hP hD hS => ?_)
          obtain ⟨v_5, v_6⟩ := u
          try dsimp only at hp
          obtain ⟨hq_0, hq_1⟩ := hp
          have hq_0 := hq_0.symm
          subst hq_0
          have hq_1 := hq_1.symm
          subst hq_1
          have hP : va_P D vwCl [(e0, .inr (9, [.ref h0, .ref g0, .ref t0, .ref l0, .ref k0, .ref f0, .int (bI hk), .int re])), (k0, .inr (4, [.ref k1, .int (nI (if tB (im j) = on then mz else if on then mz + 1 else mz - 1))])), (k1, .inl (cZ, 256, .inl (upd im j (bI on))))] H := hP
          have hD : va_D A [(e0, .inr (9, [.ref h0, .ref g0, .ref t0, .ref l0, .ref k0, .ref f0, .int (bI hk), .int re])), (k0, .inr (4, [.ref k1, .int (nI (if tB (im j) = on then mz else if on then mz + 1 else mz - 1))])), (k1, .inl (cZ, 256, .inl (upd im j (bI on))))] := hD
          refine lv_iload_n hx hb dX9_mark_51 rfl (lv_at hl 0 rfl) ?_
          refine lv_if_eq (tgt := 59) hx hb dX9_mark_52 (by decide) (fun c_52 => ?_) (fun c_52 => ?_)
          · skip
            have c_52 := bI_f c_52
            refine lv_iconst (v := 0) hx hb dX9_mark_59 (by decide) ?_
            exact ret_i hx hb hr hlocks ((upd im j (bI on)), (if tB (im j) = on then mz else if on then mz + 1 else mz - 1)) ⟨(by first | exact hres | (rw [← aM_1 hok, ad_clamp hj9, c_52]; rfl)), (by first | exact (if_neg hno).symm | (rw [if_pos hok, ad_clamp hj9])), (by first | exact (if_neg hno).symm | (rw [if_pos hok, mkM, ad_clamp hj9]))⟩ (hP.sub [0, 1, 2] rfl) (hD.sub [0, 1, 2] (by decide) rfl) hS dX9_mark_60
          · skip
            have c_52 := bI_t c_52
            refine lv_iconst (v := 1) hx hb dX9_mark_55 (by decide) ?_
            refine lv_goto (tgt := 60) hx hb dX9_mark_56 (by decide) ?_
            exact ret_i hx hb hr hlocks ((upd im j (bI on)), (if tB (im j) = on then mz else if on then mz + 1 else mz - 1)) ⟨(by first | exact hres | (rw [← aM_1 hok, ad_clamp hj9, c_52]; rfl)), (by first | exact (if_neg hno).symm | (rw [if_pos hok, ad_clamp hj9])), (by first | exact (if_neg hno).symm | (rw [if_pos hok, mkM, ad_clamp hj9]))⟩ (hP.sub [0, 1, 2] rfl) (hD.sub [0, 1, 2] (by decide) rfl) hS dX9_mark_60
        · skip
          have c_36 : ¬ mz < 8 := fun z => c_36 ((nI_ltI (a := mz) (b := 8) (by omega) (by omega)).mpr z)
          have hfu : mkF (nI j) on im mz := ⟨c_20, by rw [ad_clamp hj9]; exact c_24, by omega⟩
          have hno : ¬ okM (nI j) on im mz := fun z => z.2 hfu
          have hres : -5 = aM (nI j) on im mz := aM_5 (ad_nI hj9) hfu
          refine lv_bipush (v := (-5)) hx hb dX9_mark_39 (by decide) ?_
          exact ret_i hx hb hr hlocks (im, mz) ⟨(by first | exact hres | (rw [← aM_1 hok, ad_clamp hj9, c_52]; rfl)), (by first | exact (if_neg hno).symm | (rw [if_pos hok, ad_clamp hj9])), (by first | exact (if_neg hno).symm | (rw [if_pos hok, mkM, ad_clamp hj9]))⟩ (hP.sub [0, 1, 2] rfl) (hD.sub [0, 1, 2] (by decide) rfl) hS dX9_mark_41
  · skip
    have c_4 := bI_f c_4
    have hno : ¬ okM n on im mz := fun z => by first | exact ad_no c_4 z.1
    have hres : -2 = aM n on im mz := by first | exact aM_2 c_4
    refine lv_bipush (v := (-2)) hx hb dX9_mark_7 (by decide) ?_
    exact ret_i hx hb hr hlocks (im, mz) ⟨(by first | exact hres | (rw [← aM_1 hok, ad_clamp hj9, c_52]; rfl)), (by first | exact (if_neg hno).symm | (rw [if_pos hok, ad_clamp hj9])), (by first | exact (if_neg hno).symm | (rw [if_pos hok, mkM, ad_clamp hj9]))⟩ (hP.sub [0, 1, 2] rfl) (hD.sub [0, 1, 2] (by decide) rfl) hS dX9_mark_9

set_option maxHeartbeats 4000000 in
set_option maxRecDepth 100000 in
theorem kX9_back_n (l : Launch) (D : va_G) (Z : SZ) (cB cI cJ cZ : ClassId) (ksz : Nat) (e0 : Nat) (h0 : Nat) (g0 : Nat) (t0 : Nat) (l0 : Nat) (k0 : Nat) (f0 : Nat) (hk : Bool) (re : Int32) (t1 : Nat) (t2 : Nat) (t3 : Nat) (t4 : Nat) (t5 : Nat) (t6 : Nat) (t7 : Nat) (t8 : Nat) (t9 : Nat) (t10 : Nat) (nw : Nat) (ts : Nat) (h0z : ts = 0) : Met l yX9_back wsX9_back { frames := 0, cells := 0, slots := 0, locals := 0 } (PR D Z [(cB, .byte), (cI, .int), (cJ, .long), (cZ, .boolean)] [.ref e0] [(e0, .inr (9, [.ref h0, .ref g0, .ref t0, .ref l0, .ref k0, .ref f0, .int (bI hk), .int re])), (t0, .inr (8, [.ref t1, .ref t2, .ref t3, .ref t4, .ref t5, .ref t6, .ref t7, .ref t8, .ref t9, .ref t10, .int (nI nw), .int (nI ts)]))] ksz) (QI D (fun (r : Int32) (_ : Unit) => r = (-4)) (fun (_ : Unit) => [(e0, .inr (9, [.ref h0, .ref g0, .ref t0, .ref l0, .ref k0, .ref f0, .int (bI hk), .int re])), (t0, .inr (8, [.ref t1, .ref t2, .ref t3, .ref t4, .ref t5, .ref t6, .ref t7, .ref t8, .ref t9, .ref t10, .int (nI nw), .int (nI ts)]))]) (va_A [(e0, .inr (9, [.ref h0, .ref g0, .ref t0, .ref l0, .ref k0, .ref f0, .int (bI hk), .int re])), (t0, .inr (8, [.ref t1, .ref t2, .ref t3, .ref t4, .ref t5, .ref t6, .ref t7, .ref t8, .ref t9, .ref t10, .int (nI nw), .int (nI ts)]))] ksz)) 0 0 (va_A [(e0, .inr (9, [.ref h0, .ref g0, .ref t0, .ref l0, .ref k0, .ref f0, .int (bI hk), .int re])), (t0, .inr (8, [.ref t1, .ref t2, .ref t3, .ref t4, .ref t5, .ref t6, .ref t7, .ref t8, .ref t9, .ref t10, .int (nI nw), .int (nI ts)]))] ksz) := by
  refine met_g (QI D (fun (r : Int32) (_ : Unit) => r = (-4)) (fun (_ : Unit) => [(e0, .inr (9, [.ref h0, .ref g0, .ref t0, .ref l0, .ref k0, .ref f0, .int (bI hk), .int re])), (t0, .inr (8, [.ref t1, .ref t2, .ref t3, .ref t4, .ref t5, .ref t6, .ref t7, .ref t8, .ref t9, .ref t10, .int (nI nw), .int (nI ts)]))])) cX9_back 1 (some .int) (by decide) rfl (Nat.le_of_ble_eq_true rfl) ?_
  intro p e s m below meth c A ls hx hb hr hts hown hlocks hml hin hA hP hK hD hE hS hl hsz
  clear hsz
  have hl : lv_has ls 1 [(0, .ref e0)] := hl
  refine lv_aload_n hx hb dX9_back_0 rfl (lv_at hl 0 rfl) ?_
  refine va_get (D := D) (ci := 9) (v := .ref t0) (C := RX9) (T := TX9) (N := 8) hx hb hts (by decide +kernel) hown hK hP 0 rfl rfl 2 (by decide) (hts (.fieldLink RX9 22 "TapeEngine" "trail" "LTapeEngine$Trail;") (by decide +kernel)) (fun _ h9 => h9) rfl dX9_back_1 ?_
  refine va_getN (D := D) (ci := 8) (v := .int (nI ts)) (C := RX8) (T := TX8) (N := 12) hx hb hts (by decide +kernel) hown hK hP 1 rfl rfl 11 (by decide) (va_Nw.use rfl (nf_X9_179 hE)) (fun _ h9 => h9) rfl dX9_back_4 ?_
  refine lv_if_ne (tgt := 13) hx hb dX9_back_7 (by decide) (fun c_7 => ?_) (fun c_7 => ?_)
  · skip
    have c_7 : ¬ ts = 0 := fun z => c_7 ((nI_eq (a := ts) (b := 0) (by omega) (by omega)).mpr z)
    exfalso
    omega
  · skip
    have c_7 : ts = 0 := (nI_eq (a := ts) (b := 0) (by omega) (by omega)).mp c_7
    refine lv_bipush (v := (-4)) hx hb dX9_back_10 (by decide) ?_
    exact ret_i hx hb hr hlocks () (by rfl) (hP.sub [0, 1] rfl) (hD.sub [0, 1] (by decide) rfl) hS dX9_back_12

set_option maxHeartbeats 4000000 in
set_option maxRecDepth 100000 in
theorem kX9_back_y (l : Launch) (D : va_G) (Z : SZ) (cB cI cJ cZ : ClassId) (ksz : Nat) (e0 : Nat) (h0 : Nat) (g0 : Nat) (t0 : Nat) (l0 : Nat) (k0 : Nat) (f0 : Nat) (hk : Bool) (re : Int32) (t1 : Nat) (t2 : Nat) (t3 : Nat) (t4 : Nat) (t5 : Nat) (t6 : Nat) (t7 : Nat) (t8 : Nat) (t9 : Nat) (t10 : Nat) (nw : Nat) (ts : Nat) (ad : Nat → Int32) (od : Nat → Int32) (pr : Nat → Int64) (hs : Nat → Int64) (los : Nat → Int64) (ms : Nat → Int64) (tps : Nat → Int32) (txs : Nat → Int32) (shs : Nat → Int32) (las : Nat → Int32) (a1 : Nat) (a2 : Nat) (a3 : Nat) (a4 : Nat) (a5 : Nat) (a6 : Nat) (a7 : Nat) (a8 : Nat) (a9 : Nat) (w : Nat → Int32) (mid : Nat → Int32) (hi : Int64) (lo : Int64) (mult : Int64) (tp : Nat → Int32) (tz : Nat) (ta : Nat) (tx : Nat → Int32) (xz : Nat) (fg : Bool) (la : Int32) (dn : Nat → Int32) (nx : Nat) (hnw : nw < 100) (hsz : 0 < ts) (hsz2 : ts ≤ 100) (hod : ∀ k : Nat, iN (od k) < 131072) (hsh : ∀ k : Nat, shs k = bI (tB (shs k))) : Met l yX9_back wsX9_back { frames := 3, cells := 0, slots := 0, locals := 67 } (PR D Z [(cB, .byte), (cI, .int), (cJ, .long), (cZ, .boolean)] [.ref e0] [(e0, .inr (9, [.ref h0, .ref g0, .ref t0, .ref l0, .ref k0, .ref f0, .int (bI hk), .int re])), (t0, .inr (8, [.ref t1, .ref t2, .ref t3, .ref t4, .ref t5, .ref t6, .ref t7, .ref t8, .ref t9, .ref t10, .int (nI nw), .int (nI ts)])), (t1, .inl (cI, 100, .inl ad)), (t2, .inl (cI, 100, .inl od)), (t3, .inl (cJ, 100, .inr (.inl pr))), (t4, .inl (cJ, 100, .inr (.inl hs))), (t5, .inl (cJ, 100, .inr (.inl los))), (t6, .inl (cJ, 100, .inr (.inl ms))), (t7, .inl (cI, 100, .inl tps)), (t8, .inl (cI, 100, .inl txs)), (t9, .inl (cZ, 100, .inl shs)), (t10, .inl (cI, 100, .inl las)), (h0, .inr (3, [.ref a1, .ref a2, .ref a3, .ref a4, .ref a5, .long mult, .int (nI nx)])), (a1, .inr (5, [.ref a6, .ref a7])), (a6, .inl (cI, 256, .inl w)), (a7, .inl (cI, 128, .inl mid)), (a2, .inr (0, [.long hi, .long lo])), (a3, .inr (7, [.ref a8, .int (nI tz), .int (nI ta)])), (a8, .inl (cB, 1000, .inl tp)), (a4, .inr (6, [.ref a9, .int (nI xz), .int (bI fg), .int la])), (a9, .inl (cB, 400, .inl tx)), (a5, .inl (cI, 32, .inl dn))] ksz) (QI D (fun (r : Int32) (u : (Nat → Int32) × (Nat → Int32) × (Nat → Int32)) => r = (nI (ts - 1)) ∧ u.1 = (llW w (iN (od nw) / 2 % 256) (pr nw)) ∧ u.2.1 = (llM mid (iN (od nw) / 2 % 256) (pr nw)) ∧ u.2.2 = (upd dn (iN (od nw) / 4096) (dn (iN (od nw) / 4096) - 1))) (fun (u : (Nat → Int32) × (Nat → Int32) × (Nat → Int32)) => [(e0, .inr (9, [.ref h0, .ref g0, .ref t0, .ref l0, .ref k0, .ref f0, .int (bI hk), .int re])), (t0, .inr (8, [.ref t1, .ref t2, .ref t3, .ref t4, .ref t5, .ref t6, .ref t7, .ref t8, .ref t9, .ref t10, .int (nI (prv nw)), .int (nI (ts - 1))])), (t1, .inl (cI, 100, .inl ad)), (t2, .inl (cI, 100, .inl od)), (t3, .inl (cJ, 100, .inr (.inl pr))), (t4, .inl (cJ, 100, .inr (.inl hs))), (t5, .inl (cJ, 100, .inr (.inl los))), (t6, .inl (cJ, 100, .inr (.inl ms))), (t7, .inl (cI, 100, .inl tps)), (t8, .inl (cI, 100, .inl txs)), (t9, .inl (cZ, 100, .inl shs)), (t10, .inl (cI, 100, .inl las)), (h0, .inr (3, [.ref a1, .ref a2, .ref a3, .ref a4, .ref a5, .long (ms nw), .int (nI (iN (ad nw)))])), (a1, .inr (5, [.ref a6, .ref a7])), (a6, .inl (cI, 256, .inl u.1)), (a7, .inl (cI, 128, .inl u.2.1)), (a2, .inr (0, [.long (hs nw), .long (los nw)])), (a3, .inr (7, [.ref a8, .int (nI tz), .int (nI (iN (tps nw)))])), (a8, .inl (cB, 1000, .inl tp)), (a4, .inr (6, [.ref a9, .int (nI (iN (txs nw))), .int (bI (tB (shs nw))), .int (las nw)])), (a9, .inl (cB, 400, .inl tx)), (a5, .inl (cI, 32, .inl u.2.2))]) (va_A [(e0, .inr (9, [.ref h0, .ref g0, .ref t0, .ref l0, .ref k0, .ref f0, .int (bI hk), .int re])), (t0, .inr (8, [.ref t1, .ref t2, .ref t3, .ref t4, .ref t5, .ref t6, .ref t7, .ref t8, .ref t9, .ref t10, .int (nI nw), .int (nI ts)])), (t1, .inl (cI, 100, .inl ad)), (t2, .inl (cI, 100, .inl od)), (t3, .inl (cJ, 100, .inr (.inl pr))), (t4, .inl (cJ, 100, .inr (.inl hs))), (t5, .inl (cJ, 100, .inr (.inl los))), (t6, .inl (cJ, 100, .inr (.inl ms))), (t7, .inl (cI, 100, .inl tps)), (t8, .inl (cI, 100, .inl txs)), (t9, .inl (cZ, 100, .inl shs)), (t10, .inl (cI, 100, .inl las)), (h0, .inr (3, [.ref a1, .ref a2, .ref a3, .ref a4, .ref a5, .long mult, .int (nI nx)])), (a1, .inr (5, [.ref a6, .ref a7])), (a6, .inl (cI, 256, .inl w)), (a7, .inl (cI, 128, .inl mid)), (a2, .inr (0, [.long hi, .long lo])), (a3, .inr (7, [.ref a8, .int (nI tz), .int (nI ta)])), (a8, .inl (cB, 1000, .inl tp)), (a4, .inr (6, [.ref a9, .int (nI xz), .int (bI fg), .int la])), (a9, .inl (cB, 400, .inl tx)), (a5, .inl (cI, 32, .inl dn))] ksz)) 0 0 (va_A [(e0, .inr (9, [.ref h0, .ref g0, .ref t0, .ref l0, .ref k0, .ref f0, .int (bI hk), .int re])), (t0, .inr (8, [.ref t1, .ref t2, .ref t3, .ref t4, .ref t5, .ref t6, .ref t7, .ref t8, .ref t9, .ref t10, .int (nI nw), .int (nI ts)])), (t1, .inl (cI, 100, .inl ad)), (t2, .inl (cI, 100, .inl od)), (t3, .inl (cJ, 100, .inr (.inl pr))), (t4, .inl (cJ, 100, .inr (.inl hs))), (t5, .inl (cJ, 100, .inr (.inl los))), (t6, .inl (cJ, 100, .inr (.inl ms))), (t7, .inl (cI, 100, .inl tps)), (t8, .inl (cI, 100, .inl txs)), (t9, .inl (cZ, 100, .inl shs)), (t10, .inl (cI, 100, .inl las)), (h0, .inr (3, [.ref a1, .ref a2, .ref a3, .ref a4, .ref a5, .long mult, .int (nI nx)])), (a1, .inr (5, [.ref a6, .ref a7])), (a6, .inl (cI, 256, .inl w)), (a7, .inl (cI, 128, .inl mid)), (a2, .inr (0, [.long hi, .long lo])), (a3, .inr (7, [.ref a8, .int (nI tz), .int (nI ta)])), (a8, .inl (cB, 1000, .inl tp)), (a4, .inr (6, [.ref a9, .int (nI xz), .int (bI fg), .int la])), (a9, .inl (cB, 400, .inl tx)), (a5, .inl (cI, 32, .inl dn))] ksz) := by
  refine met_g (QI D (fun (r : Int32) (u : (Nat → Int32) × (Nat → Int32) × (Nat → Int32)) => r = (nI (ts - 1)) ∧ u.1 = (llW w (iN (od nw) / 2 % 256) (pr nw)) ∧ u.2.1 = (llM mid (iN (od nw) / 2 % 256) (pr nw)) ∧ u.2.2 = (upd dn (iN (od nw) / 4096) (dn (iN (od nw) / 4096) - 1))) (fun (u : (Nat → Int32) × (Nat → Int32) × (Nat → Int32)) => [(e0, .inr (9, [.ref h0, .ref g0, .ref t0, .ref l0, .ref k0, .ref f0, .int (bI hk), .int re])), (t0, .inr (8, [.ref t1, .ref t2, .ref t3, .ref t4, .ref t5, .ref t6, .ref t7, .ref t8, .ref t9, .ref t10, .int (nI (prv nw)), .int (nI (ts - 1))])), (t1, .inl (cI, 100, .inl ad)), (t2, .inl (cI, 100, .inl od)), (t3, .inl (cJ, 100, .inr (.inl pr))), (t4, .inl (cJ, 100, .inr (.inl hs))), (t5, .inl (cJ, 100, .inr (.inl los))), (t6, .inl (cJ, 100, .inr (.inl ms))), (t7, .inl (cI, 100, .inl tps)), (t8, .inl (cI, 100, .inl txs)), (t9, .inl (cZ, 100, .inl shs)), (t10, .inl (cI, 100, .inl las)), (h0, .inr (3, [.ref a1, .ref a2, .ref a3, .ref a4, .ref a5, .long (ms nw), .int (nI (iN (ad nw)))])), (a1, .inr (5, [.ref a6, .ref a7])), (a6, .inl (cI, 256, .inl u.1)), (a7, .inl (cI, 128, .inl u.2.1)), (a2, .inr (0, [.long (hs nw), .long (los nw)])), (a3, .inr (7, [.ref a8, .int (nI tz), .int (nI (iN (tps nw)))])), (a8, .inl (cB, 1000, .inl tp)), (a4, .inr (6, [.ref a9, .int (nI (iN (txs nw))), .int (bI (tB (shs nw))), .int (las nw)])), (a9, .inl (cB, 400, .inl tx)), (a5, .inl (cI, 32, .inl u.2.2))])) cX9_back 1 (some .int) (by decide) rfl (Nat.le_of_ble_eq_true rfl) ?_
  intro p e s m below meth c A ls hx hb hr hts hown hlocks hml hin hA hP hK hD hE hS hl hsz
  clear hsz
  have hl : lv_has ls 1 [(0, .ref e0)] := hl
  refine lv_aload_n hx hb dX9_back_0 rfl (lv_at hl 0 rfl) ?_
  refine va_get (D := D) (ci := 9) (v := .ref t0) (C := RX9) (T := TX9) (N := 8) hx hb hts (by decide +kernel) hown hK hP 0 rfl rfl 2 (by decide) (hts (.fieldLink RX9 22 "TapeEngine" "trail" "LTapeEngine$Trail;") (by decide +kernel)) (fun _ h9 => h9) rfl dX9_back_1 ?_
  refine va_getN (D := D) (ci := 8) (v := .int (nI ts)) (C := RX8) (T := TX8) (N := 12) hx hb hts (by decide +kernel) hown hK hP 1 rfl rfl 11 (by decide) (va_Nw.use rfl (nf_X9_179 hE)) (fun _ h9 => h9) rfl dX9_back_4 ?_
  refine lv_if_ne (tgt := 13) hx hb dX9_back_7 (by decide) (fun c_7 => ?_) (fun c_7 => ?_)
  · skip
    have c_7 : ¬ ts = 0 := fun z => c_7 ((nI_eq (a := ts) (b := 0) (by omega) (by omega)).mpr z)
    refine lv_aload_n hx hb dX9_back_13 rfl (lv_at hl 0 rfl) ?_
    refine va_get (D := D) (ci := 9) (v := .ref t0) (C := RX9) (T := TX9) (N := 8) hx hb hts (by decide +kernel) hown hK hP 0 rfl rfl 2 (by decide) (hts (.fieldLink RX9 22 "TapeEngine" "trail" "LTapeEngine$Trail;") (by decide +kernel)) (fun _ h9 => h9) rfl dX9_back_14 ?_
    refine lv_aload_n hx hb dX9_back_17 rfl (lv_at hl 0 rfl) ?_
    refine va_get (D := D) (ci := 9) (v := .ref h0) (C := RX9) (T := TX9) (N := 8) hx hb hts (by decide +kernel) hown hK hP 0 rfl rfl 0 (by decide) (hts (.fieldLink RX9 10 "TapeEngine" "machine" "LTapeEngine$Machine;") (by decide +kernel)) (fun _ h9 => h9) rfl dX9_back_18 ?_
    refine kV_v (As := [.ref h0]) (rest := []) (wr := [(e0, .inr (9, [.ref h0, .ref g0, .ref t0, .ref l0, .ref k0, .ref f0, .int (bI hk), .int re]))]) ⟨hx, hb, hml, hown, hts⟩ (kX8_takeBack l D Z cB cI cJ cZ s.heap.size t0 t1 t2 t3 t4 t5 t6 t7 t8 t9 t10 ad od pr hs los ms tps txs shs las nw ts h0 a1 a2 a3 a4 a5 a6 a7 a8 a9 w mid hi lo mult tp tz ta tx xz fg la dn nx (by first | assumption | omega) (by first | assumption | omega) (by first | assumption | omega) hod hsh) (cwV 1 hts gX9_back_X8_takeBack rfl rfl rfl (by decide +kernel) ⟨Nat.le_of_ble_eq_true rfl, Nat.le_of_ble_eq_true rfl⟩) hK hE hP hD hS hA 0 8 rfl rfl rfl [1, 2, 3, 4, 5, 6, 7, 8, 9, 10, 11, 12, 13, 14, 15, 16, 17, 18, 19, 20, 21] [0] rfl rfl rfl rfl rfl (by decide) hl.1 rfl rfl (Nat.le_of_ble_eq_true rfl) dX9_back_21 ⟨Nat.le_of_ble_eq_true rfl, Nat.le_of_ble_eq_true rfl⟩ (fun u H locs hp hP hD hS => ?_)
    obtain ⟨v_1, v_2, v_3⟩ := u
    try dsimp only at hp
    obtain ⟨hq_0, hq_1, hq_2⟩ := hp
    have hq_0 := hq_0.symm
    subst hq_0
    have hq_1 := hq_1.symm
    subst hq_1
    have hq_2 := hq_2.symm
    subst hq_2
    have hP : va_P D vwCl [(e0, .inr (9, [.ref h0, .ref g0, .ref t0, .ref l0, .ref k0, .ref f0, .int (bI hk), .int re])), (t0, .inr (8, [.ref t1, .ref t2, .ref t3, .ref t4, .ref t5, .ref t6, .ref t7, .ref t8, .ref t9, .ref t10, .int (nI (prv nw)), .int (nI (ts - 1))])), (t1, .inl (cI, 100, .inl ad)), (t2, .inl (cI, 100, .inl od)), (t3, .inl (cJ, 100, .inr (.inl pr))), (t4, .inl (cJ, 100, .inr (.inl hs))), (t5, .inl (cJ, 100, .inr (.inl los))), (t6, .inl (cJ, 100, .inr (.inl ms))), (t7, .inl (cI, 100, .inl tps)), (t8, .inl (cI, 100, .inl txs)), (t9, .inl (cZ, 100, .inl shs)), (t10, .inl (cI, 100, .inl las)), (h0, .inr (3, [.ref a1, .ref a2, .ref a3, .ref a4, .ref a5, .long (ms nw), .int (nI (iN (ad nw)))])), (a1, .inr (5, [.ref a6, .ref a7])), (a6, .inl (cI, 256, .inl (llW w (iN (od nw) / 2 % 256) (pr nw)))), (a7, .inl (cI, 128, .inl (llM mid (iN (od nw) / 2 % 256) (pr nw)))), (a2, .inr (0, [.long (hs nw), .long (los nw)])), (a3, .inr (7, [.ref a8, .int (nI tz), .int (nI (iN (tps nw)))])), (a8, .inl (cB, 1000, .inl tp)), (a4, .inr (6, [.ref a9, .int (nI (iN (txs nw))), .int (bI (tB (shs nw))), .int (las nw)])), (a9, .inl (cB, 400, .inl tx)), (a5, .inl (cI, 32, .inl (upd dn (iN (od nw) / 4096) (dn (iN (od nw) / 4096) - 1))))] H := hP
    have hD : va_D A [(e0, .inr (9, [.ref h0, .ref g0, .ref t0, .ref l0, .ref k0, .ref f0, .int (bI hk), .int re])), (t0, .inr (8, [.ref t1, .ref t2, .ref t3, .ref t4, .ref t5, .ref t6, .ref t7, .ref t8, .ref t9, .ref t10, .int (nI (prv nw)), .int (nI (ts - 1))])), (t1, .inl (cI, 100, .inl ad)), (t2, .inl (cI, 100, .inl od)), (t3, .inl (cJ, 100, .inr (.inl pr))), (t4, .inl (cJ, 100, .inr (.inl hs))), (t5, .inl (cJ, 100, .inr (.inl los))), (t6, .inl (cJ, 100, .inr (.inl ms))), (t7, .inl (cI, 100, .inl tps)), (t8, .inl (cI, 100, .inl txs)), (t9, .inl (cZ, 100, .inl shs)), (t10, .inl (cI, 100, .inl las)), (h0, .inr (3, [.ref a1, .ref a2, .ref a3, .ref a4, .ref a5, .long (ms nw), .int (nI (iN (ad nw)))])), (a1, .inr (5, [.ref a6, .ref a7])), (a6, .inl (cI, 256, .inl (llW w (iN (od nw) / 2 % 256) (pr nw)))), (a7, .inl (cI, 128, .inl (llM mid (iN (od nw) / 2 % 256) (pr nw)))), (a2, .inr (0, [.long (hs nw), .long (los nw)])), (a3, .inr (7, [.ref a8, .int (nI tz), .int (nI (iN (tps nw)))])), (a8, .inl (cB, 1000, .inl tp)), (a4, .inr (6, [.ref a9, .int (nI (iN (txs nw))), .int (bI (tB (shs nw))), .int (las nw)])), (a9, .inl (cB, 400, .inl tx)), (a5, .inl (cI, 32, .inl (upd dn (iN (od nw) / 4096) (dn (iN (od nw) / 4096) - 1))))] := hD
    refine lv_aload_n hx hb dX9_back_24 rfl (lv_at hl 0 rfl) ?_
    refine va_get (D := D) (ci := 9) (v := .ref t0) (C := RX9) (T := TX9) (N := 8) hx hb hts (by decide +kernel) hown hK hP 0 rfl rfl 2 (by decide) (hts (.fieldLink RX9 22 "TapeEngine" "trail" "LTapeEngine$Trail;") (by decide +kernel)) (fun _ h9 => h9) rfl dX9_back_25 ?_
    refine va_getN (D := D) (ci := 8) (v := .int (nI (ts - 1))) (C := RX8) (T := TX8) (N := 12) hx hb hts (by decide +kernel) hown hK hP 1 rfl rfl 11 (by decide) (va_Nw.use rfl (nf_X9_179 hE)) (fun _ h9 => h9) rfl dX9_back_28 ?_
    exact ret_i hx hb hr hlocks ((llW w (iN (od nw) / 2 % 256) (pr nw)), (llM mid (iN (od nw) / 2 % 256) (pr nw)), (upd dn (iN (od nw) / 4096) (dn (iN (od nw) / 4096) - 1))) ⟨(by rfl), (by rfl), (by rfl), (by rfl)⟩ (hP.sub [0, 1, 2, 3, 4, 5, 6, 7, 8, 9, 10, 11, 12, 13, 14, 15, 16, 17, 18, 19, 20, 21] rfl) (hD.sub [0, 1, 2, 3, 4, 5, 6, 7, 8, 9, 10, 11, 12, 13, 14, 15, 16, 17, 18, 19, 20, 21] (by decide) rfl) hS dX9_back_31
  · skip
    have c_7 : ts = 0 := (nI_eq (a := ts) (b := 0) (by omega) (by omega)).mp c_7
    exfalso
    omega
