theorem em9 (c : Int32) : c = 0 ∨ c = 1 ∨ c = 2 ∨ c = 3 ∨ c = 4 ∨ c = 5 ∨ c = 6 ∨ c = 7 ∨ c = 8 ∨ (¬ c = 0 ∧ ¬ c = 1 ∧ ¬ c = 2 ∧ ¬ c = 3 ∧ ¬ c = 4 ∧ ¬ c = 5 ∧ ¬ c = 6 ∧ ¬ c = 7 ∧ ¬ c = 8) := by
  rcases Decidable.em (c = 0) with h0 | h0
  · exact Or.inl h0
  rcases Decidable.em (c = 1) with h1 | h1
  · exact Or.inr (Or.inl h1)
  rcases Decidable.em (c = 2) with h2 | h2
  · exact Or.inr (Or.inr (Or.inl h2))
  rcases Decidable.em (c = 3) with h3 | h3
  · exact Or.inr (Or.inr (Or.inr (Or.inl h3)))
  rcases Decidable.em (c = 4) with h4 | h4
  · exact Or.inr (Or.inr (Or.inr (Or.inr (Or.inl h4))))
  rcases Decidable.em (c = 5) with h5 | h5
  · exact Or.inr (Or.inr (Or.inr (Or.inr (Or.inr (Or.inl h5)))))
  rcases Decidable.em (c = 6) with h6 | h6
  · exact Or.inr (Or.inr (Or.inr (Or.inr (Or.inr (Or.inr (Or.inl h6))))))
  rcases Decidable.em (c = 7) with h7 | h7
  · exact Or.inr (Or.inr (Or.inr (Or.inr (Or.inr (Or.inr (Or.inr (Or.inl h7)))))))
  rcases Decidable.em (c = 8) with h8 | h8
  · exact Or.inr (Or.inr (Or.inr (Or.inr (Or.inr (Or.inr (Or.inr (Or.inr (Or.inl h8))))))))
  exact Or.inr (Or.inr (Or.inr (Or.inr (Or.inr (Or.inr (Or.inr (Or.inr (Or.inr (⟨h0, h1, h2, h3, h4, h5, h6, h7, h8⟩)))))))))
theorem tab9 {c : Int32} {offs : Array Int} {d : Int} (h : ¬ c = 0 ∧ ¬ c = 1 ∧ ¬ c = 2 ∧ ¬ c = 3 ∧ ¬ c = 4 ∧ ¬ c = 5 ∧ ¬ c = 6 ∧ ¬ c = 7 ∧ ¬ c = 8) : tabT 0 8 d offs c = d := by
  obtain ⟨h0, h1, h2, h3, h4, h5, h6, h7, h8⟩ := h
  have g0 := lv_neT h0 (a := 0) (by decide)
  have g1 := lv_neT h1 (a := 1) (by decide)
  have g2 := lv_neT h2 (a := 2) (by decide)
  have g3 := lv_neT h3 (a := 3) (by decide)
  have g4 := lv_neT h4 (a := 4) (by decide)
  have g5 := lv_neT h5 (a := 5) (by decide)
  have g6 := lv_neT h6 (a := 6) (by decide)
  have g7 := lv_neT h7 (a := 7) (by decide)
  have g8 := lv_neT h8 (a := 8) (by decide)
  rw [tabT, if_pos (by omega)]
theorem n1_of {n : Int32} (h : ¬ n < 1) : ∃ j : Nat, j < 2147483648 ∧ 1 ≤ j ∧ n = nI j := by
  have h0 : ¬ n < 0 := by
    intro z
    apply h
    rw [Int32.lt_iff_toInt_lt] at z ⊢
    have e0 : (0 : Int32).toInt = 0 := by decide
    have e1 : (1 : Int32).toInt = 1 := by decide
    omega
  obtain ⟨j, hj, rfl⟩ := nI_of h0
  refine ⟨j, hj, ?_, rfl⟩
  rcases Nat.eq_zero_or_pos j with q | q
  · subst q
    exact absurd (by decide) h
  · exact q
theorem iv_step (k : Nat) : (k = 0 ∧ nI k + (-1) = -1) ∨ ∃ k2 : Nat, k = k2 + 1 ∧ nI k + (-1) = nI k2 := by
  cases k with
  | zero => exact Or.inl ⟨rfl, by decide⟩
  | succ k2 => exact Or.inr ⟨k2, rfl, pk_m1 k2⟩
/-- symbols come behind the tape -/
def symv (v : Int64) (k : Nat) : Int32 := (v >>> ((nI (5 * k)).toInt64 &&& 63)).toInt32 &&& 31
def pnT (v : Int64) : Nat → (Nat → Int32) → Nat → Nat → Int32
  | 0, tp, _ => tp
  | k + 1, tp, tz => pnT v k (upd tp tz (symv v k)) (tz + 1)
theorem symv_lt (v : Int64) (k : Nat) : iN (symv v k) < 32 := by
  unfold symv
  rw [pk_and _ 5 (by decide), iN_nI (by omega)]
  omega
abbrev okP (n : Int32) (tz : Nat) : Prop := ¬ n < 1 ∧ n ≤ 12 ∧ tz + n.toNatClampNeg ≤ 1000
def aP (n : Int32) (tz : Nat) : Int32 := if ¬ n < 1 ∧ n ≤ 12 then (if tz + n.toNatClampNeg ≤ 1000 then nI (tz + n.toNatClampNeg) else -5) else -3
theorem aP_3 {n : Int32} {tz : Nat} (h : ¬ (¬ n < 1 ∧ n ≤ 12)) : -3 = aP n tz := by rw [aP, if_neg h]
theorem aP_5 {n : Int32} {tz : Nat} (h : ¬ n < 1 ∧ n ≤ 12) (h2 : ¬ tz + n.toNatClampNeg ≤ 1000) : -5 = aP n tz := by rw [aP, if_pos h, if_neg h2]
theorem aP_1 {n : Int32} {tz : Nat} (h : okP n tz) : nI (tz + n.toNatClampNeg) = aP n tz := by rw [aP, if_pos ⟨h.1, h.2.1⟩, if_pos h.2.2]
theorem okM_a {n : Int32} {on : Bool} {im : Nat → Int32} {mz : Nat} (h : ad n = true) (h2 : on = false) : okM n on im mz := ⟨h, fun z => by have := z.1; rw [h2] at this; cases this⟩
theorem okM_b {n : Int32} {on : Bool} {im : Nat → Int32} {mz : Nat} (h : ad n = true) (h2 : tB (im n.toNatClampNeg) = true) : okM n on im mz := ⟨h, fun z => by have := z.2.1; rw [h2] at this; cases this⟩
theorem okM_c {n : Int32} {on : Bool} {im : Nat → Int32} {mz : Nat} (h : ad n = true) (h2 : mz < 8) : okM n on im mz := ⟨h, fun z => by have := z.2.2; omega⟩
theorem aM_2 {n : Int32} {on : Bool} {im : Nat → Int32} {mz : Nat} (h : ad n = false) : -2 = aM n on im mz := by rw [aM, if_neg (ad_no h)]
theorem aM_5 {n : Int32} {on : Bool} {im : Nat → Int32} {mz : Nat} (h : ad n = true) (h2 : mkF n on im mz) : -5 = aM n on im mz := by rw [aM, if_pos h, if_pos h2]
theorem aM_1 {n : Int32} {on : Bool} {im : Nat → Int32} {mz : Nat} (h : okM n on im mz) : bI (tB (im n.toNatClampNeg)) = aM n on im mz := by rw [aM, if_pos h.1, if_neg h.2]
set_option maxHeartbeats 4000000 in
set_option maxRecDepth 100000 in
theorem kX9_punch (l : Launch) (D : va_G) (Z : SZ) (cB cI cJ cZ : ClassId) (ksz : Nat) (e0 : Nat) (h0 : Nat) (g0 : Nat) (t0 : Nat) (l0 : Nat) (k0 : Nat) (f0 : Nat) (hk : Bool) (re : Int32) (t1 : Nat) (t2 : Nat) (t3 : Nat) (t4 : Nat) (t5 : Nat) (t6 : Nat) (t7 : Nat) (t8 : Nat) (t9 : Nat) (t10 : Nat) (nw : Nat) (ts : Nat) (a1 : Nat) (a2 : Nat) (a3 : Nat) (a4 : Nat) (a5 : Nat) (a8 : Nat) (mult : Int64) (tp : Nat → Int32) (tz : Nat) (ta : Nat) (nx : Nat) (v : Int64) (n : Int32) (hz : tz ≤ 1000) : Met l yX9_punch wsX9_punch { frames := 1, cells := 0, slots := 0, locals := 21 } (PR D Z [(cB, .byte), (cI, .int), (cJ, .long), (cZ, .boolean)] [.ref e0, .long v, .int n] [(e0, .inr (9, [.ref h0, .ref g0, .ref t0, .ref l0, .ref k0, .ref f0, .int (bI hk), .int re])), (h0, .inr (3, [.ref a1, .ref a2, .ref a3, .ref a4, .ref a5, .long mult, .int (nI nx)])), (a3, .inr (7, [.ref a8, .int (nI tz), .int (nI ta)])), (a8, .inl (cB, 1000, .inl tp)), (t0, .inr (8, [.ref t1, .ref t2, .ref t3, .ref t4, .ref t5, .ref t6, .ref t7, .ref t8, .ref t9, .ref t10, .int (nI nw), .int (nI ts)]))] ksz) (QI D (fun (r : Int32) (u : (Nat → Int32) × Nat × Nat) => r = (aP n tz) ∧ u.1 = (if okP n tz then pnT v n.toNatClampNeg tp tz else tp) ∧ u.2.1 = (if okP n tz then tz + n.toNatClampNeg else tz) ∧ u.2.2 = (if okP n tz then 0 else ts)) (fun (u : (Nat → Int32) × Nat × Nat) => [(e0, .inr (9, [.ref h0, .ref g0, .ref t0, .ref l0, .ref k0, .ref f0, .int (bI hk), .int re])), (h0, .inr (3, [.ref a1, .ref a2, .ref a3, .ref a4, .ref a5, .long mult, .int (nI nx)])), (a3, .inr (7, [.ref a8, .int (nI u.2.1), .int (nI ta)])), (a8, .inl (cB, 1000, .inl u.1)), (t0, .inr (8, [.ref t1, .ref t2, .ref t3, .ref t4, .ref t5, .ref t6, .ref t7, .ref t8, .ref t9, .ref t10, .int (nI nw), .int (nI u.2.2)]))]) (va_A [(e0, .inr (9, [.ref h0, .ref g0, .ref t0, .ref l0, .ref k0, .ref f0, .int (bI hk), .int re])), (h0, .inr (3, [.ref a1, .ref a2, .ref a3, .ref a4, .ref a5, .long mult, .int (nI nx)])), (a3, .inr (7, [.ref a8, .int (nI tz), .int (nI ta)])), (a8, .inl (cB, 1000, .inl tp)), (t0, .inr (8, [.ref t1, .ref t2, .ref t3, .ref t4, .ref t5, .ref t6, .ref t7, .ref t8, .ref t9, .ref t10, .int (nI nw), .int (nI ts)]))] ksz)) 0 0 (va_A [(e0, .inr (9, [.ref h0, .ref g0, .ref t0, .ref l0, .ref k0, .ref f0, .int (bI hk), .int re])), (h0, .inr (3, [.ref a1, .ref a2, .ref a3, .ref a4, .ref a5, .long mult, .int (nI nx)])), (a3, .inr (7, [.ref a8, .int (nI tz), .int (nI ta)])), (a8, .inl (cB, 1000, .inl tp)), (t0, .inr (8, [.ref t1, .ref t2, .ref t3, .ref t4, .ref t5, .ref t6, .ref t7, .ref t8, .ref t9, .ref t10, .int (nI nw), .int (nI ts)]))] ksz) := by
  refine met_g (QI D (fun (r : Int32) (u : (Nat → Int32) × Nat × Nat) => r = (aP n tz) ∧ u.1 = (if okP n tz then pnT v n.toNatClampNeg tp tz else tp) ∧ u.2.1 = (if okP n tz then tz + n.toNatClampNeg else tz) ∧ u.2.2 = (if okP n tz then 0 else ts)) (fun (u : (Nat → Int32) × Nat × Nat) => [(e0, .inr (9, [.ref h0, .ref g0, .ref t0, .ref l0, .ref k0, .ref f0, .int (bI hk), .int re])), (h0, .inr (3, [.ref a1, .ref a2, .ref a3, .ref a4, .ref a5, .long mult, .int (nI nx)])), (a3, .inr (7, [.ref a8, .int (nI u.2.1), .int (nI ta)])), (a8, .inl (cB, 1000, .inl u.1)), (t0, .inr (8, [.ref t1, .ref t2, .ref t3, .ref t4, .ref t5, .ref t6, .ref t7, .ref t8, .ref t9, .ref t10, .int (nI nw), .int (nI u.2.2)]))])) cX9_punch 5 (some .int) (by decide) rfl (Nat.le_of_ble_eq_true rfl) ?_
  intro p e s m below meth c A ls hx hb hr hts hown hlocks hml hin hA hP hK hD hE hS hl hsz
  clear hsz
  have hl : lv_has ls 5 [(0, .ref e0), (1, .long v), (3, .int n)] := hl
  have lp_40 : ∀ (n_40 : Nat) (mm : Nat) (q : Nat) (iv : Int32) (tp1 : Nat → Int32) (tz1 : Nat) (H : Heap) (locs : List Loc) (ls : Array Slot), (okP n tz) → (n.toNatClampNeg = mm) → ((q = 0 ∧ iv = -1) ∨ ∃ k : Nat, q = k + 1 ∧ iv = nI k) → (pnT v mm tp tz = pnT v q tp1 tz1) → (tz1 + q = tz + mm) → (tz + mm ≤ 1000) → (q) < n_40 → va_P D vwCl [(e0, .inr (9, [.ref h0, .ref g0, .ref t0, .ref l0, .ref k0, .ref f0, .int (bI hk), .int re])), (h0, .inr (3, [.ref a1, .ref a2, .ref a3, .ref a4, .ref a5, .long mult, .int (nI nx)])), (a3, .inr (7, [.ref a8, .int (nI tz1), .int (nI ta)])), (a8, .inl (cB, 1000, .inl tp1)), (t0, .inr (8, [.ref t1, .ref t2, .ref t3, .ref t4, .ref t5, .ref t6, .ref t7, .ref t8, .ref t9, .ref t10, .int (nI nw), .int (nI ts)]))] H → va_D A [(e0, .inr (9, [.ref h0, .ref g0, .ref t0, .ref l0, .ref k0, .ref f0, .int (bI hk), .int re])), (h0, .inr (3, [.ref a1, .ref a2, .ref a3, .ref a4, .ref a5, .long mult, .int (nI nx)])), (a3, .inr (7, [.ref a8, .int (nI tz1), .int (nI ta)])), (a8, .inl (cB, 1000, .inl tp1)), (t0, .inr (8, [.ref t1, .ref t2, .ref t3, .ref t4, .ref t5, .ref t6, .ref t7, .ref t8, .ref t9, .ref t10, .int (nI nw), .int (nI ts)]))] → va_S A s.heap H locs → lv_has ls 5 [(0, .ref e0), (1, .long v), (3, .int (nI mm)), (4, .int iv)] → W p l e { frames := 1, cells := 0, slots := 0, locals := 21 } s m ([.ref e0, .long v, .int n] : List Value).toArray below meth c H locs 0 0 (MQ below (QI D (fun (r : Int32) (u : (Nat → Int32) × Nat × Nat) => r = (aP n tz) ∧ u.1 = (if okP n tz then pnT v n.toNatClampNeg tp tz else tp) ∧ u.2.1 = (if okP n tz then tz + n.toNatClampNeg else tz) ∧ u.2.2 = (if okP n tz then 0 else ts)) (fun (u : (Nat → Int32) × Nat × Nat) => [(e0, .inr (9, [.ref h0, .ref g0, .ref t0, .ref l0, .ref k0, .ref f0, .int (bI hk), .int re])), (h0, .inr (3, [.ref a1, .ref a2, .ref a3, .ref a4, .ref a5, .long mult, .int (nI nx)])), (a3, .inr (7, [.ref a8, .int (nI u.2.1), .int (nI ta)])), (a8, .inl (cB, 1000, .inl u.1)), (t0, .inr (8, [.ref t1, .ref t2, .ref t3, .ref t4, .ref t5, .ref t6, .ref t7, .ref t8, .ref t9, .ref t10, .int (nI nw), .int (nI u.2.2)]))]) A) ([.ref e0, .long v, .int n] : List Value).toArray s 0 0 A) (F0 m 40 ls []) := by
    intro n_40
    induction n_40 with
    | zero => intro mm q iv tp1 tz1 H locs ls hok ecl hq hT hs1 hs2 hm_40; exact absurd hm_40 (Nat.not_lt_zero _)
    | succ n_40 ih_40 =>
      intro mm q iv tp1 tz1 H locs ls hok ecl hq hT hs1 hs2 hm_40 hP hD hS hl
      rcases hq with ⟨rfl, rfl⟩ | ⟨k, rfl, rfl⟩
      · skip
        refine lv_iload hx hb dX9_punch_40 (lv_at hl 3 rfl) ?_
        refine lv_if_lt (tgt := 71) hx hb dX9_punch_42 (by decide) (fun _ => ?_) (fun c_42 => absurd (by decide) c_42)
        refine lv_aload_n hx hb dX9_punch_71 rfl (lv_at hl 0 rfl) ?_
        refine va_get (D := D) (ci := 9) (v := .ref t0) (C := RX9) (T := TX9) (N := 8) hx hb hts (by decide +kernel) hown hK hP 0 rfl rfl 2 (by decide) (hts (.fieldLink RX9 22 "TapeEngine" "trail" "LTapeEngine$Trail;") (by decide +kernel)) (fun _ h9 => h9) rfl dX9_punch_72 ?_
        refine kV_v (As := []) (rest := []) (wr := [(e0, .inr (9, [.ref h0, .ref g0, .ref t0, .ref l0, .ref k0, .ref f0, .int (bI hk), .int re])), (h0, .inr (3, [.ref a1, .ref a2, .ref a3, .ref a4, .ref a5, .long mult, .int (nI nx)])), (a3, .inr (7, [.ref a8, .int (nI tz1), .int (nI ta)])), (a8, .inl (cB, 1000, .inl tp1))]) ⟨hx, hb, hml, hown, hts⟩ (kX8_forget l D Z cB cI cJ cZ H.size t0 t1 t2 t3 t4 t5 t6 t7 t8 t9 t10 nw ts ) (cwV 0 hts gX9_punch_X8_forget rfl rfl rfl (by decide +kernel) ⟨Nat.le_of_ble_eq_true rfl, Nat.le_of_ble_eq_true rfl⟩) hK hE hP hD hS hA 0 8 rfl rfl rfl [4] [0, 1, 2, 3] rfl rfl rfl rfl rfl (by decide) hl.1 rfl rfl (Nat.le_of_ble_eq_true rfl) dX9_punch_75 ⟨Nat.le_of_ble_eq_true rfl, Nat.le_of_ble_eq_true rfl⟩ (fun u H locs hp hP hD hS => ?_)
        have hP : va_P D vwCl [(e0, .inr (9, [.ref h0, .ref g0, .ref t0, .ref l0, .ref k0, .ref f0, .int (bI hk), .int re])), (h0, .inr (3, [.ref a1, .ref a2, .ref a3, .ref a4, .ref a5, .long mult, .int (nI nx)])), (a3, .inr (7, [.ref a8, .int (nI tz1), .int (nI ta)])), (a8, .inl (cB, 1000, .inl tp1)), (t0, .inr (8, [.ref t1, .ref t2, .ref t3, .ref t4, .ref t5, .ref t6, .ref t7, .ref t8, .ref t9, .ref t10, .int (nI nw), .int (nI 0)]))] H := hP
        have hD : va_D A [(e0, .inr (9, [.ref h0, .ref g0, .ref t0, .ref l0, .ref k0, .ref f0, .int (bI hk), .int re])), (h0, .inr (3, [.ref a1, .ref a2, .ref a3, .ref a4, .ref a5, .long mult, .int (nI nx)])), (a3, .inr (7, [.ref a8, .int (nI tz1), .int (nI ta)])), (a8, .inl (cB, 1000, .inl tp1)), (t0, .inr (8, [.ref t1, .ref t2, .ref t3, .ref t4, .ref t5, .ref t6, .ref t7, .ref t8, .ref t9, .ref t10, .int (nI nw), .int (nI 0)]))] := hD
        refine lv_aload_n hx hb dX9_punch_78 rfl (lv_at hl 0 rfl) ?_
        refine va_get (D := D) (ci := 9) (v := .ref h0) (C := RX9) (T := TX9) (N := 8) hx hb hts (by decide +kernel) hown hK hP 0 rfl rfl 0 (by decide) (hts (.fieldLink RX9 10 "TapeEngine" "machine" "LTapeEngine$Machine;") (by decide +kernel)) (fun _ h9 => h9) rfl dX9_punch_79 ?_
        refine va_getN (D := D) (ci := 3) (v := .ref a3) (C := RX3) (T := TX3) (N := 7) hx hb hts (by decide +kernel) hown hK hP 1 rfl rfl 2 (by decide) (va_Nw.use rfl (nf_X9_122 hE)) (fun _ h9 => h9) rfl dX9_punch_82 ?_
        refine va_getN (D := D) (ci := 7) (v := .int (nI tz1)) (C := RX7) (T := TX7) (N := 3) hx hb hts (by decide +kernel) hown hK hP 2 rfl rfl 1 (by decide) (va_Nw.use rfl (nf_X9_126 hE)) (fun _ h9 => h9) rfl dX9_punch_85 ?_
        exact ret_i hx hb hr hlocks (tp1, tz1, 0) ⟨(by first | exact hres | (rw [← aP_1 hok, ecl]; exact congrArg nI (by omega))), (by first | exact (if_neg hno).symm | (rw [if_pos hok, ecl, hT]; rfl)), (by first | exact (if_neg hno).symm | (rw [if_pos hok, ecl]; omega)), (by first | exact (if_neg hno).symm | exact (if_pos hok).symm)⟩ (hP.sub [0, 1, 2, 3, 4] rfl) (hD.sub [0, 1, 2, 3, 4] (by decide) rfl) hS dX9_punch_88
      · skip
        refine lv_iload hx hb dX9_punch_40 (lv_at hl 3 rfl) ?_
        refine lv_if_lt (tgt := 71) hx hb dX9_punch_42 (by decide) (fun c_42 => ?_) (fun c_42 => ?_)
        · skip
          have c_42 : k < 0 := (nI_ltI (a := k) (b := 0) (by omega) (by omega)).mp c_42
          exact absurd c_42 (Nat.not_lt_zero _)
        · skip
          have c_42 : ¬ k < 0 := fun z => c_42 ((nI_ltI (a := k) (b := 0) (by omega) (by omega)).mpr z)
          refine lv_aload_n hx hb dX9_punch_45 rfl (lv_at hl 0 rfl) ?_
          refine va_get (D := D) (ci := 9) (v := .ref h0) (C := RX9) (T := TX9) (N := 8) hx hb hts (by decide +kernel) hown hK hP 0 rfl rfl 0 (by decide) (hts (.fieldLink RX9 10 "TapeEngine" "machine" "LTapeEngine$Machine;") (by decide +kernel)) (fun _ h9 => h9) rfl dX9_punch_46 ?_
          refine va_getN (D := D) (ci := 3) (v := .ref a3) (C := RX3) (T := TX3) (N := 7) hx hb hts (by decide +kernel) hown hK hP 1 rfl rfl 2 (by decide) (va_Nw.use rfl (nf_X9_122 hE)) (fun _ h9 => h9) rfl dX9_punch_49 ?_
          refine lv_lload_n hx hb dX9_punch_52 rfl (lv_at hl 1 rfl) ?_
          refine lv_iconst (v := (nI 5)) hx hb dX9_punch_53 (by decide) ?_
          refine lv_iload hx hb dX9_punch_54 (lv_at hl 3 rfl) ?_
          refine lv_imul hx hb dX9_punch_56 ?_
          refine set_i (y := nI (5 * k)) (pk_mul 5 k) ?_
          refine lv_lshr hx hb dX9_punch_57 rfl ?_
          refine lv_l2i hx hb dX9_punch_58 rfl ?_
          refine lv_bipush (v := 31) hx hb dX9_punch_59 (by decide) ?_
          refine lv_iand hx hb dX9_punch_61 ?_
          refine set_i (y := nI (iN (symv v k))) (nI_iN _).symm ?_
          refine kV_v (As := [.int (nI (iN (symv v k)))]) (rest := []) (wr := [(e0, .inr (9, [.ref h0, .ref g0, .ref t0, .ref l0, .ref k0, .ref f0, .int (bI hk), .int re])), (h0, .inr (3, [.ref a1, .ref a2, .ref a3, .ref a4, .ref a5, .long mult, .int (nI nx)])), (t0, .inr (8, [.ref t1, .ref t2, .ref t3, .ref t4, .ref t5, .ref t6, .ref t7, .ref t8, .ref t9, .ref t10, .int (nI nw), .int (nI ts)]))]) ⟨hx, hb, hml, hown, hts⟩ (kX7_append l D Z cB cI cJ cZ H.size a3 a8 tp1 tz1 ta (iN (symv v k)) (by first | assumption | omega) (by have := symv_lt v k; omega)) (cwV 1 hts gX9_punch_X7_append rfl rfl rfl (by decide +kernel) ⟨Nat.le_of_ble_eq_true rfl, Nat.le_of_ble_eq_true rfl⟩) hK hE hP hD hS hA 0 7 rfl rfl rfl [2, 3] [0, 1, 4] rfl rfl rfl rfl rfl (by decide) hl.1 rfl rfl (Nat.le_of_ble_eq_true rfl) dX9_punch_62 ⟨Nat.le_of_ble_eq_true rfl, Nat.le_of_ble_eq_true rfl⟩ (fun u H locs hp hP hD hS => ?_)
          obtain ⟨v_1, rfl⟩ : ∃ z, z = u := ⟨_, rfl⟩
          try dsimp only at hp
          have hq_0 := hp
          have hq_0 := hq_0.symm
          subst hq_0
          have hP : va_P D vwCl [(e0, .inr (9, [.ref h0, .ref g0, .ref t0, .ref l0, .ref k0, .ref f0, .int (bI hk), .int re])), (h0, .inr (3, [.ref a1, .ref a2, .ref a3, .ref a4, .ref a5, .long mult, .int (nI nx)])), (t0, .inr (8, [.ref t1, .ref t2, .ref t3, .ref t4, .ref t5, .ref t6, .ref t7, .ref t8, .ref t9, .ref t10, .int (nI nw), .int (nI ts)])), (a3, .inr (7, [.ref a8, .int (nI (tz1 + 1)), .int (nI ta)])), (a8, .inl (cB, 1000, .inl (upd tp1 tz1 (nI (iN (symv v k))))))] H := hP
          have hD : va_D A [(e0, .inr (9, [.ref h0, .ref g0, .ref t0, .ref l0, .ref k0, .ref f0, .int (bI hk), .int re])), (h0, .inr (3, [.ref a1, .ref a2, .ref a3, .ref a4, .ref a5, .long mult, .int (nI nx)])), (t0, .inr (8, [.ref t1, .ref t2, .ref t3, .ref t4, .ref t5, .ref t6, .ref t7, .ref t8, .ref t9, .ref t10, .int (nI nw), .int (nI ts)])), (a3, .inr (7, [.ref a8, .int (nI (tz1 + 1)), .int (nI ta)])), (a8, .inl (cB, 1000, .inl (upd tp1 tz1 (nI (iN (symv v k))))))] := hD
          refine lv_iinc (v := ((nI k) + (-1))) (lv' := [(4, .int ((nI k) + (-1))), (0, .ref e0), (1, .long v), (3, .int (nI mm))]) hx hb dX9_punch_65 hl (k := 3) rfl rfl (by decide) rfl (fun ls hl => ?_)
          refine lv_goto (tgt := 40) hx hb dX9_punch_68 (by decide) ?_
          exact ih_40 mm k ((nI k) + (-1)) (upd tp1 tz1 (nI (iN (symv v k)))) (tz1 + 1) _ _ _ hok ecl (iv_step k) (hT.trans (by rw [nI_iN]; rfl)) (by first | assumption | omega) (by first | assumption | omega) (by omega) (hP.sub [0, 1, 3, 4, 2] rfl) (hD.sub [0, 1, 3, 4, 2] (by decide) rfl) hS (lv_sub hl [1, 2, 3, 0] rfl)
  refine lv_iload_n hx hb dX9_punch_0 rfl (lv_at hl 2 rfl) ?_
  refine lv_iconst (v := 1) hx hb dX9_punch_1 (by decide) ?_
  refine lv_icmp_lt (tgt := 11) hx hb dX9_punch_2 (by decide) (fun c_2 => ?_) (fun c_2 => ?_)
  · skip
    have hno : ¬ okP n tz := fun z => by first | exact z.1 c_2 | exact c_8 z.2.1
    have hres : -3 = aP n tz := by first | exact aP_3 (fun z => z.1 c_2) | exact aP_3 (fun z => c_8 z.2)
    refine lv_bipush (v := (-3)) hx hb dX9_punch_11 (by decide) ?_
    exact ret_i hx hb hr hlocks (tp, tz, ts) ⟨(by first | exact hres | (rw [← aP_1 hok, ecl]; exact congrArg nI (by omega))), (by first | exact (if_neg hno).symm | (rw [if_pos hok, ecl, hT]; rfl)), (by first | exact (if_neg hno).symm | (rw [if_pos hok, ecl]; omega)), (by first | exact (if_neg hno).symm | exact (if_pos hok).symm)⟩ (hP.sub [0, 1, 2, 3, 4] rfl) (hD.sub [0, 1, 2, 3, 4] (by decide) rfl) hS dX9_punch_13
  · skip
    refine lv_iload_n hx hb dX9_punch_5 rfl (lv_at hl 2 rfl) ?_
    refine lv_bipush (v := 12) hx hb dX9_punch_6 (by decide) ?_
    refine lv_icmp_le (tgt := 14) hx hb dX9_punch_8 (by decide) (fun c_8 => ?_) (fun c_8 => ?_)
    · skip
      have hr1 : ¬ n < 1 ∧ n ≤ 12 := ⟨c_2, c_8⟩
      obtain ⟨mm, hm9, hm1, rfl⟩ := n1_of c_2
      have c_8 : mm ≤ 12 := nI_leL (k := 12) (by omega) (by decide) c_8
      have ecl : (nI mm).toNatClampNeg = mm := nI_clamp (by omega)
      refine lv_aload_n hx hb dX9_punch_14 rfl (lv_at hl 0 rfl) ?_
      refine va_get (D := D) (ci := 9) (v := .ref h0) (C := RX9) (T := TX9) (N := 8) hx hb hts (by decide +kernel) hown hK hP 0 rfl rfl 0 (by decide) (hts (.fieldLink RX9 10 "TapeEngine" "machine" "LTapeEngine$Machine;") (by decide +kernel)) (fun _ h9 => h9) rfl dX9_punch_15 ?_
      refine va_getN (D := D) (ci := 3) (v := .ref a3) (C := RX3) (T := TX3) (N := 7) hx hb hts (by decide +kernel) hown hK hP 1 rfl rfl 2 (by decide) (va_Nw.use rfl (nf_X9_122 hE)) (fun _ h9 => h9) rfl dX9_punch_18 ?_
      refine va_getN (D := D) (ci := 7) (v := .int (nI tz)) (C := RX7) (T := TX7) (N := 3) hx hb hts (by decide +kernel) hown hK hP 2 rfl rfl 1 (by decide) (va_Nw.use rfl (nf_X9_126 hE)) (fun _ h9 => h9) rfl dX9_punch_21 ?_
      refine lv_iload_n hx hb dX9_punch_24 rfl (lv_at hl 2 rfl) ?_
      refine lv_iadd hx hb dX9_punch_25 ?_
      refine set_i (y := nI (tz + mm)) (nI_add _ _) ?_
      refine lv_sipush (v := (nI 1000)) hx hb dX9_punch_26 (by decide) ?_
      refine lv_icmp_le (tgt := 35) hx hb dX9_punch_29 (by decide) (fun c_29 => ?_) (fun c_29 => ?_)
      · skip
        have c_29 : (tz + mm) ≤ 1000 := (nI_leI (a := (tz + mm)) (b := 1000) (by omega) (by omega)).mp c_29
        have hok : okP (nI mm) tz := ⟨hr1.1, hr1.2, by rw [ecl]; omega⟩
        refine lv_iload_n hx hb dX9_punch_35 rfl (lv_at hl 2 rfl) ?_
        refine lv_iconst (v := (nI 1)) hx hb dX9_punch_36 (by decide) ?_
        refine lv_isub hx hb dX9_punch_37 ?_
        refine set_i (y := nI (mm - 1)) (pk_sub (b := 1) (by omega)) ?_
        refine lv_istore (lv' := [(4, .int (nI (mm - 1))), (0, .ref e0), (1, .long v), (3, .int (nI mm))]) hx hb dX9_punch_38 hl (by decide) rfl (fun ls hl => ?_)
        exact lp_40 _ mm mm (nI (mm - 1)) tp tz _ _ _ hok ecl (Or.inr ⟨mm - 1, by omega, rfl⟩) rfl (by first | assumption | omega) (by first | assumption | omega) (Nat.lt_succ_self _) (hP.sub [0, 1, 2, 3, 4] rfl) (hD.sub [0, 1, 2, 3, 4] (by decide) rfl) hS (lv_sub hl [1, 2, 3, 0] rfl)
      · skip
        have c_29 : ¬ (tz + mm) ≤ 1000 := fun z => c_29 ((nI_leI (a := (tz + mm)) (b := 1000) (by omega) (by omega)).mpr z)
        have hno : ¬ okP (nI mm) tz := fun z => by have := z.2.2; rw [ecl] at this; omega
        have hres : -5 = aP (nI mm) tz := aP_5 hr1 (by rw [ecl]; omega)
        refine lv_bipush (v := (-5)) hx hb dX9_punch_32 (by decide) ?_
        exact ret_i hx hb hr hlocks (tp, tz, ts) ⟨(by first | exact hres | (rw [← aP_1 hok, ecl]; exact congrArg nI (by omega))), (by first | exact (if_neg hno).symm | (rw [if_pos hok, ecl, hT]; rfl)), (by first | exact (if_neg hno).symm | (rw [if_pos hok, ecl]; omega)), (by first | exact (if_neg hno).symm | exact (if_pos hok).symm)⟩ (hP.sub [0, 1, 2, 3, 4] rfl) (hD.sub [0, 1, 2, 3, 4] (by decide) rfl) hS dX9_punch_34
    · skip
      have hno : ¬ okP n tz := fun z => by first | exact z.1 c_2 | exact c_8 z.2.1
      have hres : -3 = aP n tz := by first | exact aP_3 (fun z => z.1 c_2) | exact aP_3 (fun z => c_8 z.2)
      refine lv_bipush (v := (-3)) hx hb dX9_punch_11 (by decide) ?_
      exact ret_i hx hb hr hlocks (tp, tz, ts) ⟨(by first | exact hres | (rw [← aP_1 hok, ecl]; exact congrArg nI (by omega))), (by first | exact (if_neg hno).symm | (rw [if_pos hok, ecl, hT]; rfl)), (by first | exact (if_neg hno).symm | (rw [if_pos hok, ecl]; omega)), (by first | exact (if_neg hno).symm | exact (if_pos hok).symm)⟩ (hP.sub [0, 1, 2, 3, 4] rfl) (hD.sub [0, 1, 2, 3, 4] (by decide) rfl) hS dX9_punch_13
