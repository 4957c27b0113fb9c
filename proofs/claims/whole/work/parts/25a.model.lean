theorem in_12 (v : Int32) : inB v.toInt64 1 12 = decide (¬ v < 1 ∧ v ≤ 12) := by
  unfold inB
  rw [← Bool.decide_and]
  apply decide_eq_decide.mpr
  rw [Int64.lt_iff_toInt_lt, Int64.lt_iff_toInt_lt, Int32.lt_iff_toInt_lt, Int32.le_iff_toInt_le, i64_toInt, show (1 : Int64).toInt = 1 by decide, show (12 : Int64).toInt = 12 by decide, show (1 : Int32).toInt = 1 by decide, show (12 : Int32).toInt = 12 by decide]
  omega
theorem l2i_5 (x : Int64) : (x &&& 31).toInt32 = x.toInt32 &&& 31 := by
  apply Int32.toBitVec_inj.mp
  simp
theorem mk_eq {n : Int32} {j : Nat} {on : Bool} {im : Nat → Int32} {mz : Nat} (hj : j < 256) (h : on = tB (im j)) : mz = mkM (nI j) on im mz := by rw [mkM, ad_clamp hj, if_pos h.symm]
theorem mk_on {n : Int32} {j : Nat} {on : Bool} {im : Nat → Int32} {mz : Nat} (hj : j < 256) (h : ¬ on = tB (im j)) (h2 : on = true) : mz + 1 = mkM (nI j) on im mz := by rw [mkM, ad_clamp hj, if_neg (fun z => h z.symm), if_pos h2]
theorem mk_off {n : Int32} {j : Nat} {on : Bool} {im : Nat → Int32} {mz : Nat} (hj : j < 256) (h : ¬ on = tB (im j)) (h2 : on = false) : mz - 1 = mkM (nI j) on im mz := by rw [mkM, ad_clamp hj, if_neg (fun z => h z.symm), if_neg (by rw [h2]; decide)]
theorem tB_other {on : Bool} {x : Int32} (h : ¬ on = tB x) (h2 : on = false) : tB x = true := by
  cases hh : tB x
  · exact absurd (h2.trans hh.symm) h
  · rfl
theorem ad0 (x : Int32) : x + 0 = x := Int32.add_zero x
set_option maxHeartbeats 4000000 in
set_option maxRecDepth 100000 in
theorem kX10_punch (l : Launch) (D : va_G) (Z : SZ) (cB cI cJ cZ : ClassId) (ksz : Nat) (m0 : Nat) (x0 : Nat) (x1 : Nat) (x8 : Nat) (x10 : Nat) (x13 : Nat) (x14 : Nat) (x21 : Nat) (x22 : Nat) (x23 : Nat) (x24 : Nat) (x25 : Nat) (x26 : Nat) (x27 : Nat) (x28 : Nat) (x29 : Nat) (x30 : Nat) (x31 : Nat) (x32 : Nat) (x33 : Nat) (x35 : Nat) (x37 : Nat) (x38 : Nat) (x45 : Nat) (x47 : Nat) (x50 : Nat) (hi : Int64) (lo : Int64) (mult : Int64) (nx : Nat) (tz : Nat) (ta : Nat) (xz : Nat) (fg : Bool) (la : Int32) (mz : Nat) (re : Int32) (en : Int32) (pv : Int32) (ts : Nat) (nw : Nat) (hr0 : Bool) (hk : Bool) (hi2 : Int64) (lo2 : Int64) (mult2 : Int64) (nx2 : Nat) (tz2 : Nat) (ta2 : Nat) (xz2 : Nat) (fg2 : Bool) (la2 : Int32) (tp : Nat → Int32) (v : Int64) (n : Int32) (hz : tz ≤ 1000) : Met l yX10_punch wsX10_punch { frames := 1, cells := 0, slots := 0, locals := 25 } (PR D Z [(cB, .byte), (cI, .int), (cJ, .long), (cZ, .boolean)] [.ref m0, .long v, .int n] [(m0, .inr (10, [.ref x0, .ref x1, .long hi, .long lo, .long mult, .int (nI nx), .int (nI tz), .int (nI ta), .ref x8, .int (nI xz), .ref x10, .int (bI fg), .int la, .ref x13, .ref x14, .int (nI mz), .int re, .int en, .int pv, .int (nI ts), .int (nI nw), .ref x21, .ref x22, .ref x23, .ref x24, .ref x25, .ref x26, .ref x27, .ref x28, .ref x29, .ref x30, .ref x31, .ref x32, .ref x33, .int (bI hr0), .ref x35, .int (bI hk), .ref x37, .ref x38, .long hi2, .long lo2, .long mult2, .int (nI nx2), .int (nI tz2), .int (nI ta2), .ref x45, .int (nI xz2), .ref x47, .int (bI fg2), .int la2, .ref x50])), (x8, .inl (cI, 1000, .inl tp))] ksz) (QI D (fun (r : Int32) (u : (Nat → Int32) × Nat × Nat) => r = (aP n tz) ∧ u.1 = (if okP n tz then pnT v n.toNatClampNeg tp tz else tp) ∧ u.2.1 = (if okP n tz then tz + n.toNatClampNeg else tz) ∧ u.2.2 = (if okP n tz then 0 else ts)) (fun (u : (Nat → Int32) × Nat × Nat) => [(m0, .inr (10, [.ref x0, .ref x1, .long hi, .long lo, .long mult, .int (nI nx), .int (nI u.2.1), .int (nI ta), .ref x8, .int (nI xz), .ref x10, .int (bI fg), .int la, .ref x13, .ref x14, .int (nI mz), .int re, .int en, .int pv, .int (nI u.2.2), .int (nI nw), .ref x21, .ref x22, .ref x23, .ref x24, .ref x25, .ref x26, .ref x27, .ref x28, .ref x29, .ref x30, .ref x31, .ref x32, .ref x33, .int (bI hr0), .ref x35, .int (bI hk), .ref x37, .ref x38, .long hi2, .long lo2, .long mult2, .int (nI nx2), .int (nI tz2), .int (nI ta2), .ref x45, .int (nI xz2), .ref x47, .int (bI fg2), .int la2, .ref x50])), (x8, .inl (cI, 1000, .inl u.1))]) (va_A [(m0, .inr (10, [.ref x0, .ref x1, .long hi, .long lo, .long mult, .int (nI nx), .int (nI tz), .int (nI ta), .ref x8, .int (nI xz), .ref x10, .int (bI fg), .int la, .ref x13, .ref x14, .int (nI mz), .int re, .int en, .int pv, .int (nI ts), .int (nI nw), .ref x21, .ref x22, .ref x23, .ref x24, .ref x25, .ref x26, .ref x27, .ref x28, .ref x29, .ref x30, .ref x31, .ref x32, .ref x33, .int (bI hr0), .ref x35, .int (bI hk), .ref x37, .ref x38, .long hi2, .long lo2, .long mult2, .int (nI nx2), .int (nI tz2), .int (nI ta2), .ref x45, .int (nI xz2), .ref x47, .int (bI fg2), .int la2, .ref x50])), (x8, .inl (cI, 1000, .inl tp))] ksz)) 0 0 (va_A [(m0, .inr (10, [.ref x0, .ref x1, .long hi, .long lo, .long mult, .int (nI nx), .int (nI tz), .int (nI ta), .ref x8, .int (nI xz), .ref x10, .int (bI fg), .int la, .ref x13, .ref x14, .int (nI mz), .int re, .int en, .int pv, .int (nI ts), .int (nI nw), .ref x21, .ref x22, .ref x23, .ref x24, .ref x25, .ref x26, .ref x27, .ref x28, .ref x29, .ref x30, .ref x31, .ref x32, .ref x33, .int (bI hr0), .ref x35, .int (bI hk), .ref x37, .ref x38, .long hi2, .long lo2, .long mult2, .int (nI nx2), .int (nI tz2), .int (nI ta2), .ref x45, .int (nI xz2), .ref x47, .int (bI fg2), .int la2, .ref x50])), (x8, .inl (cI, 1000, .inl tp))] ksz) := by
  refine met_g (l := l) (y := yX10_punch) (wsy := wsX10_punch) (av := [.ref m0, .long v, .int n]) (cells := [(m0, .inr (10, [.ref x0, .ref x1, .long hi, .long lo, .long mult, .int (nI nx), .int (nI tz), .int (nI ta), .ref x8, .int (nI xz), .ref x10, .int (bI fg), .int la, .ref x13, .ref x14, .int (nI mz), .int re, .int en, .int pv, .int (nI ts), .int (nI nw), .ref x21, .ref x22, .ref x23, .ref x24, .ref x25, .ref x26, .ref x27, .ref x28, .ref x29, .ref x30, .ref x31, .ref x32, .ref x33, .int (bI hr0), .ref x35, .int (bI hk), .ref x37, .ref x38, .long hi2, .long lo2, .long mult2, .int (nI nx2), .int (nI tz2), .int (nI ta2), .ref x45, .int (nI xz2), .ref x47, .int (bI fg2), .int la2, .ref x50])), (x8, .inl (cI, 1000, .inl tp))]) (sz := ksz) (QI D (fun (r : Int32) (u : (Nat → Int32) × Nat × Nat) => r = (aP n tz) ∧ u.1 = (if okP n tz then pnT v n.toNatClampNeg tp tz else tp) ∧ u.2.1 = (if okP n tz then tz + n.toNatClampNeg else tz) ∧ u.2.2 = (if okP n tz then 0 else ts)) (fun (u : (Nat → Int32) × Nat × Nat) => [(m0, .inr (10, [.ref x0, .ref x1, .long hi, .long lo, .long mult, .int (nI nx), .int (nI u.2.1), .int (nI ta), .ref x8, .int (nI xz), .ref x10, .int (bI fg), .int la, .ref x13, .ref x14, .int (nI mz), .int re, .int en, .int pv, .int (nI u.2.2), .int (nI nw), .ref x21, .ref x22, .ref x23, .ref x24, .ref x25, .ref x26, .ref x27, .ref x28, .ref x29, .ref x30, .ref x31, .ref x32, .ref x33, .int (bI hr0), .ref x35, .int (bI hk), .ref x37, .ref x38, .long hi2, .long lo2, .long mult2, .int (nI nx2), .int (nI tz2), .int (nI ta2), .ref x45, .int (nI xz2), .ref x47, .int (bI fg2), .int la2, .ref x50])), (x8, .inl (cI, 1000, .inl u.1))])) cX10_punch 5 (some .int) (by decide) rfl (Nat.le_of_ble_eq_true rfl) ?_
  intro p e s m below meth c A ls hx hb hr hts hown hlocks hml hin hA hP hK hD hE hS hl hsz
  clear hsz
  have hl : lv_has ls 5 [(0, .ref m0), (1, .long v), (3, .int n)] := hl
  have lp_35 : ∀ (n_35 : Nat) (mm : Nat) (q : Nat) (iv : Int32) (tp1 : Nat → Int32) (tz1 : Nat) (H : Heap) (locs : List Loc) (ls : Array Slot), (okP n tz) → (n.toNatClampNeg = mm) → ((q = 0 ∧ iv = -1) ∨ ∃ k : Nat, q = k + 1 ∧ iv = nI k) → (pnT v mm tp tz = pnT v q tp1 tz1) → (tz1 + q = tz + mm) → (tz + mm ≤ 1000) → (q) < n_35 → va_P D vwCl [(m0, .inr (10, [.ref x0, .ref x1, .long hi, .long lo, .long mult, .int (nI nx), .int (nI tz1), .int (nI ta), .ref x8, .int (nI xz), .ref x10, .int (bI fg), .int la, .ref x13, .ref x14, .int (nI mz), .int re, .int en, .int pv, .int (nI ts), .int (nI nw), .ref x21, .ref x22, .ref x23, .ref x24, .ref x25, .ref x26, .ref x27, .ref x28, .ref x29, .ref x30, .ref x31, .ref x32, .ref x33, .int (bI hr0), .ref x35, .int (bI hk), .ref x37, .ref x38, .long hi2, .long lo2, .long mult2, .int (nI nx2), .int (nI tz2), .int (nI ta2), .ref x45, .int (nI xz2), .ref x47, .int (bI fg2), .int la2, .ref x50])), (x8, .inl (cI, 1000, .inl tp1))] H → va_D A [(m0, .inr (10, [.ref x0, .ref x1, .long hi, .long lo, .long mult, .int (nI nx), .int (nI tz1), .int (nI ta), .ref x8, .int (nI xz), .ref x10, .int (bI fg), .int la, .ref x13, .ref x14, .int (nI mz), .int re, .int en, .int pv, .int (nI ts), .int (nI nw), .ref x21, .ref x22, .ref x23, .ref x24, .ref x25, .ref x26, .ref x27, .ref x28, .ref x29, .ref x30, .ref x31, .ref x32, .ref x33, .int (bI hr0), .ref x35, .int (bI hk), .ref x37, .ref x38, .long hi2, .long lo2, .long mult2, .int (nI nx2), .int (nI tz2), .int (nI ta2), .ref x45, .int (nI xz2), .ref x47, .int (bI fg2), .int la2, .ref x50])), (x8, .inl (cI, 1000, .inl tp1))] → va_S A s.heap H locs → lv_has ls 5 [(0, .ref m0), (1, .long v), (3, .int (nI mm)), (4, .int iv)] → W p l e { frames := 1, cells := 0, slots := 0, locals := 25 } s m ([.ref m0, .long v, .int n] : List Value).toArray below meth c H locs 0 0 (MQ below (QI D (fun (r : Int32) (u : (Nat → Int32) × Nat × Nat) => r = (aP n tz) ∧ u.1 = (if okP n tz then pnT v n.toNatClampNeg tp tz else tp) ∧ u.2.1 = (if okP n tz then tz + n.toNatClampNeg else tz) ∧ u.2.2 = (if okP n tz then 0 else ts)) (fun (u : (Nat → Int32) × Nat × Nat) => [(m0, .inr (10, [.ref x0, .ref x1, .long hi, .long lo, .long mult, .int (nI nx), .int (nI u.2.1), .int (nI ta), .ref x8, .int (nI xz), .ref x10, .int (bI fg), .int la, .ref x13, .ref x14, .int (nI mz), .int re, .int en, .int pv, .int (nI u.2.2), .int (nI nw), .ref x21, .ref x22, .ref x23, .ref x24, .ref x25, .ref x26, .ref x27, .ref x28, .ref x29, .ref x30, .ref x31, .ref x32, .ref x33, .int (bI hr0), .ref x35, .int (bI hk), .ref x37, .ref x38, .long hi2, .long lo2, .long mult2, .int (nI nx2), .int (nI tz2), .int (nI ta2), .ref x45, .int (nI xz2), .ref x47, .int (bI fg2), .int la2, .ref x50])), (x8, .inl (cI, 1000, .inl u.1))]) A) ([.ref m0, .long v, .int n] : List Value).toArray s 0 0 A) (F0 m 35 ls []) := by
    intro n_35
    induction n_35 with
    | zero => intro mm q iv tp1 tz1 H locs ls hok ecl hq hT hs1 hs2 hm_35; exact absurd hm_35 (Nat.not_lt_zero _)
    | succ n_35 ih_35 =>
      intro mm q iv tp1 tz1 H locs ls hok ecl hq hT hs1 hs2 hm_35 hP hD hS hl
      rcases hq with ⟨rfl, rfl⟩ | ⟨k, rfl, rfl⟩
      · skip
        refine lv_iload hx hb dX10_punch_35 (lv_at hl 3 rfl) ?_
        refine lv_if_lt (tgt := 76) hx hb dX10_punch_37 (by decide) (fun _ => ?_) (fun c_37 => absurd (by decide) c_37)
        refine lv_aload_n hx hb dX10_punch_76 rfl (lv_at hl 0 rfl) ?_
        refine lv_iconst (v := 0) hx hb dX10_punch_77 (by decide) ?_
        refine va_put (D := D) (ci := 10) (v := .int 0) (ty := .int) (C := RX10) (T := TX10) (N := 51) hx hb hts (by decide +kernel) tyX10 tyX10_ok nmX10 hown hK hP hD hS 0 rfl rfl 19 (by decide) (hts (.fieldLink RX10 112 "TapeEngineModel" "kept" "I") (by decide +kernel)) (fun _ h9 => h9) rfl (by decide +kernel) rfl rfl (Nat.le_of_ble_eq_true rfl) dX10_punch_78 (fun H locs hP hD hS => ?_)
        have hP : va_P D vwCl [(m0, .inr (10, [.ref x0, .ref x1, .long hi, .long lo, .long mult, .int (nI nx), .int (nI tz1), .int (nI ta), .ref x8, .int (nI xz), .ref x10, .int (bI fg), .int la, .ref x13, .ref x14, .int (nI mz), .int re, .int en, .int pv, .int 0, .int (nI nw), .ref x21, .ref x22, .ref x23, .ref x24, .ref x25, .ref x26, .ref x27, .ref x28, .ref x29, .ref x30, .ref x31, .ref x32, .ref x33, .int (bI hr0), .ref x35, .int (bI hk), .ref x37, .ref x38, .long hi2, .long lo2, .long mult2, .int (nI nx2), .int (nI tz2), .int (nI ta2), .ref x45, .int (nI xz2), .ref x47, .int (bI fg2), .int la2, .ref x50])), (x8, .inl (cI, 1000, .inl tp1))] H := hP
        have hD : va_D A [(m0, .inr (10, [.ref x0, .ref x1, .long hi, .long lo, .long mult, .int (nI nx), .int (nI tz1), .int (nI ta), .ref x8, .int (nI xz), .ref x10, .int (bI fg), .int la, .ref x13, .ref x14, .int (nI mz), .int re, .int en, .int pv, .int 0, .int (nI nw), .ref x21, .ref x22, .ref x23, .ref x24, .ref x25, .ref x26, .ref x27, .ref x28, .ref x29, .ref x30, .ref x31, .ref x32, .ref x33, .int (bI hr0), .ref x35, .int (bI hk), .ref x37, .ref x38, .long hi2, .long lo2, .long mult2, .int (nI nx2), .int (nI tz2), .int (nI ta2), .ref x45, .int (nI xz2), .ref x47, .int (bI fg2), .int la2, .ref x50])), (x8, .inl (cI, 1000, .inl tp1))] := hD
        refine lv_aload_n hx hb dX10_punch_81 rfl (lv_at hl 0 rfl) ?_
        refine va_get (D := D) (ci := 10) (v := .int (nI tz1)) (C := RX10) (T := TX10) (N := 51) hx hb hts (by decide +kernel) hown hK hP 0 rfl rfl 6 (by decide) (hts (.fieldLink RX10 153 "TapeEngineModel" "tapeSize" "I") (by decide +kernel)) (fun _ h9 => h9) rfl dX10_punch_82 ?_
        exact ret_i hx hb hr hlocks (tp1, tz1, 0) ⟨(by first | exact hres | (rw [← aP_1 hok, ecl]; exact congrArg nI (by omega))), (by first | exact (if_neg hno).symm | (rw [if_pos hok, ecl, hT]; rfl)), (by first | exact (if_neg hno).symm | (rw [if_pos hok, ecl]; omega)), (by first | exact (if_neg hno).symm | exact (if_pos hok).symm)⟩ (hP.sub [0, 1] rfl) (hD.sub [0, 1] (by decide) rfl) hS dX10_punch_85
      · skip
        refine lv_iload hx hb dX10_punch_35 (lv_at hl 3 rfl) ?_
        refine lv_if_lt (tgt := 76) hx hb dX10_punch_37 (by decide) (fun c_37 => ?_) (fun c_37 => ?_)
        · skip
          have c_37 : k < 0 := (nI_ltI (a := k) (b := 0) (by omega) (by omega)).mp c_37
          exact absurd c_37 (Nat.not_lt_zero _)
        · skip
          have c_37 : ¬ k < 0 := fun z => c_37 ((nI_ltI (a := k) (b := 0) (by omega) (by omega)).mpr z)
          refine lv_aload_n hx hb dX10_punch_40 rfl (lv_at hl 0 rfl) ?_
          refine va_get (D := D) (ci := 10) (v := .ref x8) (C := RX10) (T := TX10) (N := 51) hx hb hts (by decide +kernel) hown hK hP 0 rfl rfl 8 (by decide) (hts (.fieldLink RX10 16 "TapeEngineModel" "tape" "[I") (by decide +kernel)) (fun _ h9 => h9) rfl dX10_punch_41 ?_
          refine lv_aload_n hx hb dX10_punch_44 rfl (lv_at hl 0 rfl) ?_
          refine va_get (D := D) (ci := 10) (v := .int (nI tz1)) (C := RX10) (T := TX10) (N := 51) hx hb hts (by decide +kernel) hown hK hP 0 rfl rfl 6 (by decide) (hts (.fieldLink RX10 153 "TapeEngineModel" "tapeSize" "I") (by decide +kernel)) (fun _ h9 => h9) rfl dX10_punch_45 ?_
          refine lv_lload_n hx hb dX10_punch_48 rfl (lv_at hl 1 rfl) ?_
          refine lv_iconst (v := (nI 5)) hx hb dX10_punch_49 (by decide) ?_
          refine lv_iload hx hb dX10_punch_50 (lv_at hl 3 rfl) ?_
          refine lv_imul hx hb dX10_punch_52 ?_
          refine set_i (y := nI (5 * k)) (pk_mul 5 k) ?_
          refine lv_lshr hx hb dX10_punch_53 rfl ?_
          refine lv_ldc2 hx hb hown (hts (.constantLong RX10 131 (31)) (by decide +kernel)) dX10_punch_54 ?_
          refine lv_land hx hb dX10_punch_57 ?_
          refine lv_l2i hx hb dX10_punch_58 rfl ?_
          refine set_i (y := symv v k) (l2i_5 _) ?_
          refine xs_iast (k := tz1) hx hb hK hP hD hS 1 1 rfl rfl (by first | assumption | omega) (by decide) dX10_punch_59 (fun H locs hP hD hS => ?_)
          have hP : va_P D vwCl [(m0, .inr (10, [.ref x0, .ref x1, .long hi, .long lo, .long mult, .int (nI nx), .int (nI tz1), .int (nI ta), .ref x8, .int (nI xz), .ref x10, .int (bI fg), .int la, .ref x13, .ref x14, .int (nI mz), .int re, .int en, .int pv, .int (nI ts), .int (nI nw), .ref x21, .ref x22, .ref x23, .ref x24, .ref x25, .ref x26, .ref x27, .ref x28, .ref x29, .ref x30, .ref x31, .ref x32, .ref x33, .int (bI hr0), .ref x35, .int (bI hk), .ref x37, .ref x38, .long hi2, .long lo2, .long mult2, .int (nI nx2), .int (nI tz2), .int (nI ta2), .ref x45, .int (nI xz2), .ref x47, .int (bI fg2), .int la2, .ref x50])), (x8, .inl (cI, 1000, .inl (upd tp1 tz1 (symv v k))))] H := hP
          have hD : va_D A [(m0, .inr (10, [.ref x0, .ref x1, .long hi, .long lo, .long mult, .int (nI nx), .int (nI tz1), .int (nI ta), .ref x8, .int (nI xz), .ref x10, .int (bI fg), .int la, .ref x13, .ref x14, .int (nI mz), .int re, .int en, .int pv, .int (nI ts), .int (nI nw), .ref x21, .ref x22, .ref x23, .ref x24, .ref x25, .ref x26, .ref x27, .ref x28, .ref x29, .ref x30, .ref x31, .ref x32, .ref x33, .int (bI hr0), .ref x35, .int (bI hk), .ref x37, .ref x38, .long hi2, .long lo2, .long mult2, .int (nI nx2), .int (nI tz2), .int (nI ta2), .ref x45, .int (nI xz2), .ref x47, .int (bI fg2), .int la2, .ref x50])), (x8, .inl (cI, 1000, .inl (upd tp1 tz1 (symv v k))))] := hD
          refine lv_aload_n hx hb dX10_punch_60 rfl (lv_at hl 0 rfl) ?_
          refine lv_dup hx hb dX10_punch_61 rfl ?_
          refine va_get (D := D) (ci := 10) (v := .int (nI tz1)) (C := RX10) (T := TX10) (N := 51) hx hb hts (by decide +kernel) hown hK hP 0 rfl rfl 6 (by decide) (hts (.fieldLink RX10 153 "TapeEngineModel" "tapeSize" "I") (by decide +kernel)) (fun _ h9 => h9) rfl dX10_punch_62 ?_
          refine lv_iconst (v := 1) hx hb dX10_punch_65 (by decide) ?_
          refine lv_iadd hx hb dX10_punch_66 ?_
          refine set_i (y := nI (tz1 + 1)) (nI_1 tz1) ?_
          refine va_put (D := D) (ci := 10) (v := .int (nI (tz1 + 1))) (ty := .int) (C := RX10) (T := TX10) (N := 51) hx hb hts (by decide +kernel) tyX10 tyX10_ok nmX10 hown hK hP hD hS 0 rfl rfl 6 (by decide) (hts (.fieldLink RX10 153 "TapeEngineModel" "tapeSize" "I") (by decide +kernel)) (fun _ h9 => h9) rfl (by decide +kernel) rfl rfl (Nat.le_of_ble_eq_true rfl) dX10_punch_67 (fun H locs hP hD hS => ?_)
          have hP : va_P D vwCl [(m0, .inr (10, [.ref x0, .ref x1, .long hi, .long lo, .long mult, .int (nI nx), .int (nI (tz1 + 1)), .int (nI ta), .ref x8, .int (nI xz), .ref x10, .int (bI fg), .int la, .ref x13, .ref x14, .int (nI mz), .int re, .int en, .int pv, .int (nI ts), .int (nI nw), .ref x21, .ref x22, .ref x23, .ref x24, .ref x25, .ref x26, .ref x27, .ref x28, .ref x29, .ref x30, .ref x31, .ref x32, .ref x33, .int (bI hr0), .ref x35, .int (bI hk), .ref x37, .ref x38, .long hi2, .long lo2, .long mult2, .int (nI nx2), .int (nI tz2), .int (nI ta2), .ref x45, .int (nI xz2), .ref x47, .int (bI fg2), .int la2, .ref x50])), (x8, .inl (cI, 1000, .inl (upd tp1 tz1 (symv v k))))] H := hP
          have hD : va_D A [(m0, .inr (10, [.ref x0, .ref x1, .long hi, .long lo, .long mult, .int (nI nx), .int (nI (tz1 + 1)), .int (nI ta), .ref x8, .int (nI xz), .ref x10, .int (bI fg), .int la, .ref x13, .ref x14, .int (nI mz), .int re, .int en, .int pv, .int (nI ts), .int (nI nw), .ref x21, .ref x22, .ref x23, .ref x24, .ref x25, .ref x26, .ref x27, .ref x28, .ref x29, .ref x30, .ref x31, .ref x32, .ref x33, .int (bI hr0), .ref x35, .int (bI hk), .ref x37, .ref x38, .long hi2, .long lo2, .long mult2, .int (nI nx2), .int (nI tz2), .int (nI ta2), .ref x45, .int (nI xz2), .ref x47, .int (bI fg2), .int la2, .ref x50])), (x8, .inl (cI, 1000, .inl (upd tp1 tz1 (symv v k))))] := hD
          refine lv_iinc (v := ((nI k) + (-1))) (lv' := [(4, .int ((nI k) + (-1))), (0, .ref m0), (1, .long v), (3, .int (nI mm))]) hx hb dX10_punch_70 hl (k := 3) rfl rfl (by decide) rfl (fun ls hl => ?_)
          refine lv_goto (tgt := 35) hx hb dX10_punch_73 (by decide) ?_
          exact ih_35 mm k ((nI k) + (-1)) (upd tp1 tz1 (symv v k)) (tz1 + 1) _ _ _ hok ecl (iv_step k) (hT.trans rfl) (by first | assumption | omega) (by first | assumption | omega) (by omega) (hP.sub [0, 1] rfl) (hD.sub [0, 1] (by decide) rfl) hS (lv_sub hl [1, 2, 3, 0] rfl)
  refine lv_iload_n hx hb dX10_punch_0 rfl (lv_at hl 2 rfl) ?_
  refine lv_i2l hx hb dX10_punch_1 rfl ?_
  refine lv_lconst (v := 1) hx hb dX10_punch_2 (by decide) ?_
  refine lv_ldc2 hx hb hown (hts (.constantLong RX10 151 (12)) (by decide +kernel)) dX10_punch_3 ?_
  refine pS_i (As := [.long n.toInt64, .long 1, .long 12]) (rest := []) ⟨hx, hb, hml, hown, hts⟩ (kX10_in l Z n.toInt64 1 12 ) (va_cwS 3 hts gX10_punch_X10_in rfl rfl rfl (by decide +kernel) ⟨Nat.le_of_ble_eq_true rfl, Nat.le_of_ble_eq_true rfl⟩) hK hE hP hD hS hA hl.1 rfl rfl (Nat.le_of_ble_eq_true rfl) dX10_punch_6 ⟨Nat.le_of_ble_eq_true rfl, Nat.le_of_ble_eq_true rfl⟩ (fun H locs hP hS => ?_)
  refine set_i (y := bI (decide (¬ n < 1 ∧ n ≤ 12))) (congrArg bI (in_12 _)) ?_
  refine lv_if_ne (tgt := 15) hx hb dX10_punch_9 (by decide) (fun c_9 => ?_) (fun c_9 => ?_)
  · skip
    have c_9 := bI_t c_9
    have c_9 := of_decide_eq_true c_9
    have hr1 : ¬ n < 1 ∧ n ≤ 12 := c_9
    obtain ⟨mm, hm9, hm1, rfl⟩ := n1_of hr1.1
    have hm12 : mm ≤ 12 := nI_leL (k := 12) (by omega) (by decide) hr1.2
    have ecl : (nI mm).toNatClampNeg = mm := nI_clamp (by omega)
    refine lv_aload_n hx hb dX10_punch_15 rfl (lv_at hl 0 rfl) ?_
    refine va_get (D := D) (ci := 10) (v := .int (nI tz)) (C := RX10) (T := TX10) (N := 51) hx hb hts (by decide +kernel) hown hK hP 0 rfl rfl 6 (by decide) (hts (.fieldLink RX10 153 "TapeEngineModel" "tapeSize" "I") (by decide +kernel)) (fun _ h9 => h9) rfl dX10_punch_16 ?_
    refine lv_iload_n hx hb dX10_punch_19 rfl (lv_at hl 2 rfl) ?_
    refine lv_iadd hx hb dX10_punch_20 ?_
    refine set_i (y := nI (tz + mm)) (nI_add _ _) ?_
    refine lv_sipush (v := (nI 1000)) hx hb dX10_punch_21 (by decide) ?_
    refine lv_icmp_le (tgt := 30) hx hb dX10_punch_24 (by decide) (fun c_24 => ?_) (fun c_24 => ?_)
    · skip
      have c_24 : (tz + mm) ≤ 1000 := (nI_leI (a := (tz + mm)) (b := 1000) (by omega) (by omega)).mp c_24
      have hok : okP (nI mm) tz := ⟨hr1.1, hr1.2, by rw [ecl]; omega⟩
      refine lv_iload_n hx hb dX10_punch_30 rfl (lv_at hl 2 rfl) ?_
      refine lv_iconst (v := (nI 1)) hx hb dX10_punch_31 (by decide) ?_
      refine lv_isub hx hb dX10_punch_32 ?_
      refine set_i (y := nI (mm - 1)) (pk_sub (b := 1) (by omega)) ?_
      refine lv_istore (lv' := [(4, .int (nI (mm - 1))), (0, .ref m0), (1, .long v), (3, .int (nI mm))]) hx hb dX10_punch_33 hl (by decide) rfl (fun ls hl => ?_)
      exact lp_35 _ mm mm (nI (mm - 1)) tp tz _ _ _ hok ecl (Or.inr ⟨mm - 1, by omega, rfl⟩) rfl (by first | assumption | omega) (by first | assumption | omega) (Nat.lt_succ_self _) (hP.sub [0, 1] rfl) (hD.sub [0, 1] (by decide) rfl) hS (lv_sub hl [1, 2, 3, 0] rfl)
    · skip
      have c_24 : ¬ (tz + mm) ≤ 1000 := fun z => c_24 ((nI_leI (a := (tz + mm)) (b := 1000) (by omega) (by omega)).mpr z)
      have hno : ¬ okP (nI mm) tz := fun z => by have := z.2.2; rw [ecl] at this; omega
      have hres : -5 = aP (nI mm) tz := aP_5 hr1 (by rw [ecl]; omega)
      refine lv_bipush (v := (-5)) hx hb dX10_punch_27 (by decide) ?_
      exact ret_i hx hb hr hlocks (tp, tz, ts) ⟨(by first | exact hres | (rw [← aP_1 hok, ecl]; exact congrArg nI (by omega))), (by first | exact (if_neg hno).symm | (rw [if_pos hok, ecl, hT]; rfl)), (by first | exact (if_neg hno).symm | (rw [if_pos hok, ecl]; omega)), (by first | exact (if_neg hno).symm | exact (if_pos hok).symm)⟩ (hP.sub [0, 1] rfl) (hD.sub [0, 1] (by decide) rfl) hS dX10_punch_29
  · skip
    have c_9 := bI_f c_9
    have c_9 := of_decide_eq_false c_9
    have hno : ¬ okP n tz := fun z => by first | exact c_9 ⟨z.1, z.2.1⟩
    have hres : -3 = aP n tz := by first | exact aP_3 c_9
    refine lv_bipush (v := (-3)) hx hb dX10_punch_12 (by decide) ?_
    exact ret_i hx hb hr hlocks (tp, tz, ts) ⟨(by first | exact hres | (rw [← aP_1 hok, ecl]; exact congrArg nI (by omega))), (by first | exact (if_neg hno).symm | (rw [if_pos hok, ecl, hT]; rfl)), (by first | exact (if_neg hno).symm | (rw [if_pos hok, ecl]; omega)), (by first | exact (if_neg hno).symm | exact (if_pos hok).symm)⟩ (hP.sub [0, 1] rfl) (hD.sub [0, 1] (by decide) rfl) hS dX10_punch_14

set_option maxHeartbeats 4000000 in
set_option maxRecDepth 100000 in
theorem kX10_mark (l : Launch) (D : va_G) (Z : SZ) (cB cI cJ cZ : ClassId) (ksz : Nat) (m0 : Nat) (x0 : Nat) (x1 : Nat) (x8 : Nat) (x10 : Nat) (x13 : Nat) (x14 : Nat) (x21 : Nat) (x22 : Nat) (x23 : Nat) (x24 : Nat) (x25 : Nat) (x26 : Nat) (x27 : Nat) (x28 : Nat) (x29 : Nat) (x30 : Nat) (x31 : Nat) (x32 : Nat) (x33 : Nat) (x35 : Nat) (x37 : Nat) (x38 : Nat) (x45 : Nat) (x47 : Nat) (x50 : Nat) (hi : Int64) (lo : Int64) (mult : Int64) (nx : Nat) (tz : Nat) (ta : Nat) (xz : Nat) (fg : Bool) (la : Int32) (mz : Nat) (re : Int32) (en : Int32) (pv : Int32) (ts : Nat) (nw : Nat) (hr0 : Bool) (hk : Bool) (hi2 : Int64) (lo2 : Int64) (mult2 : Int64) (nx2 : Nat) (tz2 : Nat) (ta2 : Nat) (xz2 : Nat) (fg2 : Bool) (la2 : Int32) (im : Nat → Int32) (n : Int32) (on : Bool) (hm : RB im) (hz : mz ≤ 8) (hpz : ∀ j : Nat, j < 256 → tB (im j) = true → 0 < mz) : Met l yX10_mark wsX10_mark { frames := 2, cells := 0, slots := 0, locals := 45 } (PR D Z [(cB, .byte), (cI, .int), (cJ, .long), (cZ, .boolean)] [.ref m0, .int n, .int (bI on)] [(m0, .inr (10, [.ref x0, .ref x1, .long hi, .long lo, .long mult, .int (nI nx), .int (nI tz), .int (nI ta), .ref x8, .int (nI xz), .ref x10, .int (bI fg), .int la, .ref x13, .ref x14, .int (nI mz), .int re, .int en, .int pv, .int (nI ts), .int (nI nw), .ref x21, .ref x22, .ref x23, .ref x24, .ref x25, .ref x26, .ref x27, .ref x28, .ref x29, .ref x30, .ref x31, .ref x32, .ref x33, .int (bI hr0), .ref x35, .int (bI hk), .ref x37, .ref x38, .long hi2, .long lo2, .long mult2, .int (nI nx2), .int (nI tz2), .int (nI ta2), .ref x45, .int (nI xz2), .ref x47, .int (bI fg2), .int la2, .ref x50])), (x14, .inl (cZ, 256, .inl im))] ksz) (QI D (fun (r : Int32) (u : (Nat → Int32) × Nat) => r = (aM n on im mz) ∧ u.1 = (if okM n on im mz then upd im n.toNatClampNeg (bI on) else im) ∧ u.2 = (if okM n on im mz then mkM n on im mz else mz)) (fun (u : (Nat → Int32) × Nat) => [(m0, .inr (10, [.ref x0, .ref x1, .long hi, .long lo, .long mult, .int (nI nx), .int (nI tz), .int (nI ta), .ref x8, .int (nI xz), .ref x10, .int (bI fg), .int la, .ref x13, .ref x14, .int (nI u.2), .int re, .int en, .int pv, .int (nI ts), .int (nI nw), .ref x21, .ref x22, .ref x23, .ref x24, .ref x25, .ref x26, .ref x27, .ref x28, .ref x29, .ref x30, .ref x31, .ref x32, .ref x33, .int (bI hr0), .ref x35, .int (bI hk), .ref x37, .ref x38, .long hi2, .long lo2, .long mult2, .int (nI nx2), .int (nI tz2), .int (nI ta2), .ref x45, .int (nI xz2), .ref x47, .int (bI fg2), .int la2, .ref x50])), (x14, .inl (cZ, 256, .inl u.1))]) (va_A [(m0, .inr (10, [.ref x0, .ref x1, .long hi, .long lo, .long mult, .int (nI nx), .int (nI tz), .int (nI ta), .ref x8, .int (nI xz), .ref x10, .int (bI fg), .int la, .ref x13, .ref x14, .int (nI mz), .int re, .int en, .int pv, .int (nI ts), .int (nI nw), .ref x21, .ref x22, .ref x23, .ref x24, .ref x25, .ref x26, .ref x27, .ref x28, .ref x29, .ref x30, .ref x31, .ref x32, .ref x33, .int (bI hr0), .ref x35, .int (bI hk), .ref x37, .ref x38, .long hi2, .long lo2, .long mult2, .int (nI nx2), .int (nI tz2), .int (nI ta2), .ref x45, .int (nI xz2), .ref x47, .int (bI fg2), .int la2, .ref x50])), (x14, .inl (cZ, 256, .inl im))] ksz)) 0 0 (va_A [(m0, .inr (10, [.ref x0, .ref x1, .long hi, .long lo, .long mult, .int (nI nx), .int (nI tz), .int (nI ta), .ref x8, .int (nI xz), .ref x10, .int (bI fg), .int la, .ref x13, .ref x14, .int (nI mz), .int re, .int en, .int pv, .int (nI ts), .int (nI nw), .ref x21, .ref x22, .ref x23, .ref x24, .ref x25, .ref x26, .ref x27, .ref x28, .ref x29, .ref x30, .ref x31, .ref x32, .ref x33, .int (bI hr0), .ref x35, .int (bI hk), .ref x37, .ref x38, .long hi2, .long lo2, .long mult2, .int (nI nx2), .int (nI tz2), .int (nI ta2), .ref x45, .int (nI xz2), .ref x47, .int (bI fg2), .int la2, .ref x50])), (x14, .inl (cZ, 256, .inl im))] ksz) := by
  refine met_g (l := l) (y := yX10_mark) (wsy := wsX10_mark) (av := [.ref m0, .int n, .int (bI on)]) (cells := [(m0, .inr (10, [.ref x0, .ref x1, .long hi, .long lo, .long mult, .int (nI nx), .int (nI tz), .int (nI ta), .ref x8, .int (nI xz), .ref x10, .int (bI fg), .int la, .ref x13, .ref x14, .int (nI mz), .int re, .int en, .int pv, .int (nI ts), .int (nI nw), .ref x21, .ref x22, .ref x23, .ref x24, .ref x25, .ref x26, .ref x27, .ref x28, .ref x29, .ref x30, .ref x31, .ref x32, .ref x33, .int (bI hr0), .ref x35, .int (bI hk), .ref x37, .ref x38, .long hi2, .long lo2, .long mult2, .int (nI nx2), .int (nI tz2), .int (nI ta2), .ref x45, .int (nI xz2), .ref x47, .int (bI fg2), .int la2, .ref x50])), (x14, .inl (cZ, 256, .inl im))]) (sz := ksz) (QI D (fun (r : Int32) (u : (Nat → Int32) × Nat) => r = (aM n on im mz) ∧ u.1 = (if okM n on im mz then upd im n.toNatClampNeg (bI on) else im) ∧ u.2 = (if okM n on im mz then mkM n on im mz else mz)) (fun (u : (Nat → Int32) × Nat) => [(m0, .inr (10, [.ref x0, .ref x1, .long hi, .long lo, .long mult, .int (nI nx), .int (nI tz), .int (nI ta), .ref x8, .int (nI xz), .ref x10, .int (bI fg), .int la, .ref x13, .ref x14, .int (nI u.2), .int re, .int en, .int pv, .int (nI ts), .int (nI nw), .ref x21, .ref x22, .ref x23, .ref x24, .ref x25, .ref x26, .ref x27, .ref x28, .ref x29, .ref x30, .ref x31, .ref x32, .ref x33, .int (bI hr0), .ref x35, .int (bI hk), .ref x37, .ref x38, .long hi2, .long lo2, .long mult2, .int (nI nx2), .int (nI tz2), .int (nI ta2), .ref x45, .int (nI xz2), .ref x47, .int (bI fg2), .int la2, .ref x50])), (x14, .inl (cZ, 256, .inl u.1))])) cX10_mark 4 (some .int) (by decide) rfl (Nat.le_of_ble_eq_true rfl) ?_
  intro p e s m below meth c A ls hx hb hr hts hown hlocks hml hin hA hP hK hD hE hS hl hsz
  clear hsz
  have hl : lv_has ls 4 [(0, .ref m0), (1, .int n), (2, .int (bI on))] := hl
  refine lv_iload_n hx hb dX10_mark_0 rfl (lv_at hl 1 rfl) ?_
  refine pS_i (As := [.int n]) (rest := []) ⟨hx, hb, hml, hown, hts⟩ (kX10_isAddress l Z n ) (va_cwS 1 hts gX10_mark_X10_isAddress rfl rfl rfl (by decide +kernel) ⟨Nat.le_of_ble_eq_true rfl, Nat.le_of_ble_eq_true rfl⟩) hK hE hP hD hS hA hl.1 rfl rfl (Nat.le_of_ble_eq_true rfl) dX10_mark_1 ⟨Nat.le_of_ble_eq_true rfl, Nat.le_of_ble_eq_true rfl⟩ (fun H locs hP hS => ?_)
  refine lv_if_ne (tgt := 10) hx hb dX10_mark_4 (by decide) (fun c_4 => ?_) (fun c_4 => ?_)
  · skip
    have c_4 := bI_t c_4
    obtain ⟨j, hj9, rfl⟩ := ad_of c_4
    refine lv_aload_n hx hb dX10_mark_10 rfl (lv_at hl 0 rfl) ?_
    refine va_get (D := D) (ci := 10) (v := .ref x14) (C := RX10) (T := TX10) (N := 51) hx hb hts (by decide +kernel) hown hK hP 0 rfl rfl 14 (by decide) (hts (.fieldLink RX10 29 "TapeEngineModel" "isMark" "[Z") (by decide +kernel)) (fun _ h9 => h9) rfl dX10_mark_11 ?_
    refine lv_iload_n hx hb dX10_mark_14 rfl (lv_at hl 1 rfl) ?_
    refine xs_zald (k := j) hx hb hK hP 1 3 rfl rfl (by first | assumption | omega) (by decide) dX10_mark_15 ?_
    refine set_i (y := bI (tB (im j))) (hm j) ?_
    refine lv_istore_n (lv' := [(3, .int (bI (tB (im j)))), (0, .ref m0), (1, .int (nI j)), (2, .int (bI on))]) hx hb dX10_mark_16 rfl hl (by decide) rfl (fun ls hl => ?_)
    refine lv_iload_n hx hb dX10_mark_17 rfl (lv_at hl 3 rfl) ?_
    refine lv_if_eq (tgt := 37) hx hb dX10_mark_18 (by decide) (fun c_18 => ?_) (fun c_18 => ?_)
    · skip
      have c_18 := bI_f c_18
      have hok : okM (nI j) on im mz := by first | exact okM_a (ad_nI hj9) c_18 | exact okM_b (ad_nI hj9) ((congrArg (fun x => tB (im x)) (ad_clamp hj9)).trans c_22) | exact okM_c (ad_nI hj9) (by omega)
      refine lv_aload_n hx hb dX10_mark_37 rfl (lv_at hl 1 rfl) ?_
      refine lv_dup hx hb dX10_mark_38 rfl ?_
      refine va_get (D := D) (ci := 10) (v := .int (nI mz)) (C := RX10) (T := TX10) (N := 51) hx hb hts (by decide +kernel) hown hK hP 0 rfl rfl 15 (by decide) (hts (.fieldLink RX10 232 "TapeEngineModel" "marks" "I") (by decide +kernel)) (fun _ h9 => h9) rfl dX10_mark_39 ?_
      refine lv_iload_n hx hb dX10_mark_42 rfl (lv_at hl 3 rfl) ?_
      refine lv_iload_n hx hb dX10_mark_43 rfl (lv_at hl 0 rfl) ?_
      refine lv_icmp_ne (tgt := 51) hx hb dX10_mark_44 (by decide) (fun c_44 => ?_) (fun c_44 => ?_)
      · skip
        have c_44 := fun z => c_44 (congrArg bI z)
        refine lv_iload_n hx hb dX10_mark_51 rfl (lv_at hl 3 rfl) ?_
        refine lv_if_eq (tgt := 59) hx hb dX10_mark_52 (by decide) (fun c_52 => ?_) (fun c_52 => ?_)
        · skip
          have c_52 := bI_f c_52
          refine lv_iconst (v := (-1)) hx hb dX10_mark_59 (by decide) ?_
          refine lv_iadd hx hb dX10_mark_60 ?_
          refine set_i (y := nI (mz - 1)) (sb_m1 (hpz j hj9 (tB_other c_44 c_52))) ?_
          refine va_put (D := D) (ci := 10) (v := .int (nI (mz - 1))) (ty := .int) (C := RX10) (T := TX10) (N := 51) hx hb hts (by decide +kernel) tyX10 tyX10_ok nmX10 hown hK hP hD hS 0 rfl rfl 15 (by decide) (hts (.fieldLink RX10 232 "TapeEngineModel" "marks" "I") (by decide +kernel)) (fun _ h9 => h9) rfl (by decide +kernel) rfl rfl (Nat.le_of_ble_eq_true rfl) dX10_mark_61 (fun H locs hP hD hS => ?_)
          have hP : va_P D vwCl [(m0, .inr (10, [.ref x0, .ref x1, .long hi, .long lo, .long mult, .int (nI nx), .int (nI tz), .int (nI ta), .ref x8, .int (nI xz), .ref x10, .int (bI fg), .int la, .ref x13, .ref x14, .int (nI (mz - 1)), .int re, .int en, .int pv, .int (nI ts), .int (nI nw), .ref x21, .ref x22, .ref x23, .ref x24, .ref x25, .ref x26, .ref x27, .ref x28, .ref x29, .ref x30, .ref x31, .ref x32, .ref x33, .int (bI hr0), .ref x35, .int (bI hk), .ref x37, .ref x38, .long hi2, .long lo2, .long mult2, .int (nI nx2), .int (nI tz2), .int (nI ta2), .ref x45, .int (nI xz2), .ref x47, .int (bI fg2), .int la2, .ref x50])), (x14, .inl (cZ, 256, .inl im))] H := hP
          have hD : va_D A [(m0, .inr (10, [.ref x0, .ref x1, .long hi, .long lo, .long mult, .int (nI nx), .int (nI tz), .int (nI ta), .ref x8, .int (nI xz), .ref x10, .int (bI fg), .int la, .ref x13, .ref x14, .int (nI (mz - 1)), .int re, .int en, .int pv, .int (nI ts), .int (nI nw), .ref x21, .ref x22, .ref x23, .ref x24, .ref x25, .ref x26, .ref x27, .ref x28, .ref x29, .ref x30, .ref x31, .ref x32, .ref x33, .int (bI hr0), .ref x35, .int (bI hk), .ref x37, .ref x38, .long hi2, .long lo2, .long mult2, .int (nI nx2), .int (nI tz2), .int (nI ta2), .ref x45, .int (nI xz2), .ref x47, .int (bI fg2), .int la2, .ref x50])), (x14, .inl (cZ, 256, .inl im))] := hD
          refine lv_aload_n hx hb dX10_mark_64 rfl (lv_at hl 1 rfl) ?_
          refine va_get (D := D) (ci := 10) (v := .ref x14) (C := RX10) (T := TX10) (N := 51) hx hb hts (by decide +kernel) hown hK hP 0 rfl rfl 14 (by decide) (hts (.fieldLink RX10 29 "TapeEngineModel" "isMark" "[Z") (by decide +kernel)) (fun _ h9 => h9) rfl dX10_mark_65 ?_
          refine lv_iload_n hx hb dX10_mark_68 rfl (lv_at hl 2 rfl) ?_
          refine lv_iload_n hx hb dX10_mark_69 rfl (lv_at hl 3 rfl) ?_
          refine xs_zast (k := j) hx hb hK hP hD hS 1 3 rfl rfl (by first | assumption | omega) (by decide) (bI_vn _) dX10_mark_70 (fun H locs hP hD hS => ?_)
          have hP : va_P D vwCl [(m0, .inr (10, [.ref x0, .ref x1, .long hi, .long lo, .long mult, .int (nI nx), .int (nI tz), .int (nI ta), .ref x8, .int (nI xz), .ref x10, .int (bI fg), .int la, .ref x13, .ref x14, .int (nI (mz - 1)), .int re, .int en, .int pv, .int (nI ts), .int (nI nw), .ref x21, .ref x22, .ref x23, .ref x24, .ref x25, .ref x26, .ref x27, .ref x28, .ref x29, .ref x30, .ref x31, .ref x32, .ref x33, .int (bI hr0), .ref x35, .int (bI hk), .ref x37, .ref x38, .long hi2, .long lo2, .long mult2, .int (nI nx2), .int (nI tz2), .int (nI ta2), .ref x45, .int (nI xz2), .ref x47, .int (bI fg2), .int la2, .ref x50])), (x14, .inl (cZ, 256, .inl (upd im j (bI on))))] H := hP
          have hD : va_D A [(m0, .inr (10, [.ref x0, .ref x1, .long hi, .long lo, .long mult, .int (nI nx), .int (nI tz), .int (nI ta), .ref x8, .int (nI xz), .ref x10, .int (bI fg), .int la, .ref x13, .ref x14, .int (nI (mz - 1)), .int re, .int en, .int pv, .int (nI ts), .int (nI nw), .ref x21, .ref x22, .ref x23, .ref x24, .ref x25, .ref x26, .ref x27, .ref x28, .ref x29, .ref x30, .ref x31, .ref x32, .ref x33, .int (bI hr0), .ref x35, .int (bI hk), .ref x37, .ref x38, .long hi2, .long lo2, .long mult2, .int (nI nx2), .int (nI tz2), .int (nI ta2), .ref x45, .int (nI xz2), .ref x47, .int (bI fg2), .int la2, .ref x50])), (x14, .inl (cZ, 256, .inl (upd im j (bI on))))] := hD
          refine lv_iload_n hx hb dX10_mark_71 rfl (lv_at hl 0 rfl) ?_
          refine lv_if_eq (tgt := 79) hx hb dX10_mark_72 (by decide) (fun c_72 => ?_) (fun c_72 => ?_)
          · skip
            have c_72 := bI_f c_72
            refine lv_iconst (v := 0) hx hb dX10_mark_79 (by decide) ?_
            exact ret_i hx hb hr hlocks ((upd im j (bI on)), (mz - 1)) ⟨(by first | exact hres | (rw [← aM_1 hok, ad_clamp hj9, c_72]; rfl)), (by first | exact (if_neg hno).symm | (rw [if_pos hok, ad_clamp hj9])), ((mk_off (n := 0) hj9 c_44 c_52).trans (if_pos hok).symm)⟩ (hP.sub [0, 1] rfl) (hD.sub [0, 1] (by decide) rfl) hS dX10_mark_80
          · skip
            have c_72 := bI_t c_72
            refine lv_iconst (v := 1) hx hb dX10_mark_75 (by decide) ?_
            refine lv_goto (tgt := 80) hx hb dX10_mark_76 (by decide) ?_
            exact ret_i hx hb hr hlocks ((upd im j (bI on)), (mz - 1)) ⟨(by first | exact hres | (rw [← aM_1 hok, ad_clamp hj9, c_72]; rfl)), (by first | exact (if_neg hno).symm | (rw [if_pos hok, ad_clamp hj9])), ((mk_off (n := 0) hj9 c_44 c_52).trans (if_pos hok).symm)⟩ (hP.sub [0, 1] rfl) (hD.sub [0, 1] (by decide) rfl) hS dX10_mark_80
        · skip
          have c_52 := bI_t c_52
          refine lv_iconst (v := 1) hx hb dX10_mark_55 (by decide) ?_
          refine lv_goto (tgt := 60) hx hb dX10_mark_56 (by decide) ?_
          refine lv_iadd hx hb dX10_mark_60 ?_
          refine set_i (y := nI (mz + 1)) (nI_1 mz) ?_
          refine va_put (D := D) (ci := 10) (v := .int (nI (mz + 1))) (ty := .int) (C := RX10) (T := TX10) (N := 51) hx hb hts (by decide +kernel) tyX10 tyX10_ok nmX10 hown hK hP hD hS 0 rfl rfl 15 (by decide) (hts (.fieldLink RX10 232 "TapeEngineModel" "marks" "I") (by decide +kernel)) (fun _ h9 => h9) rfl (by decide +kernel) rfl rfl (Nat.le_of_ble_eq_true rfl) dX10_mark_61 (fun H locs hP hD hS => ?_)
          have hP : va_P D vwCl [(m0, .inr (10, [.ref x0, .ref x1, .long hi, .long lo, .long mult, .int (nI nx), .int (nI tz), .int (nI ta), .ref x8, .int (nI xz), .ref x10, .int (bI fg), .int la, .ref x13, .ref x14, .int (nI (mz + 1)), .int re, .int en, .int pv, .int (nI ts), .int (nI nw), .ref x21, .ref x22, .ref x23, .ref x24, .ref x25, .ref x26, .ref x27, .ref x28, .ref x29, .ref x30, .ref x31, .ref x32, .ref x33, .int (bI hr0), .ref x35, .int (bI hk), .ref x37, .ref x38, .long hi2, .long lo2, .long mult2, .int (nI nx2), .int (nI tz2), .int (nI ta2), .ref x45, .int (nI xz2), .ref x47, .int (bI fg2), .int la2, .ref x50])), (x14, .inl (cZ, 256, .inl im))] H := hP
          have hD : va_D A [(m0, .inr (10, [.ref x0, .ref x1, .long hi, .long lo, .long mult, .int (nI nx), .int (nI tz), .int (nI ta), .ref x8, .int (nI xz), .ref x10, .int (bI fg), .int la, .ref x13, .ref x14, .int (nI (mz + 1)), .int re, .int en, .int pv, .int (nI ts), .int (nI nw), .ref x21, .ref x22, .ref x23, .ref x24, .ref x25, .ref x26, .ref x27, .ref x28, .ref x29, .ref x30, .ref x31, .ref x32, .ref x33, .int (bI hr0), .ref x35, .int (bI hk), .ref x37, .ref x38, .long hi2, .long lo2, .long mult2, .int (nI nx2), .int (nI tz2), .int (nI ta2), .ref x45, .int (nI xz2), .ref x47, .int (bI fg2), .int la2, .ref x50])), (x14, .inl (cZ, 256, .inl im))] := hD
          refine lv_aload_n hx hb dX10_mark_64 rfl (lv_at hl 1 rfl) ?_
          refine va_get (D := D) (ci := 10) (v := .ref x14) (C := RX10) (T := TX10) (N := 51) hx hb hts (by decide +kernel) hown hK hP 0 rfl rfl 14 (by decide) (hts (.fieldLink RX10 29 "TapeEngineModel" "isMark" "[Z") (by decide +kernel)) (fun _ h9 => h9) rfl dX10_mark_65 ?_
          refine lv_iload_n hx hb dX10_mark_68 rfl (lv_at hl 2 rfl) ?_
          refine lv_iload_n hx hb dX10_mark_69 rfl (lv_at hl 3 rfl) ?_
          refine xs_zast (k := j) hx hb hK hP hD hS 1 3 rfl rfl (by first | assumption | omega) (by decide) (bI_vn _) dX10_mark_70 (fun H locs hP hD hS => ?_)
          have hP : va_P D vwCl [(m0, .inr (10, [.ref x0, .ref x1, .long hi, .long lo, .long mult, .int (nI nx), .int (nI tz), .int (nI ta), .ref x8, .int (nI xz), .ref x10, .int (bI fg), .int la, .ref x13, .ref x14, .int (nI (mz + 1)), .int re, .int en, .int pv, .int (nI ts), .int (nI nw), .ref x21, .ref x22, .ref x23, .ref x24, .ref x25, .ref x26, .ref x27, .ref x28, .ref x29, .ref x30, .ref x31, .ref x32, .ref x33, .int (bI hr0), .ref x35, .int (bI hk), .ref x37, .ref x38, .long hi2, .long lo2, .long mult2, .int (nI nx2), .int (nI tz2), .int (nI ta2), .ref x45, .int (nI xz2), .ref x47, .int (bI fg2), .int la2, .ref x50])), (x14, .inl (cZ, 256, .inl (upd im j (bI on))))] H := hP
          have hD : va_D A [(m0, .inr (10, [.ref x0, .ref x1, .long hi, .long lo, .long mult, .int (nI nx), .int (nI tz), .int (nI ta), .ref x8, .int (nI xz), .ref x10, .int (bI fg), .int la, .ref x13, .ref x14, .int (nI (mz + 1)), .int re, .int en, .int pv, .int (nI ts), .int (nI nw), .ref x21, .ref x22, .ref x23, .ref x24, .ref x25, .ref x26, .ref x27, .ref x28, .ref x29, .ref x30, .ref x31, .ref x32, .ref x33, .int (bI hr0), .ref x35, .int (bI hk), .ref x37, .ref x38, .long hi2, .long lo2, .long mult2, .int (nI nx2), .int (nI tz2), .int (nI ta2), .ref x45, .int (nI xz2), .ref x47, .int (bI fg2), .int la2, .ref x50])), (x14, .inl (cZ, 256, .inl (upd im j (bI on))))] := hD
          refine lv_iload_n hx hb dX10_mark_71 rfl (lv_at hl 0 rfl) ?_
          refine lv_if_eq (tgt := 79) hx hb dX10_mark_72 (by decide) (fun c_72 => ?_) (fun c_72 => ?_)
          · skip
            have c_72 := bI_f c_72
            refine lv_iconst (v := 0) hx hb dX10_mark_79 (by decide) ?_
            exact ret_i hx hb hr hlocks ((upd im j (bI on)), (mz + 1)) ⟨(by first | exact hres | (rw [← aM_1 hok, ad_clamp hj9, c_72]; rfl)), (by first | exact (if_neg hno).symm | (rw [if_pos hok, ad_clamp hj9])), ((mk_on (n := 0) hj9 c_44 c_52).trans (if_pos hok).symm)⟩ (hP.sub [0, 1] rfl) (hD.sub [0, 1] (by decide) rfl) hS dX10_mark_80
          · skip
            have c_72 := bI_t c_72
            refine lv_iconst (v := 1) hx hb dX10_mark_75 (by decide) ?_
            refine lv_goto (tgt := 80) hx hb dX10_mark_76 (by decide) ?_
            exact ret_i hx hb hr hlocks ((upd im j (bI on)), (mz + 1)) ⟨(by first | exact hres | (rw [← aM_1 hok, ad_clamp hj9, c_72]; rfl)), (by first | exact (if_neg hno).symm | (rw [if_pos hok, ad_clamp hj9])), ((mk_on (n := 0) hj9 c_44 c_52).trans (if_pos hok).symm)⟩ (hP.sub [0, 1] rfl) (hD.sub [0, 1] (by decide) rfl) hS dX10_mark_80
      · skip
        have c_44 := bI_inj c_44
        refine lv_iconst (v := 0) hx hb dX10_mark_47 (by decide) ?_
        refine lv_goto (tgt := 60) hx hb dX10_mark_48 (by decide) ?_
        refine lv_iadd hx hb dX10_mark_60 ?_
        refine set_i (y := nI mz) (ad0 _) ?_
        refine va_put (D := D) (ci := 10) (v := .int (nI mz)) (ty := .int) (C := RX10) (T := TX10) (N := 51) hx hb hts (by decide +kernel) tyX10 tyX10_ok nmX10 hown hK hP hD hS 0 rfl rfl 15 (by decide) (hts (.fieldLink RX10 232 "TapeEngineModel" "marks" "I") (by decide +kernel)) (fun _ h9 => h9) rfl (by decide +kernel) rfl rfl (Nat.le_of_ble_eq_true rfl) dX10_mark_61 (fun H locs hP hD hS => ?_)
        have hP : va_P D vwCl [(m0, .inr (10, [.ref x0, .ref x1, .long hi, .long lo, .long mult, .int (nI nx), .int (nI tz), .int (nI ta), .ref x8, .int (nI xz), .ref x10, .int (bI fg), .int la, .ref x13, .ref x14, .int (nI mz), .int re, .int en, .int pv, .int (nI ts), .int (nI nw), .ref x21, .ref x22, .ref x23, .ref x24, .ref x25, .ref x26, .ref x27, .ref x28, .ref x29, .ref x30, .ref x31, .ref x32, .ref x33, .int (bI hr0), .ref x35, .int (bI hk), .ref x37, .ref x38, .long hi2, .long lo2, .long mult2, .int (nI nx2), .int (nI tz2), .int (nI ta2), .ref x45, .int (nI xz2), .ref x47, .int (bI fg2), .int la2, .ref x50])), (x14, .inl (cZ, 256, .inl im))] H := hP
        have hD : va_D A [(m0, .inr (10, [.ref x0, .ref x1, .long hi, .long lo, .long mult, .int (nI nx), .int (nI tz), .int (nI ta), .ref x8, .int (nI xz), .ref x10, .int (bI fg), .int la, .ref x13, .ref x14, .int (nI mz), .int re, .int en, .int pv, .int (nI ts), .int (nI nw), .ref x21, .ref x22, .ref x23, .ref x24, .ref x25, .ref x26, .ref x27, .ref x28, .ref x29, .ref x30, .ref x31, .ref x32, .ref x33, .int (bI hr0), .ref x35, .int (bI hk), .ref x37, .ref x38, .long hi2, .long lo2, .long mult2, .int (nI nx2), .int (nI tz2), .int (nI ta2), .ref x45, .int (nI xz2), .ref x47, .int (bI fg2), .int la2, .ref x50])), (x14, .inl (cZ, 256, .inl im))] := hD
        refine lv_aload_n hx hb dX10_mark_64 rfl (lv_at hl 1 rfl) ?_
        refine va_get (D := D) (ci := 10) (v := .ref x14) (C := RX10) (T := TX10) (N := 51) hx hb hts (by decide +kernel) hown hK hP 0 rfl rfl 14 (by decide) (hts (.fieldLink RX10 29 "TapeEngineModel" "isMark" "[Z") (by decide +kernel)) (fun _ h9 => h9) rfl dX10_mark_65 ?_
        refine lv_iload_n hx hb dX10_mark_68 rfl (lv_at hl 2 rfl) ?_
        refine lv_iload_n hx hb dX10_mark_69 rfl (lv_at hl 3 rfl) ?_
        refine xs_zast (k := j) hx hb hK hP hD hS 1 3 rfl rfl (by first | assumption | omega) (by decide) (bI_vn _) dX10_mark_70 (fun H locs hP hD hS => ?_)
        have hP : va_P D vwCl [(m0, .inr (10, [.ref x0, .ref x1, .long hi, .long lo, .long mult, .int (nI nx), .int (nI tz), .int (nI ta), .ref x8, .int (nI xz), .ref x10, .int (bI fg), .int la, .ref x13, .ref x14, .int (nI mz), .int re, .int en, .int pv, .int (nI ts), .int (nI nw), .ref x21, .ref x22, .ref x23, .ref x24, .ref x25, .ref x26, .ref x27, .ref x28, .ref x29, .ref x30, .ref x31, .ref x32, .ref x33, .int (bI hr0), .ref x35, .int (bI hk), .ref x37, .ref x38, .long hi2, .long lo2, .long mult2, .int (nI nx2), .int (nI tz2), .int (nI ta2), .ref x45, .int (nI xz2), .ref x47, .int (bI fg2), .int la2, .ref x50])), (x14, .inl (cZ, 256, .inl (upd im j (bI on))))] H := hP
        have hD : va_D A [(m0, .inr (10, [.ref x0, .ref x1, .long hi, .long lo, .long mult, .int (nI nx), .int (nI tz), .int (nI ta), .ref x8, .int (nI xz), .ref x10, .int (bI fg), .int la, .ref x13, .ref x14, .int (nI mz), .int re, .int en, .int pv, .int (nI ts), .int (nI nw), .ref x21, .ref x22, .ref x23, .ref x24, .ref x25, .ref x26, .ref x27, .ref x28, .ref x29, .ref x30, .ref x31, .ref x32, .ref x33, .int (bI hr0), .ref x35, .int (bI hk), .ref x37, .ref x38, .long hi2, .long lo2, .long mult2, .int (nI nx2), .int (nI tz2), .int (nI ta2), .ref x45, .int (nI xz2), .ref x47, .int (bI fg2), .int la2, .ref x50])), (x14, .inl (cZ, 256, .inl (upd im j (bI on))))] := hD
        refine lv_iload_n hx hb dX10_mark_71 rfl (lv_at hl 0 rfl) ?_
        refine lv_if_eq (tgt := 79) hx hb dX10_mark_72 (by decide) (fun c_72 => ?_) (fun c_72 => ?_)
        · skip
          have c_72 := bI_f c_72
          refine lv_iconst (v := 0) hx hb dX10_mark_79 (by decide) ?_
          exact ret_i hx hb hr hlocks ((upd im j (bI on)), mz) ⟨(by first | exact hres | (rw [← aM_1 hok, ad_clamp hj9, c_72]; rfl)), (by first | exact (if_neg hno).symm | (rw [if_pos hok, ad_clamp hj9])), ((mk_eq (n := 0) hj9 c_44).trans (if_pos hok).symm)⟩ (hP.sub [0, 1] rfl) (hD.sub [0, 1] (by decide) rfl) hS dX10_mark_80
        · skip
          have c_72 := bI_t c_72
          refine lv_iconst (v := 1) hx hb dX10_mark_75 (by decide) ?_
          refine lv_goto (tgt := 80) hx hb dX10_mark_76 (by decide) ?_
          exact ret_i hx hb hr hlocks ((upd im j (bI on)), mz) ⟨(by first | exact hres | (rw [← aM_1 hok, ad_clamp hj9, c_72]; rfl)), (by first | exact (if_neg hno).symm | (rw [if_pos hok, ad_clamp hj9])), ((mk_eq (n := 0) hj9 c_44).trans (if_pos hok).symm)⟩ (hP.sub [0, 1] rfl) (hD.sub [0, 1] (by decide) rfl) hS dX10_mark_80
    · skip
      have c_18 := bI_t c_18
      refine lv_iload_n hx hb dX10_mark_21 rfl (lv_at hl 0 rfl) ?_
      refine lv_if_ne (tgt := 37) hx hb dX10_mark_22 (by decide) (fun c_22 => ?_) (fun c_22 => ?_)
      · skip
        have c_22 := bI_t c_22
        have hok : okM (nI j) on im mz := by first | exact okM_a (ad_nI hj9) c_18 | exact okM_b (ad_nI hj9) ((congrArg (fun x => tB (im x)) (ad_clamp hj9)).trans c_22) | exact okM_c (ad_nI hj9) (by omega)
        refine lv_aload_n hx hb dX10_mark_37 rfl (lv_at hl 1 rfl) ?_
        refine lv_dup hx hb dX10_mark_38 rfl ?_
        refine va_get (D := D) (ci := 10) (v := .int (nI mz)) (C := RX10) (T := TX10) (N := 51) hx hb hts (by decide +kernel) hown hK hP 0 rfl rfl 15 (by decide) (hts (.fieldLink RX10 232 "TapeEngineModel" "marks" "I") (by decide +kernel)) (fun _ h9 => h9) rfl dX10_mark_39 ?_
        refine lv_iload_n hx hb dX10_mark_42 rfl (lv_at hl 3 rfl) ?_
        refine lv_iload_n hx hb dX10_mark_43 rfl (lv_at hl 0 rfl) ?_
        refine lv_icmp_ne (tgt := 51) hx hb dX10_mark_44 (by decide) (fun c_44 => ?_) (fun c_44 => ?_)
        · skip
          have c_44 := fun z => c_44 (congrArg bI z)
          refine lv_iload_n hx hb dX10_mark_51 rfl (lv_at hl 3 rfl) ?_
          refine lv_if_eq (tgt := 59) hx hb dX10_mark_52 (by decide) (fun c_52 => ?_) (fun c_52 => ?_)
          · skip
            have c_52 := bI_f c_52
            refine lv_iconst (v := (-1)) hx hb dX10_mark_59 (by decide) ?_
            refine lv_iadd hx hb dX10_mark_60 ?_
            refine set_i (y := nI (mz - 1)) (sb_m1 (hpz j hj9 (tB_other c_44 c_52))) ?_
            refine va_put (D := D) (ci := 10) (v := .int (nI (mz - 1))) (ty := .int) (C := RX10) (T := TX10) (N := 51) hx hb hts (by decide +kernel) tyX10 tyX10_ok nmX10 hown hK hP hD hS 0 rfl rfl 15 (by decide) (hts (.fieldLink RX10 232 "TapeEngineModel" "marks" "I") (by decide +kernel)) (fun _ h9 => h9) rfl (by decide +kernel) rfl rfl (Nat.le_of_ble_eq_true rfl) dX10_mark_61 (fun H locs hP hD hS => ?_)
            have hP : va_P D vwCl [(m0, .inr (10, [.ref x0, .ref x1, .long hi, .long lo, .long mult, .int (nI nx), .int (nI tz), .int (nI ta), .ref x8, .int (nI xz), .ref x10, .int (bI fg), .int la, .ref x13, .ref x14, .int (nI (mz - 1)), .int re, .int en, .int pv, .int (nI ts), .int (nI nw), .ref x21, .ref x22, .ref x23, .ref x24, .ref x25, .ref x26, .ref x27, .ref x28, .ref x29, .ref x30, .ref x31, .ref x32, .ref x33, .int (bI hr0), .ref x35, .int (bI hk), .ref x37, .ref x38, .long hi2, .long lo2, .long mult2, .int (nI nx2), .int (nI tz2), .int (nI ta2), .ref x45, .int (nI xz2), .ref x47, .int (bI fg2), .int la2, .ref x50])), (x14, .inl (cZ, 256, .inl im))] H := hP
            have hD : va_D A [(m0, .inr (10, [.ref x0, .ref x1, .long hi, .long lo, .long mult, .int (nI nx), .int (nI tz), .int (nI ta), .ref x8, .int (nI xz), .ref x10, .int (bI fg), .int la, .ref x13, .ref x14, .int (nI (mz - 1)), .int re, .int en, .int pv, .int (nI ts), .int (nI nw), .ref x21, .ref x22, .ref x23, .ref x24, .ref x25, .ref x26, .ref x27, .ref x28, .ref x29, .ref x30, .ref x31, .ref x32, .ref x33, .int (bI hr0), .ref x35, .int (bI hk), .ref x37, .ref x38, .long hi2, .long lo2, .long mult2, .int (nI nx2), .int (nI tz2), .int (nI ta2), .ref x45, .int (nI xz2), .ref x47, .int (bI fg2), .int la2, .ref x50])), (x14, .inl (cZ, 256, .inl im))] := hD
            refine lv_aload_n hx hb dX10_mark_64 rfl (lv_at hl 1 rfl) ?_
            refine va_get (D := D) (ci := 10) (v := .ref x14) (C := RX10) (T := TX10) (N := 51) hx hb hts (by decide +kernel) hown hK hP 0 rfl rfl 14 (by decide) (hts (.fieldLink RX10 29 "TapeEngineModel" "isMark" "[Z") (by decide +kernel)) (fun _ h9 => h9) rfl dX10_mark_65 ?_
            refine lv_iload_n hx hb dX10_mark_68 rfl (lv_at hl 2 rfl) ?_
            refine lv_iload_n hx hb dX10_mark_69 rfl (lv_at hl 3 rfl) ?_
            refine xs_zast (k := j) hx hb hK hP hD hS 1 3 rfl rfl (by first | assumption | omega) (by decide) (bI_vn _) dX10_mark_70 (fun H locs hP hD hS => ?_)
            have hP : va_P D vwCl [(m0, .inr (10, [.ref x0, .ref x1, .long hi, .long lo, .long mult, .int (nI nx), .int (nI tz), .int (nI ta), .ref x8, .int (nI xz), .ref x10, .int (bI fg), .int la, .ref x13, .ref x14, .int (nI (mz - 1)), .int re, .int en, .int pv, .int (nI ts), .int (nI nw), .ref x21, .ref x22, .ref x23, .ref x24, .ref x25, .ref x26, .ref x27, .ref x28, .ref x29, .ref x30, .ref x31, .ref x32, .ref x33, .int (bI hr0), .ref x35, .int (bI hk), .ref x37, .ref x38, .long hi2, .long lo2, .long mult2, .int (nI nx2), .int (nI tz2), .int (nI ta2), .ref x45, .int (nI xz2), .ref x47, .int (bI fg2), .int la2, .ref x50])), (x14, .inl (cZ, 256, .inl (upd im j (bI on))))] H := hP
            have hD : va_D A [(m0, .inr (10, [.ref x0, .ref x1, .long hi, .long lo, .long mult, .int (nI nx), .int (nI tz), .int (nI ta), .ref x8, .int (nI xz), .ref x10, .int (bI fg), .int la, .ref x13, .ref x14, .int (nI (mz - 1)), .int re, .int en, .int pv, .int (nI ts), .int (nI nw), .ref x21, .ref x22, .ref x23, .ref x24, .ref x25, .ref x26, .ref x27, .ref x28, .ref x29, .ref x30, .ref x31, .ref x32, .ref x33, .int (bI hr0), .ref x35, .int (bI hk), .ref x37, .ref x38, .long hi2, .long lo2, .long mult2, .int (nI nx2), .int (nI tz2), .int (nI ta2), .ref x45, .int (nI xz2), .ref x47, .int (bI fg2), .int la2, .ref x50])), (x14, .inl (cZ, 256, .inl (upd im j (bI on))))] := hD
            refine lv_iload_n hx hb dX10_mark_71 rfl (lv_at hl 0 rfl) ?_
            refine lv_if_eq (tgt := 79) hx hb dX10_mark_72 (by decide) (fun c_72 => ?_) (fun c_72 => ?_)
            · skip
              have c_72 := bI_f c_72
              refine lv_iconst (v := 0) hx hb dX10_mark_79 (by decide) ?_
              exact ret_i hx hb hr hlocks ((upd im j (bI on)), (mz - 1)) ⟨(by first | exact hres | (rw [← aM_1 hok, ad_clamp hj9, c_72]; rfl)), (by first | exact (if_neg hno).symm | (rw [if_pos hok, ad_clamp hj9])), ((mk_off (n := 0) hj9 c_44 c_52).trans (if_pos hok).symm)⟩ (hP.sub [0, 1] rfl) (hD.sub [0, 1] (by decide) rfl) hS dX10_mark_80
            · skip
              have c_72 := bI_t c_72
              refine lv_iconst (v := 1) hx hb dX10_mark_75 (by decide) ?_
              refine lv_goto (tgt := 80) hx hb dX10_mark_76 (by decide) ?_
              exact ret_i hx hb hr hlocks ((upd im j (bI on)), (mz - 1)) ⟨(by first | exact hres | (rw [← aM_1 hok, ad_clamp hj9, c_72]; rfl)), (by first | exact (if_neg hno).symm | (rw [if_pos hok, ad_clamp hj9])), ((mk_off (n := 0) hj9 c_44 c_52).trans (if_pos hok).symm)⟩ (hP.sub [0, 1] rfl) (hD.sub [0, 1] (by decide) rfl) hS dX10_mark_80
          · skip
            have c_52 := bI_t c_52
            refine lv_iconst (v := 1) hx hb dX10_mark_55 (by decide) ?_
            refine lv_goto (tgt := 60) hx hb dX10_mark_56 (by decide) ?_
            refine lv_iadd hx hb dX10_mark_60 ?_
            refine set_i (y := nI (mz + 1)) (nI_1 mz) ?_
            refine va_put (D := D) (ci := 10) (v := .int (nI (mz + 1))) (ty := .int) (C := RX10) (T := TX10) (N := 51) hx hb hts (by decide +kernel) tyX10 tyX10_ok nmX10 hown hK hP hD hS 0 rfl rfl 15 (by decide) (hts (.fieldLink RX10 232 "TapeEngineModel" "marks" "I") (by decide +kernel)) (fun _ h9 => h9) rfl (by decide +kernel) rfl rfl (Nat.le_of_ble_eq_true rfl) dX10_mark_61 (fun H locs hP hD hS => ?_)
            have hP : va_P D vwCl [(m0, .inr (10, [.ref x0, .ref x1, .long hi, .long lo, .long mult, .int (nI nx), .int (nI tz), .int (nI ta), .ref x8, .int (nI xz), .ref x10, .int (bI fg), .int la, .ref x13, .ref x14, .int (nI (mz + 1)), .int re, .int en, .int pv, .int (nI ts), .int (nI nw), .ref x21, .ref x22, .ref x23, .ref x24, .ref x25, .ref x26, .ref x27, .ref x28, .ref x29, .ref x30, .ref x31, .ref x32, .ref x33, .int (bI hr0), .ref x35, .int (bI hk), .ref x37, .ref x38, .long hi2, .long lo2, .long mult2, .int (nI nx2), .int (nI tz2), .int (nI ta2), .ref x45, .int (nI xz2), .ref x47, .int (bI fg2), .int la2, .ref x50])), (x14, .inl (cZ, 256, .inl im))] H := hP
            have hD : va_D A [(m0, .inr (10, [.ref x0, .ref x1, .long hi, .long lo, .long mult, .int (nI nx), .int (nI tz), .int (nI ta), .ref x8, .int (nI xz), .ref x10, .int (bI fg), .int la, .ref x13, .ref x14, .int (nI (mz + 1)), .int re, .int en, .int pv, .int (nI ts), .int (nI nw), .ref x21, .ref x22, .ref x23, .ref x24, .ref x25, .ref x26, .ref x27, .ref x28, .ref x29, .ref x30, .ref x31, .ref x32, .ref x33, .int (bI hr0), .ref x35, .int (bI hk), .ref x37, .ref x38, .long hi2, .long lo2, .long mult2, .int (nI nx2), .int (nI tz2), .int (nI ta2), .ref x45, .int (nI xz2), .ref x47, .int (bI fg2), .int la2, .ref x50])), (x14, .inl (cZ, 256, .inl im))] := hD
            refine lv_aload_n hx hb dX10_mark_64 rfl (lv_at hl 1 rfl) ?_
            refine va_get (D := D) (ci := 10) (v := .ref x14) (C := RX10) (T := TX10) (N := 51) hx hb hts (by decide +kernel) hown hK hP 0 rfl rfl 14 (by decide) (hts (.fieldLink RX10 29 "TapeEngineModel" "isMark" "[Z") (by decide +kernel)) (fun _ h9 => h9) rfl dX10_mark_65 ?_
            refine lv_iload_n hx hb dX10_mark_68 rfl (lv_at hl 2 rfl) ?_
            refine lv_iload_n hx hb dX10_mark_69 rfl (lv_at hl 3 rfl) ?_
            refine xs_zast (k := j) hx hb hK hP hD hS 1 3 rfl rfl (by first | assumption | omega) (by decide) (bI_vn _) dX10_mark_70 (fun H locs hP hD hS => ?_)
            have hP : va_P D vwCl [(m0, .inr (10, [.ref x0, .ref x1, .long hi, .long lo, .long mult, .int (nI nx), .int (nI tz), .int (nI ta), .ref x8, .int (nI xz), .ref x10, .int (bI fg), .int la, .ref x13, .ref x14, .int (nI (mz + 1)), .int re, .int en, .int pv, .int (nI ts), .int (nI nw), .ref x21, .ref x22, .ref x23, .ref x24, .ref x25, .ref x26, .ref x27, .ref x28, .ref x29, .ref x30, .ref x31, .ref x32, .ref x33, .int (bI hr0), .ref x35, .int (bI hk), .ref x37, .ref x38, .long hi2, .long lo2, .long mult2, .int (nI nx2), .int (nI tz2), .int (nI ta2), .ref x45, .int (nI xz2), .ref x47, .int (bI fg2), .int la2, .ref x50])), (x14, .inl (cZ, 256, .inl (upd im j (bI on))))] H := hP
            have hD : va_D A [(m0, .inr (10, [.ref x0, .ref x1, .long hi, .long lo, .long mult, .int (nI nx), .int (nI tz), .int (nI ta), .ref x8, .int (nI xz), .ref x10, .int (bI fg), .int la, .ref x13, .ref x14, .int (nI (mz + 1)), .int re, .int en, .int pv, .int (nI ts), .int (nI nw), .ref x21, .ref x22, .ref x23, .ref x24, .ref x25, .ref x26, .ref x27, .ref x28, .ref x29, .ref x30, .ref x31, .ref x32, .ref x33, .int (bI hr0), .ref x35, .int (bI hk), .ref x37, .ref x38, .long hi2, .long lo2, .long mult2, .int (nI nx2), .int (nI tz2), .int (nI ta2), .ref x45, .int (nI xz2), .ref x47, .int (bI fg2), .int la2, .ref x50])), (x14, .inl (cZ, 256, .inl (upd im j (bI on))))] := hD
            refine lv_iload_n hx hb dX10_mark_71 rfl (lv_at hl 0 rfl) ?_
            refine lv_if_eq (tgt := 79) hx hb dX10_mark_72 (by decide) (fun c_72 => ?_) (fun c_72 => ?_)
            · skip
              have c_72 := bI_f c_72
              refine lv_iconst (v := 0) hx hb dX10_mark_79 (by decide) ?_
              exact ret_i hx hb hr hlocks ((upd im j (bI on)), (mz + 1)) ⟨(by first | exact hres | (rw [← aM_1 hok, ad_clamp hj9, c_72]; rfl)), (by first | exact (if_neg hno).symm | (rw [if_pos hok, ad_clamp hj9])), ((mk_on (n := 0) hj9 c_44 c_52).trans (if_pos hok).symm)⟩ (hP.sub [0, 1] rfl) (hD.sub [0, 1] (by decide) rfl) hS dX10_mark_80
            · skip
              have c_72 := bI_t c_72
              refine lv_iconst (v := 1) hx hb dX10_mark_75 (by decide) ?_
              refine lv_goto (tgt := 80) hx hb dX10_mark_76 (by decide) ?_
              exact ret_i hx hb hr hlocks ((upd im j (bI on)), (mz + 1)) ⟨(by first | exact hres | (rw [← aM_1 hok, ad_clamp hj9, c_72]; rfl)), (by first | exact (if_neg hno).symm | (rw [if_pos hok, ad_clamp hj9])), ((mk_on (n := 0) hj9 c_44 c_52).trans (if_pos hok).symm)⟩ (hP.sub [0, 1] rfl) (hD.sub [0, 1] (by decide) rfl) hS dX10_mark_80
        · skip
          have c_44 := bI_inj c_44
          refine lv_iconst (v := 0) hx hb dX10_mark_47 (by decide) ?_
          refine lv_goto (tgt := 60) hx hb dX10_mark_48 (by decide) ?_
          refine lv_iadd hx hb dX10_mark_60 ?_
          refine set_i (y := nI mz) (ad0 _) ?_
          refine va_put (D := D) (ci := 10) (v := .int (nI mz)) (ty := .int) (C := RX10) (T := TX10) (N := 51) hx hb hts (by decide +kernel) tyX10 tyX10_ok nmX10 hown hK hP hD hS 0 rfl rfl 15 (by decide) (hts (.fieldLink RX10 232 "TapeEngineModel" "marks" "I") (by decide +kernel)) (fun _ h9 => h9) rfl (by decide +kernel) rfl rfl (Nat.le_of_ble_eq_true rfl) dX10_mark_61 (fun H locs hP hD hS => ?_)
          have hP : va_P D vwCl [(m0, .inr (10, [.ref x0, .ref x1, .long hi, .long lo, .long mult, .int (nI nx), .int (nI tz), .int (nI ta), .ref x8, .int (nI xz), .ref x10, .int (bI fg), .int la, .ref x13, .ref x14, .int (nI mz), .int re, .int en, .int pv, .int (nI ts), .int (nI nw), .ref x21, .ref x22, .ref x23, .ref x24, .ref x25, .ref x26, .ref x27, .ref x28, .ref x29, .ref x30, .ref x31, .ref x32, .ref x33, .int (bI hr0), .ref x35, .int (bI hk), .ref x37, .ref x38, .long hi2, .long lo2, .long mult2, .int (nI nx2), .int (nI tz2), .int (nI ta2), .ref x45, .int (nI xz2), .ref x47, .int (bI fg2), .int la2, .ref x50])), (x14, .inl (cZ, 256, .inl im))] H := hP
          have hD : va_D A [(m0, .inr (10, [.ref x0, .ref x1, .long hi, .long lo, .long mult, .int (nI nx), .int (nI tz), .int (nI ta), .ref x8, .int (nI xz), .ref x10, .int (bI fg), .int la, .ref x13, .ref x14, .int (nI mz), .int re, .int en, .int pv, .int (nI ts), .int (nI nw), .ref x21, .ref x22, .ref x23, .ref x24, .ref x25, .ref x26, .ref x27, .ref x28, .ref x29, .ref x30, .ref x31, .ref x32, .ref x33, .int (bI hr0), .ref x35, .int (bI hk), .ref x37, .ref x38, .long hi2, .long lo2, .long mult2, .int (nI nx2), .int (nI tz2), .int (nI ta2), .ref x45, .int (nI xz2), .ref x47, .int (bI fg2), .int la2, .ref x50])), (x14, .inl (cZ, 256, .inl im))] := hD
          refine lv_aload_n hx hb dX10_mark_64 rfl (lv_at hl 1 rfl) ?_
          refine va_get (D := D) (ci := 10) (v := .ref x14) (C := RX10) (T := TX10) (N := 51) hx hb hts (by decide +kernel) hown hK hP 0 rfl rfl 14 (by decide) (hts (.fieldLink RX10 29 "TapeEngineModel" "isMark" "[Z") (by decide +kernel)) (fun _ h9 => h9) rfl dX10_mark_65 ?_
          refine lv_iload_n hx hb dX10_mark_68 rfl (lv_at hl 2 rfl) ?_
          refine lv_iload_n hx hb dX10_mark_69 rfl (lv_at hl 3 rfl) ?_
          refine xs_zast (k := j) hx hb hK hP hD hS 1 3 rfl rfl (by first | assumption | omega) (by decide) (bI_vn _) dX10_mark_70 (fun H locs hP hD hS => ?_)
          have hP : va_P D vwCl [(m0, .inr (10, [.ref x0, .ref x1, .long hi, .long lo, .long mult, .int (nI nx), .int (nI tz), .int (nI ta), .ref x8, .int (nI xz), .ref x10, .int (bI fg), .int la, .ref x13, .ref x14, .int (nI mz), .int re, .int en, .int pv, .int (nI ts), .int (nI nw), .ref x21, .ref x22, .ref x23, .ref x24, .ref x25, .ref x26, .ref x27, .ref x28, .ref x29, .ref x30, .ref x31, .ref x32, .ref x33, .int (bI hr0), .ref x35, .int (bI hk), .ref x37, .ref x38, .long hi2, .long lo2, .long mult2, .int (nI nx2), .int (nI tz2), .int (nI ta2), .ref x45, .int (nI xz2), .ref x47, .int (bI fg2), .int la2, .ref x50])), (x14, .inl (cZ, 256, .inl (upd im j (bI on))))] H := hP
          have hD : va_D A [(m0, .inr (10, [.ref x0, .ref x1, .long hi, .long lo, .long mult, .int (nI nx), .int (nI tz), .int (nI ta), .ref x8, .int (nI xz), .ref x10, .int (bI fg), .int la, .ref x13, .ref x14, .int (nI mz), .int re, .int en, .int pv, .int (nI ts), .int (nI nw), .ref x21, .ref x22, .ref x23, .ref x24, .ref x25, .ref x26, .ref x27, .ref x28, .ref x29, .ref x30, .ref x31, .ref x32, .ref x33, .int (bI hr0), .ref x35, .int (bI hk), .ref x37, .ref x38, .long hi2, .long lo2, .long mult2, .int (nI nx2), .int (nI tz2), .int (nI ta2), .ref x45, .int (nI xz2), .ref x47, .int (bI fg2), .int la2, .ref x50])), (x14, .inl (cZ, 256, .inl (upd im j (bI on))))] := hD
          refine lv_iload_n hx hb dX10_mark_71 rfl (lv_at hl 0 rfl) ?_
          refine lv_if_eq (tgt := 79) hx hb dX10_mark_72 (by decide) (fun c_72 => ?_) (fun c_72 => ?_)
          · skip
            have c_72 := bI_f c_72
            refine lv_iconst (v := 0) hx hb dX10_mark_79 (by decide) ?_
            exact ret_i hx hb hr hlocks ((upd im j (bI on)), mz) ⟨(by first | exact hres | (rw [← aM_1 hok, ad_clamp hj9, c_72]; rfl)), (by first | exact (if_neg hno).symm | (rw [if_pos hok, ad_clamp hj9])), ((mk_eq (n := 0) hj9 c_44).trans (if_pos hok).symm)⟩ (hP.sub [0, 1] rfl) (hD.sub [0, 1] (by decide) rfl) hS dX10_mark_80
          · skip
            have c_72 := bI_t c_72
            refine lv_iconst (v := 1) hx hb dX10_mark_75 (by decide) ?_
            refine lv_goto (tgt := 80) hx hb dX10_mark_76 (by decide) ?_
            exact ret_i hx hb hr hlocks ((upd im j (bI on)), mz) ⟨(by first | exact hres | (rw [← aM_1 hok, ad_clamp hj9, c_72]; rfl)), (by first | exact (if_neg hno).symm | (rw [if_pos hok, ad_clamp hj9])), ((mk_eq (n := 0) hj9 c_44).trans (if_pos hok).symm)⟩ (hP.sub [0, 1] rfl) (hD.sub [0, 1] (by decide) rfl) hS dX10_mark_80
      · skip
        have c_22 := bI_f c_22
        refine lv_aload_n hx hb dX10_mark_25 rfl (lv_at hl 1 rfl) ?_
        refine va_get (D := D) (ci := 10) (v := .int (nI mz)) (C := RX10) (T := TX10) (N := 51) hx hb hts (by decide +kernel) hown hK hP 0 rfl rfl 15 (by decide) (hts (.fieldLink RX10 232 "TapeEngineModel" "marks" "I") (by decide +kernel)) (fun _ h9 => h9) rfl dX10_mark_26 ?_
        refine lv_bipush (v := (nI 8)) hx hb dX10_mark_29 (by decide) ?_
        refine lv_icmp_ne (tgt := 37) hx hb dX10_mark_31 (by decide) (fun c_31 => ?_) (fun c_31 => ?_)
        · skip
          have c_31 : ¬ mz = 8 := fun z => c_31 ((nI_eq (a := mz) (b := 8) (by omega) (by omega)).mpr z)
          have hok : okM (nI j) on im mz := by first | exact okM_a (ad_nI hj9) c_18 | exact okM_b (ad_nI hj9) ((congrArg (fun x => tB (im x)) (ad_clamp hj9)).trans c_22) | exact okM_c (ad_nI hj9) (by omega)
          refine lv_aload_n hx hb dX10_mark_37 rfl (lv_at hl 1 rfl) ?_
          refine lv_dup hx hb dX10_mark_38 rfl ?_
          refine va_get (D := D) (ci := 10) (v := .int (nI mz)) (C := RX10) (T := TX10) (N := 51) hx hb hts (by decide +kernel) hown hK hP 0 rfl rfl 15 (by decide) (hts (.fieldLink RX10 232 "TapeEngineModel" "marks" "I") (by decide +kernel)) (fun _ h9 => h9) rfl dX10_mark_39 ?_
          refine lv_iload_n hx hb dX10_mark_42 rfl (lv_at hl 3 rfl) ?_
          refine lv_iload_n hx hb dX10_mark_43 rfl (lv_at hl 0 rfl) ?_
          refine lv_icmp_ne (tgt := 51) hx hb dX10_mark_44 (by decide) (fun c_44 => ?_) (fun c_44 => ?_)
          · skip
            have c_44 := fun z => c_44 (congrArg bI z)
            refine lv_iload_n hx hb dX10_mark_51 rfl (lv_at hl 3 rfl) ?_
            refine lv_if_eq (tgt := 59) hx hb dX10_mark_52 (by decide) (fun c_52 => ?_) (fun c_52 => ?_)
            · skip
              have c_52 := bI_f c_52
              refine lv_iconst (v := (-1)) hx hb dX10_mark_59 (by decide) ?_
              refine lv_iadd hx hb dX10_mark_60 ?_
              refine set_i (y := nI (mz - 1)) (sb_m1 (hpz j hj9 (tB_other c_44 c_52))) ?_
              refine va_put (D := D) (ci := 10) (v := .int (nI (mz - 1))) (ty := .int) (C := RX10) (T := TX10) (N := 51) hx hb hts (by decide +kernel) tyX10 tyX10_ok nmX10 hown hK hP hD hS 0 rfl rfl 15 (by decide) (hts (.fieldLink RX10 232 "TapeEngineModel" "marks" "I") (by decide +kernel)) (fun _ h9 => h9) rfl (by decide +kernel) rfl rfl (Nat.le_of_ble_eq_true rfl) dX10_mark_61 (fun H locs hP hD hS => ?_)
              have hP : va_P D vwCl [(m0, .inr (10, [.ref x0, .ref x1, .long hi, .long lo, .long mult, .int (nI nx), .int (nI tz), .int (nI ta), .ref x8, .int (nI xz), .ref x10, .int (bI fg), .int la, .ref x13, .ref x14, .int (nI (mz - 1)), .int re, .int en, .int pv, .int (nI ts), .int (nI nw), .ref x21, .ref x22, .ref x23, .ref x24, .ref x25, .ref x26, .ref x27, .ref x28, .ref x29, .ref x30, .ref x31, .ref x32, .ref x33, .int (bI hr0), .ref x35, .int (bI hk), .ref x37, .ref x38, .long hi2, .long lo2, .long mult2, .int (nI nx2), .int (nI tz2), .int (nI ta2), .ref x45, .int (nI xz2), .ref x47, .int (bI fg2), .int la2, .ref x50])), (x14, .inl (cZ, 256, .inl im))] H := hP
              have hD : va_D A [(m0, .inr (10, [.ref x0, .ref x1, .long hi, .long lo, .long mult, .int (nI nx), .int (nI tz), .int (nI ta), .ref x8, .int (nI xz), .ref x10, .int (bI fg), .int la, .ref x13, .ref x14, .int (nI (mz - 1)), .int re, .int en, .int pv, .int (nI ts), .int (nI nw), .ref x21, .ref x22, .ref x23, .ref x24, .ref x25, .ref x26, .ref x27, .ref x28, .ref x29, .ref x30, .ref x31, .ref x32, .ref x33, .int (bI hr0), .ref x35, .int (bI hk), .ref x37, .ref x38, .long hi2, .long lo2, .long mult2, .int (nI nx2), .int (nI tz2), .int (nI ta2), .ref x45, .int (nI xz2), .ref x47, .int (bI fg2), .int la2, .ref x50])), (x14, .inl (cZ, 256, .inl im))] := hD
              refine lv_aload_n hx hb dX10_mark_64 rfl (lv_at hl 1 rfl) ?_
              refine va_get (D := D) (ci := 10) (v := .ref x14) (C := RX10) (T := TX10) (N := 51) hx hb hts (by decide +kernel) hown hK hP 0 rfl rfl 14 (by decide) (hts (.fieldLink RX10 29 "TapeEngineModel" "isMark" "[Z") (by decide +kernel)) (fun _ h9 => h9) rfl dX10_mark_65 ?_
              refine lv_iload_n hx hb dX10_mark_68 rfl (lv_at hl 2 rfl) ?_
              refine lv_iload_n hx hb dX10_mark_69 rfl (lv_at hl 3 rfl) ?_
              refine xs_zast (k := j) hx hb hK hP hD hS 1 3 rfl rfl (by first | assumption | omega) (by decide) (bI_vn _) dX10_mark_70 (fun H locs hP hD hS => ?_)
              have hP : va_P D vwCl [(m0, .inr (10, [.ref x0, .ref x1, .long hi, .long lo, .long mult, .int (nI nx), .int (nI tz), .int (nI ta), .ref x8, .int (nI xz), .ref x10, .int (bI fg), .int la, .ref x13, .ref x14, .int (nI (mz - 1)), .int re, .int en, .int pv, .int (nI ts), .int (nI nw), .ref x21, .ref x22, .ref x23, .ref x24, .ref x25, .ref x26, .ref x27, .ref x28, .ref x29, .ref x30, .ref x31, .ref x32, .ref x33, .int (bI hr0), .ref x35, .int (bI hk), .ref x37, .ref x38, .long hi2, .long lo2, .long mult2, .int (nI nx2), .int (nI tz2), .int (nI ta2), .ref x45, .int (nI xz2), .ref x47, .int (bI fg2), .int la2, .ref x50])), (x14, .inl (cZ, 256, .inl (upd im j (bI on))))] H := hP
              have hD : va_D A [(m0, .inr (10, [.ref x0, .ref x1, .long hi, .long lo, .long mult, .int (nI nx), .int (nI tz), .int (nI ta), .ref x8, .int (nI xz), .ref x10, .int (bI fg), .int la, .ref x13, .ref x14, .int (nI (mz - 1)), .int re, .int en, .int pv, .int (nI ts), .int (nI nw), .ref x21, .ref x22, .ref x23, .ref x24, .ref x25, .ref x26, .ref x27, .ref x28, .ref x29, .ref x30, .ref x31, .ref x32, .ref x33, .int (bI hr0), .ref x35, .int (bI hk), .ref x37, .ref x38, .long hi2, .long lo2, .long mult2, .int (nI nx2), .int (nI tz2), .int (nI ta2), .ref x45, .int (nI xz2), .ref x47, .int (bI fg2), .int la2, .ref x50])), (x14, .inl (cZ, 256, .inl (upd im j (bI on))))] := hD
              refine lv_iload_n hx hb dX10_mark_71 rfl (lv_at hl 0 rfl) ?_
              refine lv_if_eq (tgt := 79) hx hb dX10_mark_72 (by decide) (fun c_72 => ?_) (fun c_72 => ?_)
              · skip
                have c_72 := bI_f c_72
                refine lv_iconst (v := 0) hx hb dX10_mark_79 (by decide) ?_
                exact ret_i hx hb hr hlocks ((upd im j (bI on)), (mz - 1)) ⟨(by first | exact hres | (rw [← aM_1 hok, ad_clamp hj9, c_72]; rfl)), (by first | exact (if_neg hno).symm | (rw [if_pos hok, ad_clamp hj9])), ((mk_off (n := 0) hj9 c_44 c_52).trans (if_pos hok).symm)⟩ (hP.sub [0, 1] rfl) (hD.sub [0, 1] (by decide) rfl) hS dX10_mark_80
              · skip
                have c_72 := bI_t c_72
                refine lv_iconst (v := 1) hx hb dX10_mark_75 (by decide) ?_
                refine lv_goto (tgt := 80) hx hb dX10_mark_76 (by decide) ?_
                exact ret_i hx hb hr hlocks ((upd im j (bI on)), (mz - 1)) ⟨(by first | exact hres | (rw [← aM_1 hok, ad_clamp hj9, c_72]; rfl)), (by first | exact (if_neg hno).symm | (rw [if_pos hok, ad_clamp hj9])), ((mk_off (n := 0) hj9 c_44 c_52).trans (if_pos hok).symm)⟩ (hP.sub [0, 1] rfl) (hD.sub [0, 1] (by decide) rfl) hS dX10_mark_80
            · skip
              have c_52 := bI_t c_52
              refine lv_iconst (v := 1) hx hb dX10_mark_55 (by decide) ?_
              refine lv_goto (tgt := 60) hx hb dX10_mark_56 (by decide) ?_
              refine lv_iadd hx hb dX10_mark_60 ?_
              refine set_i (y := nI (mz + 1)) (nI_1 mz) ?_
              refine va_put (D := D) (ci := 10) (v := .int (nI (mz + 1))) (ty := .int) (C := RX10) (T := TX10) (N := 51) hx hb hts (by decide +kernel) tyX10 tyX10_ok nmX10 hown hK hP hD hS 0 rfl rfl 15 (by decide) (hts (.fieldLink RX10 232 "TapeEngineModel" "marks" "I") (by decide +kernel)) (fun _ h9 => h9) rfl (by decide +kernel) rfl rfl (Nat.le_of_ble_eq_true rfl) dX10_mark_61 (fun H locs hP hD hS => ?_)
              have hP : va_P D vwCl [(m0, .inr (10, [.ref x0, .ref x1, .long hi, .long lo, .long mult, .int (nI nx), .int (nI tz), .int (nI ta), .ref x8, .int (nI xz), .ref x10, .int (bI fg), .int la, .ref x13, .ref x14, .int (nI (mz + 1)), .int re, .int en, .int pv, .int (nI ts), .int (nI nw), .ref x21, .ref x22, .ref x23, .ref x24, .ref x25, .ref x26, .ref x27, .ref x28, .ref x29, .ref x30, .ref x31, .ref x32, .ref x33, .int (bI hr0), .ref x35, .int (bI hk), .ref x37, .ref x38, .long hi2, .long lo2, .long mult2, .int (nI nx2), .int (nI tz2), .int (nI ta2), .ref x45, .int (nI xz2), .ref x47, .int (bI fg2), .int la2, .ref x50])), (x14, .inl (cZ, 256, .inl im))] H := hP
              have hD : va_D A [(m0, .inr (10, [.ref x0, .ref x1, .long hi, .long lo, .long mult, .int (nI nx), .int (nI tz), .int (nI ta), .ref x8, .int (nI xz), .ref x10, .int (bI fg), .int la, .ref x13, .ref x14, .int (nI (mz + 1)), .int re, .int en, .int pv, .int (nI ts), .int (nI nw), .ref x21, .ref x22, .ref x23, .ref x24, .ref x25, .ref x26, .ref x27, .ref x28, .ref x29, .ref x30, .ref x31, .ref x32, .ref x33, .int (bI hr0), .ref x35, .int (bI hk), .ref x37, .ref x38, .long hi2, .long lo2, .long mult2, .int (nI nx2), .int (nI tz2), .int (nI ta2), .ref x45, .int (nI xz2), .ref x47, .int (bI fg2), .int la2, .ref x50])), (x14, .inl (cZ, 256, .inl im))] := hD
              refine lv_aload_n hx hb dX10_mark_64 rfl (lv_at hl 1 rfl) ?_
              refine va_get (D := D) (ci := 10) (v := .ref x14) (C := RX10) (T := TX10) (N := 51) hx hb hts (by decide +kernel) hown hK hP 0 rfl rfl 14 (by decide) (hts (.fieldLink RX10 29 "TapeEngineModel" "isMark" "[Z") (by decide +kernel)) (fun _ h9 => h9) rfl dX10_mark_65 ?_
              refine lv_iload_n hx hb dX10_mark_68 rfl (lv_at hl 2 rfl) ?_
              refine lv_iload_n hx hb dX10_mark_69 rfl (lv_at hl 3 rfl) ?_
              refine xs_zast (k := j) hx hb hK hP hD hS 1 3 rfl rfl (by first | assumption | omega) (by decide) (bI_vn _) dX10_mark_70 (fun H locs hP hD hS => ?_)
              have hP : va_P D vwCl [(m0, .inr (10, [.ref x0, .ref x1, .long hi, .long lo, .long mult, .int (nI nx), .int (nI tz), .int (nI ta), .ref x8, .int (nI xz), .ref x10, .int (bI fg), .int la, .ref x13, .ref x14, .int (nI (mz + 1)), .int re, .int en, .int pv, .int (nI ts), .int (nI nw), .ref x21, .ref x22, .ref x23, .ref x24, .ref x25, .ref x26, .ref x27, .ref x28, .ref x29, .ref x30, .ref x31, .ref x32, .ref x33, .int (bI hr0), .ref x35, .int (bI hk), .ref x37, .ref x38, .long hi2, .long lo2, .long mult2, .int (nI nx2), .int (nI tz2), .int (nI ta2), .ref x45, .int (nI xz2), .ref x47, .int (bI fg2), .int la2, .ref x50])), (x14, .inl (cZ, 256, .inl (upd im j (bI on))))] H := hP
              have hD : va_D A [(m0, .inr (10, [.ref x0, .ref x1, .long hi, .long lo, .long mult, .int (nI nx), .int (nI tz), .int (nI ta), .ref x8, .int (nI xz), .ref x10, .int (bI fg), .int la, .ref x13, .ref x14, .int (nI (mz + 1)), .int re, .int en, .int pv, .int (nI ts), .int (nI nw), .ref x21, .ref x22, .ref x23, .ref x24, .ref x25, .ref x26, .ref x27, .ref x28, .ref x29, .ref x30, .ref x31, .ref x32, .ref x33, .int (bI hr0), .ref x35, .int (bI hk), .ref x37, .ref x38, .long hi2, .long lo2, .long mult2, .int (nI nx2), .int (nI tz2), .int (nI ta2), .ref x45, .int (nI xz2), .ref x47, .int (bI fg2), .int la2, .ref x50])), (x14, .inl (cZ, 256, .inl (upd im j (bI on))))] := hD
              refine lv_iload_n hx hb dX10_mark_71 rfl (lv_at hl 0 rfl) ?_
              refine lv_if_eq (tgt := 79) hx hb dX10_mark_72 (by decide) (fun c_72 => ?_) (fun c_72 => ?_)
              · skip
                have c_72 := bI_f c_72
                refine lv_iconst (v := 0) hx hb dX10_mark_79 (by decide) ?_
                exact ret_i hx hb hr hlocks ((upd im j (bI on)), (mz + 1)) ⟨(by first | exact hres | (rw [← aM_1 hok, ad_clamp hj9, c_72]; rfl)), (by first | exact (if_neg hno).symm | (rw [if_pos hok, ad_clamp hj9])), ((mk_on (n := 0) hj9 c_44 c_52).trans (if_pos hok).symm)⟩ (hP.sub [0, 1] rfl) (hD.sub [0, 1] (by decide) rfl) hS dX10_mark_80
              · skip
                have c_72 := bI_t c_72
                refine lv_iconst (v := 1) hx hb dX10_mark_75 (by decide) ?_
                refine lv_goto (tgt := 80) hx hb dX10_mark_76 (by decide) ?_
                exact ret_i hx hb hr hlocks ((upd im j (bI on)), (mz + 1)) ⟨(by first | exact hres | (rw [← aM_1 hok, ad_clamp hj9, c_72]; rfl)), (by first | exact (if_neg hno).symm | (rw [if_pos hok, ad_clamp hj9])), ((mk_on (n := 0) hj9 c_44 c_52).trans (if_pos hok).symm)⟩ (hP.sub [0, 1] rfl) (hD.sub [0, 1] (by decide) rfl) hS dX10_mark_80
          · skip
            have c_44 := bI_inj c_44
            refine lv_iconst (v := 0) hx hb dX10_mark_47 (by decide) ?_
            refine lv_goto (tgt := 60) hx hb dX10_mark_48 (by decide) ?_
            refine lv_iadd hx hb dX10_mark_60 ?_
            refine set_i (y := nI mz) (ad0 _) ?_
            refine va_put (D := D) (ci := 10) (v := .int (nI mz)) (ty := .int) (C := RX10) (T := TX10) (N := 51) hx hb hts (by decide +kernel) tyX10 tyX10_ok nmX10 hown hK hP hD hS 0 rfl rfl 15 (by decide) (hts (.fieldLink RX10 232 "TapeEngineModel" "marks" "I") (by decide +kernel)) (fun _ h9 => h9) rfl (by decide +kernel) rfl rfl (Nat.le_of_ble_eq_true rfl) dX10_mark_61 (fun H locs hP hD hS => ?_)
            have hP : va_P D vwCl [(m0, .inr (10, [.ref x0, .ref x1, .long hi, .long lo, .long mult, .int (nI nx), .int (nI tz), .int (nI ta), .ref x8, .int (nI xz), .ref x10, .int (bI fg), .int la, .ref x13, .ref x14, .int (nI mz), .int re, .int en, .int pv, .int (nI ts), .int (nI nw), .ref x21, .ref x22, .ref x23, .ref x24, .ref x25, .ref x26, .ref x27, .ref x28, .ref x29, .ref x30, .ref x31, .ref x32, .ref x33, .int (bI hr0), .ref x35, .int (bI hk), .ref x37, .ref x38, .long hi2, .long lo2, .long mult2, .int (nI nx2), .int (nI tz2), .int (nI ta2), .ref x45, .int (nI xz2), .ref x47, .int (bI fg2), .int la2, .ref x50])), (x14, .inl (cZ, 256, .inl im))] H := hP
            have hD : va_D A [(m0, .inr (10, [.ref x0, .ref x1, .long hi, .long lo, .long mult, .int (nI nx), .int (nI tz), .int (nI ta), .ref x8, .int (nI xz), .ref x10, .int (bI fg), .int la, .ref x13, .ref x14, .int (nI mz), .int re, .int en, .int pv, .int (nI ts), .int (nI nw), .ref x21, .ref x22, .ref x23, .ref x24, .ref x25, .ref x26, .ref x27, .ref x28, .ref x29, .ref x30, .ref x31, .ref x32, .ref x33, .int (bI hr0), .ref x35, .int (bI hk), .ref x37, .ref x38, .long hi2, .long lo2, .long mult2, .int (nI nx2), .int (nI tz2), .int (nI ta2), .ref x45, .int (nI xz2), .ref x47, .int (bI fg2), .int la2, .ref x50])), (x14, .inl (cZ, 256, .inl im))] := hD
            refine lv_aload_n hx hb dX10_mark_64 rfl (lv_at hl 1 rfl) ?_
            refine va_get (D := D) (ci := 10) (v := .ref x14) (C := RX10) (T := TX10) (N := 51) hx hb hts (by decide +kernel) hown hK hP 0 rfl rfl 14 (by decide) (hts (.fieldLink RX10 29 "TapeEngineModel" "isMark" "[Z") (by decide +kernel)) (fun _ h9 => h9) rfl dX10_mark_65 ?_
            refine lv_iload_n hx hb dX10_mark_68 rfl (lv_at hl 2 rfl) ?_
            refine lv_iload_n hx hb dX10_mark_69 rfl (lv_at hl 3 rfl) ?_
            refine xs_zast (k := j) hx hb hK hP hD hS 1 3 rfl rfl (by first | assumption | omega) (by decide) (bI_vn _) dX10_mark_70 (fun H locs hP hD hS => ?_)
            have hP : va_P D vwCl [(m0, .inr (10, [.ref x0, .ref x1, .long hi, .long lo, .long mult, .int (nI nx), .int (nI tz), .int (nI ta), .ref x8, .int (nI xz), .ref x10, .int (bI fg), .int la, .ref x13, .ref x14, .int (nI mz), .int re, .int en, .int pv, .int (nI ts), .int (nI nw), .ref x21, .ref x22, .ref x23, .ref x24, .ref x25, .ref x26, .ref x27, .ref x28, .ref x29, .ref x30, .ref x31, .ref x32, .ref x33, .int (bI hr0), .ref x35, .int (bI hk), .ref x37, .ref x38, .long hi2, .long lo2, .long mult2, .int (nI nx2), .int (nI tz2), .int (nI ta2), .ref x45, .int (nI xz2), .ref x47, .int (bI fg2), .int la2, .ref x50])), (x14, .inl (cZ, 256, .inl (upd im j (bI on))))] H := hP
            have hD : va_D A [(m0, .inr (10, [.ref x0, .ref x1, .long hi, .long lo, .long mult, .int (nI nx), .int (nI tz), .int (nI ta), .ref x8, .int (nI xz), .ref x10, .int (bI fg), .int la, .ref x13, .ref x14, .int (nI mz), .int re, .int en, .int pv, .int (nI ts), .int (nI nw), .ref x21, .ref x22, .ref x23, .ref x24, .ref x25, .ref x26, .ref x27, .ref x28, .ref x29, .ref x30, .ref x31, .ref x32, .ref x33, .int (bI hr0), .ref x35, .int (bI hk), .ref x37, .ref x38, .long hi2, .long lo2, .long mult2, .int (nI nx2), .int (nI tz2), .int (nI ta2), .ref x45, .int (nI xz2), .ref x47, .int (bI fg2), .int la2, .ref x50])), (x14, .inl (cZ, 256, .inl (upd im j (bI on))))] := hD
            refine lv_iload_n hx hb dX10_mark_71 rfl (lv_at hl 0 rfl) ?_
            refine lv_if_eq (tgt := 79) hx hb dX10_mark_72 (by decide) (fun c_72 => ?_) (fun c_72 => ?_)
            · skip
              have c_72 := bI_f c_72
              refine lv_iconst (v := 0) hx hb dX10_mark_79 (by decide) ?_
              exact ret_i hx hb hr hlocks ((upd im j (bI on)), mz) ⟨(by first | exact hres | (rw [← aM_1 hok, ad_clamp hj9, c_72]; rfl)), (by first | exact (if_neg hno).symm | (rw [if_pos hok, ad_clamp hj9])), ((mk_eq (n := 0) hj9 c_44).trans (if_pos hok).symm)⟩ (hP.sub [0, 1] rfl) (hD.sub [0, 1] (by decide) rfl) hS dX10_mark_80
            · skip
              have c_72 := bI_t c_72
              refine lv_iconst (v := 1) hx hb dX10_mark_75 (by decide) ?_
              refine lv_goto (tgt := 80) hx hb dX10_mark_76 (by decide) ?_
              exact ret_i hx hb hr hlocks ((upd im j (bI on)), mz) ⟨(by first | exact hres | (rw [← aM_1 hok, ad_clamp hj9, c_72]; rfl)), (by first | exact (if_neg hno).symm | (rw [if_pos hok, ad_clamp hj9])), ((mk_eq (n := 0) hj9 c_44).trans (if_pos hok).symm)⟩ (hP.sub [0, 1] rfl) (hD.sub [0, 1] (by decide) rfl) hS dX10_mark_80
        · skip
          have c_31 : mz = 8 := (nI_eq (a := mz) (b := 8) (by omega) (by omega)).mp c_31
          have hfu : mkF (nI j) on im mz := ⟨c_18, by rw [ad_clamp hj9]; exact c_22, by omega⟩
          have hno : ¬ okM (nI j) on im mz := fun z => z.2 hfu
          have hres : -5 = aM (nI j) on im mz := aM_5 (ad_nI hj9) hfu
          refine lv_bipush (v := (-5)) hx hb dX10_mark_34 (by decide) ?_
          exact ret_i hx hb hr hlocks (im, mz) ⟨(by first | exact hres | (rw [← aM_1 hok, ad_clamp hj9, c_72]; rfl)), (by first | exact (if_neg hno).symm | (rw [if_pos hok, ad_clamp hj9])), (if_neg hno).symm⟩ (hP.sub [0, 1] rfl) (hD.sub [0, 1] (by decide) rfl) hS dX10_mark_36
  · skip
    have c_4 := bI_f c_4
    have hno : ¬ okM n on im mz := fun z => by first | exact ad_no c_4 z.1
    have hres : -2 = aM n on im mz := by first | exact aM_2 c_4
    refine lv_bipush (v := (-2)) hx hb dX10_mark_7 (by decide) ?_
    exact ret_i hx hb hr hlocks (im, mz) ⟨(by first | exact hres | (rw [← aM_1 hok, ad_clamp hj9, c_72]; rfl)), (by first | exact (if_neg hno).symm | (rw [if_pos hok, ad_clamp hj9])), (if_neg hno).symm⟩ (hP.sub [0, 1] rfl) (hD.sub [0, 1] (by decide) rfl) hS dX10_mark_9
