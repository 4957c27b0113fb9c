set_option maxHeartbeats 4000000 in
set_option maxRecDepth 100000 in
theorem kX7_append (l : Launch) (D : va_G) (Z : SZ) (cB cI cJ cZ : ClassId) (ksz : Nat) (h0 : Nat) (h1 : Nat) (tp : Nat → Int32) (tz : Nat) (ta : Nat) (x : Nat) (hz : tz < 1000) (hx9 : x < 128) : Met l yX7_append wsX7_append { frames := 0, cells := 0, slots := 0, locals := 0 } (PR D Z [(cB, .byte), (cI, .int), (cJ, .long), (cZ, .boolean)] [.ref h0, .int (nI x)] [(h0, .inr (7, [.ref h1, .int (nI tz), .int (nI ta)])), (h1, .inl (cB, 1000, .inl tp))] ksz) (QV D (fun (u : (Nat → Int32)) => u = (upd tp tz (nI x))) (fun (u : (Nat → Int32)) => [(h0, .inr (7, [.ref h1, .int (nI (tz + 1)), .int (nI ta)])), (h1, .inl (cB, 1000, .inl u))]) (va_A [(h0, .inr (7, [.ref h1, .int (nI tz), .int (nI ta)])), (h1, .inl (cB, 1000, .inl tp))] ksz)) 0 0 (va_A [(h0, .inr (7, [.ref h1, .int (nI tz), .int (nI ta)])), (h1, .inl (cB, 1000, .inl tp))] ksz) := by
  refine met_g (QV D (fun (u : (Nat → Int32)) => u = (upd tp tz (nI x))) (fun (u : (Nat → Int32)) => [(h0, .inr (7, [.ref h1, .int (nI (tz + 1)), .int (nI ta)])), (h1, .inl (cB, 1000, .inl u))])) cX7_append 2 none (by decide) rfl (Nat.le_of_ble_eq_true rfl) ?_
  intro p e s m below meth c A ls hx hb hr hts hown hlocks hml hin hA hP hK hD hE hS hl hsz
  clear hsz
  have hl : lv_has ls 2 [(0, .ref h0), (1, .int (nI x))] := hl
  refine lv_aload_n hx hb dX7_append_0 rfl (lv_at hl 0 rfl) ?_
  refine va_get (D := D) (ci := 7) (v := .int (nI tz)) (C := RX7) (T := TX7) (N := 3) hx hb hts (by decide +kernel) hown hK hP 0 rfl rfl 1 (by decide) (hts (.fieldLink RX7 15 "TapeEngine$Tape" "length" "I") (by decide +kernel)) (fun _ h9 => h9) rfl dX7_append_1 ?_
  refine lv_if_lt (tgt := 38) hx hb dX7_append_4 (by decide) (fun c_4 => ?_) (fun c_4 => ?_)
  · skip
    have c_4 : tz < 0 := (nI_ltI (a := tz) (b := 0) (by omega) (by omega)).mp c_4
    exact absurd c_4 (Nat.not_lt_zero _)
  · skip
    have c_4 : ¬ tz < 0 := fun z => c_4 ((nI_ltI (a := tz) (b := 0) (by omega) (by omega)).mpr z)
    refine lv_aload_n hx hb dX7_append_7 rfl (lv_at hl 0 rfl) ?_
    refine va_get (D := D) (ci := 7) (v := .int (nI tz)) (C := RX7) (T := TX7) (N := 3) hx hb hts (by decide +kernel) hown hK hP 0 rfl rfl 1 (by decide) (hts (.fieldLink RX7 15 "TapeEngine$Tape" "length" "I") (by decide +kernel)) (fun _ h9 => h9) rfl dX7_append_8 ?_
    refine lv_sipush (v := (nI 1000)) hx hb dX7_append_11 (by decide) ?_
    refine lv_icmp_ge (tgt := 38) hx hb dX7_append_14 (by decide) (fun c_14 => ?_) (fun c_14 => ?_)
    · skip
      have c_14 : 1000 ≤ tz := (nI_leI (a := 1000) (b := tz) (by omega) (by omega)).mp c_14
      exfalso
      omega
    · skip
      have c_14 : ¬ 1000 ≤ tz := fun z => c_14 ((nI_leI (a := 1000) (b := tz) (by omega) (by omega)).mpr z)
      refine lv_aload_n hx hb dX7_append_17 rfl (lv_at hl 0 rfl) ?_
      refine va_get (D := D) (ci := 7) (v := .ref h1) (C := RX7) (T := TX7) (N := 3) hx hb hts (by decide +kernel) hown hK hP 0 rfl rfl 0 (by decide) (hts (.fieldLink RX7 9 "TapeEngine$Tape" "symbols" "[B") (by decide +kernel)) (fun _ h9 => h9) rfl dX7_append_18 ?_
      refine lv_aload_n hx hb dX7_append_21 rfl (lv_at hl 0 rfl) ?_
      refine va_get (D := D) (ci := 7) (v := .int (nI tz)) (C := RX7) (T := TX7) (N := 3) hx hb hts (by decide +kernel) hown hK hP 0 rfl rfl 1 (by decide) (hts (.fieldLink RX7 15 "TapeEngine$Tape" "length" "I") (by decide +kernel)) (fun _ h9 => h9) rfl dX7_append_22 ?_
      refine lv_iload_n hx hb dX7_append_25 rfl (lv_at hl 1 rfl) ?_
      refine lv_i2b hx hb dX7_append_26 rfl ?_
      refine set_i (y := nI x) (e_i2b x (by omega)) ?_
      refine xs_bast (k := tz) hx hb hK hP hD hS 1 0 rfl rfl (by first | assumption | omega) (by decide) (e_nb x (by omega)) dX7_append_27 (fun H locs hP hD hS => ?_)
      have hP : va_P D vwCl [(h0, .inr (7, [.ref h1, .int (nI tz), .int (nI ta)])), (h1, .inl (cB, 1000, .inl (upd tp tz (nI x))))] H := hP
      have hD : va_D A [(h0, .inr (7, [.ref h1, .int (nI tz), .int (nI ta)])), (h1, .inl (cB, 1000, .inl (upd tp tz (nI x))))] := hD
      refine lv_aload_n hx hb dX7_append_28 rfl (lv_at hl 0 rfl) ?_
      refine lv_dup hx hb dX7_append_29 rfl ?_
      refine va_get (D := D) (ci := 7) (v := .int (nI tz)) (C := RX7) (T := TX7) (N := 3) hx hb hts (by decide +kernel) hown hK hP 0 rfl rfl 1 (by decide) (hts (.fieldLink RX7 15 "TapeEngine$Tape" "length" "I") (by decide +kernel)) (fun _ h9 => h9) rfl dX7_append_30 ?_
      refine lv_iconst (v := 1) hx hb dX7_append_33 (by decide) ?_
      refine lv_iadd hx hb dX7_append_34 ?_
      refine set_i (y := nI (tz + 1)) (nI_1 tz) ?_
      refine va_put (D := D) (ci := 7) (v := .int (nI (tz + 1))) (ty := .int) (C := RX7) (T := TX7) (N := 3) hx hb hts (by decide +kernel) tyX7 tyX7_ok nmX7 hown hK hP hD hS 0 rfl rfl 1 (by decide) (hts (.fieldLink RX7 15 "TapeEngine$Tape" "length" "I") (by decide +kernel)) (fun _ h9 => h9) rfl (by decide +kernel) rfl rfl (Nat.le_of_ble_eq_true rfl) dX7_append_35 (fun H locs hP hD hS => ?_)
      have hP : va_P D vwCl [(h0, .inr (7, [.ref h1, .int (nI (tz + 1)), .int (nI ta)])), (h1, .inl (cB, 1000, .inl (upd tp tz (nI x))))] H := hP
      have hD : va_D A [(h0, .inr (7, [.ref h1, .int (nI (tz + 1)), .int (nI ta)])), (h1, .inl (cB, 1000, .inl (upd tp tz (nI x))))] := hD
      exact ret_v hx hb hr hlocks ((upd tp tz (nI x))) (by rfl) (hP.sub [0, 1] rfl) (hD.sub [0, 1] (by decide) rfl) hS dX7_append_38

set_option maxHeartbeats 4000000 in
set_option maxRecDepth 100000 in
theorem kX7_isAtEnd (l : Launch) (D : va_G) (Z : SZ) (cB cI cJ cZ : ClassId) (ksz : Nat) (h0 : Nat) (h1 : Nat) (tz : Nat) (ta : Nat) (hz : tz ≤ 1000) (ha : ta ≤ tz) : Met l yX7_isAtEnd wsX7_isAtEnd { frames := 0, cells := 0, slots := 0, locals := 0 } (PR D Z [(cB, .byte), (cI, .int), (cJ, .long), (cZ, .boolean)] [.ref h0] [(h0, .inr (7, [.ref h1, .int (nI tz), .int (nI ta)]))] ksz) (QI D (fun (r : Int32) (_ : Unit) => r = (bI (decide (tz ≤ ta)))) (fun (_ : Unit) => [(h0, .inr (7, [.ref h1, .int (nI tz), .int (nI ta)]))]) (va_A [(h0, .inr (7, [.ref h1, .int (nI tz), .int (nI ta)]))] ksz)) 0 0 (va_A [(h0, .inr (7, [.ref h1, .int (nI tz), .int (nI ta)]))] ksz) := by
  refine met_g (QI D (fun (r : Int32) (_ : Unit) => r = (bI (decide (tz ≤ ta)))) (fun (_ : Unit) => [(h0, .inr (7, [.ref h1, .int (nI tz), .int (nI ta)]))])) cX7_isAtEnd 1 (some .boolean) (by decide) rfl (Nat.le_of_ble_eq_true rfl) ?_
  intro p e s m below meth c A ls hx hb hr hts hown hlocks hml hin hA hP hK hD hE hS hl hsz
  clear hsz
  have hl : lv_has ls 1 [(0, .ref h0)] := hl
  refine lv_aload_n hx hb dX7_isAtEnd_0 rfl (lv_at hl 0 rfl) ?_
  refine va_get (D := D) (ci := 7) (v := .int (nI ta)) (C := RX7) (T := TX7) (N := 3) hx hb hts (by decide +kernel) hown hK hP 0 rfl rfl 2 (by decide) (hts (.fieldLink RX7 19 "TapeEngine$Tape" "place" "I") (by decide +kernel)) (fun _ h9 => h9) rfl dX7_isAtEnd_1 ?_
  refine lv_aload_n hx hb dX7_isAtEnd_4 rfl (lv_at hl 0 rfl) ?_
  refine va_get (D := D) (ci := 7) (v := .int (nI tz)) (C := RX7) (T := TX7) (N := 3) hx hb hts (by decide +kernel) hown hK hP 0 rfl rfl 1 (by decide) (hts (.fieldLink RX7 15 "TapeEngine$Tape" "length" "I") (by decide +kernel)) (fun _ h9 => h9) rfl dX7_isAtEnd_5 ?_
  refine lv_icmp_lt (tgt := 15) hx hb dX7_isAtEnd_8 (by decide) (fun c_8 => ?_) (fun c_8 => ?_)
  · skip
    have c_8 : ta < tz := (nI_ltI (a := ta) (b := tz) (by omega) (by omega)).mp c_8
    refine lv_iconst (v := 0) hx hb dX7_isAtEnd_15 (by decide) ?_
    exact ret_z hx hb hr rfl hlocks () (by first | exact bI_y (by omega) | exact bI_n (by omega)) (hP.sub [0] rfl) (hD.sub [0] (by decide) rfl) hS dX7_isAtEnd_16
  · skip
    have c_8 : ¬ ta < tz := fun z => c_8 ((nI_ltI (a := ta) (b := tz) (by omega) (by omega)).mpr z)
    refine lv_iconst (v := 1) hx hb dX7_isAtEnd_11 (by decide) ?_
    refine lv_goto (tgt := 16) hx hb dX7_isAtEnd_12 (by decide) ?_
    exact ret_z hx hb hr rfl hlocks () (by first | exact bI_y (by omega) | exact bI_n (by omega)) (hP.sub [0] rfl) (hD.sub [0] (by decide) rfl) hS dX7_isAtEnd_16

set_option maxHeartbeats 4000000 in
set_option maxRecDepth 100000 in
theorem kX7_take_s (l : Launch) (D : va_G) (Z : SZ) (cB cI cJ cZ : ClassId) (ksz : Nat) (h0 : Nat) (h1 : Nat) (tp : Nat → Int32) (tz : Nat) (ta : Nat) (hz : tz ≤ 1000) (ha : ta < tz) : Met l yX7_take wsX7_take { frames := 1, cells := 0, slots := 0, locals := 20 } (PR D Z [(cB, .byte), (cI, .int), (cJ, .long), (cZ, .boolean)] [.ref h0] [(h0, .inr (7, [.ref h1, .int (nI tz), .int (nI ta)])), (h1, .inl (cB, 1000, .inl tp))] ksz) (QI D (fun (r : Int32) (_ : Unit) => r = (tp ta)) (fun (_ : Unit) => [(h0, .inr (7, [.ref h1, .int (nI tz), .int (nI (ta + 1))])), (h1, .inl (cB, 1000, .inl tp))]) (va_A [(h0, .inr (7, [.ref h1, .int (nI tz), .int (nI ta)])), (h1, .inl (cB, 1000, .inl tp))] ksz)) 0 0 (va_A [(h0, .inr (7, [.ref h1, .int (nI tz), .int (nI ta)])), (h1, .inl (cB, 1000, .inl tp))] ksz) := by
  refine met_g (QI D (fun (r : Int32) (_ : Unit) => r = (tp ta)) (fun (_ : Unit) => [(h0, .inr (7, [.ref h1, .int (nI tz), .int (nI (ta + 1))])), (h1, .inl (cB, 1000, .inl tp))])) cX7_take 2 (some .int) (by decide) rfl (Nat.le_of_ble_eq_true rfl) ?_
  intro p e s m below meth c A ls hx hb hr hts hown hlocks hml hin hA hP hK hD hE hS hl hsz
  clear hsz
  have hl : lv_has ls 2 [(0, .ref h0)] := hl
  refine lv_aload_n hx hb dX7_take_0 rfl (lv_at hl 0 rfl) ?_
  refine kV_i (As := []) (rest := []) (wr := [(h1, .inl (cB, 1000, .inl tp))]) ⟨hx, hb, hml, hown, hts⟩ (kX7_isAtEnd l D Z cB cI cJ cZ s.heap.size h0 h1 tz ta (by first | assumption | omega) (by first | assumption | omega)) (cwV 0 hts gX7_take_X7_isAtEnd rfl rfl rfl (by decide +kernel) ⟨Nat.le_of_ble_eq_true rfl, Nat.le_of_ble_eq_true rfl⟩) hK hE hP hD hS hA 0 7 rfl rfl rfl [0] [1] rfl rfl rfl rfl rfl (by decide) hl.1 rfl rfl (Nat.le_of_ble_eq_true rfl) dX7_take_1 ⟨Nat.le_of_ble_eq_true rfl, Nat.le_of_ble_eq_true rfl⟩ (fun r u H locs hp hP hD hS => ?_)
  try dsimp only at hp
  have hq_0 := hp
  have hq_0 := hq_0.symm
  subst hq_0
  have hP : va_P D vwCl [(h1, .inl (cB, 1000, .inl tp)), (h0, .inr (7, [.ref h1, .int (nI tz), .int (nI ta)]))] H := hP
  have hD : va_D A [(h1, .inl (cB, 1000, .inl tp)), (h0, .inr (7, [.ref h1, .int (nI tz), .int (nI ta)]))] := hD
  refine lv_if_ne (tgt := 24) hx hb dX7_take_4 (by decide) (fun c_4 => ?_) (fun c_4 => ?_)
  · skip
    have c_4 := bI_t c_4
    have c_4 := of_decide_eq_true c_4
    exfalso
    omega
  · skip
    have c_4 := bI_f c_4
    have c_4 := of_decide_eq_false c_4
    refine lv_aload_n hx hb dX7_take_7 rfl (lv_at hl 0 rfl) ?_
    refine va_get (D := D) (ci := 7) (v := .int (nI ta)) (C := RX7) (T := TX7) (N := 3) hx hb hts (by decide +kernel) hown hK hP 1 rfl rfl 2 (by decide) (hts (.fieldLink RX7 19 "TapeEngine$Tape" "place" "I") (by decide +kernel)) (fun _ h9 => h9) rfl dX7_take_8 ?_
    refine lv_if_lt (tgt := 24) hx hb dX7_take_11 (by decide) (fun c_11 => ?_) (fun c_11 => ?_)
    · skip
      have c_11 : ta < 0 := (nI_ltI (a := ta) (b := 0) (by omega) (by omega)).mp c_11
      exact absurd c_11 (Nat.not_lt_zero _)
    · skip
      have c_11 : ¬ ta < 0 := fun z => c_11 ((nI_ltI (a := ta) (b := 0) (by omega) (by omega)).mpr z)
      refine lv_aload_n hx hb dX7_take_14 rfl (lv_at hl 0 rfl) ?_
      refine va_get (D := D) (ci := 7) (v := .int (nI ta)) (C := RX7) (T := TX7) (N := 3) hx hb hts (by decide +kernel) hown hK hP 1 rfl rfl 2 (by decide) (hts (.fieldLink RX7 19 "TapeEngine$Tape" "place" "I") (by decide +kernel)) (fun _ h9 => h9) rfl dX7_take_15 ?_
      refine lv_sipush (v := (nI 1000)) hx hb dX7_take_18 (by decide) ?_
      refine lv_icmp_lt (tgt := 26) hx hb dX7_take_21 (by decide) (fun c_21 => ?_) (fun c_21 => ?_)
      · skip
        have c_21 : ta < 1000 := (nI_ltI (a := ta) (b := 1000) (by omega) (by omega)).mp c_21
        refine lv_aload_n hx hb dX7_take_26 rfl (lv_at hl 0 rfl) ?_
        refine va_get (D := D) (ci := 7) (v := .ref h1) (C := RX7) (T := TX7) (N := 3) hx hb hts (by decide +kernel) hown hK hP 1 rfl rfl 0 (by decide) (hts (.fieldLink RX7 9 "TapeEngine$Tape" "symbols" "[B") (by decide +kernel)) (fun _ h9 => h9) rfl dX7_take_27 ?_
        refine lv_aload_n hx hb dX7_take_30 rfl (lv_at hl 0 rfl) ?_
        refine va_get (D := D) (ci := 7) (v := .int (nI ta)) (C := RX7) (T := TX7) (N := 3) hx hb hts (by decide +kernel) hown hK hP 1 rfl rfl 2 (by decide) (hts (.fieldLink RX7 19 "TapeEngine$Tape" "place" "I") (by decide +kernel)) (fun _ h9 => h9) rfl dX7_take_31 ?_
        refine xs_bald (k := ta) hx hb hK hP 0 0 rfl rfl (by first | assumption | omega) (by decide) dX7_take_34 ?_
        refine lv_istore_n (lv' := [(1, .int (tp ta)), (0, .ref h0)]) hx hb dX7_take_35 rfl hl (by decide) rfl (fun ls hl => ?_)
        refine lv_aload_n hx hb dX7_take_36 rfl (lv_at hl 1 rfl) ?_
        refine lv_dup hx hb dX7_take_37 rfl ?_
        refine va_get (D := D) (ci := 7) (v := .int (nI ta)) (C := RX7) (T := TX7) (N := 3) hx hb hts (by decide +kernel) hown hK hP 1 rfl rfl 2 (by decide) (hts (.fieldLink RX7 19 "TapeEngine$Tape" "place" "I") (by decide +kernel)) (fun _ h9 => h9) rfl dX7_take_38 ?_
        refine lv_iconst (v := 1) hx hb dX7_take_41 (by decide) ?_
        refine lv_iadd hx hb dX7_take_42 ?_
        refine set_i (y := nI (ta + 1)) (nI_1 ta) ?_
        refine va_put (D := D) (ci := 7) (v := .int (nI (ta + 1))) (ty := .int) (C := RX7) (T := TX7) (N := 3) hx hb hts (by decide +kernel) tyX7 tyX7_ok nmX7 hown hK hP hD hS 1 rfl rfl 2 (by decide) (hts (.fieldLink RX7 19 "TapeEngine$Tape" "place" "I") (by decide +kernel)) (fun _ h9 => h9) rfl (by decide +kernel) rfl rfl (Nat.le_of_ble_eq_true rfl) dX7_take_43 (fun H locs hP hD hS => ?_)
        have hP : va_P D vwCl [(h1, .inl (cB, 1000, .inl tp)), (h0, .inr (7, [.ref h1, .int (nI tz), .int (nI (ta + 1))]))] H := hP
        have hD : va_D A [(h1, .inl (cB, 1000, .inl tp)), (h0, .inr (7, [.ref h1, .int (nI tz), .int (nI (ta + 1))]))] := hD
        refine lv_iload_n hx hb dX7_take_46 rfl (lv_at hl 0 rfl) ?_
        exact ret_i hx hb hr hlocks () (by rfl) (hP.sub [1, 0] rfl) (hD.sub [1, 0] (by decide) rfl) hS dX7_take_47
      · skip
        have c_21 : ¬ ta < 1000 := fun z => c_21 ((nI_ltI (a := ta) (b := 1000) (by omega) (by omega)).mpr z)
        exfalso
        omega

set_option maxHeartbeats 4000000 in
set_option maxRecDepth 100000 in
theorem kX7_take_n (l : Launch) (D : va_G) (Z : SZ) (cB cI cJ cZ : ClassId) (ksz : Nat) (h0 : Nat) (h1 : Nat) (tz : Nat) (ta : Nat) (hz : tz ≤ 1000) (ha : ta = tz) : Met l yX7_take wsX7_take { frames := 1, cells := 0, slots := 0, locals := 20 } (PR D Z [(cB, .byte), (cI, .int), (cJ, .long), (cZ, .boolean)] [.ref h0] [(h0, .inr (7, [.ref h1, .int (nI tz), .int (nI ta)]))] ksz) (QI D (fun (r : Int32) (_ : Unit) => r = (-1)) (fun (_ : Unit) => [(h0, .inr (7, [.ref h1, .int (nI tz), .int (nI ta)]))]) (va_A [(h0, .inr (7, [.ref h1, .int (nI tz), .int (nI ta)]))] ksz)) 0 0 (va_A [(h0, .inr (7, [.ref h1, .int (nI tz), .int (nI ta)]))] ksz) := by
  refine met_g (QI D (fun (r : Int32) (_ : Unit) => r = (-1)) (fun (_ : Unit) => [(h0, .inr (7, [.ref h1, .int (nI tz), .int (nI ta)]))])) cX7_take 2 (some .int) (by decide) rfl (Nat.le_of_ble_eq_true rfl) ?_
  intro p e s m below meth c A ls hx hb hr hts hown hlocks hml hin hA hP hK hD hE hS hl hsz
  clear hsz
  have hl : lv_has ls 2 [(0, .ref h0)] := hl
  refine lv_aload_n hx hb dX7_take_0 rfl (lv_at hl 0 rfl) ?_
  refine kV_i (As := []) (rest := []) (wr := []) ⟨hx, hb, hml, hown, hts⟩ (kX7_isAtEnd l D Z cB cI cJ cZ s.heap.size h0 h1 tz ta (by first | assumption | omega) (by first | assumption | omega)) (cwV 0 hts gX7_take_X7_isAtEnd rfl rfl rfl (by decide +kernel) ⟨Nat.le_of_ble_eq_true rfl, Nat.le_of_ble_eq_true rfl⟩) hK hE hP hD hS hA 0 7 rfl rfl rfl [0] [] rfl rfl rfl rfl rfl (by decide) hl.1 rfl rfl (Nat.le_of_ble_eq_true rfl) dX7_take_1 ⟨Nat.le_of_ble_eq_true rfl, Nat.le_of_ble_eq_true rfl⟩ (fun r u H locs hp hP hD hS => ?_)
  try dsimp only at hp
  have hq_0 := hp
  have hq_0 := hq_0.symm
  subst hq_0
  have hP : va_P D vwCl [(h0, .inr (7, [.ref h1, .int (nI tz), .int (nI ta)]))] H := hP
  have hD : va_D A [(h0, .inr (7, [.ref h1, .int (nI tz), .int (nI ta)]))] := hD
  refine lv_if_ne (tgt := 24) hx hb dX7_take_4 (by decide) (fun c_4 => ?_) (fun c_4 => ?_)
  · skip
    have c_4 := bI_t c_4
    have c_4 := of_decide_eq_true c_4
    refine lv_iconst (v := (-1)) hx hb dX7_take_24 (by decide) ?_
    exact ret_i hx hb hr hlocks () (by rfl) (hP.sub [0] rfl) (hD.sub [0] (by decide) rfl) hS dX7_take_25
  · skip
    have c_4 := bI_f c_4
    have c_4 := of_decide_eq_false c_4
    exfalso
    omega

set_option maxHeartbeats 4000000 in
set_option maxRecDepth 100000 in
theorem kX7_copyFrom (l : Launch) (D : va_G) (Z : SZ) (cB cI cJ cZ : ClassId) (ksz : Nat) (h0 : Nat) (h1 : Nat) (g0 : Nat) (g1 : Nat) (tp : Nat → Int32) (tp2 : Nat → Int32) (tz : Nat) (ta : Nat) (tz2 : Nat) (ta2 : Nat) (hf : ∀ j : Nat, fits .byte (.int (tp2 j)) = true) : Met l yX7_copyFrom wsX7_copyFrom { frames := 1, cells := 0, slots := 0, locals := 60 } (PR D Z [(cB, .byte), (cI, .int), (cJ, .long), (cZ, .boolean)] [.ref h0, .ref g0] [(h0, .inr (7, [.ref h1, .int (nI tz), .int (nI ta)])), (h1, .inl (cB, 1000, .inl tp)), (g0, .inr (7, [.ref g1, .int (nI tz2), .int (nI ta2)])), (g1, .inl (cB, 1000, .inl tp2))] ksz) (QV D (fun (u : (Nat → Int32)) => u = (cpy 1000 tp2 tp)) (fun (u : (Nat → Int32)) => [(h0, .inr (7, [.ref h1, .int (nI tz2), .int (nI ta2)])), (h1, .inl (cB, 1000, .inl u)), (g0, .inr (7, [.ref g1, .int (nI tz2), .int (nI ta2)])), (g1, .inl (cB, 1000, .inl tp2))]) (va_A [(h0, .inr (7, [.ref h1, .int (nI tz), .int (nI ta)])), (h1, .inl (cB, 1000, .inl tp)), (g0, .inr (7, [.ref g1, .int (nI tz2), .int (nI ta2)])), (g1, .inl (cB, 1000, .inl tp2))] ksz)) 0 0 (va_A [(h0, .inr (7, [.ref h1, .int (nI tz), .int (nI ta)])), (h1, .inl (cB, 1000, .inl tp)), (g0, .inr (7, [.ref g1, .int (nI tz2), .int (nI ta2)])), (g1, .inl (cB, 1000, .inl tp2))] ksz) := by
  refine met_g (QV D (fun (u : (Nat → Int32)) => u = (cpy 1000 tp2 tp)) (fun (u : (Nat → Int32)) => [(h0, .inr (7, [.ref h1, .int (nI tz2), .int (nI ta2)])), (h1, .inl (cB, 1000, .inl u)), (g0, .inr (7, [.ref g1, .int (nI tz2), .int (nI ta2)])), (g1, .inl (cB, 1000, .inl tp2))])) cX7_copyFrom 2 none (by decide) rfl (Nat.le_of_ble_eq_true rfl) ?_
  intro p e s m below meth c A ls hx hb hr hts hown hlocks hml hin hA hP hK hD hE hS hl hsz
  clear hsz
  have hl : lv_has ls 2 [(0, .ref h0), (1, .ref g0)] := hl
  refine lv_aload_n hx hb dX7_copyFrom_0 rfl (lv_at hl 1 rfl) ?_
  refine va_get (D := D) (ci := 7) (v := .ref g1) (C := RX7) (T := TX7) (N := 3) hx hb hts (by decide +kernel) hown hK hP 2 rfl rfl 0 (by decide) (hts (.fieldLink RX7 9 "TapeEngine$Tape" "symbols" "[B") (by decide +kernel)) (fun _ h9 => h9) rfl dX7_copyFrom_1 ?_
  refine lv_iconst (v := 0) hx hb dX7_copyFrom_4 (by decide) ?_
  refine lv_aload_n hx hb dX7_copyFrom_5 rfl (lv_at hl 0 rfl) ?_
  refine va_get (D := D) (ci := 7) (v := .ref h1) (C := RX7) (T := TX7) (N := 3) hx hb hts (by decide +kernel) hown hK hP 0 rfl rfl 0 (by decide) (hts (.fieldLink RX7 9 "TapeEngine$Tape" "symbols" "[B") (by decide +kernel)) (fun _ h9 => h9) rfl dX7_copyFrom_6 ?_
  refine lv_iconst (v := 0) hx hb dX7_copyFrom_9 (by decide) ?_
  refine lv_sipush (v := 1000) hx hb dX7_copyFrom_10 (by decide) ?_
  refine va_copyi (D := D) hx hb (hml.trans hl.1.symm) hown (hts (.methodLink RX7 26 arraycopyName) (by decide +kernel)) (hts (.native arraycopyName) (by decide +kernel)) (hts (.static arraycopyName) (by decide +kernel)) (hts (.initialized "java/lang/System") (by decide +kernel)) hK hP hD hS 3 1 0 0 rfl rfl rfl rfl rfl (by decide) (by decide) (by decide) (by decide) (by decide) (fun i _ => hf _) (Nat.le_of_ble_eq_true rfl) (Nat.le_of_ble_eq_true rfl) dX7_copyFrom_13 (fun H locs hP hD hS => ?_)
  have hP : va_P D vwCl [(h0, .inr (7, [.ref h1, .int (nI tz), .int (nI ta)])), (h1, .inl (cB, 1000, .inl (va_cpy tp2 tp (0 : Int32).toNatClampNeg (0 : Int32).toNatClampNeg (1000 : Int32).toNatClampNeg))), (g0, .inr (7, [.ref g1, .int (nI tz2), .int (nI ta2)])), (g1, .inl (cB, 1000, .inl tp2))] H := hP
  have hD : va_D A [(h0, .inr (7, [.ref h1, .int (nI tz), .int (nI ta)])), (h1, .inl (cB, 1000, .inl (va_cpy tp2 tp (0 : Int32).toNatClampNeg (0 : Int32).toNatClampNeg (1000 : Int32).toNatClampNeg))), (g0, .inr (7, [.ref g1, .int (nI tz2), .int (nI ta2)])), (g1, .inl (cB, 1000, .inl tp2))] := hD
  refine lv_aload_n hx hb dX7_copyFrom_16 rfl (lv_at hl 0 rfl) ?_
  refine lv_aload_n hx hb dX7_copyFrom_17 rfl (lv_at hl 1 rfl) ?_
  refine va_get (D := D) (ci := 7) (v := .int (nI tz2)) (C := RX7) (T := TX7) (N := 3) hx hb hts (by decide +kernel) hown hK hP 2 rfl rfl 1 (by decide) (hts (.fieldLink RX7 15 "TapeEngine$Tape" "length" "I") (by decide +kernel)) (fun _ h9 => h9) rfl dX7_copyFrom_18 ?_
  refine va_put (D := D) (ci := 7) (v := .int (nI tz2)) (ty := .int) (C := RX7) (T := TX7) (N := 3) hx hb hts (by decide +kernel) tyX7 tyX7_ok nmX7 hown hK hP hD hS 0 rfl rfl 1 (by decide) (hts (.fieldLink RX7 15 "TapeEngine$Tape" "length" "I") (by decide +kernel)) (fun _ h9 => h9) rfl (by decide +kernel) rfl rfl (Nat.le_of_ble_eq_true rfl) dX7_copyFrom_21 (fun H locs hP hD hS => ?_)
  have hP : va_P D vwCl [(h0, .inr (7, [.ref h1, .int (nI tz2), .int (nI ta)])), (h1, .inl (cB, 1000, .inl (va_cpy tp2 tp (0 : Int32).toNatClampNeg (0 : Int32).toNatClampNeg (1000 : Int32).toNatClampNeg))), (g0, .inr (7, [.ref g1, .int (nI tz2), .int (nI ta2)])), (g1, .inl (cB, 1000, .inl tp2))] H := hP
  have hD : va_D A [(h0, .inr (7, [.ref h1, .int (nI tz2), .int (nI ta)])), (h1, .inl (cB, 1000, .inl (va_cpy tp2 tp (0 : Int32).toNatClampNeg (0 : Int32).toNatClampNeg (1000 : Int32).toNatClampNeg))), (g0, .inr (7, [.ref g1, .int (nI tz2), .int (nI ta2)])), (g1, .inl (cB, 1000, .inl tp2))] := hD
  refine lv_aload_n hx hb dX7_copyFrom_24 rfl (lv_at hl 0 rfl) ?_
  refine lv_aload_n hx hb dX7_copyFrom_25 rfl (lv_at hl 1 rfl) ?_
  refine va_get (D := D) (ci := 7) (v := .int (nI ta2)) (C := RX7) (T := TX7) (N := 3) hx hb hts (by decide +kernel) hown hK hP 2 rfl rfl 2 (by decide) (hts (.fieldLink RX7 19 "TapeEngine$Tape" "place" "I") (by decide +kernel)) (fun _ h9 => h9) rfl dX7_copyFrom_26 ?_
  refine va_put (D := D) (ci := 7) (v := .int (nI ta2)) (ty := .int) (C := RX7) (T := TX7) (N := 3) hx hb hts (by decide +kernel) tyX7 tyX7_ok nmX7 hown hK hP hD hS 0 rfl rfl 2 (by decide) (hts (.fieldLink RX7 19 "TapeEngine$Tape" "place" "I") (by decide +kernel)) (fun _ h9 => h9) rfl (by decide +kernel) rfl rfl (Nat.le_of_ble_eq_true rfl) dX7_copyFrom_29 (fun H locs hP hD hS => ?_)
  have hP : va_P D vwCl [(h0, .inr (7, [.ref h1, .int (nI tz2), .int (nI ta2)])), (h1, .inl (cB, 1000, .inl (va_cpy tp2 tp (0 : Int32).toNatClampNeg (0 : Int32).toNatClampNeg (1000 : Int32).toNatClampNeg))), (g0, .inr (7, [.ref g1, .int (nI tz2), .int (nI ta2)])), (g1, .inl (cB, 1000, .inl tp2))] H := hP
  have hD : va_D A [(h0, .inr (7, [.ref h1, .int (nI tz2), .int (nI ta2)])), (h1, .inl (cB, 1000, .inl (va_cpy tp2 tp (0 : Int32).toNatClampNeg (0 : Int32).toNatClampNeg (1000 : Int32).toNatClampNeg))), (g0, .inr (7, [.ref g1, .int (nI tz2), .int (nI ta2)])), (g1, .inl (cB, 1000, .inl tp2))] := hD
  exact ret_v hx hb hr hlocks ((va_cpy tp2 tp (0 : Int32).toNatClampNeg (0 : Int32).toNatClampNeg (1000 : Int32).toNatClampNeg)) (e_cpy (by decide)) (hP.sub [0, 1, 2, 3] rfl) (hD.sub [0, 1, 2, 3] (by decide) rfl) hS dX7_copyFrom_32

set_option maxHeartbeats 4000000 in
set_option maxRecDepth 100000 in
theorem kX6_isFull (l : Launch) (D : va_G) (Z : SZ) (cB cI cJ cZ : ClassId) (ksz : Nat) (h0 : Nat) (h1 : Nat) (xz : Nat) (fg : Bool) (la : Int32) (hz : xz ≤ 400) : Met l yX6_isFull wsX6_isFull { frames := 0, cells := 0, slots := 0, locals := 0 } (PR D Z [(cB, .byte), (cI, .int), (cJ, .long), (cZ, .boolean)] [.ref h0] [(h0, .inr (6, [.ref h1, .int (nI xz), .int (bI fg), .int la]))] ksz) (QI D (fun (r : Int32) (_ : Unit) => r = (bI (decide (400 ≤ xz)))) (fun (_ : Unit) => [(h0, .inr (6, [.ref h1, .int (nI xz), .int (bI fg), .int la]))]) (va_A [(h0, .inr (6, [.ref h1, .int (nI xz), .int (bI fg), .int la]))] ksz)) 0 0 (va_A [(h0, .inr (6, [.ref h1, .int (nI xz), .int (bI fg), .int la]))] ksz) := by
  refine met_g (QI D (fun (r : Int32) (_ : Unit) => r = (bI (decide (400 ≤ xz)))) (fun (_ : Unit) => [(h0, .inr (6, [.ref h1, .int (nI xz), .int (bI fg), .int la]))])) cX6_isFull 1 (some .boolean) (by decide) rfl (Nat.le_of_ble_eq_true rfl) ?_
  intro p e s m below meth c A ls hx hb hr hts hown hlocks hml hin hA hP hK hD hE hS hl hsz
  clear hsz
  have hl : lv_has ls 1 [(0, .ref h0)] := hl
  refine lv_aload_n hx hb dX6_isFull_0 rfl (lv_at hl 0 rfl) ?_
  refine va_get (D := D) (ci := 6) (v := .int (nI xz)) (C := RX6) (T := TX6) (N := 4) hx hb hts (by decide +kernel) hown hK hP 0 rfl rfl 1 (by decide) (hts (.fieldLink RX6 15 "TapeEngine$Printer" "length" "I") (by decide +kernel)) (fun _ h9 => h9) rfl dX6_isFull_1 ?_
  refine lv_sipush (v := 400) hx hb dX6_isFull_4 (by decide) ?_
  refine lv_icmp_lt (tgt := 14) hx hb dX6_isFull_7 (by decide) (fun c_7 => ?_) (fun c_7 => ?_)
  · skip
    have c_7 : xz < 400 := (nI_ltI (a := xz) (b := 400) (by omega) (by omega)).mp c_7
    refine lv_iconst (v := 0) hx hb dX6_isFull_14 (by decide) ?_
    exact ret_z hx hb hr rfl hlocks () (by first | exact bI_y (by omega) | exact bI_n (by omega)) (hP.sub [0] rfl) (hD.sub [0] (by decide) rfl) hS dX6_isFull_15
  · skip
    have c_7 : ¬ xz < 400 := fun z => c_7 ((nI_ltI (a := xz) (b := 400) (by omega) (by omega)).mpr z)
    refine lv_iconst (v := 1) hx hb dX6_isFull_10 (by decide) ?_
    refine lv_goto (tgt := 15) hx hb dX6_isFull_11 (by decide) ?_
    exact ret_z hx hb hr rfl hlocks () (by first | exact bI_y (by omega) | exact bI_n (by omega)) (hP.sub [0] rfl) (hD.sub [0] (by decide) rfl) hS dX6_isFull_15

set_option maxHeartbeats 4000000 in
set_option maxRecDepth 100000 in
theorem kX6_byteAt (l : Launch) (D : va_G) (Z : SZ) (cB cI cJ cZ : ClassId) (ksz : Nat) (h0 : Nat) (h1 : Nat) (tx : Nat → Int32) (xz : Nat) (fg : Bool) (la : Int32) (i : Nat) (hi : i < 400) : Met l yX6_byteAt wsX6_byteAt { frames := 0, cells := 0, slots := 0, locals := 0 } (PR D Z [(cB, .byte), (cI, .int), (cJ, .long), (cZ, .boolean)] [.ref h0, .int (nI i)] [(h0, .inr (6, [.ref h1, .int (nI xz), .int (bI fg), .int la])), (h1, .inl (cB, 400, .inl tx))] ksz) (QI D (fun (r : Int32) (_ : Unit) => r = (tx i)) (fun (_ : Unit) => [(h0, .inr (6, [.ref h1, .int (nI xz), .int (bI fg), .int la])), (h1, .inl (cB, 400, .inl tx))]) (va_A [(h0, .inr (6, [.ref h1, .int (nI xz), .int (bI fg), .int la])), (h1, .inl (cB, 400, .inl tx))] ksz)) 0 0 (va_A [(h0, .inr (6, [.ref h1, .int (nI xz), .int (bI fg), .int la])), (h1, .inl (cB, 400, .inl tx))] ksz) := by
  refine met_g (QI D (fun (r : Int32) (_ : Unit) => r = (tx i)) (fun (_ : Unit) => [(h0, .inr (6, [.ref h1, .int (nI xz), .int (bI fg), .int la])), (h1, .inl (cB, 400, .inl tx))])) cX6_byteAt 2 (some .int) (by decide) rfl (Nat.le_of_ble_eq_true rfl) ?_
  intro p e s m below meth c A ls hx hb hr hts hown hlocks hml hin hA hP hK hD hE hS hl hsz
  clear hsz
  have hl : lv_has ls 2 [(0, .ref h0), (1, .int (nI i))] := hl
  refine lv_iload_n hx hb dX6_byteAt_0 rfl (lv_at hl 1 rfl) ?_
  refine lv_if_lt (tgt := 20) hx hb dX6_byteAt_1 (by decide) (fun c_1 => ?_) (fun c_1 => ?_)
  · skip
    have c_1 : i < 0 := (nI_ltI (a := i) (b := 0) (by omega) (by omega)).mp c_1
    exact absurd c_1 (Nat.not_lt_zero _)
  · skip
    have c_1 : ¬ i < 0 := fun z => c_1 ((nI_ltI (a := i) (b := 0) (by omega) (by omega)).mpr z)
    refine lv_iload_n hx hb dX6_byteAt_4 rfl (lv_at hl 1 rfl) ?_
    refine lv_sipush (v := 400) hx hb dX6_byteAt_5 (by decide) ?_
    refine lv_icmp_ge (tgt := 20) hx hb dX6_byteAt_8 (by decide) (fun c_8 => ?_) (fun c_8 => ?_)
    · skip
      have c_8 : 400 ≤ i := (nI_leI (a := 400) (b := i) (by omega) (by omega)).mp c_8
      exfalso
      omega
    · skip
      have c_8 : ¬ 400 ≤ i := fun z => c_8 ((nI_leI (a := 400) (b := i) (by omega) (by omega)).mpr z)
      refine lv_aload_n hx hb dX6_byteAt_11 rfl (lv_at hl 0 rfl) ?_
      refine va_get (D := D) (ci := 6) (v := .ref h1) (C := RX6) (T := TX6) (N := 4) hx hb hts (by decide +kernel) hown hK hP 0 rfl rfl 0 (by decide) (hts (.fieldLink RX6 9 "TapeEngine$Printer" "bytes" "[B") (by decide +kernel)) (fun _ h9 => h9) rfl dX6_byteAt_12 ?_
      refine lv_iload_n hx hb dX6_byteAt_15 rfl (lv_at hl 1 rfl) ?_
      refine xs_bald (k := i) hx hb hK hP 1 0 rfl rfl (by first | assumption | omega) (by decide) dX6_byteAt_16 ?_
      refine lv_goto (tgt := 22) hx hb dX6_byteAt_17 (by decide) ?_
      exact ret_i hx hb hr hlocks () (by rfl) (hP.sub [0, 1] rfl) (hD.sub [0, 1] (by decide) rfl) hS dX6_byteAt_22

set_option maxHeartbeats 4000000 in
set_option maxRecDepth 100000 in
theorem kX6_write (l : Launch) (D : va_G) (Z : SZ) (cB cI cJ cZ : ClassId) (ksz : Nat) (h0 : Nat) (h1 : Nat) (tx : Nat → Int32) (xz : Nat) (fg : Bool) (la : Int32) (x : Nat) (hz : xz < 400) (hx9 : x < 128) : Met l yX6_write wsX6_write { frames := 0, cells := 0, slots := 0, locals := 0 } (PR D Z [(cB, .byte), (cI, .int), (cJ, .long), (cZ, .boolean)] [.ref h0, .int (nI x)] [(h0, .inr (6, [.ref h1, .int (nI xz), .int (bI fg), .int la])), (h1, .inl (cB, 400, .inl tx))] ksz) (QV D (fun (u : (Nat → Int32)) => u = (upd tx xz (nI x))) (fun (u : (Nat → Int32)) => [(h0, .inr (6, [.ref h1, .int (nI (xz + 1)), .int (bI fg), .int la])), (h1, .inl (cB, 400, .inl u))]) (va_A [(h0, .inr (6, [.ref h1, .int (nI xz), .int (bI fg), .int la])), (h1, .inl (cB, 400, .inl tx))] ksz)) 0 0 (va_A [(h0, .inr (6, [.ref h1, .int (nI xz), .int (bI fg), .int la])), (h1, .inl (cB, 400, .inl tx))] ksz) := by
  refine met_g (QV D (fun (u : (Nat → Int32)) => u = (upd tx xz (nI x))) (fun (u : (Nat → Int32)) => [(h0, .inr (6, [.ref h1, .int (nI (xz + 1)), .int (bI fg), .int la])), (h1, .inl (cB, 400, .inl u))])) cX6_write 2 none (by decide) rfl (Nat.le_of_ble_eq_true rfl) ?_
  intro p e s m below meth c A ls hx hb hr hts hown hlocks hml hin hA hP hK hD hE hS hl hsz
  clear hsz
  have hl : lv_has ls 2 [(0, .ref h0), (1, .int (nI x))] := hl
  refine lv_aload_n hx hb dX6_write_0 rfl (lv_at hl 0 rfl) ?_
  refine va_get (D := D) (ci := 6) (v := .int (nI xz)) (C := RX6) (T := TX6) (N := 4) hx hb hts (by decide +kernel) hown hK hP 0 rfl rfl 1 (by decide) (hts (.fieldLink RX6 15 "TapeEngine$Printer" "length" "I") (by decide +kernel)) (fun _ h9 => h9) rfl dX6_write_1 ?_
  refine lv_if_lt (tgt := 38) hx hb dX6_write_4 (by decide) (fun c_4 => ?_) (fun c_4 => ?_)
  · skip
    have c_4 : xz < 0 := (nI_ltI (a := xz) (b := 0) (by omega) (by omega)).mp c_4
    exact absurd c_4 (Nat.not_lt_zero _)
  · skip
    have c_4 : ¬ xz < 0 := fun z => c_4 ((nI_ltI (a := xz) (b := 0) (by omega) (by omega)).mpr z)
    refine lv_aload_n hx hb dX6_write_7 rfl (lv_at hl 0 rfl) ?_
    refine va_get (D := D) (ci := 6) (v := .int (nI xz)) (C := RX6) (T := TX6) (N := 4) hx hb hts (by decide +kernel) hown hK hP 0 rfl rfl 1 (by decide) (hts (.fieldLink RX6 15 "TapeEngine$Printer" "length" "I") (by decide +kernel)) (fun _ h9 => h9) rfl dX6_write_8 ?_
    refine lv_sipush (v := 400) hx hb dX6_write_11 (by decide) ?_
    refine lv_icmp_ge (tgt := 38) hx hb dX6_write_14 (by decide) (fun c_14 => ?_) (fun c_14 => ?_)
    · skip
      have c_14 : 400 ≤ xz := (nI_leI (a := 400) (b := xz) (by omega) (by omega)).mp c_14
      exfalso
      omega
    · skip
      have c_14 : ¬ 400 ≤ xz := fun z => c_14 ((nI_leI (a := 400) (b := xz) (by omega) (by omega)).mpr z)
      refine lv_aload_n hx hb dX6_write_17 rfl (lv_at hl 0 rfl) ?_
      refine va_get (D := D) (ci := 6) (v := .ref h1) (C := RX6) (T := TX6) (N := 4) hx hb hts (by decide +kernel) hown hK hP 0 rfl rfl 0 (by decide) (hts (.fieldLink RX6 9 "TapeEngine$Printer" "bytes" "[B") (by decide +kernel)) (fun _ h9 => h9) rfl dX6_write_18 ?_
      refine lv_aload_n hx hb dX6_write_21 rfl (lv_at hl 0 rfl) ?_
      refine va_get (D := D) (ci := 6) (v := .int (nI xz)) (C := RX6) (T := TX6) (N := 4) hx hb hts (by decide +kernel) hown hK hP 0 rfl rfl 1 (by decide) (hts (.fieldLink RX6 15 "TapeEngine$Printer" "length" "I") (by decide +kernel)) (fun _ h9 => h9) rfl dX6_write_22 ?_
      refine lv_iload_n hx hb dX6_write_25 rfl (lv_at hl 1 rfl) ?_
      refine lv_i2b hx hb dX6_write_26 rfl ?_
      refine set_i (y := nI x) (e_i2b x (by omega)) ?_
      refine xs_bast (k := xz) hx hb hK hP hD hS 1 0 rfl rfl (by first | assumption | omega) (by decide) (e_nb x (by omega)) dX6_write_27 (fun H locs hP hD hS => ?_)
      have hP : va_P D vwCl [(h0, .inr (6, [.ref h1, .int (nI xz), .int (bI fg), .int la])), (h1, .inl (cB, 400, .inl (upd tx xz (nI x))))] H := hP
      have hD : va_D A [(h0, .inr (6, [.ref h1, .int (nI xz), .int (bI fg), .int la])), (h1, .inl (cB, 400, .inl (upd tx xz (nI x))))] := hD
      refine lv_aload_n hx hb dX6_write_28 rfl (lv_at hl 0 rfl) ?_
      refine lv_dup hx hb dX6_write_29 rfl ?_
      refine va_get (D := D) (ci := 6) (v := .int (nI xz)) (C := RX6) (T := TX6) (N := 4) hx hb hts (by decide +kernel) hown hK hP 0 rfl rfl 1 (by decide) (hts (.fieldLink RX6 15 "TapeEngine$Printer" "length" "I") (by decide +kernel)) (fun _ h9 => h9) rfl dX6_write_30 ?_
      refine lv_iconst (v := 1) hx hb dX6_write_33 (by decide) ?_
      refine lv_iadd hx hb dX6_write_34 ?_
      refine set_i (y := nI (xz + 1)) (nI_1 xz) ?_
      refine va_put (D := D) (ci := 6) (v := .int (nI (xz + 1))) (ty := .int) (C := RX6) (T := TX6) (N := 4) hx hb hts (by decide +kernel) tyX6 tyX6_ok nmX6 hown hK hP hD hS 0 rfl rfl 1 (by decide) (hts (.fieldLink RX6 15 "TapeEngine$Printer" "length" "I") (by decide +kernel)) (fun _ h9 => h9) rfl (by decide +kernel) rfl rfl (Nat.le_of_ble_eq_true rfl) dX6_write_35 (fun H locs hP hD hS => ?_)
      have hP : va_P D vwCl [(h0, .inr (6, [.ref h1, .int (nI (xz + 1)), .int (bI fg), .int la])), (h1, .inl (cB, 400, .inl (upd tx xz (nI x))))] H := hP
      have hD : va_D A [(h0, .inr (6, [.ref h1, .int (nI (xz + 1)), .int (bI fg), .int la])), (h1, .inl (cB, 400, .inl (upd tx xz (nI x))))] := hD
      exact ret_v hx hb hr hlocks ((upd tx xz (nI x))) (by rfl) (hP.sub [0, 1] rfl) (hD.sub [0, 1] (by decide) rfl) hS dX6_write_38

set_option maxHeartbeats 4000000 in
set_option maxRecDepth 100000 in
theorem kX6_print (l : Launch) (D : va_G) (Z : SZ) (cB cI cJ cZ : ClassId) (ksz : Nat) (h0 : Nat) (h1 : Nat) (tx : Nat → Int32) (xz : Nat) (fg : Bool) (la : Int32) (v : Nat) (hz : xz < 400) (hv9 : v < 32) : Met l yX6_print wsX6_print { frames := 4, cells := 0, slots := 0, locals := 85 } (PR D Z [(cB, .byte), (cI, .int), (cJ, .long), (cZ, .boolean)] [.ref h0, .int (nI v)] [(h0, .inr (6, [.ref h1, .int (nI xz), .int (bI fg), .int la])), (h1, .inl (cB, 400, .inl tx))] ksz) (QV D (fun (u : (Nat → Int32) × Nat × Bool) => u.1 = (pTx v fg tx xz) ∧ u.2.1 = (pXz v xz) ∧ u.2.2 = (pFg v fg)) (fun (u : (Nat → Int32) × Nat × Bool) => [(h0, .inr (6, [.ref h1, .int (nI u.2.1), .int (bI u.2.2), .int (nI v)])), (h1, .inl (cB, 400, .inl u.1))]) (va_A [(h0, .inr (6, [.ref h1, .int (nI xz), .int (bI fg), .int la])), (h1, .inl (cB, 400, .inl tx))] ksz)) 0 0 (va_A [(h0, .inr (6, [.ref h1, .int (nI xz), .int (bI fg), .int la])), (h1, .inl (cB, 400, .inl tx))] ksz) := by
  refine met_g (QV D (fun (u : (Nat → Int32) × Nat × Bool) => u.1 = (pTx v fg tx xz) ∧ u.2.1 = (pXz v xz) ∧ u.2.2 = (pFg v fg)) (fun (u : (Nat → Int32) × Nat × Bool) => [(h0, .inr (6, [.ref h1, .int (nI u.2.1), .int (bI u.2.2), .int (nI v)])), (h1, .inl (cB, 400, .inl u.1))])) cX6_print 2 none (by decide) rfl (Nat.le_of_ble_eq_true rfl) ?_
  intro p e s m below meth c A ls hx hb hr hts hown hlocks hml hin hA hP hK hD hE hS hl hsz
  clear hsz
  have hl : lv_has ls 2 [(0, .ref h0), (1, .int (nI v))] := hl
  refine lv_iload_n hx hb dX6_print_0 rfl (lv_at hl 1 rfl) ?_
  refine lv_if_lt (tgt := 10) hx hb dX6_print_1 (by decide) (fun c_1 => ?_) (fun c_1 => ?_)
  · skip
    have c_1 : v < 0 := (nI_ltI (a := v) (b := 0) (by omega) (by omega)).mp c_1
    exact absurd c_1 (Nat.not_lt_zero _)
  · skip
    have c_1 : ¬ v < 0 := fun z => c_1 ((nI_ltI (a := v) (b := 0) (by omega) (by omega)).mpr z)
    refine lv_iload_n hx hb dX6_print_4 rfl (lv_at hl 1 rfl) ?_
    refine lv_bipush (v := 32) hx hb dX6_print_5 (by decide) ?_
    refine lv_icmp_lt (tgt := 11) hx hb dX6_print_7 (by decide) (fun c_7 => ?_) (fun c_7 => ?_)
    · skip
      have c_7 : v < 32 := (nI_ltI (a := v) (b := 32) (by omega) (by omega)).mp c_7
      refine lv_aload_n hx hb dX6_print_11 rfl (lv_at hl 0 rfl) ?_
      refine lv_iload_n hx hb dX6_print_12 rfl (lv_at hl 1 rfl) ?_
      refine va_put (D := D) (ci := 6) (v := .int (nI v)) (ty := .int) (C := RX6) (T := TX6) (N := 4) hx hb hts (by decide +kernel) tyX6 tyX6_ok nmX6 hown hK hP hD hS 0 rfl rfl 3 (by decide) (hts (.fieldLink RX6 23 "TapeEngine$Printer" "last" "I") (by decide +kernel)) (fun _ h9 => h9) rfl (by decide +kernel) rfl rfl (Nat.le_of_ble_eq_true rfl) dX6_print_13 (fun H locs hP hD hS => ?_)
      have hP : va_P D vwCl [(h0, .inr (6, [.ref h1, .int (nI xz), .int (bI fg), .int (nI v)])), (h1, .inl (cB, 400, .inl tx))] H := hP
      have hD : va_D A [(h0, .inr (6, [.ref h1, .int (nI xz), .int (bI fg), .int (nI v)])), (h1, .inl (cB, 400, .inl tx))] := hD
      refine lv_iload_n hx hb dX6_print_16 rfl (lv_at hl 1 rfl) ?_
      have hv : v = 11 ∨ v = 15 ∨ v = 16 ∨ v = 18 ∨ v = 20 ∨ v = 24 ∨ (¬ v = 11 ∧ ¬ v = 15 ∧ ¬ v = 16 ∧ ¬ v = 18 ∧ ¬ v = 20 ∧ ¬ v = 24) := by omega
      rcases hv with cv | cv | cv | cv | cv | cv | cv
      · skip
        refine lv_tab (tgt := 96) hx hb dX6_print_17 (by rw [cv] <;> decide +kernel) (by decide) (by decide) ?_
        refine lv_aload_n hx hb dX6_print_96 rfl (lv_at hl 0 rfl) ?_
        refine lv_iconst (v := 1) hx hb dX6_print_97 (by decide) ?_
        refine va_put (D := D) (ci := 6) (v := .int 1) (ty := .boolean) (C := RX6) (T := TX6) (N := 4) hx hb hts (by decide +kernel) tyX6 tyX6_ok nmX6 hown hK hP hD hS 0 rfl rfl 2 (by decide) (hts (.fieldLink RX6 19 "TapeEngine$Printer" "figures" "Z") (by decide +kernel)) (fun _ h9 => h9) rfl (by decide +kernel) rfl rfl (Nat.le_of_ble_eq_true rfl) dX6_print_98 (fun H locs hP hD hS => ?_)
        have hP : va_P D vwCl [(h0, .inr (6, [.ref h1, .int (nI xz), .int 1, .int (nI v)])), (h1, .inl (cB, 400, .inl tx))] H := hP
        have hD : va_D A [(h0, .inr (6, [.ref h1, .int (nI xz), .int 1, .int (nI v)])), (h1, .inl (cB, 400, .inl tx))] := hD
        refine lv_goto (tgt := 160) hx hb dX6_print_101 (by decide) ?_
        exact ret_v hx hb hr hlocks (tx, xz, true) ⟨(by simp [pFg, pTx, pXz, pW, pCh, *]), (by simp [pFg, pTx, pXz, pW, pCh, *]), (by simp [pFg, pTx, pXz, pW, pCh, *])⟩ (hP.sub [0, 1] rfl) (hD.sub [0, 1] (by decide) rfl) hS dX6_print_160
      · skip
        refine lv_tab (tgt := 88) hx hb dX6_print_17 (by rw [cv] <;> decide +kernel) (by decide) (by decide) ?_
        refine lv_aload_n hx hb dX6_print_88 rfl (lv_at hl 0 rfl) ?_
        refine lv_iconst (v := 0) hx hb dX6_print_89 (by decide) ?_
        refine va_put (D := D) (ci := 6) (v := .int 0) (ty := .boolean) (C := RX6) (T := TX6) (N := 4) hx hb hts (by decide +kernel) tyX6 tyX6_ok nmX6 hown hK hP hD hS 0 rfl rfl 2 (by decide) (hts (.fieldLink RX6 19 "TapeEngine$Printer" "figures" "Z") (by decide +kernel)) (fun _ h9 => h9) rfl (by decide +kernel) rfl rfl (Nat.le_of_ble_eq_true rfl) dX6_print_90 (fun H locs hP hD hS => ?_)
        have hP : va_P D vwCl [(h0, .inr (6, [.ref h1, .int (nI xz), .int 0, .int (nI v)])), (h1, .inl (cB, 400, .inl tx))] H := hP
        have hD : va_D A [(h0, .inr (6, [.ref h1, .int (nI xz), .int 0, .int (nI v)])), (h1, .inl (cB, 400, .inl tx))] := hD
        refine lv_goto (tgt := 160) hx hb dX6_print_93 (by decide) ?_
        exact ret_v hx hb hr hlocks (tx, xz, false) ⟨(by simp [pFg, pTx, pXz, pW, pCh, *]), (by simp [pFg, pTx, pXz, pW, pCh, *]), (by simp [pFg, pTx, pXz, pW, pCh, *])⟩ (hP.sub [0, 1] rfl) (hD.sub [0, 1] (by decide) rfl) hS dX6_print_160
      · skip
        refine lv_tab (tgt := 104) hx hb dX6_print_17 (by rw [cv] <;> decide +kernel) (by decide) (by decide) ?_
        refine lv_goto (tgt := 160) hx hb dX6_print_104 (by decide) ?_
        exact ret_v hx hb hr hlocks (tx, xz, fg) ⟨(by simp [pFg, pTx, pXz, pW, pCh, *]), (by simp [pFg, pTx, pXz, pW, pCh, *]), (by simp [pFg, pTx, pXz, pW, pCh, *])⟩ (hP.sub [0, 1] rfl) (hD.sub [0, 1] (by decide) rfl) hS dX6_print_160
      · skip
        refine lv_tab (tgt := 107) hx hb dX6_print_17 (by rw [cv] <;> decide +kernel) (by decide) (by decide) ?_
        refine lv_aload_n hx hb dX6_print_107 rfl (lv_at hl 0 rfl) ?_
        refine lv_bipush (v := (nI 13)) hx hb dX6_print_108 (by decide) ?_
        refine kV_v (As := [.int (nI 13)]) (rest := []) (wr := []) ⟨hx, hb, hml, hown, hts⟩ (kX6_write l D Z cB cI cJ cZ H.size h0 h1 tx xz fg (nI v) 13 (by first | assumption | omega) (by first | omega | exact e_chb0 _ hv9 | exact e_chb1 _ hv9)) (cwV 1 hts gX6_print_X6_write rfl rfl rfl (by decide +kernel) ⟨Nat.le_of_ble_eq_true rfl, Nat.le_of_ble_eq_true rfl⟩) hK hE hP hD hS hA 0 6 rfl rfl rfl [0, 1] [] rfl rfl rfl rfl rfl (by decide) hl.1 rfl rfl (Nat.le_of_ble_eq_true rfl) dX6_print_110 ⟨Nat.le_of_ble_eq_true rfl, Nat.le_of_ble_eq_true rfl⟩ (fun u H locs hp hP hD hS => ?_)
        obtain ⟨v_1, rfl⟩ : ∃ z, z = u := ⟨_, rfl⟩
        try dsimp only at hp
        have hq_0 := hp
        have hq_0 := hq_0.symm
        subst hq_0
        have hP : va_P D vwCl [(h0, .inr (6, [.ref h1, .int (nI (xz + 1)), .int (bI fg), .int (nI v)])), (h1, .inl (cB, 400, .inl (upd tx xz (nI 13))))] H := hP
        have hD : va_D A [(h0, .inr (6, [.ref h1, .int (nI (xz + 1)), .int (bI fg), .int (nI v)])), (h1, .inl (cB, 400, .inl (upd tx xz (nI 13))))] := hD
        refine lv_goto (tgt := 160) hx hb dX6_print_113 (by decide) ?_
        exact ret_v hx hb hr hlocks ((upd tx xz (nI 13)), (xz + 1), fg) ⟨(by simp [pFg, pTx, pXz, pW, pCh, *]), (by simp [pFg, pTx, pXz, pW, pCh, *]), (by simp [pFg, pTx, pXz, pW, pCh, *])⟩ (hP.sub [0, 1] rfl) (hD.sub [0, 1] (by decide) rfl) hS dX6_print_160
      · skip
        refine lv_tab (tgt := 125) hx hb dX6_print_17 (by rw [cv] <;> decide +kernel) (by decide) (by decide) ?_
        refine lv_aload_n hx hb dX6_print_125 rfl (lv_at hl 0 rfl) ?_
        refine lv_bipush (v := (nI 32)) hx hb dX6_print_126 (by decide) ?_
        refine kV_v (As := [.int (nI 32)]) (rest := []) (wr := []) ⟨hx, hb, hml, hown, hts⟩ (kX6_write l D Z cB cI cJ cZ H.size h0 h1 tx xz fg (nI v) 32 (by first | assumption | omega) (by first | omega | exact e_chb0 _ hv9 | exact e_chb1 _ hv9)) (cwV 1 hts gX6_print_X6_write rfl rfl rfl (by decide +kernel) ⟨Nat.le_of_ble_eq_true rfl, Nat.le_of_ble_eq_true rfl⟩) hK hE hP hD hS hA 0 6 rfl rfl rfl [0, 1] [] rfl rfl rfl rfl rfl (by decide) hl.1 rfl rfl (Nat.le_of_ble_eq_true rfl) dX6_print_128 ⟨Nat.le_of_ble_eq_true rfl, Nat.le_of_ble_eq_true rfl⟩ (fun u H locs hp hP hD hS => ?_)
        obtain ⟨v_2, rfl⟩ : ∃ z, z = u := ⟨_, rfl⟩
        try dsimp only at hp
        have hq_0 := hp
        have hq_0 := hq_0.symm
        subst hq_0
        have hP : va_P D vwCl [(h0, .inr (6, [.ref h1, .int (nI (xz + 1)), .int (bI fg), .int (nI v)])), (h1, .inl (cB, 400, .inl (upd tx xz (nI 32))))] H := hP
        have hD : va_D A [(h0, .inr (6, [.ref h1, .int (nI (xz + 1)), .int (bI fg), .int (nI v)])), (h1, .inl (cB, 400, .inl (upd tx xz (nI 32))))] := hD
        refine lv_goto (tgt := 160) hx hb dX6_print_131 (by decide) ?_
        exact ret_v hx hb hr hlocks ((upd tx xz (nI 32)), (xz + 1), fg) ⟨(by simp [pFg, pTx, pXz, pW, pCh, *]), (by simp [pFg, pTx, pXz, pW, pCh, *]), (by simp [pFg, pTx, pXz, pW, pCh, *])⟩ (hP.sub [0, 1] rfl) (hD.sub [0, 1] (by decide) rfl) hS dX6_print_160
      · skip
        refine lv_tab (tgt := 116) hx hb dX6_print_17 (by rw [cv] <;> decide +kernel) (by decide) (by decide) ?_
        refine lv_aload_n hx hb dX6_print_116 rfl (lv_at hl 0 rfl) ?_
        refine lv_bipush (v := (nI 10)) hx hb dX6_print_117 (by decide) ?_
        refine kV_v (As := [.int (nI 10)]) (rest := []) (wr := []) ⟨hx, hb, hml, hown, hts⟩ (kX6_write l D Z cB cI cJ cZ H.size h0 h1 tx xz fg (nI v) 10 (by first | assumption | omega) (by first | omega | exact e_chb0 _ hv9 | exact e_chb1 _ hv9)) (cwV 1 hts gX6_print_X6_write rfl rfl rfl (by decide +kernel) ⟨Nat.le_of_ble_eq_true rfl, Nat.le_of_ble_eq_true rfl⟩) hK hE hP hD hS hA 0 6 rfl rfl rfl [0, 1] [] rfl rfl rfl rfl rfl (by decide) hl.1 rfl rfl (Nat.le_of_ble_eq_true rfl) dX6_print_119 ⟨Nat.le_of_ble_eq_true rfl, Nat.le_of_ble_eq_true rfl⟩ (fun u H locs hp hP hD hS => ?_)
        obtain ⟨v_3, rfl⟩ : ∃ z, z = u := ⟨_, rfl⟩
        try dsimp only at hp
        have hq_0 := hp
        have hq_0 := hq_0.symm
        subst hq_0
        have hP : va_P D vwCl [(h0, .inr (6, [.ref h1, .int (nI (xz + 1)), .int (bI fg), .int (nI v)])), (h1, .inl (cB, 400, .inl (upd tx xz (nI 10))))] H := hP
        have hD : va_D A [(h0, .inr (6, [.ref h1, .int (nI (xz + 1)), .int (bI fg), .int (nI v)])), (h1, .inl (cB, 400, .inl (upd tx xz (nI 10))))] := hD
        refine lv_goto (tgt := 160) hx hb dX6_print_122 (by decide) ?_
        exact ret_v hx hb hr hlocks ((upd tx xz (nI 10)), (xz + 1), fg) ⟨(by simp [pFg, pTx, pXz, pW, pCh, *]), (by simp [pFg, pTx, pXz, pW, pCh, *]), (by simp [pFg, pTx, pXz, pW, pCh, *])⟩ (hP.sub [0, 1] rfl) (hD.sub [0, 1] (by decide) rfl) hS dX6_print_160
      · skip
        refine lv_tab (tgt := 134) hx hb dX6_print_17 (co_dec (N := 32) (P := fun v => (¬ v = 11 ∧ ¬ v = 15 ∧ ¬ v = 16 ∧ ¬ v = 18 ∧ ¬ v = 20 ∧ ¬ v = 24) → tabT 11 24 117 #[79, 117, 117, 117, 71, 87, 117, 90, 117, 108, 117, 117, 117, 99] (nI v) = 117) (by decide +kernel) hv9 cv) (by decide) (by decide) ?_
        refine lv_aload_n hx hb dX6_print_134 rfl (lv_at hl 0 rfl) ?_
        refine lv_aload_n hx hb dX6_print_135 rfl (lv_at hl 0 rfl) ?_
        refine va_get (D := D) (ci := 6) (v := .int (bI fg)) (C := RX6) (T := TX6) (N := 4) hx hb hts (by decide +kernel) hown hK hP 0 rfl rfl 2 (by decide) (hts (.fieldLink RX6 19 "TapeEngine$Printer" "figures" "Z") (by decide +kernel)) (fun _ h9 => h9) rfl dX6_print_136 ?_
        refine lv_if_eq (tgt := 151) hx hb dX6_print_139 (by decide) (fun c_139 => ?_) (fun c_139 => ?_)
        · skip
          have c_139 := bI_f c_139
          refine va_ldcS hx hb hown hE.2.2.2.2.2.2 dX6_print_151 ?_
          refine lv_iload_n hx hb dX6_print_153 rfl (lv_at hl 1 rfl) ?_
          refine pW_i (i := 1) (As := [.int (nI v)]) (rest := [.ref h0]) (by decide) ⟨hx, hb, hml, hown, hts⟩ (kJC_1 l Z v (by first | assumption | omega)) (cwV 1 hts gX6_print_J0_charAt_5068e rfl rfl rfl (by decide +kernel) ⟨Nat.le_of_ble_eq_true rfl, Nat.le_of_ble_eq_true rfl⟩) hK hE hP hD hS hA hl.1 rfl rfl (Nat.le_of_ble_eq_true rfl) dX6_print_154 ⟨Nat.le_of_ble_eq_true rfl, Nat.le_of_ble_eq_true rfl⟩ (fun H locs hP hS => ?_)
          refine kV_v (As := [.int (nI (letT.getD v 0))]) (rest := []) (wr := []) ⟨hx, hb, hml, hown, hts⟩ (kX6_write l D Z cB cI cJ cZ H.size h0 h1 tx xz fg (nI v) (letT.getD v 0) (by first | assumption | omega) (by first | omega | exact e_chb0 _ hv9 | exact e_chb1 _ hv9)) (cwV 1 hts gX6_print_X6_write rfl rfl rfl (by decide +kernel) ⟨Nat.le_of_ble_eq_true rfl, Nat.le_of_ble_eq_true rfl⟩) hK hE hP hD hS hA 0 6 rfl rfl rfl [0, 1] [] rfl rfl rfl rfl rfl (by decide) hl.1 rfl rfl (Nat.le_of_ble_eq_true rfl) dX6_print_157 ⟨Nat.le_of_ble_eq_true rfl, Nat.le_of_ble_eq_true rfl⟩ (fun u H locs hp hP hD hS => ?_)
          obtain ⟨v_4, rfl⟩ : ∃ z, z = u := ⟨_, rfl⟩
          try dsimp only at hp
          have hq_0 := hp
          have hq_0 := hq_0.symm
          subst hq_0
          have hP : va_P D vwCl [(h0, .inr (6, [.ref h1, .int (nI (xz + 1)), .int (bI fg), .int (nI v)])), (h1, .inl (cB, 400, .inl (upd tx xz (nI (letT.getD v 0)))))] H := hP
          have hD : va_D A [(h0, .inr (6, [.ref h1, .int (nI (xz + 1)), .int (bI fg), .int (nI v)])), (h1, .inl (cB, 400, .inl (upd tx xz (nI (letT.getD v 0)))))] := hD
          exact ret_v hx hb hr hlocks ((upd tx xz (nI (letT.getD v 0))), (xz + 1), fg) ⟨(by simp [pFg, pTx, pXz, pW, pCh, *]), (by simp [pFg, pTx, pXz, pW, pCh, *]), (by simp [pFg, pTx, pXz, pW, pCh, *])⟩ (hP.sub [0, 1] rfl) (hD.sub [0, 1] (by decide) rfl) hS dX6_print_160
        · skip
          have c_139 := bI_t c_139
          refine va_ldcS hx hb hown hE.2.2.2.2.2.1 dX6_print_142 ?_
          refine lv_iload_n hx hb dX6_print_144 rfl (lv_at hl 1 rfl) ?_
          refine pW_i (i := 0) (As := [.int (nI v)]) (rest := [.ref h0]) (by decide) ⟨hx, hb, hml, hown, hts⟩ (kJC_0 l Z v (by first | assumption | omega)) (cwV 1 hts gX6_print_J0_charAt_5068e rfl rfl rfl (by decide +kernel) ⟨Nat.le_of_ble_eq_true rfl, Nat.le_of_ble_eq_true rfl⟩) hK hE hP hD hS hA hl.1 rfl rfl (Nat.le_of_ble_eq_true rfl) dX6_print_145 ⟨Nat.le_of_ble_eq_true rfl, Nat.le_of_ble_eq_true rfl⟩ (fun H locs hP hS => ?_)
          refine lv_goto (tgt := 157) hx hb dX6_print_148 (by decide) ?_
          refine kV_v (As := [.int (nI (figT.getD v 0))]) (rest := []) (wr := []) ⟨hx, hb, hml, hown, hts⟩ (kX6_write l D Z cB cI cJ cZ H.size h0 h1 tx xz fg (nI v) (figT.getD v 0) (by first | assumption | omega) (by first | omega | exact e_chb0 _ hv9 | exact e_chb1 _ hv9)) (cwV 1 hts gX6_print_X6_write rfl rfl rfl (by decide +kernel) ⟨Nat.le_of_ble_eq_true rfl, Nat.le_of_ble_eq_true rfl⟩) hK hE hP hD hS hA 0 6 rfl rfl rfl [0, 1] [] rfl rfl rfl rfl rfl (by decide) hl.1 rfl rfl (Nat.le_of_ble_eq_true rfl) dX6_print_157 ⟨Nat.le_of_ble_eq_true rfl, Nat.le_of_ble_eq_true rfl⟩ (fun u H locs hp hP hD hS => ?_)
          obtain ⟨v_5, rfl⟩ : ∃ z, z = u := ⟨_, rfl⟩
          try dsimp only at hp
          have hq_0 := hp
          have hq_0 := hq_0.symm
          subst hq_0
          have hP : va_P D vwCl [(h0, .inr (6, [.ref h1, .int (nI (xz + 1)), .int (bI fg), .int (nI v)])), (h1, .inl (cB, 400, .inl (upd tx xz (nI (figT.getD v 0)))))] H := hP
          have hD : va_D A [(h0, .inr (6, [.ref h1, .int (nI (xz + 1)), .int (bI fg), .int (nI v)])), (h1, .inl (cB, 400, .inl (upd tx xz (nI (figT.getD v 0)))))] := hD
          exact ret_v hx hb hr hlocks ((upd tx xz (nI (figT.getD v 0))), (xz + 1), fg) ⟨(by simp [pFg, pTx, pXz, pW, pCh, *]), (by simp [pFg, pTx, pXz, pW, pCh, *]), (by simp [pFg, pTx, pXz, pW, pCh, *])⟩ (hP.sub [0, 1] rfl) (hD.sub [0, 1] (by decide) rfl) hS dX6_print_160
    · skip
      have c_7 : ¬ v < 32 := fun z => c_7 ((nI_ltI (a := v) (b := 32) (by omega) (by omega)).mpr z)
      exfalso
      omega

set_option maxHeartbeats 4000000 in
set_option maxRecDepth 100000 in
theorem kX6_copyFrom (l : Launch) (D : va_G) (Z : SZ) (cB cI cJ cZ : ClassId) (ksz : Nat) (h0 : Nat) (h1 : Nat) (g0 : Nat) (g1 : Nat) (tx : Nat → Int32) (tx2 : Nat → Int32) (xz : Nat) (xz2 : Nat) (fg : Bool) (fg2 : Bool) (la : Int32) (la2 : Int32) (hf : ∀ j : Nat, fits .byte (.int (tx2 j)) = true) : Met l yX6_copyFrom wsX6_copyFrom { frames := 1, cells := 0, slots := 0, locals := 60 } (PR D Z [(cB, .byte), (cI, .int), (cJ, .long), (cZ, .boolean)] [.ref h0, .ref g0] [(h0, .inr (6, [.ref h1, .int (nI xz), .int (bI fg), .int la])), (h1, .inl (cB, 400, .inl tx)), (g0, .inr (6, [.ref g1, .int (nI xz2), .int (bI fg2), .int la2])), (g1, .inl (cB, 400, .inl tx2))] ksz) (QV D (fun (u : (Nat → Int32)) => u = (cpy 400 tx2 tx)) (fun (u : (Nat → Int32)) => [(h0, .inr (6, [.ref h1, .int (nI xz2), .int (bI fg2), .int la2])), (h1, .inl (cB, 400, .inl u)), (g0, .inr (6, [.ref g1, .int (nI xz2), .int (bI fg2), .int la2])), (g1, .inl (cB, 400, .inl tx2))]) (va_A [(h0, .inr (6, [.ref h1, .int (nI xz), .int (bI fg), .int la])), (h1, .inl (cB, 400, .inl tx)), (g0, .inr (6, [.ref g1, .int (nI xz2), .int (bI fg2), .int la2])), (g1, .inl (cB, 400, .inl tx2))] ksz)) 0 0 (va_A [(h0, .inr (6, [.ref h1, .int (nI xz), .int (bI fg), .int la])), (h1, .inl (cB, 400, .inl tx)), (g0, .inr (6, [.ref g1, .int (nI xz2), .int (bI fg2), .int la2])), (g1, .inl (cB, 400, .inl tx2))] ksz) := by
  refine met_g (QV D (fun (u : (Nat → Int32)) => u = (cpy 400 tx2 tx)) (fun (u : (Nat → Int32)) => [(h0, .inr (6, [.ref h1, .int (nI xz2), .int (bI fg2), .int la2])), (h1, .inl (cB, 400, .inl u)), (g0, .inr (6, [.ref g1, .int (nI xz2), .int (bI fg2), .int la2])), (g1, .inl (cB, 400, .inl tx2))])) cX6_copyFrom 2 none (by decide) rfl (Nat.le_of_ble_eq_true rfl) ?_
  intro p e s m below meth c A ls hx hb hr hts hown hlocks hml hin hA hP hK hD hE hS hl hsz
  clear hsz
  have hl : lv_has ls 2 [(0, .ref h0), (1, .ref g0)] := hl
  refine lv_aload_n hx hb dX6_copyFrom_0 rfl (lv_at hl 1 rfl) ?_
  refine va_get (D := D) (ci := 6) (v := .ref g1) (C := RX6) (T := TX6) (N := 4) hx hb hts (by decide +kernel) hown hK hP 2 rfl rfl 0 (by decide) (hts (.fieldLink RX6 9 "TapeEngine$Printer" "bytes" "[B") (by decide +kernel)) (fun _ h9 => h9) rfl dX6_copyFrom_1 ?_
  refine lv_iconst (v := 0) hx hb dX6_copyFrom_4 (by decide) ?_
  refine lv_aload_n hx hb dX6_copyFrom_5 rfl (lv_at hl 0 rfl) ?_
  refine va_get (D := D) (ci := 6) (v := .ref h1) (C := RX6) (T := TX6) (N := 4) hx hb hts (by decide +kernel) hown hK hP 0 rfl rfl 0 (by decide) (hts (.fieldLink RX6 9 "TapeEngine$Printer" "bytes" "[B") (by decide +kernel)) (fun _ h9 => h9) rfl dX6_copyFrom_6 ?_
  refine lv_iconst (v := 0) hx hb dX6_copyFrom_9 (by decide) ?_
  refine lv_sipush (v := 400) hx hb dX6_copyFrom_10 (by decide) ?_
  refine va_copyi (D := D) hx hb (hml.trans hl.1.symm) hown (hts (.methodLink RX6 40 arraycopyName) (by decide +kernel)) (hts (.native arraycopyName) (by decide +kernel)) (hts (.static arraycopyName) (by decide +kernel)) (hts (.initialized "java/lang/System") (by decide +kernel)) hK hP hD hS 3 1 0 0 rfl rfl rfl rfl rfl (by decide) (by decide) (by decide) (by decide) (by decide) (fun i _ => hf _) (Nat.le_of_ble_eq_true rfl) (Nat.le_of_ble_eq_true rfl) dX6_copyFrom_13 (fun H locs hP hD hS => ?_)
  have hP : va_P D vwCl [(h0, .inr (6, [.ref h1, .int (nI xz), .int (bI fg), .int la])), (h1, .inl (cB, 400, .inl (va_cpy tx2 tx (0 : Int32).toNatClampNeg (0 : Int32).toNatClampNeg (400 : Int32).toNatClampNeg))), (g0, .inr (6, [.ref g1, .int (nI xz2), .int (bI fg2), .int la2])), (g1, .inl (cB, 400, .inl tx2))] H := hP
  have hD : va_D A [(h0, .inr (6, [.ref h1, .int (nI xz), .int (bI fg), .int la])), (h1, .inl (cB, 400, .inl (va_cpy tx2 tx (0 : Int32).toNatClampNeg (0 : Int32).toNatClampNeg (400 : Int32).toNatClampNeg))), (g0, .inr (6, [.ref g1, .int (nI xz2), .int (bI fg2), .int la2])), (g1, .inl (cB, 400, .inl tx2))] := hD
  refine lv_aload_n hx hb dX6_copyFrom_16 rfl (lv_at hl 0 rfl) ?_
  refine lv_aload_n hx hb dX6_copyFrom_17 rfl (lv_at hl 1 rfl) ?_
  refine va_get (D := D) (ci := 6) (v := .int (nI xz2)) (C := RX6) (T := TX6) (N := 4) hx hb hts (by decide +kernel) hown hK hP 2 rfl rfl 1 (by decide) (hts (.fieldLink RX6 15 "TapeEngine$Printer" "length" "I") (by decide +kernel)) (fun _ h9 => h9) rfl dX6_copyFrom_18 ?_
  refine va_put (D := D) (ci := 6) (v := .int (nI xz2)) (ty := .int) (C := RX6) (T := TX6) (N := 4) hx hb hts (by decide +kernel) tyX6 tyX6_ok nmX6 hown hK hP hD hS 0 rfl rfl 1 (by decide) (hts (.fieldLink RX6 15 "TapeEngine$Printer" "length" "I") (by decide +kernel)) (fun _ h9 => h9) rfl (by decide +kernel) rfl rfl (Nat.le_of_ble_eq_true rfl) dX6_copyFrom_21 (fun H locs hP hD hS => ?_)
  have hP : va_P D vwCl [(h0, .inr (6, [.ref h1, .int (nI xz2), .int (bI fg), .int la])), (h1, .inl (cB, 400, .inl (va_cpy tx2 tx (0 : Int32).toNatClampNeg (0 : Int32).toNatClampNeg (400 : Int32).toNatClampNeg))), (g0, .inr (6, [.ref g1, .int (nI xz2), .int (bI fg2), .int la2])), (g1, .inl (cB, 400, .inl tx2))] H := hP
  have hD : va_D A [(h0, .inr (6, [.ref h1, .int (nI xz2), .int (bI fg), .int la])), (h1, .inl (cB, 400, .inl (va_cpy tx2 tx (0 : Int32).toNatClampNeg (0 : Int32).toNatClampNeg (400 : Int32).toNatClampNeg))), (g0, .inr (6, [.ref g1, .int (nI xz2), .int (bI fg2), .int la2])), (g1, .inl (cB, 400, .inl tx2))] := hD
  refine lv_aload_n hx hb dX6_copyFrom_24 rfl (lv_at hl 0 rfl) ?_
  refine lv_aload_n hx hb dX6_copyFrom_25 rfl (lv_at hl 1 rfl) ?_
  refine va_get (D := D) (ci := 6) (v := .int (bI fg2)) (C := RX6) (T := TX6) (N := 4) hx hb hts (by decide +kernel) hown hK hP 2 rfl rfl 2 (by decide) (hts (.fieldLink RX6 19 "TapeEngine$Printer" "figures" "Z") (by decide +kernel)) (fun _ h9 => h9) rfl dX6_copyFrom_26 ?_
  refine va_put (D := D) (ci := 6) (v := .int (bI fg2)) (ty := .boolean) (C := RX6) (T := TX6) (N := 4) hx hb hts (by decide +kernel) tyX6 tyX6_ok nmX6 hown hK hP hD hS 0 rfl rfl 2 (by decide) (hts (.fieldLink RX6 19 "TapeEngine$Printer" "figures" "Z") (by decide +kernel)) (fun _ h9 => h9) rfl (by decide +kernel) (bI_nar _) (bI_fit _) (Nat.le_of_ble_eq_true rfl) dX6_copyFrom_29 (fun H locs hP hD hS => ?_)
  have hP : va_P D vwCl [(h0, .inr (6, [.ref h1, .int (nI xz2), .int (bI fg2), .int la])), (h1, .inl (cB, 400, .inl (va_cpy tx2 tx (0 : Int32).toNatClampNeg (0 : Int32).toNatClampNeg (400 : Int32).toNatClampNeg))), (g0, .inr (6, [.ref g1, .int (nI xz2), .int (bI fg2), .int la2])), (g1, .inl (cB, 400, .inl tx2))] H := hP
  have hD : va_D A [(h0, .inr (6, [.ref h1, .int (nI xz2), .int (bI fg2), .int la])), (h1, .inl (cB, 400, .inl (va_cpy tx2 tx (0 : Int32).toNatClampNeg (0 : Int32).toNatClampNeg (400 : Int32).toNatClampNeg))), (g0, .inr (6, [.ref g1, .int (nI xz2), .int (bI fg2), .int la2])), (g1, .inl (cB, 400, .inl tx2))] := hD
  refine lv_aload_n hx hb dX6_copyFrom_32 rfl (lv_at hl 0 rfl) ?_
  refine lv_aload_n hx hb dX6_copyFrom_33 rfl (lv_at hl 1 rfl) ?_
  refine va_get (D := D) (ci := 6) (v := .int la2) (C := RX6) (T := TX6) (N := 4) hx hb hts (by decide +kernel) hown hK hP 2 rfl rfl 3 (by decide) (hts (.fieldLink RX6 23 "TapeEngine$Printer" "last" "I") (by decide +kernel)) (fun _ h9 => h9) rfl dX6_copyFrom_34 ?_
  refine va_put (D := D) (ci := 6) (v := .int la2) (ty := .int) (C := RX6) (T := TX6) (N := 4) hx hb hts (by decide +kernel) tyX6 tyX6_ok nmX6 hown hK hP hD hS 0 rfl rfl 3 (by decide) (hts (.fieldLink RX6 23 "TapeEngine$Printer" "last" "I") (by decide +kernel)) (fun _ h9 => h9) rfl (by decide +kernel) rfl rfl (Nat.le_of_ble_eq_true rfl) dX6_copyFrom_37 (fun H locs hP hD hS => ?_)
  have hP : va_P D vwCl [(h0, .inr (6, [.ref h1, .int (nI xz2), .int (bI fg2), .int la2])), (h1, .inl (cB, 400, .inl (va_cpy tx2 tx (0 : Int32).toNatClampNeg (0 : Int32).toNatClampNeg (400 : Int32).toNatClampNeg))), (g0, .inr (6, [.ref g1, .int (nI xz2), .int (bI fg2), .int la2])), (g1, .inl (cB, 400, .inl tx2))] H := hP
  have hD : va_D A [(h0, .inr (6, [.ref h1, .int (nI xz2), .int (bI fg2), .int la2])), (h1, .inl (cB, 400, .inl (va_cpy tx2 tx (0 : Int32).toNatClampNeg (0 : Int32).toNatClampNeg (400 : Int32).toNatClampNeg))), (g0, .inr (6, [.ref g1, .int (nI xz2), .int (bI fg2), .int la2])), (g1, .inl (cB, 400, .inl tx2))] := hD
  exact ret_v hx hb hr hlocks ((va_cpy tx2 tx (0 : Int32).toNatClampNeg (0 : Int32).toNatClampNeg (400 : Int32).toNatClampNeg)) (e_cpy (by decide)) (hP.sub [0, 1, 2, 3] rfl) (hD.sub [0, 1, 2, 3] (by decide) rfl) hS dX6_copyFrom_40

set_option maxHeartbeats 4000000 in
set_option maxRecDepth 100000 in
theorem kX5_copyFrom (l : Launch) (D : va_G) (Z : SZ) (cB cI cJ cZ : ClassId) (ksz : Nat) (h0 : Nat) (h1 : Nat) (h2 : Nat) (g0 : Nat) (g1 : Nat) (g2 : Nat) (w : Nat → Int32) (mid : Nat → Int32) (w2 : Nat → Int32) (mid2 : Nat → Int32)  : Met l yX5_copyFrom wsX5_copyFrom { frames := 1, cells := 0, slots := 0, locals := 60 } (PR D Z [(cB, .byte), (cI, .int), (cJ, .long), (cZ, .boolean)] [.ref h0, .ref g0] [(h0, .inr (5, [.ref h1, .ref h2])), (h1, .inl (cI, 256, .inl w)), (h2, .inl (cI, 128, .inl mid)), (g0, .inr (5, [.ref g1, .ref g2])), (g1, .inl (cI, 256, .inl w2)), (g2, .inl (cI, 128, .inl mid2))] ksz) (QV D (fun (u : (Nat → Int32) × (Nat → Int32)) => u.1 = (cpy 256 w2 w) ∧ u.2 = (cpy 128 mid2 mid)) (fun (u : (Nat → Int32) × (Nat → Int32)) => [(h0, .inr (5, [.ref h1, .ref h2])), (h1, .inl (cI, 256, .inl u.1)), (h2, .inl (cI, 128, .inl u.2)), (g0, .inr (5, [.ref g1, .ref g2])), (g1, .inl (cI, 256, .inl w2)), (g2, .inl (cI, 128, .inl mid2))]) (va_A [(h0, .inr (5, [.ref h1, .ref h2])), (h1, .inl (cI, 256, .inl w)), (h2, .inl (cI, 128, .inl mid)), (g0, .inr (5, [.ref g1, .ref g2])), (g1, .inl (cI, 256, .inl w2)), (g2, .inl (cI, 128, .inl mid2))] ksz)) 0 0 (va_A [(h0, .inr (5, [.ref h1, .ref h2])), (h1, .inl (cI, 256, .inl w)), (h2, .inl (cI, 128, .inl mid)), (g0, .inr (5, [.ref g1, .ref g2])), (g1, .inl (cI, 256, .inl w2)), (g2, .inl (cI, 128, .inl mid2))] ksz) := by
  refine met_g (QV D (fun (u : (Nat → Int32) × (Nat → Int32)) => u.1 = (cpy 256 w2 w) ∧ u.2 = (cpy 128 mid2 mid)) (fun (u : (Nat → Int32) × (Nat → Int32)) => [(h0, .inr (5, [.ref h1, .ref h2])), (h1, .inl (cI, 256, .inl u.1)), (h2, .inl (cI, 128, .inl u.2)), (g0, .inr (5, [.ref g1, .ref g2])), (g1, .inl (cI, 256, .inl w2)), (g2, .inl (cI, 128, .inl mid2))])) cX5_copyFrom 2 none (by decide) rfl (Nat.le_of_ble_eq_true rfl) ?_
  intro p e s m below meth c A ls hx hb hr hts hown hlocks hml hin hA hP hK hD hE hS hl hsz
  clear hsz
  have hl : lv_has ls 2 [(0, .ref h0), (1, .ref g0)] := hl
  refine lv_aload_n hx hb dX5_copyFrom_0 rfl (lv_at hl 1 rfl) ?_
  refine va_get (D := D) (ci := 5) (v := .ref g1) (C := RX5) (T := TX5) (N := 2) hx hb hts (by decide +kernel) hown hK hP 3 rfl rfl 0 (by decide) (hts (.fieldLink RX5 9 "TapeEngine$Memory" "shorts" "[I") (by decide +kernel)) (fun _ h9 => h9) rfl dX5_copyFrom_1 ?_
  refine lv_iconst (v := 0) hx hb dX5_copyFrom_4 (by decide) ?_
  refine lv_aload_n hx hb dX5_copyFrom_5 rfl (lv_at hl 0 rfl) ?_
  refine va_get (D := D) (ci := 5) (v := .ref h1) (C := RX5) (T := TX5) (N := 2) hx hb hts (by decide +kernel) hown hK hP 0 rfl rfl 0 (by decide) (hts (.fieldLink RX5 9 "TapeEngine$Memory" "shorts" "[I") (by decide +kernel)) (fun _ h9 => h9) rfl dX5_copyFrom_6 ?_
  refine lv_iconst (v := 0) hx hb dX5_copyFrom_9 (by decide) ?_
  refine lv_sipush (v := 256) hx hb dX5_copyFrom_10 (by decide) ?_
  refine va_copyi (D := D) hx hb (hml.trans hl.1.symm) hown (hts (.methodLink RX5 27 arraycopyName) (by decide +kernel)) (hts (.native arraycopyName) (by decide +kernel)) (hts (.static arraycopyName) (by decide +kernel)) (hts (.initialized "java/lang/System") (by decide +kernel)) hK hP hD hS 4 1 1 1 rfl rfl rfl rfl rfl (by decide) (by decide) (by decide) (by decide) (by decide) (fun _ _ => rfl) (Nat.le_of_ble_eq_true rfl) (Nat.le_of_ble_eq_true rfl) dX5_copyFrom_13 (fun H locs hP hD hS => ?_)
  have hP : va_P D vwCl [(h0, .inr (5, [.ref h1, .ref h2])), (h1, .inl (cI, 256, .inl (va_cpy w2 w (0 : Int32).toNatClampNeg (0 : Int32).toNatClampNeg (256 : Int32).toNatClampNeg))), (h2, .inl (cI, 128, .inl mid)), (g0, .inr (5, [.ref g1, .ref g2])), (g1, .inl (cI, 256, .inl w2)), (g2, .inl (cI, 128, .inl mid2))] H := hP
  have hD : va_D A [(h0, .inr (5, [.ref h1, .ref h2])), (h1, .inl (cI, 256, .inl (va_cpy w2 w (0 : Int32).toNatClampNeg (0 : Int32).toNatClampNeg (256 : Int32).toNatClampNeg))), (h2, .inl (cI, 128, .inl mid)), (g0, .inr (5, [.ref g1, .ref g2])), (g1, .inl (cI, 256, .inl w2)), (g2, .inl (cI, 128, .inl mid2))] := hD
  refine lv_aload_n hx hb dX5_copyFrom_16 rfl (lv_at hl 1 rfl) ?_
  refine va_get (D := D) (ci := 5) (v := .ref g2) (C := RX5) (T := TX5) (N := 2) hx hb hts (by decide +kernel) hown hK hP 3 rfl rfl 1 (by decide) (hts (.fieldLink RX5 15 "TapeEngine$Memory" "middles" "[I") (by decide +kernel)) (fun _ h9 => h9) rfl dX5_copyFrom_17 ?_
  refine lv_iconst (v := 0) hx hb dX5_copyFrom_20 (by decide) ?_
  refine lv_aload_n hx hb dX5_copyFrom_21 rfl (lv_at hl 0 rfl) ?_
  refine va_get (D := D) (ci := 5) (v := .ref h2) (C := RX5) (T := TX5) (N := 2) hx hb hts (by decide +kernel) hown hK hP 0 rfl rfl 1 (by decide) (hts (.fieldLink RX5 15 "TapeEngine$Memory" "middles" "[I") (by decide +kernel)) (fun _ h9 => h9) rfl dX5_copyFrom_22 ?_
  refine lv_iconst (v := 0) hx hb dX5_copyFrom_25 (by decide) ?_
  refine lv_sipush (v := 128) hx hb dX5_copyFrom_26 (by decide) ?_
  refine va_copyi (D := D) hx hb (hml.trans hl.1.symm) hown (hts (.methodLink RX5 27 arraycopyName) (by decide +kernel)) (hts (.native arraycopyName) (by decide +kernel)) (hts (.static arraycopyName) (by decide +kernel)) (hts (.initialized "java/lang/System") (by decide +kernel)) hK hP hD hS 5 2 1 1 rfl rfl rfl rfl rfl (by decide) (by decide) (by decide) (by decide) (by decide) (fun _ _ => rfl) (Nat.le_of_ble_eq_true rfl) (Nat.le_of_ble_eq_true rfl) dX5_copyFrom_29 (fun H locs hP hD hS => ?_)
  have hP : va_P D vwCl [(h0, .inr (5, [.ref h1, .ref h2])), (h1, .inl (cI, 256, .inl (va_cpy w2 w (0 : Int32).toNatClampNeg (0 : Int32).toNatClampNeg (256 : Int32).toNatClampNeg))), (h2, .inl (cI, 128, .inl (va_cpy mid2 mid (0 : Int32).toNatClampNeg (0 : Int32).toNatClampNeg (128 : Int32).toNatClampNeg))), (g0, .inr (5, [.ref g1, .ref g2])), (g1, .inl (cI, 256, .inl w2)), (g2, .inl (cI, 128, .inl mid2))] H := hP
  have hD : va_D A [(h0, .inr (5, [.ref h1, .ref h2])), (h1, .inl (cI, 256, .inl (va_cpy w2 w (0 : Int32).toNatClampNeg (0 : Int32).toNatClampNeg (256 : Int32).toNatClampNeg))), (h2, .inl (cI, 128, .inl (va_cpy mid2 mid (0 : Int32).toNatClampNeg (0 : Int32).toNatClampNeg (128 : Int32).toNatClampNeg))), (g0, .inr (5, [.ref g1, .ref g2])), (g1, .inl (cI, 256, .inl w2)), (g2, .inl (cI, 128, .inl mid2))] := hD
  exact ret_v hx hb hr hlocks ((va_cpy w2 w (0 : Int32).toNatClampNeg (0 : Int32).toNatClampNeg (256 : Int32).toNatClampNeg), (va_cpy mid2 mid (0 : Int32).toNatClampNeg (0 : Int32).toNatClampNeg (128 : Int32).toNatClampNeg)) ⟨(e_cpy (by decide)), (e_cpy (by decide))⟩ (hP.sub [0, 1, 2, 3, 4, 5] rfl) (hD.sub [0, 1, 2, 3, 4, 5] (by decide) rfl) hS dX5_copyFrom_32
