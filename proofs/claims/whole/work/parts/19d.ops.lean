set_option maxHeartbeats 4000000 in
set_option maxRecDepth 100000 in
theorem kX9_top (l : Launch) (D : va_G) (Z : SZ) (cB cI cJ cZ : ClassId) (ksz : Nat) (e0 : Nat) (h0 : Nat) (g0 : Nat) (t0 : Nat) (l0 : Nat) (k0 : Nat) (f0 : Nat) (hk : Bool) (re : Int32) (a1 : Nat) (a2 : Nat) (a3 : Nat) (a4 : Nat) (a5 : Nat) (hi : Int64) (lo : Int64) (mult : Int64) (nx : Nat)  : Met l yX9_top wsX9_top { frames := 0, cells := 0, slots := 0, locals := 0 } (PR D Z [(cB, .byte), (cI, .int), (cJ, .long), (cZ, .boolean)] [.ref e0] [(e0, .inr (9, [.ref h0, .ref g0, .ref t0, .ref l0, .ref k0, .ref f0, .int (bI hk), .int re])), (h0, .inr (3, [.ref a1, .ref a2, .ref a3, .ref a4, .ref a5, .long mult, .int (nI nx)])), (a2, .inr (0, [.long hi, .long lo]))] ksz) (QL D (fun (r : Int64) (_ : Unit) => r = hi) (fun (_ : Unit) => [(e0, .inr (9, [.ref h0, .ref g0, .ref t0, .ref l0, .ref k0, .ref f0, .int (bI hk), .int re])), (h0, .inr (3, [.ref a1, .ref a2, .ref a3, .ref a4, .ref a5, .long mult, .int (nI nx)])), (a2, .inr (0, [.long hi, .long lo]))]) (va_A [(e0, .inr (9, [.ref h0, .ref g0, .ref t0, .ref l0, .ref k0, .ref f0, .int (bI hk), .int re])), (h0, .inr (3, [.ref a1, .ref a2, .ref a3, .ref a4, .ref a5, .long mult, .int (nI nx)])), (a2, .inr (0, [.long hi, .long lo]))] ksz)) 0 0 (va_A [(e0, .inr (9, [.ref h0, .ref g0, .ref t0, .ref l0, .ref k0, .ref f0, .int (bI hk), .int re])), (h0, .inr (3, [.ref a1, .ref a2, .ref a3, .ref a4, .ref a5, .long mult, .int (nI nx)])), (a2, .inr (0, [.long hi, .long lo]))] ksz) := by
  refine met_g (QL D (fun (r : Int64) (_ : Unit) => r = hi) (fun (_ : Unit) => [(e0, .inr (9, [.ref h0, .ref g0, .ref t0, .ref l0, .ref k0, .ref f0, .int (bI hk), .int re])), (h0, .inr (3, [.ref a1, .ref a2, .ref a3, .ref a4, .ref a5, .long mult, .int (nI nx)])), (a2, .inr (0, [.long hi, .long lo]))])) cX9_top 1 (some .long) (by decide) rfl (Nat.le_of_ble_eq_true rfl) ?_
  intro p e s m below meth c A ls hx hb hr hts hown hlocks hml hin hA hP hK hD hE hS hl hsz
  clear hsz
  have hl : lv_has ls 1 [(0, .ref e0)] := hl
  refine lv_aload_n hx hb dX9_top_0 rfl (lv_at hl 0 rfl) ?_
  refine va_get (D := D) (ci := 9) (v := .ref h0) (C := RX9) (T := TX9) (N := 8) hx hb hts (by decide +kernel) hown hK hP 0 rfl rfl 0 (by decide) (hts (.fieldLink RX9 10 "TapeEngine" "machine" "LTapeEngine$Machine;") (by decide +kernel)) (fun _ h9 => h9) rfl dX9_top_1 ?_
  refine va_getN (D := D) (ci := 3) (v := .ref a2) (C := RX3) (T := TX3) (N := 7) hx hb hts (by decide +kernel) hown hK hP 1 rfl rfl 1 (by decide) (va_Nw.use rfl (nf_X9_96 hE)) (fun _ h9 => h9) rfl dX9_top_4 ?_
  refine va_getN (D := D) (ci := 0) (v := .long hi) (C := RX0) (T := TX0) (N := 2) hx hb hts (by decide +kernel) hown hK hP 2 rfl rfl 0 (by decide) (va_Nw.use rfl (nf_X9_100 hE)) (fun _ h9 => h9) rfl dX9_top_7 ?_
  exact ret_l hx hb hr hlocks () (by rfl) (hP.sub [0, 1, 2] rfl) (hD.sub [0, 1, 2] (by decide) rfl) hS dX9_top_10

set_option maxHeartbeats 4000000 in
set_option maxRecDepth 100000 in
theorem kX9_rest (l : Launch) (D : va_G) (Z : SZ) (cB cI cJ cZ : ClassId) (ksz : Nat) (e0 : Nat) (h0 : Nat) (g0 : Nat) (t0 : Nat) (l0 : Nat) (k0 : Nat) (f0 : Nat) (hk : Bool) (re : Int32) (a1 : Nat) (a2 : Nat) (a3 : Nat) (a4 : Nat) (a5 : Nat) (hi : Int64) (lo : Int64) (mult : Int64) (nx : Nat)  : Met l yX9_rest wsX9_rest { frames := 0, cells := 0, slots := 0, locals := 0 } (PR D Z [(cB, .byte), (cI, .int), (cJ, .long), (cZ, .boolean)] [.ref e0] [(e0, .inr (9, [.ref h0, .ref g0, .ref t0, .ref l0, .ref k0, .ref f0, .int (bI hk), .int re])), (h0, .inr (3, [.ref a1, .ref a2, .ref a3, .ref a4, .ref a5, .long mult, .int (nI nx)])), (a2, .inr (0, [.long hi, .long lo]))] ksz) (QL D (fun (r : Int64) (_ : Unit) => r = lo) (fun (_ : Unit) => [(e0, .inr (9, [.ref h0, .ref g0, .ref t0, .ref l0, .ref k0, .ref f0, .int (bI hk), .int re])), (h0, .inr (3, [.ref a1, .ref a2, .ref a3, .ref a4, .ref a5, .long mult, .int (nI nx)])), (a2, .inr (0, [.long hi, .long lo]))]) (va_A [(e0, .inr (9, [.ref h0, .ref g0, .ref t0, .ref l0, .ref k0, .ref f0, .int (bI hk), .int re])), (h0, .inr (3, [.ref a1, .ref a2, .ref a3, .ref a4, .ref a5, .long mult, .int (nI nx)])), (a2, .inr (0, [.long hi, .long lo]))] ksz)) 0 0 (va_A [(e0, .inr (9, [.ref h0, .ref g0, .ref t0, .ref l0, .ref k0, .ref f0, .int (bI hk), .int re])), (h0, .inr (3, [.ref a1, .ref a2, .ref a3, .ref a4, .ref a5, .long mult, .int (nI nx)])), (a2, .inr (0, [.long hi, .long lo]))] ksz) := by
  refine met_g (QL D (fun (r : Int64) (_ : Unit) => r = lo) (fun (_ : Unit) => [(e0, .inr (9, [.ref h0, .ref g0, .ref t0, .ref l0, .ref k0, .ref f0, .int (bI hk), .int re])), (h0, .inr (3, [.ref a1, .ref a2, .ref a3, .ref a4, .ref a5, .long mult, .int (nI nx)])), (a2, .inr (0, [.long hi, .long lo]))])) cX9_rest 1 (some .long) (by decide) rfl (Nat.le_of_ble_eq_true rfl) ?_
  intro p e s m below meth c A ls hx hb hr hts hown hlocks hml hin hA hP hK hD hE hS hl hsz
  clear hsz
  have hl : lv_has ls 1 [(0, .ref e0)] := hl
  refine lv_aload_n hx hb dX9_rest_0 rfl (lv_at hl 0 rfl) ?_
  refine va_get (D := D) (ci := 9) (v := .ref h0) (C := RX9) (T := TX9) (N := 8) hx hb hts (by decide +kernel) hown hK hP 0 rfl rfl 0 (by decide) (hts (.fieldLink RX9 10 "TapeEngine" "machine" "LTapeEngine$Machine;") (by decide +kernel)) (fun _ h9 => h9) rfl dX9_rest_1 ?_
  refine va_getN (D := D) (ci := 3) (v := .ref a2) (C := RX3) (T := TX3) (N := 7) hx hb hts (by decide +kernel) hown hK hP 1 rfl rfl 1 (by decide) (va_Nw.use rfl (nf_X9_96 hE)) (fun _ h9 => h9) rfl dX9_rest_4 ?_
  refine va_getN (D := D) (ci := 0) (v := .long lo) (C := RX0) (T := TX0) (N := 2) hx hb hts (by decide +kernel) hown hK hP 2 rfl rfl 1 (by decide) (va_Nw.use rfl (nf_X9_106 hE)) (fun _ h9 => h9) rfl dX9_rest_7 ?_
  exact ret_l hx hb hr hlocks () (by rfl) (hP.sub [0, 1, 2] rfl) (hD.sub [0, 1, 2] (by decide) rfl) hS dX9_rest_10

set_option maxHeartbeats 4000000 in
set_option maxRecDepth 100000 in
theorem kX9_multiplier (l : Launch) (D : va_G) (Z : SZ) (cB cI cJ cZ : ClassId) (ksz : Nat) (e0 : Nat) (h0 : Nat) (g0 : Nat) (t0 : Nat) (l0 : Nat) (k0 : Nat) (f0 : Nat) (hk : Bool) (re : Int32) (a1 : Nat) (a2 : Nat) (a3 : Nat) (a4 : Nat) (a5 : Nat) (mult : Int64) (nx : Nat)  : Met l yX9_multiplier wsX9_multiplier { frames := 0, cells := 0, slots := 0, locals := 0 } (PR D Z [(cB, .byte), (cI, .int), (cJ, .long), (cZ, .boolean)] [.ref e0] [(e0, .inr (9, [.ref h0, .ref g0, .ref t0, .ref l0, .ref k0, .ref f0, .int (bI hk), .int re])), (h0, .inr (3, [.ref a1, .ref a2, .ref a3, .ref a4, .ref a5, .long mult, .int (nI nx)]))] ksz) (QL D (fun (r : Int64) (_ : Unit) => r = mult) (fun (_ : Unit) => [(e0, .inr (9, [.ref h0, .ref g0, .ref t0, .ref l0, .ref k0, .ref f0, .int (bI hk), .int re])), (h0, .inr (3, [.ref a1, .ref a2, .ref a3, .ref a4, .ref a5, .long mult, .int (nI nx)]))]) (va_A [(e0, .inr (9, [.ref h0, .ref g0, .ref t0, .ref l0, .ref k0, .ref f0, .int (bI hk), .int re])), (h0, .inr (3, [.ref a1, .ref a2, .ref a3, .ref a4, .ref a5, .long mult, .int (nI nx)]))] ksz)) 0 0 (va_A [(e0, .inr (9, [.ref h0, .ref g0, .ref t0, .ref l0, .ref k0, .ref f0, .int (bI hk), .int re])), (h0, .inr (3, [.ref a1, .ref a2, .ref a3, .ref a4, .ref a5, .long mult, .int (nI nx)]))] ksz) := by
  refine met_g (QL D (fun (r : Int64) (_ : Unit) => r = mult) (fun (_ : Unit) => [(e0, .inr (9, [.ref h0, .ref g0, .ref t0, .ref l0, .ref k0, .ref f0, .int (bI hk), .int re])), (h0, .inr (3, [.ref a1, .ref a2, .ref a3, .ref a4, .ref a5, .long mult, .int (nI nx)]))])) cX9_multiplier 1 (some .long) (by decide) rfl (Nat.le_of_ble_eq_true rfl) ?_
  intro p e s m below meth c A ls hx hb hr hts hown hlocks hml hin hA hP hK hD hE hS hl hsz
  clear hsz
  have hl : lv_has ls 1 [(0, .ref e0)] := hl
  refine lv_aload_n hx hb dX9_multiplier_0 rfl (lv_at hl 0 rfl) ?_
  refine va_get (D := D) (ci := 9) (v := .ref h0) (C := RX9) (T := TX9) (N := 8) hx hb hts (by decide +kernel) hown hK hP 0 rfl rfl 0 (by decide) (hts (.fieldLink RX9 10 "TapeEngine" "machine" "LTapeEngine$Machine;") (by decide +kernel)) (fun _ h9 => h9) rfl dX9_multiplier_1 ?_
  refine va_getN (D := D) (ci := 3) (v := .long mult) (C := RX3) (T := TX3) (N := 7) hx hb hts (by decide +kernel) hown hK hP 1 rfl rfl 5 (by decide) (va_Nw.use rfl (nf_X9_119 hE)) (fun _ h9 => h9) rfl dX9_multiplier_4 ?_
  exact ret_l hx hb hr hlocks () (by rfl) (hP.sub [0, 1] rfl) (hD.sub [0, 1] (by decide) rfl) hS dX9_multiplier_7

set_option maxHeartbeats 4000000 in
set_option maxRecDepth 100000 in
theorem kX9_set (l : Launch) (D : va_G) (Z : SZ) (cB cI cJ cZ : ClassId) (ksz : Nat) (e0 : Nat) (h0 : Nat) (g0 : Nat) (t0 : Nat) (l0 : Nat) (k0 : Nat) (f0 : Nat) (hk : Bool) (re : Int32) (t1 : Nat) (t2 : Nat) (t3 : Nat) (t4 : Nat) (t5 : Nat) (t6 : Nat) (t7 : Nat) (t8 : Nat) (t9 : Nat) (t10 : Nat) (nw : Nat) (ts : Nat) (a1 : Nat) (a2 : Nat) (a3 : Nat) (a4 : Nat) (a5 : Nat) (hi : Int64) (lo : Int64) (mult : Int64) (nx : Nat) (a : Int64) (b : Int64)  : Met l yX9_set wsX9_set { frames := 1, cells := 0, slots := 0, locals := 24 } (PR D Z [(cB, .byte), (cI, .int), (cJ, .long), (cZ, .boolean)] [.ref e0, .long a, .long b] [(e0, .inr (9, [.ref h0, .ref g0, .ref t0, .ref l0, .ref k0, .ref f0, .int (bI hk), .int re])), (h0, .inr (3, [.ref a1, .ref a2, .ref a3, .ref a4, .ref a5, .long mult, .int (nI nx)])), (a2, .inr (0, [.long hi, .long lo])), (t0, .inr (8, [.ref t1, .ref t2, .ref t3, .ref t4, .ref t5, .ref t6, .ref t7, .ref t8, .ref t9, .ref t10, .int (nI nw), .int (nI ts)]))] ksz) (QI D (fun (r : Int32) (u : Int64 × Int64 × Nat) => r = (if okT a b then 1 else -3) ∧ u.1 = (if okT a b then a else hi) ∧ u.2.1 = (if okT a b then b else lo) ∧ u.2.2 = (if okT a b then 0 else ts)) (fun (u : Int64 × Int64 × Nat) => [(e0, .inr (9, [.ref h0, .ref g0, .ref t0, .ref l0, .ref k0, .ref f0, .int (bI hk), .int re])), (h0, .inr (3, [.ref a1, .ref a2, .ref a3, .ref a4, .ref a5, .long mult, .int (nI nx)])), (a2, .inr (0, [.long u.1, .long u.2.1])), (t0, .inr (8, [.ref t1, .ref t2, .ref t3, .ref t4, .ref t5, .ref t6, .ref t7, .ref t8, .ref t9, .ref t10, .int (nI nw), .int (nI u.2.2)]))]) (va_A [(e0, .inr (9, [.ref h0, .ref g0, .ref t0, .ref l0, .ref k0, .ref f0, .int (bI hk), .int re])), (h0, .inr (3, [.ref a1, .ref a2, .ref a3, .ref a4, .ref a5, .long mult, .int (nI nx)])), (a2, .inr (0, [.long hi, .long lo])), (t0, .inr (8, [.ref t1, .ref t2, .ref t3, .ref t4, .ref t5, .ref t6, .ref t7, .ref t8, .ref t9, .ref t10, .int (nI nw), .int (nI ts)]))] ksz)) 0 0 (va_A [(e0, .inr (9, [.ref h0, .ref g0, .ref t0, .ref l0, .ref k0, .ref f0, .int (bI hk), .int re])), (h0, .inr (3, [.ref a1, .ref a2, .ref a3, .ref a4, .ref a5, .long mult, .int (nI nx)])), (a2, .inr (0, [.long hi, .long lo])), (t0, .inr (8, [.ref t1, .ref t2, .ref t3, .ref t4, .ref t5, .ref t6, .ref t7, .ref t8, .ref t9, .ref t10, .int (nI nw), .int (nI ts)]))] ksz) := by
  refine met_g (QI D (fun (r : Int32) (u : Int64 × Int64 × Nat) => r = (if okT a b then 1 else -3) ∧ u.1 = (if okT a b then a else hi) ∧ u.2.1 = (if okT a b then b else lo) ∧ u.2.2 = (if okT a b then 0 else ts)) (fun (u : Int64 × Int64 × Nat) => [(e0, .inr (9, [.ref h0, .ref g0, .ref t0, .ref l0, .ref k0, .ref f0, .int (bI hk), .int re])), (h0, .inr (3, [.ref a1, .ref a2, .ref a3, .ref a4, .ref a5, .long mult, .int (nI nx)])), (a2, .inr (0, [.long u.1, .long u.2.1])), (t0, .inr (8, [.ref t1, .ref t2, .ref t3, .ref t4, .ref t5, .ref t6, .ref t7, .ref t8, .ref t9, .ref t10, .int (nI nw), .int (nI u.2.2)]))])) cX9_set 5 (some .int) (by decide) rfl (Nat.le_of_ble_eq_true rfl) ?_
  intro p e s m below meth c A ls hx hb hr hts hown hlocks hml hin hA hP hK hD hE hS hl hsz
  clear hsz
  have hl : lv_has ls 5 [(0, .ref e0), (1, .long a), (3, .long b)] := hl
  refine lv_lload_n hx hb dX9_set_0 rfl (lv_at hl 1 rfl) ?_
  refine lv_ldc2 hx hb hown (hts (.constantLong RX9 109 (-17179869184)) (by decide +kernel)) dX9_set_1 ?_
  refine W.lcmp hx hb dX9_set_4 ?_
  refine lv_if_lt (tgt := 30) hx hb dX9_set_5 (by decide) (fun c_5 => ?_) (fun c_5 => ?_)
  · skip
    have c_5 : a < (-17179869184) := (lg_cmp_lt _ _).mp c_5
    have hno : ¬ okT a b := fun z => by first | exact z.1 c_5 | exact Int64.not_lt.mpr c_13 z.2.1 | exact z.2.2.1 c_19 | exact c_27 z.2.2.2
    refine lv_bipush (v := (-3)) hx hb dX9_set_30 (by decide) ?_
    exact ret_i hx hb hr hlocks (hi, lo, ts) ⟨(by first | exact (if_neg hno).symm | (rw [if_pos hok])), (by first | exact (if_neg hno).symm | (rw [if_pos hok])), (by first | exact (if_neg hno).symm | (rw [if_pos hok])), (by first | exact (if_neg hno).symm | (rw [if_pos hok]))⟩ (hP.sub [0, 1, 2, 3] rfl) (hD.sub [0, 1, 2, 3] (by decide) rfl) hS dX9_set_32
  · skip
    have c_5 : ¬ a < (-17179869184) := fun z => c_5 ((lg_cmp_lt _ _).mpr z)
    refine lv_lload_n hx hb dX9_set_8 rfl (lv_at hl 1 rfl) ?_
    refine lv_ldc2 hx hb hown (hts (.constantLong RX9 111 (17179869184)) (by decide +kernel)) dX9_set_9 ?_
    refine W.lcmp hx hb dX9_set_12 ?_
    refine lv_if_ge (tgt := 30) hx hb dX9_set_13 (by decide) (fun c_13 => ?_) (fun c_13 => ?_)
    · skip
      have c_13 : 17179869184 ≤ a := (lg_cmp_ge _ _).mp c_13
      have hno : ¬ okT a b := fun z => by first | exact z.1 c_5 | exact Int64.not_lt.mpr c_13 z.2.1 | exact z.2.2.1 c_19 | exact c_27 z.2.2.2
      refine lv_bipush (v := (-3)) hx hb dX9_set_30 (by decide) ?_
      exact ret_i hx hb hr hlocks (hi, lo, ts) ⟨(by first | exact (if_neg hno).symm | (rw [if_pos hok])), (by first | exact (if_neg hno).symm | (rw [if_pos hok])), (by first | exact (if_neg hno).symm | (rw [if_pos hok])), (by first | exact (if_neg hno).symm | (rw [if_pos hok]))⟩ (hP.sub [0, 1, 2, 3] rfl) (hD.sub [0, 1, 2, 3] (by decide) rfl) hS dX9_set_32
    · skip
      have c_13 : ¬ 17179869184 ≤ a := fun z => c_13 ((lg_cmp_ge _ _).mpr z)
      refine lv_lload_n hx hb dX9_set_16 rfl (lv_at hl 2 rfl) ?_
      refine lv_lconst (v := 0) hx hb dX9_set_17 (by decide) ?_
      refine W.lcmp hx hb dX9_set_18 ?_
      refine lv_if_lt (tgt := 30) hx hb dX9_set_19 (by decide) (fun c_19 => ?_) (fun c_19 => ?_)
      · skip
        have c_19 : b < 0 := (lg_cmp_lt _ _).mp c_19
        have hno : ¬ okT a b := fun z => by first | exact z.1 c_5 | exact Int64.not_lt.mpr c_13 z.2.1 | exact z.2.2.1 c_19 | exact c_27 z.2.2.2
        refine lv_bipush (v := (-3)) hx hb dX9_set_30 (by decide) ?_
        exact ret_i hx hb hr hlocks (hi, lo, ts) ⟨(by first | exact (if_neg hno).symm | (rw [if_pos hok])), (by first | exact (if_neg hno).symm | (rw [if_pos hok])), (by first | exact (if_neg hno).symm | (rw [if_pos hok])), (by first | exact (if_neg hno).symm | (rw [if_pos hok]))⟩ (hP.sub [0, 1, 2, 3] rfl) (hD.sub [0, 1, 2, 3] (by decide) rfl) hS dX9_set_32
      · skip
        have c_19 : ¬ b < 0 := fun z => c_19 ((lg_cmp_lt _ _).mpr z)
        refine lv_lload_n hx hb dX9_set_22 rfl (lv_at hl 2 rfl) ?_
        refine lv_ldc2 hx hb hown (hts (.constantLong RX9 113 (68719476735)) (by decide +kernel)) dX9_set_23 ?_
        refine W.lcmp hx hb dX9_set_26 ?_
        refine lv_if_le (tgt := 33) hx hb dX9_set_27 (by decide) (fun c_27 => ?_) (fun c_27 => ?_)
        · skip
          have c_27 : b ≤ 68719476735 := (lg_cmp_le _ _).mp c_27
          have hok : okT a b := ⟨c_5, Int64.not_le.mp c_13, c_19, c_27⟩
          refine lv_aload_n hx hb dX9_set_33 rfl (lv_at hl 0 rfl) ?_
          refine va_get (D := D) (ci := 9) (v := .ref h0) (C := RX9) (T := TX9) (N := 8) hx hb hts (by decide +kernel) hown hK hP 0 rfl rfl 0 (by decide) (hts (.fieldLink RX9 10 "TapeEngine" "machine" "LTapeEngine$Machine;") (by decide +kernel)) (fun _ h9 => h9) rfl dX9_set_34 ?_
          refine va_getN (D := D) (ci := 3) (v := .ref a2) (C := RX3) (T := TX3) (N := 7) hx hb hts (by decide +kernel) hown hK hP 1 rfl rfl 1 (by decide) (va_Nw.use rfl (nf_X9_96 hE)) (fun _ h9 => h9) rfl dX9_set_37 ?_
          refine lv_lload_n hx hb dX9_set_40 rfl (lv_at hl 1 rfl) ?_
          refine lv_lload_n hx hb dX9_set_41 rfl (lv_at hl 2 rfl) ?_
          refine kV_v (As := [.long a, .long b]) (rest := []) (wr := [(e0, .inr (9, [.ref h0, .ref g0, .ref t0, .ref l0, .ref k0, .ref f0, .int (bI hk), .int re])), (h0, .inr (3, [.ref a1, .ref a2, .ref a3, .ref a4, .ref a5, .long mult, .int (nI nx)])), (t0, .inr (8, [.ref t1, .ref t2, .ref t3, .ref t4, .ref t5, .ref t6, .ref t7, .ref t8, .ref t9, .ref t10, .int (nI nw), .int (nI ts)]))]) ⟨hx, hb, hml, hown, hts⟩ (kX0_become l D Z cB cI cJ cZ s.heap.size a2 hi lo a b ) (cwV 2 hts gX9_set_X0_become rfl rfl rfl (by decide +kernel) ⟨Nat.le_of_ble_eq_true rfl, Nat.le_of_ble_eq_true rfl⟩) hK hE hP hD hS hA 0 0 rfl rfl rfl [2] [0, 1, 3] rfl rfl rfl rfl rfl (by decide) hl.1 rfl rfl (Nat.le_of_ble_eq_true rfl) dX9_set_42 ⟨Nat.le_of_ble_eq_true rfl, Nat.le_of_ble_eq_true rfl⟩ (fun u H locs hp hP hD hS => ?_)
          obtain ⟨v_1, v_2⟩ := u
          try dsimp only at hp
          obtain ⟨hq_0, hq_1⟩ := hp
          have hq_0 := hq_0.symm
          subst hq_0
          have hq_1 := hq_1.symm
          subst hq_1
          have hP : va_P D vwCl [(e0, .inr (9, [.ref h0, .ref g0, .ref t0, .ref l0, .ref k0, .ref f0, .int (bI hk), .int re])), (h0, .inr (3, [.ref a1, .ref a2, .ref a3, .ref a4, .ref a5, .long mult, .int (nI nx)])), (t0, .inr (8, [.ref t1, .ref t2, .ref t3, .ref t4, .ref t5, .ref t6, .ref t7, .ref t8, .ref t9, .ref t10, .int (nI nw), .int (nI ts)])), (a2, .inr (0, [.long a, .long b]))] H := hP
          have hD : va_D A [(e0, .inr (9, [.ref h0, .ref g0, .ref t0, .ref l0, .ref k0, .ref f0, .int (bI hk), .int re])), (h0, .inr (3, [.ref a1, .ref a2, .ref a3, .ref a4, .ref a5, .long mult, .int (nI nx)])), (t0, .inr (8, [.ref t1, .ref t2, .ref t3, .ref t4, .ref t5, .ref t6, .ref t7, .ref t8, .ref t9, .ref t10, .int (nI nw), .int (nI ts)])), (a2, .inr (0, [.long a, .long b]))] := hD
          refine lv_aload_n hx hb dX9_set_45 rfl (lv_at hl 0 rfl) ?_
          refine va_get (D := D) (ci := 9) (v := .ref t0) (C := RX9) (T := TX9) (N := 8) hx hb hts (by decide +kernel) hown hK hP 0 rfl rfl 2 (by decide) (hts (.fieldLink RX9 22 "TapeEngine" "trail" "LTapeEngine$Trail;") (by decide +kernel)) (fun _ h9 => h9) rfl dX9_set_46 ?_
          refine kV_v (As := []) (rest := []) (wr := [(e0, .inr (9, [.ref h0, .ref g0, .ref t0, .ref l0, .ref k0, .ref f0, .int (bI hk), .int re])), (h0, .inr (3, [.ref a1, .ref a2, .ref a3, .ref a4, .ref a5, .long mult, .int (nI nx)])), (a2, .inr (0, [.long a, .long b]))]) ⟨hx, hb, hml, hown, hts⟩ (kX8_forget l D Z cB cI cJ cZ H.size t0 t1 t2 t3 t4 t5 t6 t7 t8 t9 t10 nw ts ) (cwV 0 hts gX9_set_X8_forget rfl rfl rfl (by decide +kernel) ⟨Nat.le_of_ble_eq_true rfl, Nat.le_of_ble_eq_true rfl⟩) hK hE hP hD hS hA 0 8 rfl rfl rfl [2] [0, 1, 3] rfl rfl rfl rfl rfl (by decide) hl.1 rfl rfl (Nat.le_of_ble_eq_true rfl) dX9_set_49 ⟨Nat.le_of_ble_eq_true rfl, Nat.le_of_ble_eq_true rfl⟩ (fun u H locs hp hP hD hS => ?_)
          have hP : va_P D vwCl [(e0, .inr (9, [.ref h0, .ref g0, .ref t0, .ref l0, .ref k0, .ref f0, .int (bI hk), .int re])), (h0, .inr (3, [.ref a1, .ref a2, .ref a3, .ref a4, .ref a5, .long mult, .int (nI nx)])), (a2, .inr (0, [.long a, .long b])), (t0, .inr (8, [.ref t1, .ref t2, .ref t3, .ref t4, .ref t5, .ref t6, .ref t7, .ref t8, .ref t9, .ref t10, .int (nI nw), .int (nI 0)]))] H := hP
          have hD : va_D A [(e0, .inr (9, [.ref h0, .ref g0, .ref t0, .ref l0, .ref k0, .ref f0, .int (bI hk), .int re])), (h0, .inr (3, [.ref a1, .ref a2, .ref a3, .ref a4, .ref a5, .long mult, .int (nI nx)])), (a2, .inr (0, [.long a, .long b])), (t0, .inr (8, [.ref t1, .ref t2, .ref t3, .ref t4, .ref t5, .ref t6, .ref t7, .ref t8, .ref t9, .ref t10, .int (nI nw), .int (nI 0)]))] := hD
          refine lv_iconst (v := 1) hx hb dX9_set_52 (by decide) ?_
          exact ret_i hx hb hr hlocks (a, b, 0) ⟨(by first | exact (if_neg hno).symm | (rw [if_pos hok])), (by first | exact (if_neg hno).symm | (rw [if_pos hok])), (by first | exact (if_neg hno).symm | (rw [if_pos hok])), (by first | exact (if_neg hno).symm | (rw [if_pos hok]))⟩ (hP.sub [0, 1, 2, 3] rfl) (hD.sub [0, 1, 2, 3] (by decide) rfl) hS dX9_set_53
        · skip
          have c_27 : ¬ b ≤ 68719476735 := fun z => c_27 ((lg_cmp_le _ _).mpr z)
          have hno : ¬ okT a b := fun z => by first | exact z.1 c_5 | exact Int64.not_lt.mpr c_13 z.2.1 | exact z.2.2.1 c_19 | exact c_27 z.2.2.2
          refine lv_bipush (v := (-3)) hx hb dX9_set_30 (by decide) ?_
          exact ret_i hx hb hr hlocks (hi, lo, ts) ⟨(by first | exact (if_neg hno).symm | (rw [if_pos hok])), (by first | exact (if_neg hno).symm | (rw [if_pos hok])), (by first | exact (if_neg hno).symm | (rw [if_pos hok])), (by first | exact (if_neg hno).symm | (rw [if_pos hok]))⟩ (hP.sub [0, 1, 2, 3] rfl) (hD.sub [0, 1, 2, 3] (by decide) rfl) hS dX9_set_32

set_option maxHeartbeats 4000000 in
set_option maxRecDepth 100000 in
theorem kX9_rewind (l : Launch) (D : va_G) (Z : SZ) (cB cI cJ cZ : ClassId) (ksz : Nat) (e0 : Nat) (h0 : Nat) (g0 : Nat) (t0 : Nat) (l0 : Nat) (k0 : Nat) (f0 : Nat) (hk : Bool) (re : Int32) (t1 : Nat) (t2 : Nat) (t3 : Nat) (t4 : Nat) (t5 : Nat) (t6 : Nat) (t7 : Nat) (t8 : Nat) (t9 : Nat) (t10 : Nat) (nw : Nat) (ts : Nat) (a1 : Nat) (a2 : Nat) (a3 : Nat) (a4 : Nat) (a5 : Nat) (a8 : Nat) (mult : Int64) (tz : Nat) (ta : Nat) (nx : Nat)  : Met l yX9_rewind wsX9_rewind { frames := 1, cells := 0, slots := 0, locals := 20 } (PR D Z [(cB, .byte), (cI, .int), (cJ, .long), (cZ, .boolean)] [.ref e0] [(e0, .inr (9, [.ref h0, .ref g0, .ref t0, .ref l0, .ref k0, .ref f0, .int (bI hk), .int re])), (h0, .inr (3, [.ref a1, .ref a2, .ref a3, .ref a4, .ref a5, .long mult, .int (nI nx)])), (a3, .inr (7, [.ref a8, .int (nI tz), .int (nI ta)])), (t0, .inr (8, [.ref t1, .ref t2, .ref t3, .ref t4, .ref t5, .ref t6, .ref t7, .ref t8, .ref t9, .ref t10, .int (nI nw), .int (nI ts)]))] ksz) (QI D (fun (r : Int32) (_ : Unit) => r = (nI ta)) (fun (_ : Unit) => [(e0, .inr (9, [.ref h0, .ref g0, .ref t0, .ref l0, .ref k0, .ref f0, .int (bI hk), .int re])), (h0, .inr (3, [.ref a1, .ref a2, .ref a3, .ref a4, .ref a5, .long mult, .int (nI nx)])), (a3, .inr (7, [.ref a8, .int (nI tz), .int (nI 0)])), (t0, .inr (8, [.ref t1, .ref t2, .ref t3, .ref t4, .ref t5, .ref t6, .ref t7, .ref t8, .ref t9, .ref t10, .int (nI nw), .int (nI 0)]))]) (va_A [(e0, .inr (9, [.ref h0, .ref g0, .ref t0, .ref l0, .ref k0, .ref f0, .int (bI hk), .int re])), (h0, .inr (3, [.ref a1, .ref a2, .ref a3, .ref a4, .ref a5, .long mult, .int (nI nx)])), (a3, .inr (7, [.ref a8, .int (nI tz), .int (nI ta)])), (t0, .inr (8, [.ref t1, .ref t2, .ref t3, .ref t4, .ref t5, .ref t6, .ref t7, .ref t8, .ref t9, .ref t10, .int (nI nw), .int (nI ts)]))] ksz)) 0 0 (va_A [(e0, .inr (9, [.ref h0, .ref g0, .ref t0, .ref l0, .ref k0, .ref f0, .int (bI hk), .int re])), (h0, .inr (3, [.ref a1, .ref a2, .ref a3, .ref a4, .ref a5, .long mult, .int (nI nx)])), (a3, .inr (7, [.ref a8, .int (nI tz), .int (nI ta)])), (t0, .inr (8, [.ref t1, .ref t2, .ref t3, .ref t4, .ref t5, .ref t6, .ref t7, .ref t8, .ref t9, .ref t10, .int (nI nw), .int (nI ts)]))] ksz) := by
  refine met_g (QI D (fun (r : Int32) (_ : Unit) => r = (nI ta)) (fun (_ : Unit) => [(e0, .inr (9, [.ref h0, .ref g0, .ref t0, .ref l0, .ref k0, .ref f0, .int (bI hk), .int re])), (h0, .inr (3, [.ref a1, .ref a2, .ref a3, .ref a4, .ref a5, .long mult, .int (nI nx)])), (a3, .inr (7, [.ref a8, .int (nI tz), .int (nI 0)])), (t0, .inr (8, [.ref t1, .ref t2, .ref t3, .ref t4, .ref t5, .ref t6, .ref t7, .ref t8, .ref t9, .ref t10, .int (nI nw), .int (nI 0)]))])) cX9_rewind 2 (some .int) (by decide) rfl (Nat.le_of_ble_eq_true rfl) ?_
  intro p e s m below meth c A ls hx hb hr hts hown hlocks hml hin hA hP hK hD hE hS hl hsz
  clear hsz
  have hl : lv_has ls 2 [(0, .ref e0)] := hl
  refine lv_aload_n hx hb dX9_rewind_0 rfl (lv_at hl 0 rfl) ?_
  refine va_get (D := D) (ci := 9) (v := .ref h0) (C := RX9) (T := TX9) (N := 8) hx hb hts (by decide +kernel) hown hK hP 0 rfl rfl 0 (by decide) (hts (.fieldLink RX9 10 "TapeEngine" "machine" "LTapeEngine$Machine;") (by decide +kernel)) (fun _ h9 => h9) rfl dX9_rewind_1 ?_
  refine va_getN (D := D) (ci := 3) (v := .ref a3) (C := RX3) (T := TX3) (N := 7) hx hb hts (by decide +kernel) hown hK hP 1 rfl rfl 2 (by decide) (va_Nw.use rfl (nf_X9_122 hE)) (fun _ h9 => h9) rfl dX9_rewind_4 ?_
  refine va_getN (D := D) (ci := 7) (v := .int (nI ta)) (C := RX7) (T := TX7) (N := 3) hx hb hts (by decide +kernel) hown hK hP 2 rfl rfl 2 (by decide) (va_Nw.use rfl (nf_X9_135 hE)) (fun _ h9 => h9) rfl dX9_rewind_7 ?_
  refine lv_istore_n (lv' := [(1, .int (nI ta)), (0, .ref e0)]) hx hb dX9_rewind_10 rfl hl (by decide) rfl (fun ls hl => ?_)
  refine lv_aload_n hx hb dX9_rewind_11 rfl (lv_at hl 1 rfl) ?_
  refine va_get (D := D) (ci := 9) (v := .ref h0) (C := RX9) (T := TX9) (N := 8) hx hb hts (by decide +kernel) hown hK hP 0 rfl rfl 0 (by decide) (hts (.fieldLink RX9 10 "TapeEngine" "machine" "LTapeEngine$Machine;") (by decide +kernel)) (fun _ h9 => h9) rfl dX9_rewind_12 ?_
  refine va_getN (D := D) (ci := 3) (v := .ref a3) (C := RX3) (T := TX3) (N := 7) hx hb hts (by decide +kernel) hown hK hP 1 rfl rfl 2 (by decide) (va_Nw.use rfl (nf_X9_122 hE)) (fun _ h9 => h9) rfl dX9_rewind_15 ?_
  refine lv_iconst (v := 0) hx hb dX9_rewind_18 (by decide) ?_
  refine va_putN (D := D) (ci := 7) (v := .int 0) (ty := .int) (C := RX7) (T := TX7) (N := 3) hx hb hts (by decide +kernel) tyX7 tyX7_ok nmX7 hown hK hP hD hS 2 rfl rfl 2 (by decide) (va_Nw.use rfl (nf_X9_135 hE)) (fun _ h9 => h9) rfl (by decide +kernel) rfl rfl (Nat.le_of_ble_eq_true rfl) dX9_rewind_19 (fun H locs hP hD hS => ?_)
  have hP : va_P D vwCl [(e0, .inr (9, [.ref h0, .ref g0, .ref t0, .ref l0, .ref k0, .ref f0, .int (bI hk), .int re])), (h0, .inr (3, [.ref a1, .ref a2, .ref a3, .ref a4, .ref a5, .long mult, .int (nI nx)])), (a3, .inr (7, [.ref a8, .int (nI tz), .int 0])), (t0, .inr (8, [.ref t1, .ref t2, .ref t3, .ref t4, .ref t5, .ref t6, .ref t7, .ref t8, .ref t9, .ref t10, .int (nI nw), .int (nI ts)]))] H := hP
  have hD : va_D A [(e0, .inr (9, [.ref h0, .ref g0, .ref t0, .ref l0, .ref k0, .ref f0, .int (bI hk), .int re])), (h0, .inr (3, [.ref a1, .ref a2, .ref a3, .ref a4, .ref a5, .long mult, .int (nI nx)])), (a3, .inr (7, [.ref a8, .int (nI tz), .int 0])), (t0, .inr (8, [.ref t1, .ref t2, .ref t3, .ref t4, .ref t5, .ref t6, .ref t7, .ref t8, .ref t9, .ref t10, .int (nI nw), .int (nI ts)]))] := hD
  refine lv_aload_n hx hb dX9_rewind_22 rfl (lv_at hl 1 rfl) ?_
  refine va_get (D := D) (ci := 9) (v := .ref t0) (C := RX9) (T := TX9) (N := 8) hx hb hts (by decide +kernel) hown hK hP 0 rfl rfl 2 (by decide) (hts (.fieldLink RX9 22 "TapeEngine" "trail" "LTapeEngine$Trail;") (by decide +kernel)) (fun _ h9 => h9) rfl dX9_rewind_23 ?_
  refine kV_v (As := []) (rest := []) (wr := [(e0, .inr (9, [.ref h0, .ref g0, .ref t0, .ref l0, .ref k0, .ref f0, .int (bI hk), .int re])), (h0, .inr (3, [.ref a1, .ref a2, .ref a3, .ref a4, .ref a5, .long mult, .int (nI nx)])), (a3, .inr (7, [.ref a8, .int (nI tz), .int 0]))]) ⟨hx, hb, hml, hown, hts⟩ (kX8_forget l D Z cB cI cJ cZ H.size t0 t1 t2 t3 t4 t5 t6 t7 t8 t9 t10 nw ts ) (cwV 0 hts gX9_rewind_X8_forget rfl rfl rfl (by decide +kernel) ⟨Nat.le_of_ble_eq_true rfl, Nat.le_of_ble_eq_true rfl⟩) hK hE hP hD hS hA 0 8 rfl rfl rfl [3] [0, 1, 2] rfl rfl rfl rfl rfl (by decide) hl.1 rfl rfl (Nat.le_of_ble_eq_true rfl) dX9_rewind_26 ⟨Nat.le_of_ble_eq_true rfl, Nat.le_of_ble_eq_true rfl⟩ (fun u H locs hp hP hD hS => ?_)
  have hP : va_P D vwCl [(e0, .inr (9, [.ref h0, .ref g0, .ref t0, .ref l0, .ref k0, .ref f0, .int (bI hk), .int re])), (h0, .inr (3, [.ref a1, .ref a2, .ref a3, .ref a4, .ref a5, .long mult, .int (nI nx)])), (a3, .inr (7, [.ref a8, .int (nI tz), .int 0])), (t0, .inr (8, [.ref t1, .ref t2, .ref t3, .ref t4, .ref t5, .ref t6, .ref t7, .ref t8, .ref t9, .ref t10, .int (nI nw), .int (nI 0)]))] H := hP
  have hD : va_D A [(e0, .inr (9, [.ref h0, .ref g0, .ref t0, .ref l0, .ref k0, .ref f0, .int (bI hk), .int re])), (h0, .inr (3, [.ref a1, .ref a2, .ref a3, .ref a4, .ref a5, .long mult, .int (nI nx)])), (a3, .inr (7, [.ref a8, .int (nI tz), .int 0])), (t0, .inr (8, [.ref t1, .ref t2, .ref t3, .ref t4, .ref t5, .ref t6, .ref t7, .ref t8, .ref t9, .ref t10, .int (nI nw), .int (nI 0)]))] := hD
  refine lv_iload_n hx hb dX9_rewind_29 rfl (lv_at hl 0 rfl) ?_
  exact ret_i hx hb hr hlocks () (by rfl) (hP.sub [0, 1, 2, 3] rfl) (hD.sub [0, 1, 2, 3] (by decide) rfl) hS dX9_rewind_30

set_option maxHeartbeats 4000000 in
set_option maxRecDepth 100000 in
theorem kX9_tear (l : Launch) (D : va_G) (Z : SZ) (cB cI cJ cZ : ClassId) (ksz : Nat) (e0 : Nat) (h0 : Nat) (g0 : Nat) (t0 : Nat) (l0 : Nat) (k0 : Nat) (f0 : Nat) (hk : Bool) (re : Int32) (t1 : Nat) (t2 : Nat) (t3 : Nat) (t4 : Nat) (t5 : Nat) (t6 : Nat) (t7 : Nat) (t8 : Nat) (t9 : Nat) (t10 : Nat) (nw : Nat) (ts : Nat) (a1 : Nat) (a2 : Nat) (a3 : Nat) (a4 : Nat) (a5 : Nat) (a9 : Nat) (mult : Int64) (xz : Nat) (fg : Bool) (la : Int32) (nx : Nat)  : Met l yX9_tear wsX9_tear { frames := 1, cells := 0, slots := 0, locals := 20 } (PR D Z [(cB, .byte), (cI, .int), (cJ, .long), (cZ, .boolean)] [.ref e0] [(e0, .inr (9, [.ref h0, .ref g0, .ref t0, .ref l0, .ref k0, .ref f0, .int (bI hk), .int re])), (h0, .inr (3, [.ref a1, .ref a2, .ref a3, .ref a4, .ref a5, .long mult, .int (nI nx)])), (a4, .inr (6, [.ref a9, .int (nI xz), .int (bI fg), .int la])), (t0, .inr (8, [.ref t1, .ref t2, .ref t3, .ref t4, .ref t5, .ref t6, .ref t7, .ref t8, .ref t9, .ref t10, .int (nI nw), .int (nI ts)]))] ksz) (QI D (fun (r : Int32) (_ : Unit) => r = (nI xz)) (fun (_ : Unit) => [(e0, .inr (9, [.ref h0, .ref g0, .ref t0, .ref l0, .ref k0, .ref f0, .int (bI hk), .int re])), (h0, .inr (3, [.ref a1, .ref a2, .ref a3, .ref a4, .ref a5, .long mult, .int (nI nx)])), (a4, .inr (6, [.ref a9, .int (nI 0), .int (bI fg), .int la])), (t0, .inr (8, [.ref t1, .ref t2, .ref t3, .ref t4, .ref t5, .ref t6, .ref t7, .ref t8, .ref t9, .ref t10, .int (nI nw), .int (nI 0)]))]) (va_A [(e0, .inr (9, [.ref h0, .ref g0, .ref t0, .ref l0, .ref k0, .ref f0, .int (bI hk), .int re])), (h0, .inr (3, [.ref a1, .ref a2, .ref a3, .ref a4, .ref a5, .long mult, .int (nI nx)])), (a4, .inr (6, [.ref a9, .int (nI xz), .int (bI fg), .int la])), (t0, .inr (8, [.ref t1, .ref t2, .ref t3, .ref t4, .ref t5, .ref t6, .ref t7, .ref t8, .ref t9, .ref t10, .int (nI nw), .int (nI ts)]))] ksz)) 0 0 (va_A [(e0, .inr (9, [.ref h0, .ref g0, .ref t0, .ref l0, .ref k0, .ref f0, .int (bI hk), .int re])), (h0, .inr (3, [.ref a1, .ref a2, .ref a3, .ref a4, .ref a5, .long mult, .int (nI nx)])), (a4, .inr (6, [.ref a9, .int (nI xz), .int (bI fg), .int la])), (t0, .inr (8, [.ref t1, .ref t2, .ref t3, .ref t4, .ref t5, .ref t6, .ref t7, .ref t8, .ref t9, .ref t10, .int (nI nw), .int (nI ts)]))] ksz) := by
  refine met_g (QI D (fun (r : Int32) (_ : Unit) => r = (nI xz)) (fun (_ : Unit) => [(e0, .inr (9, [.ref h0, .ref g0, .ref t0, .ref l0, .ref k0, .ref f0, .int (bI hk), .int re])), (h0, .inr (3, [.ref a1, .ref a2, .ref a3, .ref a4, .ref a5, .long mult, .int (nI nx)])), (a4, .inr (6, [.ref a9, .int (nI 0), .int (bI fg), .int la])), (t0, .inr (8, [.ref t1, .ref t2, .ref t3, .ref t4, .ref t5, .ref t6, .ref t7, .ref t8, .ref t9, .ref t10, .int (nI nw), .int (nI 0)]))])) cX9_tear 2 (some .int) (by decide) rfl (Nat.le_of_ble_eq_true rfl) ?_
  intro p e s m below meth c A ls hx hb hr hts hown hlocks hml hin hA hP hK hD hE hS hl hsz
  clear hsz
  have hl : lv_has ls 2 [(0, .ref e0)] := hl
  refine lv_aload_n hx hb dX9_tear_0 rfl (lv_at hl 0 rfl) ?_
  refine va_get (D := D) (ci := 9) (v := .ref h0) (C := RX9) (T := TX9) (N := 8) hx hb hts (by decide +kernel) hown hK hP 0 rfl rfl 0 (by decide) (hts (.fieldLink RX9 10 "TapeEngine" "machine" "LTapeEngine$Machine;") (by decide +kernel)) (fun _ h9 => h9) rfl dX9_tear_1 ?_
  refine va_getN (D := D) (ci := 3) (v := .ref a4) (C := RX3) (T := TX3) (N := 7) hx hb hts (by decide +kernel) hown hK hP 1 rfl rfl 3 (by decide) (va_Nw.use rfl (nf_X9_138 hE)) (fun _ h9 => h9) rfl dX9_tear_4 ?_
  refine va_getN (D := D) (ci := 6) (v := .int (nI xz)) (C := RX6) (T := TX6) (N := 4) hx hb hts (by decide +kernel) hown hK hP 2 rfl rfl 1 (by decide) (va_Nw.use rfl (nf_X9_142 hE)) (fun _ h9 => h9) rfl dX9_tear_7 ?_
  refine lv_istore_n (lv' := [(1, .int (nI xz)), (0, .ref e0)]) hx hb dX9_tear_10 rfl hl (by decide) rfl (fun ls hl => ?_)
  refine lv_aload_n hx hb dX9_tear_11 rfl (lv_at hl 1 rfl) ?_
  refine va_get (D := D) (ci := 9) (v := .ref h0) (C := RX9) (T := TX9) (N := 8) hx hb hts (by decide +kernel) hown hK hP 0 rfl rfl 0 (by decide) (hts (.fieldLink RX9 10 "TapeEngine" "machine" "LTapeEngine$Machine;") (by decide +kernel)) (fun _ h9 => h9) rfl dX9_tear_12 ?_
  refine va_getN (D := D) (ci := 3) (v := .ref a4) (C := RX3) (T := TX3) (N := 7) hx hb hts (by decide +kernel) hown hK hP 1 rfl rfl 3 (by decide) (va_Nw.use rfl (nf_X9_138 hE)) (fun _ h9 => h9) rfl dX9_tear_15 ?_
  refine lv_iconst (v := 0) hx hb dX9_tear_18 (by decide) ?_
  refine va_putN (D := D) (ci := 6) (v := .int 0) (ty := .int) (C := RX6) (T := TX6) (N := 4) hx hb hts (by decide +kernel) tyX6 tyX6_ok nmX6 hown hK hP hD hS 2 rfl rfl 1 (by decide) (va_Nw.use rfl (nf_X9_142 hE)) (fun _ h9 => h9) rfl (by decide +kernel) rfl rfl (Nat.le_of_ble_eq_true rfl) dX9_tear_19 (fun H locs hP hD hS => ?_)
  have hP : va_P D vwCl [(e0, .inr (9, [.ref h0, .ref g0, .ref t0, .ref l0, .ref k0, .ref f0, .int (bI hk), .int re])), (h0, .inr (3, [.ref a1, .ref a2, .ref a3, .ref a4, .ref a5, .long mult, .int (nI nx)])), (a4, .inr (6, [.ref a9, .int 0, .int (bI fg), .int la])), (t0, .inr (8, [.ref t1, .ref t2, .ref t3, .ref t4, .ref t5, .ref t6, .ref t7, .ref t8, .ref t9, .ref t10, .int (nI nw), .int (nI ts)]))] H := hP
  have hD : va_D A [(e0, .inr (9, [.ref h0, .ref g0, .ref t0, .ref l0, .ref k0, .ref f0, .int (bI hk), .int re])), (h0, .inr (3, [.ref a1, .ref a2, .ref a3, .ref a4, .ref a5, .long mult, .int (nI nx)])), (a4, .inr (6, [.ref a9, .int 0, .int (bI fg), .int la])), (t0, .inr (8, [.ref t1, .ref t2, .ref t3, .ref t4, .ref t5, .ref t6, .ref t7, .ref t8, .ref t9, .ref t10, .int (nI nw), .int (nI ts)]))] := hD
  refine lv_aload_n hx hb dX9_tear_22 rfl (lv_at hl 1 rfl) ?_
  refine va_get (D := D) (ci := 9) (v := .ref t0) (C := RX9) (T := TX9) (N := 8) hx hb hts (by decide +kernel) hown hK hP 0 rfl rfl 2 (by decide) (hts (.fieldLink RX9 22 "TapeEngine" "trail" "LTapeEngine$Trail;") (by decide +kernel)) (fun _ h9 => h9) rfl dX9_tear_23 ?_
  refine kV_v (As := []) (rest := []) (wr := [(e0, .inr (9, [.ref h0, .ref g0, .ref t0, .ref l0, .ref k0, .ref f0, .int (bI hk), .int re])), (h0, .inr (3, [.ref a1, .ref a2, .ref a3, .ref a4, .ref a5, .long mult, .int (nI nx)])), (a4, .inr (6, [.ref a9, .int 0, .int (bI fg), .int la]))]) ⟨hx, hb, hml, hown, hts⟩ (kX8_forget l D Z cB cI cJ cZ H.size t0 t1 t2 t3 t4 t5 t6 t7 t8 t9 t10 nw ts ) (cwV 0 hts gX9_tear_X8_forget rfl rfl rfl (by decide +kernel) ⟨Nat.le_of_ble_eq_true rfl, Nat.le_of_ble_eq_true rfl⟩) hK hE hP hD hS hA 0 8 rfl rfl rfl [3] [0, 1, 2] rfl rfl rfl rfl rfl (by decide) hl.1 rfl rfl (Nat.le_of_ble_eq_true rfl) dX9_tear_26 ⟨Nat.le_of_ble_eq_true rfl, Nat.le_of_ble_eq_true rfl⟩ (fun u H locs hp hP hD hS => ?_)
  have hP : va_P D vwCl [(e0, .inr (9, [.ref h0, .ref g0, .ref t0, .ref l0, .ref k0, .ref f0, .int (bI hk), .int re])), (h0, .inr (3, [.ref a1, .ref a2, .ref a3, .ref a4, .ref a5, .long mult, .int (nI nx)])), (a4, .inr (6, [.ref a9, .int 0, .int (bI fg), .int la])), (t0, .inr (8, [.ref t1, .ref t2, .ref t3, .ref t4, .ref t5, .ref t6, .ref t7, .ref t8, .ref t9, .ref t10, .int (nI nw), .int (nI 0)]))] H := hP
  have hD : va_D A [(e0, .inr (9, [.ref h0, .ref g0, .ref t0, .ref l0, .ref k0, .ref f0, .int (bI hk), .int re])), (h0, .inr (3, [.ref a1, .ref a2, .ref a3, .ref a4, .ref a5, .long mult, .int (nI nx)])), (a4, .inr (6, [.ref a9, .int 0, .int (bI fg), .int la])), (t0, .inr (8, [.ref t1, .ref t2, .ref t3, .ref t4, .ref t5, .ref t6, .ref t7, .ref t8, .ref t9, .ref t10, .int (nI nw), .int (nI 0)]))] := hD
  refine lv_iload_n hx hb dX9_tear_29 rfl (lv_at hl 0 rfl) ?_
  exact ret_i hx hb hr hlocks () (by rfl) (hP.sub [0, 1, 2, 3] rfl) (hD.sub [0, 1, 2, 3] (by decide) rfl) hS dX9_tear_30

set_option maxHeartbeats 4000000 in
set_option maxRecDepth 100000 in
theorem kX9_text (l : Launch) (D : va_G) (Z : SZ) (cB cI cJ cZ : ClassId) (ksz : Nat) (e0 : Nat) (h0 : Nat) (g0 : Nat) (t0 : Nat) (l0 : Nat) (k0 : Nat) (f0 : Nat) (hk : Bool) (re : Int32) (a1 : Nat) (a2 : Nat) (a3 : Nat) (a4 : Nat) (a5 : Nat) (a9 : Nat) (mult : Int64) (tx : Nat → Int32) (xz : Nat) (fg : Bool) (la : Int32) (nx : Nat) (i : Int32) (hxz : xz ≤ 400) : Met l yX9_text wsX9_text { frames := 1, cells := 0, slots := 0, locals := 21 } (PR D Z [(cB, .byte), (cI, .int), (cJ, .long), (cZ, .boolean)] [.ref e0, .int i] [(e0, .inr (9, [.ref h0, .ref g0, .ref t0, .ref l0, .ref k0, .ref f0, .int (bI hk), .int re])), (h0, .inr (3, [.ref a1, .ref a2, .ref a3, .ref a4, .ref a5, .long mult, .int (nI nx)])), (a4, .inr (6, [.ref a9, .int (nI xz), .int (bI fg), .int la])), (a9, .inl (cB, 400, .inl tx))] ksz) (QI D (fun (r : Int32) (_ : Unit) => r = (aX i tx xz)) (fun (_ : Unit) => [(e0, .inr (9, [.ref h0, .ref g0, .ref t0, .ref l0, .ref k0, .ref f0, .int (bI hk), .int re])), (h0, .inr (3, [.ref a1, .ref a2, .ref a3, .ref a4, .ref a5, .long mult, .int (nI nx)])), (a4, .inr (6, [.ref a9, .int (nI xz), .int (bI fg), .int la])), (a9, .inl (cB, 400, .inl tx))]) (va_A [(e0, .inr (9, [.ref h0, .ref g0, .ref t0, .ref l0, .ref k0, .ref f0, .int (bI hk), .int re])), (h0, .inr (3, [.ref a1, .ref a2, .ref a3, .ref a4, .ref a5, .long mult, .int (nI nx)])), (a4, .inr (6, [.ref a9, .int (nI xz), .int (bI fg), .int la])), (a9, .inl (cB, 400, .inl tx))] ksz)) 0 0 (va_A [(e0, .inr (9, [.ref h0, .ref g0, .ref t0, .ref l0, .ref k0, .ref f0, .int (bI hk), .int re])), (h0, .inr (3, [.ref a1, .ref a2, .ref a3, .ref a4, .ref a5, .long mult, .int (nI nx)])), (a4, .inr (6, [.ref a9, .int (nI xz), .int (bI fg), .int la])), (a9, .inl (cB, 400, .inl tx))] ksz) := by
  refine met_g (QI D (fun (r : Int32) (_ : Unit) => r = (aX i tx xz)) (fun (_ : Unit) => [(e0, .inr (9, [.ref h0, .ref g0, .ref t0, .ref l0, .ref k0, .ref f0, .int (bI hk), .int re])), (h0, .inr (3, [.ref a1, .ref a2, .ref a3, .ref a4, .ref a5, .long mult, .int (nI nx)])), (a4, .inr (6, [.ref a9, .int (nI xz), .int (bI fg), .int la])), (a9, .inl (cB, 400, .inl tx))])) cX9_text 2 (some .int) (by decide) rfl (Nat.le_of_ble_eq_true rfl) ?_
  intro p e s m below meth c A ls hx hb hr hts hown hlocks hml hin hA hP hK hD hE hS hl hsz
  clear hsz
  have hl : lv_has ls 2 [(0, .ref e0), (1, .int i)] := hl
  refine lv_iload_n hx hb dX9_text_0 rfl (lv_at hl 1 rfl) ?_
  refine lv_if_lt (tgt := 32) hx hb dX9_text_1 (by decide) (fun c_1 => ?_) (fun c_1 => ?_)
  · skip
    have hres : -2 = aX i tx xz := by first | exact aX_1 c_1 | exact aX_2 c_15
    refine lv_bipush (v := (-2)) hx hb dX9_text_32 (by decide) ?_
    exact ret_i hx hb hr hlocks () (by first | exact hres | (rw [aX, if_pos ⟨nI_pos (by omega), nI_lt c_16 (by omega)⟩, nI_clamp (by omega)])) (hP.sub [0, 1, 2, 3] rfl) (hD.sub [0, 1, 2, 3] (by decide) rfl) hS dX9_text_34
  · skip
    refine lv_iload_n hx hb dX9_text_4 rfl (lv_at hl 1 rfl) ?_
    refine lv_aload_n hx hb dX9_text_5 rfl (lv_at hl 0 rfl) ?_
    refine va_get (D := D) (ci := 9) (v := .ref h0) (C := RX9) (T := TX9) (N := 8) hx hb hts (by decide +kernel) hown hK hP 0 rfl rfl 0 (by decide) (hts (.fieldLink RX9 10 "TapeEngine" "machine" "LTapeEngine$Machine;") (by decide +kernel)) (fun _ h9 => h9) rfl dX9_text_6 ?_
    refine va_getN (D := D) (ci := 3) (v := .ref a4) (C := RX3) (T := TX3) (N := 7) hx hb hts (by decide +kernel) hown hK hP 1 rfl rfl 3 (by decide) (va_Nw.use rfl (nf_X9_138 hE)) (fun _ h9 => h9) rfl dX9_text_9 ?_
    refine va_getN (D := D) (ci := 6) (v := .int (nI xz)) (C := RX6) (T := TX6) (N := 4) hx hb hts (by decide +kernel) hown hK hP 2 rfl rfl 1 (by decide) (va_Nw.use rfl (nf_X9_142 hE)) (fun _ h9 => h9) rfl dX9_text_12 ?_
    refine lv_icmp_ge (tgt := 32) hx hb dX9_text_15 (by decide) (fun c_15 => ?_) (fun c_15 => ?_)
    · skip
      have hres : -2 = aX i tx xz := by first | exact aX_1 c_1 | exact aX_2 c_15
      refine lv_bipush (v := (-2)) hx hb dX9_text_32 (by decide) ?_
      exact ret_i hx hb hr hlocks () (by first | exact hres | (rw [aX, if_pos ⟨nI_pos (by omega), nI_lt c_16 (by omega)⟩, nI_clamp (by omega)])) (hP.sub [0, 1, 2, 3] rfl) (hD.sub [0, 1, 2, 3] (by decide) rfl) hS dX9_text_34
    · skip
      obtain ⟨x, hx9, rfl⟩ := nI_of c_1
      have c_16 : x < xz := Nat.lt_of_not_le (fun z => c_15 (nI_le z (by omega)))
      refine lv_aload_n hx hb dX9_text_18 rfl (lv_at hl 0 rfl) ?_
      refine va_get (D := D) (ci := 9) (v := .ref h0) (C := RX9) (T := TX9) (N := 8) hx hb hts (by decide +kernel) hown hK hP 0 rfl rfl 0 (by decide) (hts (.fieldLink RX9 10 "TapeEngine" "machine" "LTapeEngine$Machine;") (by decide +kernel)) (fun _ h9 => h9) rfl dX9_text_19 ?_
      refine va_getN (D := D) (ci := 3) (v := .ref a4) (C := RX3) (T := TX3) (N := 7) hx hb hts (by decide +kernel) hown hK hP 1 rfl rfl 3 (by decide) (va_Nw.use rfl (nf_X9_138 hE)) (fun _ h9 => h9) rfl dX9_text_22 ?_
      refine lv_iload_n hx hb dX9_text_25 rfl (lv_at hl 1 rfl) ?_
      refine kV_i (As := [.int (nI x)]) (rest := []) (wr := [(e0, .inr (9, [.ref h0, .ref g0, .ref t0, .ref l0, .ref k0, .ref f0, .int (bI hk), .int re])), (h0, .inr (3, [.ref a1, .ref a2, .ref a3, .ref a4, .ref a5, .long mult, .int (nI nx)]))]) ⟨hx, hb, hml, hown, hts⟩ (kX6_byteAt l D Z cB cI cJ cZ s.heap.size a4 a9 tx xz fg la x (by first | assumption | omega)) (cwV 1 hts gX9_text_X6_byteAt rfl rfl rfl (by decide +kernel) ⟨Nat.le_of_ble_eq_true rfl, Nat.le_of_ble_eq_true rfl⟩) hK hE hP hD hS hA 0 6 rfl rfl rfl [2, 3] [0, 1] rfl rfl rfl rfl rfl (by decide) hl.1 rfl rfl (Nat.le_of_ble_eq_true rfl) dX9_text_26 ⟨Nat.le_of_ble_eq_true rfl, Nat.le_of_ble_eq_true rfl⟩ (fun r u H locs hp hP hD hS => ?_)
      try dsimp only at hp
      have hq_0 := hp
      have hq_0 := hq_0.symm
      subst hq_0
      have hP : va_P D vwCl [(e0, .inr (9, [.ref h0, .ref g0, .ref t0, .ref l0, .ref k0, .ref f0, .int (bI hk), .int re])), (h0, .inr (3, [.ref a1, .ref a2, .ref a3, .ref a4, .ref a5, .long mult, .int (nI nx)])), (a4, .inr (6, [.ref a9, .int (nI xz), .int (bI fg), .int la])), (a9, .inl (cB, 400, .inl tx))] H := hP
      have hD : va_D A [(e0, .inr (9, [.ref h0, .ref g0, .ref t0, .ref l0, .ref k0, .ref f0, .int (bI hk), .int re])), (h0, .inr (3, [.ref a1, .ref a2, .ref a3, .ref a4, .ref a5, .long mult, .int (nI nx)])), (a4, .inr (6, [.ref a9, .int (nI xz), .int (bI fg), .int la])), (a9, .inl (cB, 400, .inl tx))] := hD
      refine lv_goto (tgt := 34) hx hb dX9_text_29 (by decide) ?_
      exact ret_i hx hb hr hlocks () (by first | exact hres | (rw [aX, if_pos ⟨nI_pos (by omega), nI_lt c_16 (by omega)⟩, nI_clamp (by omega)])) (hP.sub [0, 1, 2, 3] rfl) (hD.sub [0, 1, 2, 3] (by decide) rfl) hS dX9_text_34

set_option maxHeartbeats 4000000 in
set_option maxRecDepth 100000 in
theorem kX9_loaded (l : Launch) (D : va_G) (Z : SZ) (cB cI cJ cZ : ClassId) (ksz : Nat) (e0 : Nat) (h0 : Nat) (g0 : Nat) (t0 : Nat) (l0 : Nat) (k0 : Nat) (f0 : Nat) (hk : Bool) (re : Int32) (pv : Int32) (en : Int32) (ld : Nat)  : Met l yX9_loaded wsX9_loaded { frames := 0, cells := 0, slots := 0, locals := 0 } (PR D Z [(cB, .byte), (cI, .int), (cJ, .long), (cZ, .boolean)] [.ref e0] [(e0, .inr (9, [.ref h0, .ref g0, .ref t0, .ref l0, .ref k0, .ref f0, .int (bI hk), .int re])), (l0, .inr (2, [.int pv, .int en, .int (nI ld)]))] ksz) (QI D (fun (r : Int32) (_ : Unit) => r = en) (fun (_ : Unit) => [(e0, .inr (9, [.ref h0, .ref g0, .ref t0, .ref l0, .ref k0, .ref f0, .int (bI hk), .int re])), (l0, .inr (2, [.int pv, .int en, .int (nI ld)]))]) (va_A [(e0, .inr (9, [.ref h0, .ref g0, .ref t0, .ref l0, .ref k0, .ref f0, .int (bI hk), .int re])), (l0, .inr (2, [.int pv, .int en, .int (nI ld)]))] ksz)) 0 0 (va_A [(e0, .inr (9, [.ref h0, .ref g0, .ref t0, .ref l0, .ref k0, .ref f0, .int (bI hk), .int re])), (l0, .inr (2, [.int pv, .int en, .int (nI ld)]))] ksz) := by
  refine met_g (QI D (fun (r : Int32) (_ : Unit) => r = en) (fun (_ : Unit) => [(e0, .inr (9, [.ref h0, .ref g0, .ref t0, .ref l0, .ref k0, .ref f0, .int (bI hk), .int re])), (l0, .inr (2, [.int pv, .int en, .int (nI ld)]))])) cX9_loaded 1 (some .int) (by decide) rfl (Nat.le_of_ble_eq_true rfl) ?_
  intro p e s m below meth c A ls hx hb hr hts hown hlocks hml hin hA hP hK hD hE hS hl hsz
  clear hsz
  have hl : lv_has ls 1 [(0, .ref e0)] := hl
  refine lv_aload_n hx hb dX9_loaded_0 rfl (lv_at hl 0 rfl) ?_
  refine va_get (D := D) (ci := 9) (v := .ref l0) (C := RX9) (T := TX9) (N := 8) hx hb hts (by decide +kernel) hown hK hP 0 rfl rfl 3 (by decide) (hts (.fieldLink RX9 29 "TapeEngine" "loader" "LTapeEngine$Loader;") (by decide +kernel)) (fun _ h9 => h9) rfl dX9_loaded_1 ?_
  refine va_getN (D := D) (ci := 2) (v := .int en) (C := RX2) (T := TX2) (N := 3) hx hb hts (by decide +kernel) hown hK hP 1 rfl rfl 1 (by decide) (va_Nw.use rfl (nf_X9_152 hE)) (fun _ h9 => h9) rfl dX9_loaded_4 ?_
  exact ret_i hx hb hr hlocks () (by rfl) (hP.sub [0, 1] rfl) (hD.sub [0, 1] (by decide) rfl) hS dX9_loaded_7

set_option maxHeartbeats 4000000 in
set_option maxRecDepth 100000 in
theorem kX9_why (l : Launch) (D : va_G) (Z : SZ) (cB cI cJ cZ : ClassId) (ksz : Nat) (e0 : Nat) (h0 : Nat) (g0 : Nat) (t0 : Nat) (l0 : Nat) (k0 : Nat) (f0 : Nat) (hk : Bool) (re : Int32)  : Met l yX9_why wsX9_why { frames := 0, cells := 0, slots := 0, locals := 0 } (PR D Z [(cB, .byte), (cI, .int), (cJ, .long), (cZ, .boolean)] [.ref e0] [(e0, .inr (9, [.ref h0, .ref g0, .ref t0, .ref l0, .ref k0, .ref f0, .int (bI hk), .int re]))] ksz) (QI D (fun (r : Int32) (_ : Unit) => r = re) (fun (_ : Unit) => [(e0, .inr (9, [.ref h0, .ref g0, .ref t0, .ref l0, .ref k0, .ref f0, .int (bI hk), .int re]))]) (va_A [(e0, .inr (9, [.ref h0, .ref g0, .ref t0, .ref l0, .ref k0, .ref f0, .int (bI hk), .int re]))] ksz)) 0 0 (va_A [(e0, .inr (9, [.ref h0, .ref g0, .ref t0, .ref l0, .ref k0, .ref f0, .int (bI hk), .int re]))] ksz) := by
  refine met_g (QI D (fun (r : Int32) (_ : Unit) => r = re) (fun (_ : Unit) => [(e0, .inr (9, [.ref h0, .ref g0, .ref t0, .ref l0, .ref k0, .ref f0, .int (bI hk), .int re]))])) cX9_why 1 (some .int) (by decide) rfl (Nat.le_of_ble_eq_true rfl) ?_
  intro p e s m below meth c A ls hx hb hr hts hown hlocks hml hin hA hP hK hD hE hS hl hsz
  clear hsz
  have hl : lv_has ls 1 [(0, .ref e0)] := hl
  refine lv_aload_n hx hb dX9_why_0 rfl (lv_at hl 0 rfl) ?_
  refine va_get (D := D) (ci := 9) (v := .int re) (C := RX9) (T := TX9) (N := 8) hx hb hts (by decide +kernel) hown hK hP 0 rfl rfl 7 (by decide) (hts (.fieldLink RX9 51 "TapeEngine" "runEnd" "I") (by decide +kernel)) (fun _ h9 => h9) rfl dX9_why_1 ?_
  exact ret_i hx hb hr hlocks () (by rfl) (hP.sub [0] rfl) (hD.sub [0] (by decide) rfl) hS dX9_why_4

set_option maxHeartbeats 4000000 in
set_option maxRecDepth 100000 in
theorem kX9_start (l : Launch) (D : va_G) (Z : SZ) (cB cI cJ cZ : ClassId) (ksz : Nat) (e0 : Nat) (h0 : Nat) (g0 : Nat) (t0 : Nat) (l0 : Nat) (k0 : Nat) (f0 : Nat) (hk : Bool) (re : Int32) (t1 : Nat) (t2 : Nat) (t3 : Nat) (t4 : Nat) (t5 : Nat) (t6 : Nat) (t7 : Nat) (t8 : Nat) (t9 : Nat) (t10 : Nat) (nw : Nat) (ts : Nat) (a1 : Nat) (a2 : Nat) (a3 : Nat) (a4 : Nat) (a5 : Nat) (mult : Int64) (nx : Nat) (n : Int32)  : Met l yX9_start wsX9_start { frames := 1, cells := 0, slots := 0, locals := 20 } (PR D Z [(cB, .byte), (cI, .int), (cJ, .long), (cZ, .boolean)] [.ref e0, .int n] [(e0, .inr (9, [.ref h0, .ref g0, .ref t0, .ref l0, .ref k0, .ref f0, .int (bI hk), .int re])), (h0, .inr (3, [.ref a1, .ref a2, .ref a3, .ref a4, .ref a5, .long mult, .int (nI nx)])), (t0, .inr (8, [.ref t1, .ref t2, .ref t3, .ref t4, .ref t5, .ref t6, .ref t7, .ref t8, .ref t9, .ref t10, .int (nI nw), .int (nI ts)]))] ksz) (QI D (fun (r : Int32) (u : Nat × Nat) => r = (if ad n = true then 1 else -2) ∧ u.1 = (if ad n = true then n.toNatClampNeg else nx) ∧ u.2 = (if ad n = true then 0 else ts)) (fun (u : Nat × Nat) => [(e0, .inr (9, [.ref h0, .ref g0, .ref t0, .ref l0, .ref k0, .ref f0, .int (bI hk), .int re])), (h0, .inr (3, [.ref a1, .ref a2, .ref a3, .ref a4, .ref a5, .long mult, .int (nI u.1)])), (t0, .inr (8, [.ref t1, .ref t2, .ref t3, .ref t4, .ref t5, .ref t6, .ref t7, .ref t8, .ref t9, .ref t10, .int (nI nw), .int (nI u.2)]))]) (va_A [(e0, .inr (9, [.ref h0, .ref g0, .ref t0, .ref l0, .ref k0, .ref f0, .int (bI hk), .int re])), (h0, .inr (3, [.ref a1, .ref a2, .ref a3, .ref a4, .ref a5, .long mult, .int (nI nx)])), (t0, .inr (8, [.ref t1, .ref t2, .ref t3, .ref t4, .ref t5, .ref t6, .ref t7, .ref t8, .ref t9, .ref t10, .int (nI nw), .int (nI ts)]))] ksz)) 0 0 (va_A [(e0, .inr (9, [.ref h0, .ref g0, .ref t0, .ref l0, .ref k0, .ref f0, .int (bI hk), .int re])), (h0, .inr (3, [.ref a1, .ref a2, .ref a3, .ref a4, .ref a5, .long mult, .int (nI nx)])), (t0, .inr (8, [.ref t1, .ref t2, .ref t3, .ref t4, .ref t5, .ref t6, .ref t7, .ref t8, .ref t9, .ref t10, .int (nI nw), .int (nI ts)]))] ksz) := by
  refine met_g (QI D (fun (r : Int32) (u : Nat × Nat) => r = (if ad n = true then 1 else -2) ∧ u.1 = (if ad n = true then n.toNatClampNeg else nx) ∧ u.2 = (if ad n = true then 0 else ts)) (fun (u : Nat × Nat) => [(e0, .inr (9, [.ref h0, .ref g0, .ref t0, .ref l0, .ref k0, .ref f0, .int (bI hk), .int re])), (h0, .inr (3, [.ref a1, .ref a2, .ref a3, .ref a4, .ref a5, .long mult, .int (nI u.1)])), (t0, .inr (8, [.ref t1, .ref t2, .ref t3, .ref t4, .ref t5, .ref t6, .ref t7, .ref t8, .ref t9, .ref t10, .int (nI nw), .int (nI u.2)]))])) cX9_start 2 (some .int) (by decide) rfl (Nat.le_of_ble_eq_true rfl) ?_
  intro p e s m below meth c A ls hx hb hr hts hown hlocks hml hin hA hP hK hD hE hS hl hsz
  clear hsz
  have hl : lv_has ls 2 [(0, .ref e0), (1, .int n)] := hl
  refine lv_iload_n hx hb dX9_start_0 rfl (lv_at hl 1 rfl) ?_
  refine pS_i (As := [.int n]) (rest := []) ⟨hx, hb, hml, hown, hts⟩ (kX9_isAddress l Z n ) (va_cwS 1 hts gX9_start_X9_isAddress rfl rfl rfl (by decide +kernel) ⟨Nat.le_of_ble_eq_true rfl, Nat.le_of_ble_eq_true rfl⟩) hK hE hP hD hS hA hl.1 rfl rfl (Nat.le_of_ble_eq_true rfl) dX9_start_1 ⟨Nat.le_of_ble_eq_true rfl, Nat.le_of_ble_eq_true rfl⟩ (fun H locs hP hS => ?_)
  refine lv_if_ne (tgt := 10) hx hb dX9_start_4 (by decide) (fun c_4 => ?_) (fun c_4 => ?_)
  · skip
    have c_4 := bI_t c_4
    obtain ⟨j, hj9, rfl⟩ := ad_of c_4
    have hok : ad (nI j) = true := ad_nI hj9
    refine lv_aload_n hx hb dX9_start_10 rfl (lv_at hl 0 rfl) ?_
    refine va_get (D := D) (ci := 9) (v := .ref h0) (C := RX9) (T := TX9) (N := 8) hx hb hts (by decide +kernel) hown hK hP 0 rfl rfl 0 (by decide) (hts (.fieldLink RX9 10 "TapeEngine" "machine" "LTapeEngine$Machine;") (by decide +kernel)) (fun _ h9 => h9) rfl dX9_start_11 ?_
    refine lv_iload_n hx hb dX9_start_14 rfl (lv_at hl 1 rfl) ?_
    refine va_putN (D := D) (ci := 3) (v := .int (nI j)) (ty := .int) (C := RX3) (T := TX3) (N := 7) hx hb hts (by decide +kernel) tyX3 tyX3_ok nmX3 hown hK hP hD hS 1 rfl rfl 6 (by decide) (va_Nw.use rfl (nf_X9_155 hE)) (fun _ h9 => h9) rfl (by decide +kernel) rfl rfl (Nat.le_of_ble_eq_true rfl) dX9_start_15 (fun H locs hP hD hS => ?_)
    have hP : va_P D vwCl [(e0, .inr (9, [.ref h0, .ref g0, .ref t0, .ref l0, .ref k0, .ref f0, .int (bI hk), .int re])), (h0, .inr (3, [.ref a1, .ref a2, .ref a3, .ref a4, .ref a5, .long mult, .int (nI j)])), (t0, .inr (8, [.ref t1, .ref t2, .ref t3, .ref t4, .ref t5, .ref t6, .ref t7, .ref t8, .ref t9, .ref t10, .int (nI nw), .int (nI ts)]))] H := hP
    have hD : va_D A [(e0, .inr (9, [.ref h0, .ref g0, .ref t0, .ref l0, .ref k0, .ref f0, .int (bI hk), .int re])), (h0, .inr (3, [.ref a1, .ref a2, .ref a3, .ref a4, .ref a5, .long mult, .int (nI j)])), (t0, .inr (8, [.ref t1, .ref t2, .ref t3, .ref t4, .ref t5, .ref t6, .ref t7, .ref t8, .ref t9, .ref t10, .int (nI nw), .int (nI ts)]))] := hD
    refine lv_aload_n hx hb dX9_start_18 rfl (lv_at hl 0 rfl) ?_
    refine va_get (D := D) (ci := 9) (v := .ref t0) (C := RX9) (T := TX9) (N := 8) hx hb hts (by decide +kernel) hown hK hP 0 rfl rfl 2 (by decide) (hts (.fieldLink RX9 22 "TapeEngine" "trail" "LTapeEngine$Trail;") (by decide +kernel)) (fun _ h9 => h9) rfl dX9_start_19 ?_
    refine kV_v (As := []) (rest := []) (wr := [(e0, .inr (9, [.ref h0, .ref g0, .ref t0, .ref l0, .ref k0, .ref f0, .int (bI hk), .int re])), (h0, .inr (3, [.ref a1, .ref a2, .ref a3, .ref a4, .ref a5, .long mult, .int (nI j)]))]) ⟨hx, hb, hml, hown, hts⟩ (kX8_forget l D Z cB cI cJ cZ H.size t0 t1 t2 t3 t4 t5 t6 t7 t8 t9 t10 nw ts ) (cwV 0 hts gX9_start_X8_forget rfl rfl rfl (by decide +kernel) ⟨Nat.le_of_ble_eq_true rfl, Nat.le_of_ble_eq_true rfl⟩) hK hE hP hD hS hA 0 8 rfl rfl rfl [2] [0, 1] rfl rfl rfl rfl rfl (by decide) hl.1 rfl rfl (Nat.le_of_ble_eq_true rfl) dX9_start_22 ⟨Nat.le_of_ble_eq_true rfl, Nat.le_of_ble_eq_true rfl⟩ (fun u H locs hp hP hD hS => ?_)
    have hP : va_P D vwCl [(e0, .inr (9, [.ref h0, .ref g0, .ref t0, .ref l0, .ref k0, .ref f0, .int (bI hk), .int re])), (h0, .inr (3, [.ref a1, .ref a2, .ref a3, .ref a4, .ref a5, .long mult, .int (nI j)])), (t0, .inr (8, [.ref t1, .ref t2, .ref t3, .ref t4, .ref t5, .ref t6, .ref t7, .ref t8, .ref t9, .ref t10, .int (nI nw), .int (nI 0)]))] H := hP
    have hD : va_D A [(e0, .inr (9, [.ref h0, .ref g0, .ref t0, .ref l0, .ref k0, .ref f0, .int (bI hk), .int re])), (h0, .inr (3, [.ref a1, .ref a2, .ref a3, .ref a4, .ref a5, .long mult, .int (nI j)])), (t0, .inr (8, [.ref t1, .ref t2, .ref t3, .ref t4, .ref t5, .ref t6, .ref t7, .ref t8, .ref t9, .ref t10, .int (nI nw), .int (nI 0)]))] := hD
    refine lv_iconst (v := 1) hx hb dX9_start_25 (by decide) ?_
    exact ret_i hx hb hr hlocks (j, 0) ⟨(by first | exact (if_neg hno).symm | (rw [if_pos hok])), (by first | exact (if_neg hno).symm | (rw [if_pos hok, ad_clamp hj9])), (by first | exact (if_neg hno).symm | (rw [if_pos hok]))⟩ (hP.sub [0, 1, 2] rfl) (hD.sub [0, 1, 2] (by decide) rfl) hS dX9_start_26
  · skip
    have c_4 := bI_f c_4
    have hno : ¬ ad n = true := ad_no c_4
    refine lv_bipush (v := (-2)) hx hb dX9_start_7 (by decide) ?_
    exact ret_i hx hb hr hlocks (nx, ts) ⟨(by first | exact (if_neg hno).symm | (rw [if_pos hok])), (by first | exact (if_neg hno).symm | (rw [if_pos hok, ad_clamp hj9])), (by first | exact (if_neg hno).symm | (rw [if_pos hok]))⟩ (hP.sub [0, 1, 2] rfl) (hD.sub [0, 1, 2] (by decide) rfl) hS dX9_start_9

set_option maxHeartbeats 4000000 in
set_option maxRecDepth 100000 in
theorem kX9_done (l : Launch) (D : va_G) (Z : SZ) (cB cI cJ cZ : ClassId) (ksz : Nat) (e0 : Nat) (h0 : Nat) (g0 : Nat) (t0 : Nat) (l0 : Nat) (k0 : Nat) (f0 : Nat) (hk : Bool) (re : Int32) (a1 : Nat) (a2 : Nat) (a3 : Nat) (a4 : Nat) (a5 : Nat) (mult : Int64) (dn : Nat → Int32) (nx : Nat) (f : Int32)  : Met l yX9_done wsX9_done { frames := 1, cells := 0, slots := 0, locals := 20 } (PR D Z [(cB, .byte), (cI, .int), (cJ, .long), (cZ, .boolean)] [.ref e0, .int f] [(e0, .inr (9, [.ref h0, .ref g0, .ref t0, .ref l0, .ref k0, .ref f0, .int (bI hk), .int re])), (h0, .inr (3, [.ref a1, .ref a2, .ref a3, .ref a4, .ref a5, .long mult, .int (nI nx)])), (a5, .inl (cI, 32, .inl dn))] ksz) (QI D (fun (r : Int32) (_ : Unit) => r = (aD f dn)) (fun (_ : Unit) => [(e0, .inr (9, [.ref h0, .ref g0, .ref t0, .ref l0, .ref k0, .ref f0, .int (bI hk), .int re])), (h0, .inr (3, [.ref a1, .ref a2, .ref a3, .ref a4, .ref a5, .long mult, .int (nI nx)])), (a5, .inl (cI, 32, .inl dn))]) (va_A [(e0, .inr (9, [.ref h0, .ref g0, .ref t0, .ref l0, .ref k0, .ref f0, .int (bI hk), .int re])), (h0, .inr (3, [.ref a1, .ref a2, .ref a3, .ref a4, .ref a5, .long mult, .int (nI nx)])), (a5, .inl (cI, 32, .inl dn))] ksz)) 0 0 (va_A [(e0, .inr (9, [.ref h0, .ref g0, .ref t0, .ref l0, .ref k0, .ref f0, .int (bI hk), .int re])), (h0, .inr (3, [.ref a1, .ref a2, .ref a3, .ref a4, .ref a5, .long mult, .int (nI nx)])), (a5, .inl (cI, 32, .inl dn))] ksz) := by
  refine met_g (QI D (fun (r : Int32) (_ : Unit) => r = (aD f dn)) (fun (_ : Unit) => [(e0, .inr (9, [.ref h0, .ref g0, .ref t0, .ref l0, .ref k0, .ref f0, .int (bI hk), .int re])), (h0, .inr (3, [.ref a1, .ref a2, .ref a3, .ref a4, .ref a5, .long mult, .int (nI nx)])), (a5, .inl (cI, 32, .inl dn))])) cX9_done 2 (some .int) (by decide) rfl (Nat.le_of_ble_eq_true rfl) ?_
  intro p e s m below meth c A ls hx hb hr hts hown hlocks hml hin hA hP hK hD hE hS hl hsz
  clear hsz
  have hl : lv_has ls 2 [(0, .ref e0), (1, .int f)] := hl
  refine lv_iload_n hx hb dX9_done_0 rfl (lv_at hl 1 rfl) ?_
  refine pS_i (As := [.int f]) (rest := []) ⟨hx, hb, hml, hown, hts⟩ (kX9_isSymbol l Z f ) (va_cwS 1 hts gX9_done_X9_isSymbol rfl rfl rfl (by decide +kernel) ⟨Nat.le_of_ble_eq_true rfl, Nat.le_of_ble_eq_true rfl⟩) hK hE hP hD hS hA hl.1 rfl rfl (Nat.le_of_ble_eq_true rfl) dX9_done_1 ⟨Nat.le_of_ble_eq_true rfl, Nat.le_of_ble_eq_true rfl⟩ (fun H locs hP hS => ?_)
  refine lv_if_eq (tgt := 19) hx hb dX9_done_4 (by decide) (fun c_4 => ?_) (fun c_4 => ?_)
  · skip
    have c_4 := bI_f c_4
    have hres : -2 = aD f dn := by first | exact (if_neg (sy_no c_4)).symm
    refine lv_bipush (v := (-2)) hx hb dX9_done_19 (by decide) ?_
    exact ret_i hx hb hr hlocks () (by first | exact hres | (rw [aD, if_pos (sy_nI hjf9), sy_clamp hjf9])) (hP.sub [0, 1, 2] rfl) (hD.sub [0, 1, 2] (by decide) rfl) hS dX9_done_21
  · skip
    have c_4 := bI_t c_4
    obtain ⟨jf, hjf9, rfl⟩ := sy_of c_4
    refine lv_aload_n hx hb dX9_done_7 rfl (lv_at hl 0 rfl) ?_
    refine va_get (D := D) (ci := 9) (v := .ref h0) (C := RX9) (T := TX9) (N := 8) hx hb hts (by decide +kernel) hown hK hP 0 rfl rfl 0 (by decide) (hts (.fieldLink RX9 10 "TapeEngine" "machine" "LTapeEngine$Machine;") (by decide +kernel)) (fun _ h9 => h9) rfl dX9_done_8 ?_
    refine va_getN (D := D) (ci := 3) (v := .ref a5) (C := RX3) (T := TX3) (N := 7) hx hb hts (by decide +kernel) hown hK hP 1 rfl rfl 4 (by decide) (va_Nw.use rfl (nf_X9_183 hE)) (fun _ h9 => h9) rfl dX9_done_11 ?_
    refine lv_iload_n hx hb dX9_done_14 rfl (lv_at hl 1 rfl) ?_
    refine xs_iald (k := jf) hx hb hK hP 2 1 rfl rfl (by first | assumption | omega) (by decide) dX9_done_15 ?_
    refine lv_goto (tgt := 21) hx hb dX9_done_16 (by decide) ?_
    exact ret_i hx hb hr hlocks () (by first | exact hres | (rw [aD, if_pos (sy_nI hjf9), sy_clamp hjf9])) (hP.sub [0, 1, 2] rfl) (hD.sub [0, 1, 2] (by decide) rfl) hS dX9_done_21

set_option maxHeartbeats 4000000 in
set_option maxRecDepth 100000 in
theorem kX9_reached (l : Launch) (D : va_G) (Z : SZ) (cB cI cJ cZ : ClassId) (ksz : Nat) (e0 : Nat) (h0 : Nat) (g0 : Nat) (t0 : Nat) (l0 : Nat) (k0 : Nat) (f0 : Nat) (hk : Bool) (re : Int32) (f1 : Nat) (f2 : Nat) (ct : Nat → Int32) (fd : Nat → Int32) (sz : Nat) (i : Int32) (hm : RB ct) : Met l yX9_reached wsX9_reached { frames := 1, cells := 0, slots := 0, locals := 21 } (PR D Z [(cB, .byte), (cI, .int), (cJ, .long), (cZ, .boolean)] [.ref e0, .int i] [(e0, .inr (9, [.ref h0, .ref g0, .ref t0, .ref l0, .ref k0, .ref f0, .int (bI hk), .int re])), (f0, .inr (1, [.ref f1, .ref f2, .int (nI sz)])), (f1, .inl (cZ, 256, .inl ct)), (f2, .inl (cI, 256, .inl fd))] ksz) (QI D (fun (r : Int32) (_ : Unit) => r = (aRd i ct)) (fun (_ : Unit) => [(e0, .inr (9, [.ref h0, .ref g0, .ref t0, .ref l0, .ref k0, .ref f0, .int (bI hk), .int re])), (f0, .inr (1, [.ref f1, .ref f2, .int (nI sz)])), (f1, .inl (cZ, 256, .inl ct)), (f2, .inl (cI, 256, .inl fd))]) (va_A [(e0, .inr (9, [.ref h0, .ref g0, .ref t0, .ref l0, .ref k0, .ref f0, .int (bI hk), .int re])), (f0, .inr (1, [.ref f1, .ref f2, .int (nI sz)])), (f1, .inl (cZ, 256, .inl ct)), (f2, .inl (cI, 256, .inl fd))] ksz)) 0 0 (va_A [(e0, .inr (9, [.ref h0, .ref g0, .ref t0, .ref l0, .ref k0, .ref f0, .int (bI hk), .int re])), (f0, .inr (1, [.ref f1, .ref f2, .int (nI sz)])), (f1, .inl (cZ, 256, .inl ct)), (f2, .inl (cI, 256, .inl fd))] ksz) := by
  refine met_g (QI D (fun (r : Int32) (_ : Unit) => r = (aRd i ct)) (fun (_ : Unit) => [(e0, .inr (9, [.ref h0, .ref g0, .ref t0, .ref l0, .ref k0, .ref f0, .int (bI hk), .int re])), (f0, .inr (1, [.ref f1, .ref f2, .int (nI sz)])), (f1, .inl (cZ, 256, .inl ct)), (f2, .inl (cI, 256, .inl fd))])) cX9_reached 2 (some .int) (by decide) rfl (Nat.le_of_ble_eq_true rfl) ?_
  intro p e s m below meth c A ls hx hb hr hts hown hlocks hml hin hA hP hK hD hE hS hl hsz
  clear hsz
  have hl : lv_has ls 2 [(0, .ref e0), (1, .int i)] := hl
  refine lv_iload_n hx hb dX9_reached_0 rfl (lv_at hl 1 rfl) ?_
  refine pS_i (As := [.int i]) (rest := []) ⟨hx, hb, hml, hown, hts⟩ (kX9_isAddress l Z i ) (va_cwS 1 hts gX9_reached_X9_isAddress rfl rfl rfl (by decide +kernel) ⟨Nat.le_of_ble_eq_true rfl, Nat.le_of_ble_eq_true rfl⟩) hK hE hP hD hS hA hl.1 rfl rfl (Nat.le_of_ble_eq_true rfl) dX9_reached_1 ⟨Nat.le_of_ble_eq_true rfl, Nat.le_of_ble_eq_true rfl⟩ (fun H locs hP hS => ?_)
  refine lv_if_ne (tgt := 10) hx hb dX9_reached_4 (by decide) (fun c_4 => ?_) (fun c_4 => ?_)
  · skip
    have c_4 := bI_t c_4
    obtain ⟨j, hj9, rfl⟩ := ad_of c_4
    refine lv_aload_n hx hb dX9_reached_10 rfl (lv_at hl 0 rfl) ?_
    refine va_get (D := D) (ci := 9) (v := .ref f0) (C := RX9) (T := TX9) (N := 8) hx hb hts (by decide +kernel) hown hK hP 0 rfl rfl 5 (by decide) (hts (.fieldLink RX9 43 "TapeEngine" "flow" "LTapeEngine$Flow;") (by decide +kernel)) (fun _ h9 => h9) rfl dX9_reached_11 ?_
    refine lv_iload_n hx hb dX9_reached_14 rfl (lv_at hl 1 rfl) ?_
    refine kV_i (As := [.int (nI j)]) (rest := []) (wr := [(e0, .inr (9, [.ref h0, .ref g0, .ref t0, .ref l0, .ref k0, .ref f0, .int (bI hk), .int re])), (f2, .inl (cI, 256, .inl fd))]) ⟨hx, hb, hml, hown, hts⟩ (kX1_isComeTo l D Z cB cI cJ cZ H.size f0 f1 f2 ct sz j (by first | assumption | omega) (by first | assumption | omega)) (cwV 1 hts gX9_reached_X1_isComeTo rfl rfl rfl (by decide +kernel) ⟨Nat.le_of_ble_eq_true rfl, Nat.le_of_ble_eq_true rfl⟩) hK hE hP hD hS hA 0 1 rfl rfl rfl [1, 2] [0, 3] rfl rfl rfl rfl rfl (by decide) hl.1 rfl rfl (Nat.le_of_ble_eq_true rfl) dX9_reached_15 ⟨Nat.le_of_ble_eq_true rfl, Nat.le_of_ble_eq_true rfl⟩ (fun r u H locs hp hP hD hS => ?_)
    try dsimp only at hp
    have hq_0 := hp
    have hq_0 := hq_0.symm
    subst hq_0
    have hP : va_P D vwCl [(e0, .inr (9, [.ref h0, .ref g0, .ref t0, .ref l0, .ref k0, .ref f0, .int (bI hk), .int re])), (f2, .inl (cI, 256, .inl fd)), (f0, .inr (1, [.ref f1, .ref f2, .int (nI sz)])), (f1, .inl (cZ, 256, .inl ct))] H := hP
    have hD : va_D A [(e0, .inr (9, [.ref h0, .ref g0, .ref t0, .ref l0, .ref k0, .ref f0, .int (bI hk), .int re])), (f2, .inl (cI, 256, .inl fd)), (f0, .inr (1, [.ref f1, .ref f2, .int (nI sz)])), (f1, .inl (cZ, 256, .inl ct))] := hD
    refine lv_if_eq (tgt := 25) hx hb dX9_reached_18 (by decide) (fun c_18 => ?_) (fun c_18 => ?_)
    · skip
      have c_18 := bI_f c_18
      refine lv_iconst (v := 0) hx hb dX9_reached_25 (by decide) ?_
      exact ret_i hx hb hr hlocks () (by first | exact hres | (rw [aRd, if_pos (ad_nI hj9), ad_clamp hj9, c_18]; rfl)) (hP.sub [0, 2, 3, 1] rfl) (hD.sub [0, 2, 3, 1] (by decide) rfl) hS dX9_reached_26
    · skip
      have c_18 := bI_t c_18
      refine lv_iconst (v := 1) hx hb dX9_reached_21 (by decide) ?_
      refine lv_goto (tgt := 26) hx hb dX9_reached_22 (by decide) ?_
      exact ret_i hx hb hr hlocks () (by first | exact hres | (rw [aRd, if_pos (ad_nI hj9), ad_clamp hj9, c_18]; rfl)) (hP.sub [0, 2, 3, 1] rfl) (hD.sub [0, 2, 3, 1] (by decide) rfl) hS dX9_reached_26
  · skip
    have c_4 := bI_f c_4
    have hres : -2 = aRd i ct := by first | exact (if_neg (ad_no c_4)).symm
    refine lv_bipush (v := (-2)) hx hb dX9_reached_7 (by decide) ?_
    exact ret_i hx hb hr hlocks () (by first | exact hres | (rw [aRd, if_pos (ad_nI hj9), ad_clamp hj9, c_18]; rfl)) (hP.sub [0, 1, 2, 3] rfl) (hD.sub [0, 1, 2, 3] (by decide) rfl) hS dX9_reached_9
