set_option maxHeartbeats 4000000 in
set_option maxRecDepth 100000 in
theorem kX9_storeLong (l : Launch) (D : va_G) (Z : SZ) (cB cI cJ cZ : ClassId) (ksz : Nat) (e0 : Nat) (h0 : Nat) (g0 : Nat) (t0 : Nat) (l0 : Nat) (k0 : Nat) (f0 : Nat) (hk : Bool) (re : Int32) (t1 : Nat) (t2 : Nat) (t3 : Nat) (t4 : Nat) (t5 : Nat) (t6 : Nat) (t7 : Nat) (t8 : Nat) (t9 : Nat) (t10 : Nat) (nw : Nat) (ts : Nat) (a1 : Nat) (a2 : Nat) (a3 : Nat) (a4 : Nat) (a5 : Nat) (a6 : Nat) (a7 : Nat) (w : Nat → Int32) (mid : Nat → Int32) (mult : Int64) (nx : Nat) (n : Int32) (v : Int64)  : Met l yX9_storeLong wsX9_storeLong { frames := 2, cells := 0, slots := 0, locals := 45 } (PR D Z [(cB, .byte), (cI, .int), (cJ, .long), (cZ, .boolean)] [.ref e0, .int n, .long v] [(e0, .inr (9, [.ref h0, .ref g0, .ref t0, .ref l0, .ref k0, .ref f0, .int (bI hk), .int re])), (h0, .inr (3, [.ref a1, .ref a2, .ref a3, .ref a4, .ref a5, .long mult, .int (nI nx)])), (a1, .inr (5, [.ref a6, .ref a7])), (a6, .inl (cI, 256, .inl w)), (a7, .inl (cI, 128, .inl mid)), (t0, .inr (8, [.ref t1, .ref t2, .ref t3, .ref t4, .ref t5, .ref t6, .ref t7, .ref t8, .ref t9, .ref t10, .int (nI nw), .int (nI ts)]))] ksz) (QI D (fun (r : Int32) (u : (Nat → Int32) × (Nat → Int32) × Nat) => r = (aL n v) ∧ u.1 = (if okL n v then llW w n.toNatClampNeg v else w) ∧ u.2.1 = (if okL n v then llM mid n.toNatClampNeg v else mid) ∧ u.2.2 = (if okL n v then 0 else ts)) (fun (u : (Nat → Int32) × (Nat → Int32) × Nat) => [(e0, .inr (9, [.ref h0, .ref g0, .ref t0, .ref l0, .ref k0, .ref f0, .int (bI hk), .int re])), (h0, .inr (3, [.ref a1, .ref a2, .ref a3, .ref a4, .ref a5, .long mult, .int (nI nx)])), (a1, .inr (5, [.ref a6, .ref a7])), (a6, .inl (cI, 256, .inl u.1)), (a7, .inl (cI, 128, .inl u.2.1)), (t0, .inr (8, [.ref t1, .ref t2, .ref t3, .ref t4, .ref t5, .ref t6, .ref t7, .ref t8, .ref t9, .ref t10, .int (nI nw), .int (nI u.2.2)]))]) (va_A [(e0, .inr (9, [.ref h0, .ref g0, .ref t0, .ref l0, .ref k0, .ref f0, .int (bI hk), .int re])), (h0, .inr (3, [.ref a1, .ref a2, .ref a3, .ref a4, .ref a5, .long mult, .int (nI nx)])), (a1, .inr (5, [.ref a6, .ref a7])), (a6, .inl (cI, 256, .inl w)), (a7, .inl (cI, 128, .inl mid)), (t0, .inr (8, [.ref t1, .ref t2, .ref t3, .ref t4, .ref t5, .ref t6, .ref t7, .ref t8, .ref t9, .ref t10, .int (nI nw), .int (nI ts)]))] ksz)) 0 0 (va_A [(e0, .inr (9, [.ref h0, .ref g0, .ref t0, .ref l0, .ref k0, .ref f0, .int (bI hk), .int re])), (h0, .inr (3, [.ref a1, .ref a2, .ref a3, .ref a4, .ref a5, .long mult, .int (nI nx)])), (a1, .inr (5, [.ref a6, .ref a7])), (a6, .inl (cI, 256, .inl w)), (a7, .inl (cI, 128, .inl mid)), (t0, .inr (8, [.ref t1, .ref t2, .ref t3, .ref t4, .ref t5, .ref t6, .ref t7, .ref t8, .ref t9, .ref t10, .int (nI nw), .int (nI ts)]))] ksz) := by
  refine met_g (QI D (fun (r : Int32) (u : (Nat → Int32) × (Nat → Int32) × Nat) => r = (aL n v) ∧ u.1 = (if okL n v then llW w n.toNatClampNeg v else w) ∧ u.2.1 = (if okL n v then llM mid n.toNatClampNeg v else mid) ∧ u.2.2 = (if okL n v then 0 else ts)) (fun (u : (Nat → Int32) × (Nat → Int32) × Nat) => [(e0, .inr (9, [.ref h0, .ref g0, .ref t0, .ref l0, .ref k0, .ref f0, .int (bI hk), .int re])), (h0, .inr (3, [.ref a1, .ref a2, .ref a3, .ref a4, .ref a5, .long mult, .int (nI nx)])), (a1, .inr (5, [.ref a6, .ref a7])), (a6, .inl (cI, 256, .inl u.1)), (a7, .inl (cI, 128, .inl u.2.1)), (t0, .inr (8, [.ref t1, .ref t2, .ref t3, .ref t4, .ref t5, .ref t6, .ref t7, .ref t8, .ref t9, .ref t10, .int (nI nw), .int (nI u.2.2)]))])) cX9_storeLong 4 (some .int) (by decide) rfl (Nat.le_of_ble_eq_true rfl) ?_
  intro p e s m below meth c A ls hx hb hr hts hown hlocks hml hin hA hP hK hD hE hS hl hsz
  clear hsz
  have hl : lv_has ls 4 [(0, .ref e0), (1, .int n), (2, .long v)] := hl
  refine lv_iload_n hx hb dX9_storeLong_0 rfl (lv_at hl 1 rfl) ?_
  refine pS_i (As := [.int n]) (rest := []) ⟨hx, hb, hml, hown, hts⟩ (kX9_isAddress l Z n ) (va_cwS 1 hts gX9_storeLong_X9_isAddress rfl rfl rfl (by decide +kernel) ⟨Nat.le_of_ble_eq_true rfl, Nat.le_of_ble_eq_true rfl⟩) hK hE hP hD hS hA hl.1 rfl rfl (Nat.le_of_ble_eq_true rfl) dX9_storeLong_1 ⟨Nat.le_of_ble_eq_true rfl, Nat.le_of_ble_eq_true rfl⟩ (fun H locs hP hS => ?_)
  refine lv_if_ne (tgt := 10) hx hb dX9_storeLong_4 (by decide) (fun c_4 => ?_) (fun c_4 => ?_)
  · skip
    have c_4 := bI_t c_4
    obtain ⟨j, hj9, rfl⟩ := ad_of c_4
    refine lv_lload_n hx hb dX9_storeLong_10 rfl (lv_at hl 2 rfl) ?_
    refine lv_lconst (v := 0) hx hb dX9_storeLong_11 (by decide) ?_
    refine W.lcmp hx hb dX9_storeLong_12 ?_
    refine lv_if_lt (tgt := 24) hx hb dX9_storeLong_13 (by decide) (fun c_13 => ?_) (fun c_13 => ?_)
    · skip
      have c_13 : v < 0 := (lg_cmp_lt _ _).mp c_13
      have hno : ¬ okL (nI j) v := fun z => by first | exact z.2.1 c_13 | exact c_21 z.2.2
      have hres : -3 = aL (nI j) v := by first | exact aL_3 (ad_nI hj9) hno
      refine lv_bipush (v := (-3)) hx hb dX9_storeLong_24 (by decide) ?_
      exact ret_i hx hb hr hlocks (w, mid, ts) ⟨(by first | exact hres | exact aL_1 hok), (by first | exact (if_neg hno).symm | (rw [if_pos hok, ad_clamp hj9])), (by first | exact (if_neg hno).symm | (rw [if_pos hok, ad_clamp hj9])), (by first | exact (if_neg hno).symm | (rw [if_pos hok]))⟩ (hP.sub [0, 1, 2, 3, 4, 5] rfl) (hD.sub [0, 1, 2, 3, 4, 5] (by decide) rfl) hS dX9_storeLong_26
    · skip
      have c_13 : ¬ v < 0 := fun z => c_13 ((lg_cmp_lt _ _).mpr z)
      refine lv_lload_n hx hb dX9_storeLong_16 rfl (lv_at hl 2 rfl) ?_
      refine lv_ldc2 hx hb hown (hts (.constantLong RX9 73 (34359738367)) (by decide +kernel)) dX9_storeLong_17 ?_
      refine W.lcmp hx hb dX9_storeLong_20 ?_
      refine lv_if_le (tgt := 27) hx hb dX9_storeLong_21 (by decide) (fun c_21 => ?_) (fun c_21 => ?_)
      · skip
        have c_21 : v ≤ 34359738367 := (lg_cmp_le _ _).mp c_21
        have hok : okL (nI j) v := ⟨ad_nI hj9, c_13, c_21⟩
        refine lv_aload_n hx hb dX9_storeLong_27 rfl (lv_at hl 0 rfl) ?_
        refine va_get (D := D) (ci := 9) (v := .ref h0) (C := RX9) (T := TX9) (N := 8) hx hb hts (by decide +kernel) hown hK hP 0 rfl rfl 0 (by decide) (hts (.fieldLink RX9 10 "TapeEngine" "machine" "LTapeEngine$Machine;") (by decide +kernel)) (fun _ h9 => h9) rfl dX9_storeLong_28 ?_
        refine va_getN (D := D) (ci := 3) (v := .ref a1) (C := RX3) (T := TX3) (N := 7) hx hb hts (by decide +kernel) hown hK hP 1 rfl rfl 0 (by decide) (va_Nw.use rfl (nf_X9_60 hE)) (fun _ h9 => h9) rfl dX9_storeLong_31 ?_
        refine lv_iload_n hx hb dX9_storeLong_34 rfl (lv_at hl 1 rfl) ?_
        refine lv_lload_n hx hb dX9_storeLong_35 rfl (lv_at hl 2 rfl) ?_
        refine kV_v (As := [.int (nI j), .long v]) (rest := []) (wr := [(e0, .inr (9, [.ref h0, .ref g0, .ref t0, .ref l0, .ref k0, .ref f0, .int (bI hk), .int re])), (h0, .inr (3, [.ref a1, .ref a2, .ref a3, .ref a4, .ref a5, .long mult, .int (nI nx)])), (t0, .inr (8, [.ref t1, .ref t2, .ref t3, .ref t4, .ref t5, .ref t6, .ref t7, .ref t8, .ref t9, .ref t10, .int (nI nw), .int (nI ts)]))]) ⟨hx, hb, hml, hown, hts⟩ (kX5_layLong l D Z cB cI cJ cZ H.size a1 a6 a7 w mid j v (by first | assumption | omega)) (cwV 2 hts gX9_storeLong_X5_layLong rfl rfl rfl (by decide +kernel) ⟨Nat.le_of_ble_eq_true rfl, Nat.le_of_ble_eq_true rfl⟩) hK hE hP hD hS hA 0 5 rfl rfl rfl [2, 3, 4] [0, 1, 5] rfl rfl rfl rfl rfl (by decide) hl.1 rfl rfl (Nat.le_of_ble_eq_true rfl) dX9_storeLong_36 ⟨Nat.le_of_ble_eq_true rfl, Nat.le_of_ble_eq_true rfl⟩ (fun u H locs hp hP hD hS => ?_)
        obtain ⟨v_1, v_2⟩ := u
        try dsimp only at hp
        obtain ⟨hq_0, hq_1⟩ := hp
        have hq_0 := hq_0.symm
        subst hq_0
        have hq_1 := hq_1.symm
        subst hq_1
        have hP : va_P D vwCl [(e0, .inr (9, [.ref h0, .ref g0, .ref t0, .ref l0, .ref k0, .ref f0, .int (bI hk), .int re])), (h0, .inr (3, [.ref a1, .ref a2, .ref a3, .ref a4, .ref a5, .long mult, .int (nI nx)])), (t0, .inr (8, [.ref t1, .ref t2, .ref t3, .ref t4, .ref t5, .ref t6, .ref t7, .ref t8, .ref t9, .ref t10, .int (nI nw), .int (nI ts)])), (a1, .inr (5, [.ref a6, .ref a7])), (a6, .inl (cI, 256, .inl (llW w j v))), (a7, .inl (cI, 128, .inl (llM mid j v)))] H := hP
        have hD : va_D A [(e0, .inr (9, [.ref h0, .ref g0, .ref t0, .ref l0, .ref k0, .ref f0, .int (bI hk), .int re])), (h0, .inr (3, [.ref a1, .ref a2, .ref a3, .ref a4, .ref a5, .long mult, .int (nI nx)])), (t0, .inr (8, [.ref t1, .ref t2, .ref t3, .ref t4, .ref t5, .ref t6, .ref t7, .ref t8, .ref t9, .ref t10, .int (nI nw), .int (nI ts)])), (a1, .inr (5, [.ref a6, .ref a7])), (a6, .inl (cI, 256, .inl (llW w j v))), (a7, .inl (cI, 128, .inl (llM mid j v)))] := hD
        refine lv_aload_n hx hb dX9_storeLong_39 rfl (lv_at hl 0 rfl) ?_
        refine va_get (D := D) (ci := 9) (v := .ref t0) (C := RX9) (T := TX9) (N := 8) hx hb hts (by decide +kernel) hown hK hP 0 rfl rfl 2 (by decide) (hts (.fieldLink RX9 22 "TapeEngine" "trail" "LTapeEngine$Trail;") (by decide +kernel)) (fun _ h9 => h9) rfl dX9_storeLong_40 ?_
        refine kV_v (As := []) (rest := []) (wr := [(e0, .inr (9, [.ref h0, .ref g0, .ref t0, .ref l0, .ref k0, .ref f0, .int (bI hk), .int re])), (h0, .inr (3, [.ref a1, .ref a2, .ref a3, .ref a4, .ref a5, .long mult, .int (nI nx)])), (a1, .inr (5, [.ref a6, .ref a7])), (a6, .inl (cI, 256, .inl (llW w j v))), (a7, .inl (cI, 128, .inl (llM mid j v)))]) ⟨hx, hb, hml, hown, hts⟩ (kX8_forget l D Z cB cI cJ cZ H.size t0 t1 t2 t3 t4 t5 t6 t7 t8 t9 t10 nw ts ) (cwV 0 hts gX9_storeLong_X8_forget rfl rfl rfl (by decide +kernel) ⟨Nat.le_of_ble_eq_true rfl, Nat.le_of_ble_eq_true rfl⟩) hK hE hP hD hS hA 0 8 rfl rfl rfl [2] [0, 1, 3, 4, 5] rfl rfl rfl rfl rfl (by decide) hl.1 rfl rfl (Nat.le_of_ble_eq_true rfl) dX9_storeLong_43 ⟨Nat.le_of_ble_eq_true rfl, Nat.le_of_ble_eq_true rfl⟩ (fun u H locs hp hP hD hS => ?_)
        have hP : va_P D vwCl [(e0, .inr (9, [.ref h0, .ref g0, .ref t0, .ref l0, .ref k0, .ref f0, .int (bI hk), .int re])), (h0, .inr (3, [.ref a1, .ref a2, .ref a3, .ref a4, .ref a5, .long mult, .int (nI nx)])), (a1, .inr (5, [.ref a6, .ref a7])), (a6, .inl (cI, 256, .inl (llW w j v))), (a7, .inl (cI, 128, .inl (llM mid j v))), (t0, .inr (8, [.ref t1, .ref t2, .ref t3, .ref t4, .ref t5, .ref t6, .ref t7, .ref t8, .ref t9, .ref t10, .int (nI nw), .int (nI 0)]))] H := hP
        have hD : va_D A [(e0, .inr (9, [.ref h0, .ref g0, .ref t0, .ref l0, .ref k0, .ref f0, .int (bI hk), .int re])), (h0, .inr (3, [.ref a1, .ref a2, .ref a3, .ref a4, .ref a5, .long mult, .int (nI nx)])), (a1, .inr (5, [.ref a6, .ref a7])), (a6, .inl (cI, 256, .inl (llW w j v))), (a7, .inl (cI, 128, .inl (llM mid j v))), (t0, .inr (8, [.ref t1, .ref t2, .ref t3, .ref t4, .ref t5, .ref t6, .ref t7, .ref t8, .ref t9, .ref t10, .int (nI nw), .int (nI 0)]))] := hD
        refine lv_iconst (v := 1) hx hb dX9_storeLong_46 (by decide) ?_
        exact ret_i hx hb hr hlocks ((llW w j v), (llM mid j v), 0) ⟨(by first | exact hres | exact aL_1 hok), (by first | exact (if_neg hno).symm | (rw [if_pos hok, ad_clamp hj9])), (by first | exact (if_neg hno).symm | (rw [if_pos hok, ad_clamp hj9])), (by first | exact (if_neg hno).symm | (rw [if_pos hok]))⟩ (hP.sub [0, 1, 2, 3, 4, 5] rfl) (hD.sub [0, 1, 2, 3, 4, 5] (by decide) rfl) hS dX9_storeLong_47
      · skip
        have c_21 : ¬ v ≤ 34359738367 := fun z => c_21 ((lg_cmp_le _ _).mpr z)
        have hno : ¬ okL (nI j) v := fun z => by first | exact z.2.1 c_13 | exact c_21 z.2.2
        have hres : -3 = aL (nI j) v := by first | exact aL_3 (ad_nI hj9) hno
        refine lv_bipush (v := (-3)) hx hb dX9_storeLong_24 (by decide) ?_
        exact ret_i hx hb hr hlocks (w, mid, ts) ⟨(by first | exact hres | exact aL_1 hok), (by first | exact (if_neg hno).symm | (rw [if_pos hok, ad_clamp hj9])), (by first | exact (if_neg hno).symm | (rw [if_pos hok, ad_clamp hj9])), (by first | exact (if_neg hno).symm | (rw [if_pos hok]))⟩ (hP.sub [0, 1, 2, 3, 4, 5] rfl) (hD.sub [0, 1, 2, 3, 4, 5] (by decide) rfl) hS dX9_storeLong_26
  · skip
    have c_4 := bI_f c_4
    have hno : ¬ okL n v := fun z => by first | exact ad_no c_4 z.1
    have hres : -2 = aL n v := by first | exact (if_neg (ad_no c_4)).symm
    refine lv_bipush (v := (-2)) hx hb dX9_storeLong_7 (by decide) ?_
    exact ret_i hx hb hr hlocks (w, mid, ts) ⟨(by first | exact hres | exact aL_1 hok), (by first | exact (if_neg hno).symm | (rw [if_pos hok, ad_clamp hj9])), (by first | exact (if_neg hno).symm | (rw [if_pos hok, ad_clamp hj9])), (by first | exact (if_neg hno).symm | (rw [if_pos hok]))⟩ (hP.sub [0, 1, 2, 3, 4, 5] rfl) (hD.sub [0, 1, 2, 3, 4, 5] (by decide) rfl) hS dX9_storeLong_9

set_option maxHeartbeats 4000000 in
set_option maxRecDepth 100000 in
theorem kX9_word (l : Launch) (D : va_G) (Z : SZ) (cB cI cJ cZ : ClassId) (ksz : Nat) (e0 : Nat) (h0 : Nat) (g0 : Nat) (t0 : Nat) (l0 : Nat) (k0 : Nat) (f0 : Nat) (hk : Bool) (re : Int32) (a1 : Nat) (a2 : Nat) (a3 : Nat) (a4 : Nat) (a5 : Nat) (a6 : Nat) (a7 : Nat) (w : Nat → Int32) (mult : Int64) (nx : Nat) (n : Int32)  : Met l yX9_word wsX9_word { frames := 1, cells := 0, slots := 0, locals := 21 } (PR D Z [(cB, .byte), (cI, .int), (cJ, .long), (cZ, .boolean)] [.ref e0, .int n] [(e0, .inr (9, [.ref h0, .ref g0, .ref t0, .ref l0, .ref k0, .ref f0, .int (bI hk), .int re])), (h0, .inr (3, [.ref a1, .ref a2, .ref a3, .ref a4, .ref a5, .long mult, .int (nI nx)])), (a1, .inr (5, [.ref a6, .ref a7])), (a6, .inl (cI, 256, .inl w))] ksz) (QI D (fun (r : Int32) (_ : Unit) => r = (aW w n)) (fun (_ : Unit) => [(e0, .inr (9, [.ref h0, .ref g0, .ref t0, .ref l0, .ref k0, .ref f0, .int (bI hk), .int re])), (h0, .inr (3, [.ref a1, .ref a2, .ref a3, .ref a4, .ref a5, .long mult, .int (nI nx)])), (a1, .inr (5, [.ref a6, .ref a7])), (a6, .inl (cI, 256, .inl w))]) (va_A [(e0, .inr (9, [.ref h0, .ref g0, .ref t0, .ref l0, .ref k0, .ref f0, .int (bI hk), .int re])), (h0, .inr (3, [.ref a1, .ref a2, .ref a3, .ref a4, .ref a5, .long mult, .int (nI nx)])), (a1, .inr (5, [.ref a6, .ref a7])), (a6, .inl (cI, 256, .inl w))] ksz)) 0 0 (va_A [(e0, .inr (9, [.ref h0, .ref g0, .ref t0, .ref l0, .ref k0, .ref f0, .int (bI hk), .int re])), (h0, .inr (3, [.ref a1, .ref a2, .ref a3, .ref a4, .ref a5, .long mult, .int (nI nx)])), (a1, .inr (5, [.ref a6, .ref a7])), (a6, .inl (cI, 256, .inl w))] ksz) := by
  refine met_g (QI D (fun (r : Int32) (_ : Unit) => r = (aW w n)) (fun (_ : Unit) => [(e0, .inr (9, [.ref h0, .ref g0, .ref t0, .ref l0, .ref k0, .ref f0, .int (bI hk), .int re])), (h0, .inr (3, [.ref a1, .ref a2, .ref a3, .ref a4, .ref a5, .long mult, .int (nI nx)])), (a1, .inr (5, [.ref a6, .ref a7])), (a6, .inl (cI, 256, .inl w))])) cX9_word 2 (some .int) (by decide) rfl (Nat.le_of_ble_eq_true rfl) ?_
  intro p e s m below meth c A ls hx hb hr hts hown hlocks hml hin hA hP hK hD hE hS hl hsz
  clear hsz
  have hl : lv_has ls 2 [(0, .ref e0), (1, .int n)] := hl
  refine lv_iload_n hx hb dX9_word_0 rfl (lv_at hl 1 rfl) ?_
  refine pS_i (As := [.int n]) (rest := []) ⟨hx, hb, hml, hown, hts⟩ (kX9_isAddress l Z n ) (va_cwS 1 hts gX9_word_X9_isAddress rfl rfl rfl (by decide +kernel) ⟨Nat.le_of_ble_eq_true rfl, Nat.le_of_ble_eq_true rfl⟩) hK hE hP hD hS hA hl.1 rfl rfl (Nat.le_of_ble_eq_true rfl) dX9_word_1 ⟨Nat.le_of_ble_eq_true rfl, Nat.le_of_ble_eq_true rfl⟩ (fun H locs hP hS => ?_)
  refine lv_if_eq (tgt := 21) hx hb dX9_word_4 (by decide) (fun c_4 => ?_) (fun c_4 => ?_)
  · skip
    have c_4 := bI_f c_4
    have hres : -2 = aW w n := by first | exact (if_neg (ad_no c_4)).symm
    refine lv_bipush (v := (-2)) hx hb dX9_word_21 (by decide) ?_
    exact ret_i hx hb hr hlocks () (by first | exact hres | (rw [aW, if_pos (ad_nI hj9), ad_clamp hj9])) (hP.sub [0, 1, 2, 3] rfl) (hD.sub [0, 1, 2, 3] (by decide) rfl) hS dX9_word_23
  · skip
    have c_4 := bI_t c_4
    obtain ⟨j, hj9, rfl⟩ := ad_of c_4
    refine lv_aload_n hx hb dX9_word_7 rfl (lv_at hl 0 rfl) ?_
    refine va_get (D := D) (ci := 9) (v := .ref h0) (C := RX9) (T := TX9) (N := 8) hx hb hts (by decide +kernel) hown hK hP 0 rfl rfl 0 (by decide) (hts (.fieldLink RX9 10 "TapeEngine" "machine" "LTapeEngine$Machine;") (by decide +kernel)) (fun _ h9 => h9) rfl dX9_word_8 ?_
    refine va_getN (D := D) (ci := 3) (v := .ref a1) (C := RX3) (T := TX3) (N := 7) hx hb hts (by decide +kernel) hown hK hP 1 rfl rfl 0 (by decide) (va_Nw.use rfl (nf_X9_60 hE)) (fun _ h9 => h9) rfl dX9_word_11 ?_
    refine lv_iload_n hx hb dX9_word_14 rfl (lv_at hl 1 rfl) ?_
    refine kV_i (As := [.int (nI j)]) (rest := []) (wr := [(e0, .inr (9, [.ref h0, .ref g0, .ref t0, .ref l0, .ref k0, .ref f0, .int (bI hk), .int re])), (h0, .inr (3, [.ref a1, .ref a2, .ref a3, .ref a4, .ref a5, .long mult, .int (nI nx)]))]) ⟨hx, hb, hml, hown, hts⟩ (kX5_shortAt l D Z cB cI cJ cZ H.size a1 a6 a7 w j (by first | assumption | omega)) (cwV 1 hts gX9_word_X5_shortAt rfl rfl rfl (by decide +kernel) ⟨Nat.le_of_ble_eq_true rfl, Nat.le_of_ble_eq_true rfl⟩) hK hE hP hD hS hA 0 5 rfl rfl rfl [2, 3] [0, 1] rfl rfl rfl rfl rfl (by decide) hl.1 rfl rfl (Nat.le_of_ble_eq_true rfl) dX9_word_15 ⟨Nat.le_of_ble_eq_true rfl, Nat.le_of_ble_eq_true rfl⟩ (fun r u H locs hp hP hD hS => ?_)
    try dsimp only at hp
    have hq_0 := hp
    have hq_0 := hq_0.symm
    subst hq_0
    have hP : va_P D vwCl [(e0, .inr (9, [.ref h0, .ref g0, .ref t0, .ref l0, .ref k0, .ref f0, .int (bI hk), .int re])), (h0, .inr (3, [.ref a1, .ref a2, .ref a3, .ref a4, .ref a5, .long mult, .int (nI nx)])), (a1, .inr (5, [.ref a6, .ref a7])), (a6, .inl (cI, 256, .inl w))] H := hP
    have hD : va_D A [(e0, .inr (9, [.ref h0, .ref g0, .ref t0, .ref l0, .ref k0, .ref f0, .int (bI hk), .int re])), (h0, .inr (3, [.ref a1, .ref a2, .ref a3, .ref a4, .ref a5, .long mult, .int (nI nx)])), (a1, .inr (5, [.ref a6, .ref a7])), (a6, .inl (cI, 256, .inl w))] := hD
    refine lv_goto (tgt := 23) hx hb dX9_word_18 (by decide) ?_
    exact ret_i hx hb hr hlocks () (by first | exact hres | (rw [aW, if_pos (ad_nI hj9), ad_clamp hj9])) (hP.sub [0, 1, 2, 3] rfl) (hD.sub [0, 1, 2, 3] (by decide) rfl) hS dX9_word_23

set_option maxHeartbeats 4000000 in
set_option maxRecDepth 100000 in
theorem kX9_wordLong (l : Launch) (D : va_G) (Z : SZ) (cB cI cJ cZ : ClassId) (ksz : Nat) (e0 : Nat) (h0 : Nat) (g0 : Nat) (t0 : Nat) (l0 : Nat) (k0 : Nat) (f0 : Nat) (hk : Bool) (re : Int32) (a1 : Nat) (a2 : Nat) (a3 : Nat) (a4 : Nat) (a5 : Nat) (a6 : Nat) (a7 : Nat) (w : Nat → Int32) (mid : Nat → Int32) (mult : Int64) (nx : Nat) (n : Int32)  : Met l yX9_wordLong wsX9_wordLong { frames := 2, cells := 0, slots := 0, locals := 46 } (PR D Z [(cB, .byte), (cI, .int), (cJ, .long), (cZ, .boolean)] [.ref e0, .int n] [(e0, .inr (9, [.ref h0, .ref g0, .ref t0, .ref l0, .ref k0, .ref f0, .int (bI hk), .int re])), (h0, .inr (3, [.ref a1, .ref a2, .ref a3, .ref a4, .ref a5, .long mult, .int (nI nx)])), (a1, .inr (5, [.ref a6, .ref a7])), (a6, .inl (cI, 256, .inl w)), (a7, .inl (cI, 128, .inl mid))] ksz) (QL D (fun (r : Int64) (_ : Unit) => r = (aWL w mid n)) (fun (_ : Unit) => [(e0, .inr (9, [.ref h0, .ref g0, .ref t0, .ref l0, .ref k0, .ref f0, .int (bI hk), .int re])), (h0, .inr (3, [.ref a1, .ref a2, .ref a3, .ref a4, .ref a5, .long mult, .int (nI nx)])), (a1, .inr (5, [.ref a6, .ref a7])), (a6, .inl (cI, 256, .inl w)), (a7, .inl (cI, 128, .inl mid))]) (va_A [(e0, .inr (9, [.ref h0, .ref g0, .ref t0, .ref l0, .ref k0, .ref f0, .int (bI hk), .int re])), (h0, .inr (3, [.ref a1, .ref a2, .ref a3, .ref a4, .ref a5, .long mult, .int (nI nx)])), (a1, .inr (5, [.ref a6, .ref a7])), (a6, .inl (cI, 256, .inl w)), (a7, .inl (cI, 128, .inl mid))] ksz)) 0 0 (va_A [(e0, .inr (9, [.ref h0, .ref g0, .ref t0, .ref l0, .ref k0, .ref f0, .int (bI hk), .int re])), (h0, .inr (3, [.ref a1, .ref a2, .ref a3, .ref a4, .ref a5, .long mult, .int (nI nx)])), (a1, .inr (5, [.ref a6, .ref a7])), (a6, .inl (cI, 256, .inl w)), (a7, .inl (cI, 128, .inl mid))] ksz) := by
  refine met_g (QL D (fun (r : Int64) (_ : Unit) => r = (aWL w mid n)) (fun (_ : Unit) => [(e0, .inr (9, [.ref h0, .ref g0, .ref t0, .ref l0, .ref k0, .ref f0, .int (bI hk), .int re])), (h0, .inr (3, [.ref a1, .ref a2, .ref a3, .ref a4, .ref a5, .long mult, .int (nI nx)])), (a1, .inr (5, [.ref a6, .ref a7])), (a6, .inl (cI, 256, .inl w)), (a7, .inl (cI, 128, .inl mid))])) cX9_wordLong 2 (some .long) (by decide) rfl (Nat.le_of_ble_eq_true rfl) ?_
  intro p e s m below meth c A ls hx hb hr hts hown hlocks hml hin hA hP hK hD hE hS hl hsz
  clear hsz
  have hl : lv_has ls 2 [(0, .ref e0), (1, .int n)] := hl
  refine lv_iload_n hx hb dX9_wordLong_0 rfl (lv_at hl 1 rfl) ?_
  refine pS_i (As := [.int n]) (rest := []) ⟨hx, hb, hml, hown, hts⟩ (kX9_isAddress l Z n ) (va_cwS 1 hts gX9_wordLong_X9_isAddress rfl rfl rfl (by decide +kernel) ⟨Nat.le_of_ble_eq_true rfl, Nat.le_of_ble_eq_true rfl⟩) hK hE hP hD hS hA hl.1 rfl rfl (Nat.le_of_ble_eq_true rfl) dX9_wordLong_1 ⟨Nat.le_of_ble_eq_true rfl, Nat.le_of_ble_eq_true rfl⟩ (fun H locs hP hS => ?_)
  refine lv_if_eq (tgt := 24) hx hb dX9_wordLong_4 (by decide) (fun c_4 => ?_) (fun c_4 => ?_)
  · skip
    have c_4 := bI_f c_4
    have hres : (-9223372036854775808 : Int64) = aWL w mid n := by first | exact (if_neg (ad_no c_4)).symm
    refine lv_ldc2 hx hb hown (hts (.constantLong RX9 91 (-9223372036854775808)) (by decide +kernel)) dX9_wordLong_24 ?_
    exact ret_l hx hb hr hlocks () (by first | exact hres | (rw [aWL, if_pos (ad_nI hj9), ad_clamp hj9])) (hP.sub [0, 1, 2, 3, 4] rfl) (hD.sub [0, 1, 2, 3, 4] (by decide) rfl) hS dX9_wordLong_27
  · skip
    have c_4 := bI_t c_4
    obtain ⟨j, hj9, rfl⟩ := ad_of c_4
    refine lv_aload_n hx hb dX9_wordLong_7 rfl (lv_at hl 0 rfl) ?_
    refine va_get (D := D) (ci := 9) (v := .ref h0) (C := RX9) (T := TX9) (N := 8) hx hb hts (by decide +kernel) hown hK hP 0 rfl rfl 0 (by decide) (hts (.fieldLink RX9 10 "TapeEngine" "machine" "LTapeEngine$Machine;") (by decide +kernel)) (fun _ h9 => h9) rfl dX9_wordLong_8 ?_
    refine va_getN (D := D) (ci := 3) (v := .ref a1) (C := RX3) (T := TX3) (N := 7) hx hb hts (by decide +kernel) hown hK hP 1 rfl rfl 0 (by decide) (va_Nw.use rfl (nf_X9_60 hE)) (fun _ h9 => h9) rfl dX9_wordLong_11 ?_
    refine lv_iload_n hx hb dX9_wordLong_14 rfl (lv_at hl 1 rfl) ?_
    refine kV_l (As := [.int (nI j)]) (rest := []) (wr := [(e0, .inr (9, [.ref h0, .ref g0, .ref t0, .ref l0, .ref k0, .ref f0, .int (bI hk), .int re])), (h0, .inr (3, [.ref a1, .ref a2, .ref a3, .ref a4, .ref a5, .long mult, .int (nI nx)]))]) ⟨hx, hb, hml, hown, hts⟩ (kX5_longAt l D Z cB cI cJ cZ H.size a1 a6 a7 w mid j (by first | assumption | omega)) (cwV 1 hts gX9_wordLong_X5_longAt rfl rfl rfl (by decide +kernel) ⟨Nat.le_of_ble_eq_true rfl, Nat.le_of_ble_eq_true rfl⟩) hK hE hP hD hS hA 0 5 rfl rfl rfl [2, 3, 4] [0, 1] rfl rfl rfl rfl rfl (by decide) hl.1 rfl rfl (Nat.le_of_ble_eq_true rfl) dX9_wordLong_15 ⟨Nat.le_of_ble_eq_true rfl, Nat.le_of_ble_eq_true rfl⟩ (fun r u H locs hp hP hD hS => ?_)
    try dsimp only at hp
    have hq_0 := hp
    have hq_0 := hq_0.symm
    subst hq_0
    have hP : va_P D vwCl [(e0, .inr (9, [.ref h0, .ref g0, .ref t0, .ref l0, .ref k0, .ref f0, .int (bI hk), .int re])), (h0, .inr (3, [.ref a1, .ref a2, .ref a3, .ref a4, .ref a5, .long mult, .int (nI nx)])), (a1, .inr (5, [.ref a6, .ref a7])), (a6, .inl (cI, 256, .inl w)), (a7, .inl (cI, 128, .inl mid))] H := hP
    have hD : va_D A [(e0, .inr (9, [.ref h0, .ref g0, .ref t0, .ref l0, .ref k0, .ref f0, .int (bI hk), .int re])), (h0, .inr (3, [.ref a1, .ref a2, .ref a3, .ref a4, .ref a5, .long mult, .int (nI nx)])), (a1, .inr (5, [.ref a6, .ref a7])), (a6, .inl (cI, 256, .inl w)), (a7, .inl (cI, 128, .inl mid))] := hD
    refine pS_l (As := [.long (lwd w mid j)]) (rest := []) ⟨hx, hb, hml, hown, hts⟩ (kX9_signedLong l Z (lwd w mid j) ) (va_cwS 1 hts gX9_wordLong_X9_signedLong rfl rfl rfl (by decide +kernel) ⟨Nat.le_of_ble_eq_true rfl, Nat.le_of_ble_eq_true rfl⟩) hK hE hP hD hS hA hl.1 rfl rfl (Nat.le_of_ble_eq_true rfl) dX9_wordLong_18 ⟨Nat.le_of_ble_eq_true rfl, Nat.le_of_ble_eq_true rfl⟩ (fun H locs hP hS => ?_)
    refine lv_goto (tgt := 27) hx hb dX9_wordLong_21 (by decide) ?_
    exact ret_l hx hb hr hlocks () (by first | exact hres | (rw [aWL, if_pos (ad_nI hj9), ad_clamp hj9])) (hP.sub [0, 1, 2, 3, 4] rfl) (hD.sub [0, 1, 2, 3, 4] (by decide) rfl) hS dX9_wordLong_27
