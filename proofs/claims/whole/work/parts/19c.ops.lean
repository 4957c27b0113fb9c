set_option maxHeartbeats 4000000 in
set_option maxRecDepth 100000 in
theorem kX9_order (l : Launch) (D : va_G) (Z : SZ) (cB cI cJ cZ : ClassId) (ksz : Nat) (e0 : Nat) (h0 : Nat) (g0 : Nat) (t0 : Nat) (l0 : Nat) (k0 : Nat) (f0 : Nat) (hk : Bool) (re : Int32) (t1 : Nat) (t2 : Nat) (t3 : Nat) (t4 : Nat) (t5 : Nat) (t6 : Nat) (t7 : Nat) (t8 : Nat) (t9 : Nat) (t10 : Nat) (nw : Nat) (ts : Nat) (a1 : Nat) (a2 : Nat) (a3 : Nat) (a4 : Nat) (a5 : Nat) (a6 : Nat) (a7 : Nat) (w : Nat → Int32) (mult : Int64) (nx : Nat) (n : Int32) (f : Int32) (a : Int32) (lg : Bool)  : Met l yX9_order wsX9_order { frames := 1, cells := 0, slots := 0, locals := 22 } (PR D Z [(cB, .byte), (cI, .int), (cJ, .long), (cZ, .boolean)] [.ref e0, .int n, .int f, .int a, .int (bI lg)] [(e0, .inr (9, [.ref h0, .ref g0, .ref t0, .ref l0, .ref k0, .ref f0, .int (bI hk), .int re])), (h0, .inr (3, [.ref a1, .ref a2, .ref a3, .ref a4, .ref a5, .long mult, .int (nI nx)])), (a1, .inr (5, [.ref a6, .ref a7])), (a6, .inl (cI, 256, .inl w)), (t0, .inr (8, [.ref t1, .ref t2, .ref t3, .ref t4, .ref t5, .ref t6, .ref t7, .ref t8, .ref t9, .ref t10, .int (nI nw), .int (nI ts)]))] ksz) (QI D (fun (r : Int32) (u : (Nat → Int32) × Nat) => r = (aO n f a) ∧ u.1 = (if okO n f a then upd w n.toNatClampNeg (orW f a lg) else w) ∧ u.2 = (if okO n f a then 0 else ts)) (fun (u : (Nat → Int32) × Nat) => [(e0, .inr (9, [.ref h0, .ref g0, .ref t0, .ref l0, .ref k0, .ref f0, .int (bI hk), .int re])), (h0, .inr (3, [.ref a1, .ref a2, .ref a3, .ref a4, .ref a5, .long mult, .int (nI nx)])), (a1, .inr (5, [.ref a6, .ref a7])), (a6, .inl (cI, 256, .inl u.1)), (t0, .inr (8, [.ref t1, .ref t2, .ref t3, .ref t4, .ref t5, .ref t6, .ref t7, .ref t8, .ref t9, .ref t10, .int (nI nw), .int (nI u.2)]))]) (va_A [(e0, .inr (9, [.ref h0, .ref g0, .ref t0, .ref l0, .ref k0, .ref f0, .int (bI hk), .int re])), (h0, .inr (3, [.ref a1, .ref a2, .ref a3, .ref a4, .ref a5, .long mult, .int (nI nx)])), (a1, .inr (5, [.ref a6, .ref a7])), (a6, .inl (cI, 256, .inl w)), (t0, .inr (8, [.ref t1, .ref t2, .ref t3, .ref t4, .ref t5, .ref t6, .ref t7, .ref t8, .ref t9, .ref t10, .int (nI nw), .int (nI ts)]))] ksz)) 0 0 (va_A [(e0, .inr (9, [.ref h0, .ref g0, .ref t0, .ref l0, .ref k0, .ref f0, .int (bI hk), .int re])), (h0, .inr (3, [.ref a1, .ref a2, .ref a3, .ref a4, .ref a5, .long mult, .int (nI nx)])), (a1, .inr (5, [.ref a6, .ref a7])), (a6, .inl (cI, 256, .inl w)), (t0, .inr (8, [.ref t1, .ref t2, .ref t3, .ref t4, .ref t5, .ref t6, .ref t7, .ref t8, .ref t9, .ref t10, .int (nI nw), .int (nI ts)]))] ksz) := by
  refine met_g (QI D (fun (r : Int32) (u : (Nat → Int32) × Nat) => r = (aO n f a) ∧ u.1 = (if okO n f a then upd w n.toNatClampNeg (orW f a lg) else w) ∧ u.2 = (if okO n f a then 0 else ts)) (fun (u : (Nat → Int32) × Nat) => [(e0, .inr (9, [.ref h0, .ref g0, .ref t0, .ref l0, .ref k0, .ref f0, .int (bI hk), .int re])), (h0, .inr (3, [.ref a1, .ref a2, .ref a3, .ref a4, .ref a5, .long mult, .int (nI nx)])), (a1, .inr (5, [.ref a6, .ref a7])), (a6, .inl (cI, 256, .inl u.1)), (t0, .inr (8, [.ref t1, .ref t2, .ref t3, .ref t4, .ref t5, .ref t6, .ref t7, .ref t8, .ref t9, .ref t10, .int (nI nw), .int (nI u.2)]))])) cX9_order 5 (some .int) (by decide) rfl (Nat.le_of_ble_eq_true rfl) ?_
  intro p e s m below meth c A ls hx hb hr hts hown hlocks hml hin hA hP hK hD hE hS hl hsz
  clear hsz
  have hl : lv_has ls 5 [(0, .ref e0), (1, .int n), (2, .int f), (3, .int a), (4, .int (bI lg))] := hl
  refine lv_iload_n hx hb dX9_order_0 rfl (lv_at hl 1 rfl) ?_
  refine pS_i (As := [.int n]) (rest := []) ⟨hx, hb, hml, hown, hts⟩ (kX9_isAddress l Z n ) (va_cwS 1 hts gX9_order_X9_isAddress rfl rfl rfl (by decide +kernel) ⟨Nat.le_of_ble_eq_true rfl, Nat.le_of_ble_eq_true rfl⟩) hK hE hP hD hS hA hl.1 rfl rfl (Nat.le_of_ble_eq_true rfl) dX9_order_1 ⟨Nat.le_of_ble_eq_true rfl, Nat.le_of_ble_eq_true rfl⟩ (fun H locs hP hS => ?_)
  refine lv_if_eq (tgt := 14) hx hb dX9_order_4 (by decide) (fun c_4 => ?_) (fun c_4 => ?_)
  · skip
    have c_4 := bI_f c_4
    have hno : ¬ okO n f a := fun z => by first | exact ad_no c_4 z.1 | exact sy_no c_11 z.2.1
    have hres : -2 = aO n f a := by first | exact aO_2 (Or.inl c_4) | exact aO_2 (Or.inr c_11)
    refine lv_bipush (v := (-2)) hx hb dX9_order_14 (by decide) ?_
    exact ret_i hx hb hr hlocks (w, ts) ⟨(by first | exact hres | exact aO_1 hok), (by first | exact (if_neg hno).symm | (rw [if_pos hok, ad_clamp hj9, orW_m hjf9 (by omega)])), (by first | exact (if_neg hno).symm | (rw [if_pos hok]))⟩ (hP.sub [0, 1, 2, 3, 4] rfl) (hD.sub [0, 1, 2, 3, 4] (by decide) rfl) hS dX9_order_16
  · skip
    have c_4 := bI_t c_4
    obtain ⟨j, hj9, rfl⟩ := ad_of c_4
    refine lv_iload_n hx hb dX9_order_7 rfl (lv_at hl 2 rfl) ?_
    refine pS_i (As := [.int f]) (rest := []) ⟨hx, hb, hml, hown, hts⟩ (kX9_isSymbol l Z f ) (va_cwS 1 hts gX9_order_X9_isSymbol rfl rfl rfl (by decide +kernel) ⟨Nat.le_of_ble_eq_true rfl, Nat.le_of_ble_eq_true rfl⟩) hK hE hP hD hS hA hl.1 rfl rfl (Nat.le_of_ble_eq_true rfl) dX9_order_8 ⟨Nat.le_of_ble_eq_true rfl, Nat.le_of_ble_eq_true rfl⟩ (fun H locs hP hS => ?_)
    refine lv_if_ne (tgt := 17) hx hb dX9_order_11 (by decide) (fun c_11 => ?_) (fun c_11 => ?_)
    · skip
      have c_11 := bI_t c_11
      obtain ⟨jf, hjf9, rfl⟩ := sy_of c_11
      refine lv_iload_n hx hb dX9_order_17 rfl (lv_at hl 3 rfl) ?_
      refine lv_if_lt (tgt := 28) hx hb dX9_order_18 (by decide) (fun c_18 => ?_) (fun c_18 => ?_)
      · skip
        have hno : ¬ okO (nI j) (nI jf) a := fun z => by first | exact z.2.2.1 c_18 | exact c_25 z.2.2.2
        have hres : -3 = aO (nI j) (nI jf) a := by first | exact aO_3 (ad_nI hj9) (sy_nI hjf9) hno
        refine lv_bipush (v := (-3)) hx hb dX9_order_28 (by decide) ?_
        exact ret_i hx hb hr hlocks (w, ts) ⟨(by first | exact hres | exact aO_1 hok), (by first | exact (if_neg hno).symm | (rw [if_pos hok, ad_clamp hj9, orW_m hjf9 (by omega)])), (by first | exact (if_neg hno).symm | (rw [if_pos hok]))⟩ (hP.sub [0, 1, 2, 3, 4] rfl) (hD.sub [0, 1, 2, 3, 4] (by decide) rfl) hS dX9_order_30
      · skip
        refine lv_iload_n hx hb dX9_order_21 rfl (lv_at hl 3 rfl) ?_
        refine lv_sipush (v := 1023) hx hb dX9_order_22 (by decide) ?_
        refine lv_icmp_le (tgt := 31) hx hb dX9_order_25 (by decide) (fun c_25 => ?_) (fun c_25 => ?_)
        · skip
          obtain ⟨x, hx9, rfl⟩ := nI_of c_18
          have c_25 : x ≤ 1023 := nI_leL (k := 1023) (by omega) (by decide) c_25
          have hok : okO (nI j) (nI jf) (nI x) := ⟨ad_nI hj9, sy_nI hjf9, nI_pos (by omega), nI_le (b := 1023) c_25 (by decide)⟩
          refine lv_aload_n hx hb dX9_order_31 rfl (lv_at hl 0 rfl) ?_
          refine va_get (D := D) (ci := 9) (v := .ref h0) (C := RX9) (T := TX9) (N := 8) hx hb hts (by decide +kernel) hown hK hP 0 rfl rfl 0 (by decide) (hts (.fieldLink RX9 10 "TapeEngine" "machine" "LTapeEngine$Machine;") (by decide +kernel)) (fun _ h9 => h9) rfl dX9_order_32 ?_
          refine va_getN (D := D) (ci := 3) (v := .ref a1) (C := RX3) (T := TX3) (N := 7) hx hb hts (by decide +kernel) hown hK hP 1 rfl rfl 0 (by decide) (va_Nw.use rfl (nf_X9_60 hE)) (fun _ h9 => h9) rfl dX9_order_35 ?_
          refine lv_iload_n hx hb dX9_order_38 rfl (lv_at hl 1 rfl) ?_
          refine lv_iload_n hx hb dX9_order_39 rfl (lv_at hl 2 rfl) ?_
          refine lv_bipush (v := 12) hx hb dX9_order_40 (by decide) ?_
          refine lv_ishl hx hb dX9_order_42 ?_
          refine lv_iload_n hx hb dX9_order_43 rfl (lv_at hl 3 rfl) ?_
          refine lv_iconst (v := 1) hx hb dX9_order_44 (by decide) ?_
          refine lv_ishl hx hb dX9_order_45 ?_
          refine lv_ior hx hb dX9_order_46 ?_
          refine lv_iload hx hb dX9_order_47 (lv_at hl 4 rfl) ?_
          refine lv_if_eq (tgt := 56) hx hb dX9_order_49 (by decide) (fun c_49 => ?_) (fun c_49 => ?_)
          · skip
            have c_49 := bI_f c_49
            refine lv_iconst (v := 0) hx hb dX9_order_56 (by decide) ?_
            refine lv_ior hx hb dX9_order_57 ?_
            refine set_i (y := orW (nI jf) (nI x) lg) (by first | exact orW_t c_49 | exact orW_f c_49) ?_
            refine kV_v (As := [.int (nI j), .int (orW (nI jf) (nI x) lg)]) (rest := []) (wr := [(e0, .inr (9, [.ref h0, .ref g0, .ref t0, .ref l0, .ref k0, .ref f0, .int (bI hk), .int re])), (h0, .inr (3, [.ref a1, .ref a2, .ref a3, .ref a4, .ref a5, .long mult, .int (nI nx)])), (t0, .inr (8, [.ref t1, .ref t2, .ref t3, .ref t4, .ref t5, .ref t6, .ref t7, .ref t8, .ref t9, .ref t10, .int (nI nw), .int (nI ts)]))]) ⟨hx, hb, hml, hown, hts⟩ (kX5_layShort l D Z cB cI cJ cZ H.size a1 a6 a7 w j (orW (nI jf) (nI x) lg) (by first | assumption | omega)) (cwV 2 hts gX9_order_X5_layShort rfl rfl rfl (by decide +kernel) ⟨Nat.le_of_ble_eq_true rfl, Nat.le_of_ble_eq_true rfl⟩) hK hE hP hD hS hA 0 5 rfl rfl rfl [2, 3] [0, 1, 4] rfl rfl rfl rfl rfl (by decide) hl.1 rfl rfl (Nat.le_of_ble_eq_true rfl) dX9_order_58 ⟨Nat.le_of_ble_eq_true rfl, Nat.le_of_ble_eq_true rfl⟩ (fun u H locs hp hP hD hS => ?_)
            obtain ⟨v_1, rfl⟩ : ∃ z, z = u := ⟨_, rfl⟩
            try dsimp only at hp
            have hq_0 := hp
            have hq_0 := hq_0.symm
            subst hq_0
            have hP : va_P D vwCl [(e0, .inr (9, [.ref h0, .ref g0, .ref t0, .ref l0, .ref k0, .ref f0, .int (bI hk), .int re])), (h0, .inr (3, [.ref a1, .ref a2, .ref a3, .ref a4, .ref a5, .long mult, .int (nI nx)])), (t0, .inr (8, [.ref t1, .ref t2, .ref t3, .ref t4, .ref t5, .ref t6, .ref t7, .ref t8, .ref t9, .ref t10, .int (nI nw), .int (nI ts)])), (a1, .inr (5, [.ref a6, .ref a7])), (a6, .inl (cI, 256, .inl (upd w j ((orW (nI jf) (nI x) lg) &&& 131071))))] H := hP
            have hD : va_D A [(e0, .inr (9, [.ref h0, .ref g0, .ref t0, .ref l0, .ref k0, .ref f0, .int (bI hk), .int re])), (h0, .inr (3, [.ref a1, .ref a2, .ref a3, .ref a4, .ref a5, .long mult, .int (nI nx)])), (t0, .inr (8, [.ref t1, .ref t2, .ref t3, .ref t4, .ref t5, .ref t6, .ref t7, .ref t8, .ref t9, .ref t10, .int (nI nw), .int (nI ts)])), (a1, .inr (5, [.ref a6, .ref a7])), (a6, .inl (cI, 256, .inl (upd w j ((orW (nI jf) (nI x) lg) &&& 131071))))] := hD
            refine lv_aload_n hx hb dX9_order_61 rfl (lv_at hl 0 rfl) ?_
            refine va_get (D := D) (ci := 9) (v := .ref t0) (C := RX9) (T := TX9) (N := 8) hx hb hts (by decide +kernel) hown hK hP 0 rfl rfl 2 (by decide) (hts (.fieldLink RX9 22 "TapeEngine" "trail" "LTapeEngine$Trail;") (by decide +kernel)) (fun _ h9 => h9) rfl dX9_order_62 ?_
            refine kV_v (As := []) (rest := []) (wr := [(e0, .inr (9, [.ref h0, .ref g0, .ref t0, .ref l0, .ref k0, .ref f0, .int (bI hk), .int re])), (h0, .inr (3, [.ref a1, .ref a2, .ref a3, .ref a4, .ref a5, .long mult, .int (nI nx)])), (a1, .inr (5, [.ref a6, .ref a7])), (a6, .inl (cI, 256, .inl (upd w j ((orW (nI jf) (nI x) lg) &&& 131071))))]) ⟨hx, hb, hml, hown, hts⟩ (kX8_forget l D Z cB cI cJ cZ H.size t0 t1 t2 t3 t4 t5 t6 t7 t8 t9 t10 nw ts ) (cwV 0 hts gX9_order_X8_forget rfl rfl rfl (by decide +kernel) ⟨Nat.le_of_ble_eq_true rfl, Nat.le_of_ble_eq_true rfl⟩) hK hE hP hD hS hA 0 8 rfl rfl rfl [2] [0, 1, 3, 4] rfl rfl rfl rfl rfl (by decide) hl.1 rfl rfl (Nat.le_of_ble_eq_true rfl) dX9_order_65 ⟨Nat.le_of_ble_eq_true rfl, Nat.le_of_ble_eq_true rfl⟩ (fun u H locs hp hP hD hS => ?_)
            have hP : va_P D vwCl [(e0, .inr (9, [.ref h0, .ref g0, .ref t0, .ref l0, .ref k0, .ref f0, .int (bI hk), .int re])), (h0, .inr (3, [.ref a1, .ref a2, .ref a3, .ref a4, .ref a5, .long mult, .int (nI nx)])), (a1, .inr (5, [.ref a6, .ref a7])), (a6, .inl (cI, 256, .inl (upd w j ((orW (nI jf) (nI x) lg) &&& 131071)))), (t0, .inr (8, [.ref t1, .ref t2, .ref t3, .ref t4, .ref t5, .ref t6, .ref t7, .ref t8, .ref t9, .ref t10, .int (nI nw), .int (nI 0)]))] H := hP
            have hD : va_D A [(e0, .inr (9, [.ref h0, .ref g0, .ref t0, .ref l0, .ref k0, .ref f0, .int (bI hk), .int re])), (h0, .inr (3, [.ref a1, .ref a2, .ref a3, .ref a4, .ref a5, .long mult, .int (nI nx)])), (a1, .inr (5, [.ref a6, .ref a7])), (a6, .inl (cI, 256, .inl (upd w j ((orW (nI jf) (nI x) lg) &&& 131071)))), (t0, .inr (8, [.ref t1, .ref t2, .ref t3, .ref t4, .ref t5, .ref t6, .ref t7, .ref t8, .ref t9, .ref t10, .int (nI nw), .int (nI 0)]))] := hD
            refine lv_iconst (v := 1) hx hb dX9_order_68 (by decide) ?_
            exact ret_i hx hb hr hlocks ((upd w j ((orW (nI jf) (nI x) lg) &&& 131071)), 0) ⟨(by first | exact hres | exact aO_1 hok), (by first | exact (if_neg hno).symm | (rw [if_pos hok, ad_clamp hj9, orW_m hjf9 (by omega)])), (by first | exact (if_neg hno).symm | (rw [if_pos hok]))⟩ (hP.sub [0, 1, 2, 3, 4] rfl) (hD.sub [0, 1, 2, 3, 4] (by decide) rfl) hS dX9_order_69
          · skip
            have c_49 := bI_t c_49
            refine lv_iconst (v := 1) hx hb dX9_order_52 (by decide) ?_
            refine lv_goto (tgt := 57) hx hb dX9_order_53 (by decide) ?_
            refine lv_ior hx hb dX9_order_57 ?_
            refine set_i (y := orW (nI jf) (nI x) lg) (by first | exact orW_t c_49 | exact orW_f c_49) ?_
            refine kV_v (As := [.int (nI j), .int (orW (nI jf) (nI x) lg)]) (rest := []) (wr := [(e0, .inr (9, [.ref h0, .ref g0, .ref t0, .ref l0, .ref k0, .ref f0, .int (bI hk), .int re])), (h0, .inr (3, [.ref a1, .ref a2, .ref a3, .ref a4, .ref a5, .long mult, .int (nI nx)])), (t0, .inr (8, [.ref t1, .ref t2, .ref t3, .ref t4, .ref t5, .ref t6, .ref t7, .ref t8, .ref t9, .ref t10, .int (nI nw), .int (nI ts)]))]) ⟨hx, hb, hml, hown, hts⟩ (kX5_layShort l D Z cB cI cJ cZ H.size a1 a6 a7 w j (orW (nI jf) (nI x) lg) (by first | assumption | omega)) (cwV 2 hts gX9_order_X5_layShort rfl rfl rfl (by decide +kernel) ⟨Nat.le_of_ble_eq_true rfl, Nat.le_of_ble_eq_true rfl⟩) hK hE hP hD hS hA 0 5 rfl rfl rfl [2, 3] [0, 1, 4] rfl rfl rfl rfl rfl (by decide) hl.1 rfl rfl (Nat.le_of_ble_eq_true rfl) dX9_order_58 ⟨Nat.le_of_ble_eq_true rfl, Nat.le_of_ble_eq_true rfl⟩ (fun u H locs hp hP hD hS => ?_)
            obtain ⟨v_2, rfl⟩ : ∃ z, z = u := ⟨_, rfl⟩
            try dsimp only at hp
            have hq_0 := hp
            have hq_0 := hq_0.symm
            subst hq_0
            have hP : va_P D vwCl [(e0, .inr (9, [.ref h0, .ref g0, .ref t0, .ref l0, .ref k0, .ref f0, .int (bI hk), .int re])), (h0, .inr (3, [.ref a1, .ref a2, .ref a3, .ref a4, .ref a5, .long mult, .int (nI nx)])), (t0, .inr (8, [.ref t1, .ref t2, .ref t3, .ref t4, .ref t5, .ref t6, .ref t7, .ref t8, .ref t9, .ref t10, .int (nI nw), .int (nI ts)])), (a1, .inr (5, [.ref a6, .ref a7])), (a6, .inl (cI, 256, .inl (upd w j ((orW (nI jf) (nI x) lg) &&& 131071))))] H := hP
            have hD : va_D A [(e0, .inr (9, [.ref h0, .ref g0, .ref t0, .ref l0, .ref k0, .ref f0, .int (bI hk), .int re])), (h0, .inr (3, [.ref a1, .ref a2, .ref a3, .ref a4, .ref a5, .long mult, .int (nI nx)])), (t0, .inr (8, [.ref t1, .ref t2, .ref t3, .ref t4, .ref t5, .ref t6, .ref t7, .ref t8, .ref t9, .ref t10, .int (nI nw), .int (nI ts)])), (a1, .inr (5, [.ref a6, .ref a7])), (a6, .inl (cI, 256, .inl (upd w j ((orW (nI jf) (nI x) lg) &&& 131071))))] := hD
            refine lv_aload_n hx hb dX9_order_61 rfl (lv_at hl 0 rfl) ?_
            refine va_get (D := D) (ci := 9) (v := .ref t0) (C := RX9) (T := TX9) (N := 8) hx hb hts (by decide +kernel) hown hK hP 0 rfl rfl 2 (by decide) (hts (.fieldLink RX9 22 "TapeEngine" "trail" "LTapeEngine$Trail;") (by decide +kernel)) (fun _ h9 => h9) rfl dX9_order_62 ?_
            refine kV_v (As := []) (rest := []) (wr := [(e0, .inr (9, [.ref h0, .ref g0, .ref t0, .ref l0, .ref k0, .ref f0, .int (bI hk), .int re])), (h0, .inr (3, [.ref a1, .ref a2, .ref a3, .ref a4, .ref a5, .long mult, .int (nI nx)])), (a1, .inr (5, [.ref a6, .ref a7])), (a6, .inl (cI, 256, .inl (upd w j ((orW (nI jf) (nI x) lg) &&& 131071))))]) ⟨hx, hb, hml, hown, hts⟩ (kX8_forget l D Z cB cI cJ cZ H.size t0 t1 t2 t3 t4 t5 t6 t7 t8 t9 t10 nw ts ) (cwV 0 hts gX9_order_X8_forget rfl rfl rfl (by decide +kernel) ⟨Nat.le_of_ble_eq_true rfl, Nat.le_of_ble_eq_true rfl⟩) hK hE hP hD hS hA 0 8 rfl rfl rfl [2] [0, 1, 3, 4] rfl rfl rfl rfl rfl (by decide) hl.1 rfl rfl (Nat.le_of_ble_eq_true rfl) dX9_order_65 ⟨Nat.le_of_ble_eq_true rfl, Nat.le_of_ble_eq_true rfl⟩ (fun u H locs hp hP hD hS => ?_)
            have hP : va_P D vwCl [(e0, .inr (9, [.ref h0, .ref g0, .ref t0, .ref l0, .ref k0, .ref f0, .int (bI hk), .int re])), (h0, .inr (3, [.ref a1, .ref a2, .ref a3, .ref a4, .ref a5, .long mult, .int (nI nx)])), (a1, .inr (5, [.ref a6, .ref a7])), (a6, .inl (cI, 256, .inl (upd w j ((orW (nI jf) (nI x) lg) &&& 131071)))), (t0, .inr (8, [.ref t1, .ref t2, .ref t3, .ref t4, .ref t5, .ref t6, .ref t7, .ref t8, .ref t9, .ref t10, .int (nI nw), .int (nI 0)]))] H := hP
            have hD : va_D A [(e0, .inr (9, [.ref h0, .ref g0, .ref t0, .ref l0, .ref k0, .ref f0, .int (bI hk), .int re])), (h0, .inr (3, [.ref a1, .ref a2, .ref a3, .ref a4, .ref a5, .long mult, .int (nI nx)])), (a1, .inr (5, [.ref a6, .ref a7])), (a6, .inl (cI, 256, .inl (upd w j ((orW (nI jf) (nI x) lg) &&& 131071)))), (t0, .inr (8, [.ref t1, .ref t2, .ref t3, .ref t4, .ref t5, .ref t6, .ref t7, .ref t8, .ref t9, .ref t10, .int (nI nw), .int (nI 0)]))] := hD
            refine lv_iconst (v := 1) hx hb dX9_order_68 (by decide) ?_
            exact ret_i hx hb hr hlocks ((upd w j ((orW (nI jf) (nI x) lg) &&& 131071)), 0) ⟨(by first | exact hres | exact aO_1 hok), (by first | exact (if_neg hno).symm | (rw [if_pos hok, ad_clamp hj9, orW_m hjf9 (by omega)])), (by first | exact (if_neg hno).symm | (rw [if_pos hok]))⟩ (hP.sub [0, 1, 2, 3, 4] rfl) (hD.sub [0, 1, 2, 3, 4] (by decide) rfl) hS dX9_order_69
        · skip
          have hno : ¬ okO (nI j) (nI jf) a := fun z => by first | exact z.2.2.1 c_18 | exact c_25 z.2.2.2
          have hres : -3 = aO (nI j) (nI jf) a := by first | exact aO_3 (ad_nI hj9) (sy_nI hjf9) hno
          refine lv_bipush (v := (-3)) hx hb dX9_order_28 (by decide) ?_
          exact ret_i hx hb hr hlocks (w, ts) ⟨(by first | exact hres | exact aO_1 hok), (by first | exact (if_neg hno).symm | (rw [if_pos hok, ad_clamp hj9, orW_m hjf9 (by omega)])), (by first | exact (if_neg hno).symm | (rw [if_pos hok]))⟩ (hP.sub [0, 1, 2, 3, 4] rfl) (hD.sub [0, 1, 2, 3, 4] (by decide) rfl) hS dX9_order_30
    · skip
      have c_11 := bI_f c_11
      have hno : ¬ okO (nI j) f a := fun z => by first | exact ad_no c_4 z.1 | exact sy_no c_11 z.2.1
      have hres : -2 = aO (nI j) f a := by first | exact aO_2 (Or.inl c_4) | exact aO_2 (Or.inr c_11)
      refine lv_bipush (v := (-2)) hx hb dX9_order_14 (by decide) ?_
      exact ret_i hx hb hr hlocks (w, ts) ⟨(by first | exact hres | exact aO_1 hok), (by first | exact (if_neg hno).symm | (rw [if_pos hok, ad_clamp hj9, orW_m hjf9 (by omega)])), (by first | exact (if_neg hno).symm | (rw [if_pos hok]))⟩ (hP.sub [0, 1, 2, 3, 4] rfl) (hD.sub [0, 1, 2, 3, 4] (by decide) rfl) hS dX9_order_16
