theorem le5 {L i : Nat} (hL : L ≤ 2560) (hi : i ≤ L) (h : ¬ nI L - 5 < nI i) : i + 5 ≤ L := by
  have h1 : (nI L - 5).toInt = (L : Int) - 5 := pk_sub_toInt (b := 5) (by omega) (by decide)
  have h2 : (nI i).toInt = i := nI_toInt (by omega)
  rw [Int32.lt_iff_toInt_lt, h1, h2] at h
  omega
set_option maxHeartbeats 4000000 in
set_option maxRecDepth 100000 in
theorem law_loop {p : Program} {l : Launch} {e : Env} {s : State} {m : MethodId} {below : List Frame} {meth : Method} {c : Code} {b L : Nat} {xs : Nat → Int32} {D : va_G} {Z : SZ} {cB cI cJ cZ : ClassId} {e0 h0 a1 a2 a3 a4 a5 a6 a7 a8 a9 g0 b1 b2 b3 b4 b5 b6 b7 b8 b9 t0 t1 t2 t3 t4 t5 t6 t7 t8 t9 t10 l0 k0 k1 f0 f1 f2 m0 x0 x1 x8 x10 x13 x14 x21 x22 x23 x24 x25 x26 x27 x28 x29 x30 x31 x32 x33 x35 x37 x38 x45 x47 x50 : Nat} {A : Nat → Prop} (hAf : ∀ q : Nat, A q → s.heap.size ≤ q) (hr : meth.sig.returnType = ret) (hlocks : meth.locks = false) (C0 : LB p s m meth c b L xs A D Z cB cI cJ cZ) :
    ∀ (n i : Nat) (w : Nat → Int32) (mid : Nat → Int32) (hi : Int64) (lo : Int64) (mult : Int64) (nx : Nat) (tz : Nat) (ta : Nat) (xz : Nat) (fg : Bool) (la : Int32) (tp : Nat → Int32) (tx : Nat → Int32) (dn : Nat → Int32) (w2 : Nat → Int32) (mid2 : Nat → Int32) (hi2 : Int64) (lo2 : Int64) (mult2 : Int64) (nx2 : Nat) (tz2 : Nat) (ta2 : Nat) (xz2 : Nat) (fg2 : Bool) (la2 : Int32) (lac : Int32) (tp2 : Nat → Int32) (tx2 : Nat → Int32) (dn2 : Nat → Int32) (hk : Bool) (re : Int32) (en : Int32) (pv : Int32) (ld : Nat) (im : Nat → Int32) (mz : Nat) (ct : Nat → Int32) (fd : Nat → Int32) (sz : Nat) (cm : Nat → Int32) (hr0 : Bool) (adr : Nat → Int32) (od : Nat → Int32) (pr : Nat → Int64) (hs : Nat → Int64) (los : Nat → Int64) (ms : Nat → Int64) (tps : Nat → Int32) (txs : Nat → Int32) (shs : Nat → Int32) (las : Nat → Int32) (nw : Nat) (ts : Nat) (yTop : Nat → Int64) (yRest : Nat → Int64) (yMult : Nat → Int64) (yNext : Nat → Int32) (yTape : Nat → Int32) (yText : Nat → Int32) (yFig : Nat → Int32) (yLast : Nat → Int32) (yFun : Nat → Int32) (yPair : Nat → Int32) (yLow : Nat → Int32) (yHigh : Nat → Int32) (yMid : Nat → Int32) (H : Heap) (locs : List Loc) (ls : Array Slot), i ≤ L → L + 1 ≤ i + n → LInv w mid hi lo mult nx tz ta xz fg la tp tx dn w2 mid2 hi2 lo2 mult2 nx2 tz2 ta2 xz2 fg2 la2 lac tp2 tx2 dn2 hk re en pv ld im mz ct fd sz cm hr0 adr od pr hs los ms tps txs shs las nw ts yTop yRest yMult yNext yTape yText yFig yLast yFun yPair yLow yHigh yMid → va_P D vwCl [(e0, .inr (9, [.ref h0, .ref g0, .ref t0, .ref l0, .ref k0, .ref f0, .int (bI hk), .int re])), (h0, .inr (3, [.ref a1, .ref a2, .ref a3, .ref a4, .ref a5, .long mult, .int (nI nx)])), (a1, .inr (5, [.ref a6, .ref a7])), (a6, .inl (cI, 256, .inl w)), (a7, .inl (cI, 128, .inl mid)), (a2, .inr (0, [.long hi, .long lo])), (a3, .inr (7, [.ref a8, .int (nI tz), .int (nI ta)])), (a8, .inl (cB, 1000, .inl tp)), (a4, .inr (6, [.ref a9, .int (nI xz), .int (bI fg), .int la])), (a9, .inl (cB, 400, .inl tx)), (a5, .inl (cI, 32, .inl dn)), (g0, .inr (3, [.ref b1, .ref b2, .ref b3, .ref b4, .ref b5, .long mult2, .int (nI nx2)])), (b1, .inr (5, [.ref b6, .ref b7])), (b6, .inl (cI, 256, .inl w2)), (b7, .inl (cI, 128, .inl mid2)), (b2, .inr (0, [.long hi2, .long lo2])), (b3, .inr (7, [.ref b8, .int (nI tz2), .int (nI ta2)])), (b8, .inl (cB, 1000, .inl tp2)), (b4, .inr (6, [.ref b9, .int (nI xz2), .int (bI fg2), .int lac])), (b9, .inl (cB, 400, .inl tx2)), (b5, .inl (cI, 32, .inl dn2)), (t0, .inr (8, [.ref t1, .ref t2, .ref t3, .ref t4, .ref t5, .ref t6, .ref t7, .ref t8, .ref t9, .ref t10, .int (nI nw), .int (nI ts)])), (t1, .inl (cI, 100, .inl adr)), (t2, .inl (cI, 100, .inl od)), (t3, .inl (cJ, 100, .inr (.inl pr))), (t4, .inl (cJ, 100, .inr (.inl hs))), (t5, .inl (cJ, 100, .inr (.inl los))), (t6, .inl (cJ, 100, .inr (.inl ms))), (t7, .inl (cI, 100, .inl tps)), (t8, .inl (cI, 100, .inl txs)), (t9, .inl (cZ, 100, .inl shs)), (t10, .inl (cI, 100, .inl las)), (l0, .inr (2, [.int pv, .int en, .int (nI ld)])), (k0, .inr (4, [.ref k1, .int (nI mz)])), (k1, .inl (cZ, 256, .inl im)), (f0, .inr (1, [.ref f1, .ref f2, .int (nI sz)])), (f1, .inl (cZ, 256, .inl ct)), (f2, .inl (cI, 256, .inl fd)), (m0, .inr (10, [.ref x0, .ref x1, .long hi, .long lo, .long mult, .int (nI nx), .int (nI tz), .int (nI ta), .ref x8, .int (nI xz), .ref x10, .int (bI fg), .int la, .ref x13, .ref x14, .int (nI mz), .int re, .int en, .int pv, .int (nI ts), .int (nI nw), .ref x21, .ref x22, .ref x23, .ref x24, .ref x25, .ref x26, .ref x27, .ref x28, .ref x29, .ref x30, .ref x31, .ref x32, .ref x33, .int (bI hr0), .ref x35, .int (bI hk), .ref x37, .ref x38, .long hi2, .long lo2, .long mult2, .int (nI nx2), .int (nI tz2), .int (nI ta2), .ref x45, .int (nI xz2), .ref x47, .int (bI fg2), .int la2, .ref x50])), (x0, .inl (cI, 256, .inl w)), (x1, .inl (cI, 128, .inl mid)), (x8, .inl (cI, 1000, .inl tp)), (x10, .inl (cI, 400, .inl tx)), (x13, .inl (cI, 32, .inl dn)), (x14, .inl (cZ, 256, .inl im)), (x21, .inl (cJ, 100, .inr (.inl yTop))), (x22, .inl (cJ, 100, .inr (.inl yRest))), (x23, .inl (cJ, 100, .inr (.inl yMult))), (x24, .inl (cI, 100, .inl yNext)), (x25, .inl (cI, 100, .inl yTape)), (x26, .inl (cI, 100, .inl yText)), (x27, .inl (cZ, 100, .inl yFig)), (x28, .inl (cI, 100, .inl yLast)), (x29, .inl (cI, 100, .inl yFun)), (x30, .inl (cI, 100, .inl yPair)), (x31, .inl (cI, 100, .inl yLow)), (x32, .inl (cI, 100, .inl yHigh)), (x33, .inl (cI, 100, .inl yMid)), (x35, .inl (cZ, 256, .inl cm)), (x37, .inl (cI, 256, .inl w2)), (x38, .inl (cI, 128, .inl mid2)), (x45, .inl (cI, 1000, .inl tp2)), (x47, .inl (cI, 400, .inl tx2)), (x50, .inl (cI, 32, .inl dn2))] H → va_D A [(e0, .inr (9, [.ref h0, .ref g0, .ref t0, .ref l0, .ref k0, .ref f0, .int (bI hk), .int re])), (h0, .inr (3, [.ref a1, .ref a2, .ref a3, .ref a4, .ref a5, .long mult, .int (nI nx)])), (a1, .inr (5, [.ref a6, .ref a7])), (a6, .inl (cI, 256, .inl w)), (a7, .inl (cI, 128, .inl mid)), (a2, .inr (0, [.long hi, .long lo])), (a3, .inr (7, [.ref a8, .int (nI tz), .int (nI ta)])), (a8, .inl (cB, 1000, .inl tp)), (a4, .inr (6, [.ref a9, .int (nI xz), .int (bI fg), .int la])), (a9, .inl (cB, 400, .inl tx)), (a5, .inl (cI, 32, .inl dn)), (g0, .inr (3, [.ref b1, .ref b2, .ref b3, .ref b4, .ref b5, .long mult2, .int (nI nx2)])), (b1, .inr (5, [.ref b6, .ref b7])), (b6, .inl (cI, 256, .inl w2)), (b7, .inl (cI, 128, .inl mid2)), (b2, .inr (0, [.long hi2, .long lo2])), (b3, .inr (7, [.ref b8, .int (nI tz2), .int (nI ta2)])), (b8, .inl (cB, 1000, .inl tp2)), (b4, .inr (6, [.ref b9, .int (nI xz2), .int (bI fg2), .int lac])), (b9, .inl (cB, 400, .inl tx2)), (b5, .inl (cI, 32, .inl dn2)), (t0, .inr (8, [.ref t1, .ref t2, .ref t3, .ref t4, .ref t5, .ref t6, .ref t7, .ref t8, .ref t9, .ref t10, .int (nI nw), .int (nI ts)])), (t1, .inl (cI, 100, .inl adr)), (t2, .inl (cI, 100, .inl od)), (t3, .inl (cJ, 100, .inr (.inl pr))), (t4, .inl (cJ, 100, .inr (.inl hs))), (t5, .inl (cJ, 100, .inr (.inl los))), (t6, .inl (cJ, 100, .inr (.inl ms))), (t7, .inl (cI, 100, .inl tps)), (t8, .inl (cI, 100, .inl txs)), (t9, .inl (cZ, 100, .inl shs)), (t10, .inl (cI, 100, .inl las)), (l0, .inr (2, [.int pv, .int en, .int (nI ld)])), (k0, .inr (4, [.ref k1, .int (nI mz)])), (k1, .inl (cZ, 256, .inl im)), (f0, .inr (1, [.ref f1, .ref f2, .int (nI sz)])), (f1, .inl (cZ, 256, .inl ct)), (f2, .inl (cI, 256, .inl fd)), (m0, .inr (10, [.ref x0, .ref x1, .long hi, .long lo, .long mult, .int (nI nx), .int (nI tz), .int (nI ta), .ref x8, .int (nI xz), .ref x10, .int (bI fg), .int la, .ref x13, .ref x14, .int (nI mz), .int re, .int en, .int pv, .int (nI ts), .int (nI nw), .ref x21, .ref x22, .ref x23, .ref x24, .ref x25, .ref x26, .ref x27, .ref x28, .ref x29, .ref x30, .ref x31, .ref x32, .ref x33, .int (bI hr0), .ref x35, .int (bI hk), .ref x37, .ref x38, .long hi2, .long lo2, .long mult2, .int (nI nx2), .int (nI tz2), .int (nI ta2), .ref x45, .int (nI xz2), .ref x47, .int (bI fg2), .int la2, .ref x50])), (x0, .inl (cI, 256, .inl w)), (x1, .inl (cI, 128, .inl mid)), (x8, .inl (cI, 1000, .inl tp)), (x10, .inl (cI, 400, .inl tx)), (x13, .inl (cI, 32, .inl dn)), (x14, .inl (cZ, 256, .inl im)), (x21, .inl (cJ, 100, .inr (.inl yTop))), (x22, .inl (cJ, 100, .inr (.inl yRest))), (x23, .inl (cJ, 100, .inr (.inl yMult))), (x24, .inl (cI, 100, .inl yNext)), (x25, .inl (cI, 100, .inl yTape)), (x26, .inl (cI, 100, .inl yText)), (x27, .inl (cZ, 100, .inl yFig)), (x28, .inl (cI, 100, .inl yLast)), (x29, .inl (cI, 100, .inl yFun)), (x30, .inl (cI, 100, .inl yPair)), (x31, .inl (cI, 100, .inl yLow)), (x32, .inl (cI, 100, .inl yHigh)), (x33, .inl (cI, 100, .inl yMid)), (x35, .inl (cZ, 256, .inl cm)), (x37, .inl (cI, 256, .inl w2)), (x38, .inl (cI, 128, .inl mid2)), (x45, .inl (cI, 1000, .inl tp2)), (x47, .inl (cI, 400, .inl tx2)), (x50, .inl (cI, 32, .inl dn2))] → va_S A s.heap H locs → lv_has ls 4 [(0, .ref b), (1, .ref e0), (2, .ref m0), (3, .int (nI i))] → W p l e room_1 s m #[Value.ref b] below meth c H locs 64 10959 (lw_Z below #[Value.ref b] s) (F0 m 18 ls []) := by
  obtain ⟨hx, hb, hml, hown, hts, hX, hbl, hK, hE, hA, hbA, hL9⟩ := id C0
  intro n
  induction n with
  | zero => intro i w mid hi lo mult nx tz ta xz fg la tp tx dn w2 mid2 hi2 lo2 mult2 nx2 tz2 ta2 xz2 fg2 la2 lac tp2 tx2 dn2 hk re en pv ld im mz ct fd sz cm hr0 adr od pr hs los ms tps txs shs las nw ts yTop yRest yMult yNext yTape yText yFig yLast yFun yPair yLow yHigh yMid H locs ls h1 h2; exact absurd h2 (by omega)
  | succ n ih =>
    intro i w mid hi lo mult nx tz ta xz fg la tp tx dn w2 mid2 hi2 lo2 mult2 nx2 tz2 ta2 xz2 fg2 la2 lac tp2 tx2 dn2 hk re en pv ld im mz ct fd sz cm hr0 adr od pr hs los ms tps txs shs las nw ts yTop yRest yMult yNext yTape yText yFig yLast yFun yPair yLow yHigh yMid H locs ls hiL hn hI hP hD hS hl
    refine lv_iload_n hx hb dL_law_18 rfl (lv_at hl 3 rfl) ?_
    refine lv_aload_n hx hb dL_law_19 rfl (lv_at hl 0 rfl) ?_
    refine va_slen hx hb hX hbl hbA hS dL_law_20 ?_
    refine lv_iconst (v := 5) hx hb dL_law_21 (by decide) ?_
    refine lv_isub hx hb dL_law_22 ?_
    refine lv_icmp_gt (tgt := 899) hx hb dL_law_23 (by decide) (fun _ => ?_) (fun c9 => ?_)
    · refine lv_iconst (v := 1) hx hb dL_law_899 (by decide) ?_
      refine va_forget (fun q hq => hAf _ (hS.2.2 q hq)) ?_
      exact lw_ret hx hb hr hlocks dL_law_900
    · have hi9 : i + 5 ≤ L := le5 hL9 hiL c9
      refine lv_aload_n hx hb dL_law_26 rfl (lv_at hl 0 rfl) ?_
      refine lv_iload_n hx hb dL_law_27 rfl (lv_at hl 3 rfl) ?_
      refine xs_sld (k := i) hx hb hX hbl hbA hS (by omega) hL9 dL_law_28 ?_
      refine lv_bipush (v := 31) hx hb dL_law_29 (by decide) ?_
      refine lv_iand hx hb dL_law_31 ?_
      obtain ⟨v, hv32, hv⟩ := pk_andE (xs i) (m := 31) 5 (by decide)
      refine set_i hv ?_
      have K9 : LK p l e s m below meth c b A D cB cI cJ cZ (lw_Z below #[Value.ref b] s) i e0 h0 a1 a2 a3 a4 a5 a6 a7 a8 a9 g0 b1 b2 b3 b4 b5 b6 b7 b8 b9 t0 t1 t2 t3 t4 t5 t6 t7 t8 t9 t10 l0 k0 k1 f0 f1 f2 m0 x0 x1 x8 x10 x13 x14 x21 x22 x23 x24 x25 x26 x27 x28 x29 x30 x31 x32 x33 x35 x37 x38 x45 x47 x50 := by
        intro w mid hi lo mult nx tz ta xz fg la tp tx dn w2 mid2 hi2 lo2 mult2 nx2 tz2 ta2 xz2 fg2 la2 lac tp2 tx2 dn2 hk re en pv ld im mz ct fd sz cm hr0 adr od pr hs los ms tps txs shs las nw ts yTop yRest yMult yNext yTape yText yFig yLast yFun yPair yLow yHigh yMid H locs ls hI hP hD hS hl
        refine lv_iinc (v := nI (i + 5)) (lv' := [(3, .int (nI (i + 5))), (0, .ref b), (1, .ref e0), (2, .ref m0)]) hx hb dL_law_893 hl (k := 3) rfl (nI_add _ 5) (by decide) rfl (fun ls hl => ?_)
        refine lv_goto (tgt := 18) hx hb dL_law_896 (by decide) ?_
        exact ih (i + 5) w mid hi lo mult nx tz ta xz fg la tp tx dn w2 mid2 hi2 lo2 mult2 nx2 tz2 ta2 xz2 fg2 la2 lac tp2 tx2 dn2 hk re en pv ld im mz ct fd sz cm hr0 adr od pr hs los ms tps txs shs las nw ts yTop yRest yMult yNext yTape yText yFig yLast yFun yPair yLow yHigh yMid _ _ _ hi9 (by omega) hI hP hD hS (lv_sub hl [1, 2, 3, 0] rfl)
      have hv : v = 0 ∨ v = 1 ∨ v = 2 ∨ v = 3 ∨ v = 4 ∨ v = 5 ∨ v = 6 ∨ v = 7 ∨ v = 8 ∨ v = 9 ∨ v = 10 ∨ v = 11 ∨ v = 12 ∨ v = 13 ∨ v = 14 ∨ v = 15 ∨ v = 16 ∨ v = 17 ∨ v = 18 ∨ v = 19 ∨ v = 20 ∨ v = 21 ∨ v = 22 ∨ v = 23 ∨ v = 24 ∨ v = 25 ∨ v = 26 ∨ (27 ≤ v ∧ v < 32) := by omega
      rcases hv with cv | cv | cv | cv | cv | cv | cv | cv | cv | cv | cv | cv | cv | cv | cv | cv | cv | cv | cv | cv | cv | cv | cv | cv | cv | cv | cv | cv
      · refine lv_tab (tgt := 156) hx hb dL_law_32 (by rw [cv] <;> decide +kernel) (by decide) (by decide) ?_
        exact lc_0 K9 C0 hi9 hI hP hD hS hl
      · refine lv_tab (tgt := 189) hx hb dL_law_32 (by rw [cv] <;> decide +kernel) (by decide) (by decide) ?_
        exact lc_1 K9 C0 hi9 hI hP hD hS hl
      · refine lv_tab (tgt := 252) hx hb dL_law_32 (by rw [cv] <;> decide +kernel) (by decide) (by decide) ?_
        exact lc_2 K9 C0 hi9 hI hP hD hS hl
      · refine lv_tab (tgt := 275) hx hb dL_law_32 (by rw [cv] <;> decide +kernel) (by decide) (by decide) ?_
        exact lc_3 K9 C0 hi9 hI hP hD hS hl
      · refine lv_tab (tgt := 299) hx hb dL_law_32 (by rw [cv] <;> decide +kernel) (by decide) (by decide) ?_
        exact lc_4 K9 C0 hi9 hI hP hD hS hl
      · refine lv_tab (tgt := 368) hx hb dL_law_32 (by rw [cv] <;> decide +kernel) (by decide) (by decide) ?_
        exact lc_5 K9 C0 hi9 hI hP hD hS hl
      · refine lv_tab (tgt := 382) hx hb dL_law_32 (by rw [cv] <;> decide +kernel) (by decide) (by decide) ?_
        exact lc_6 K9 C0 hi9 hI hP hD hS hl
      · refine lv_tab (tgt := 396) hx hb dL_law_32 (by rw [cv] <;> decide +kernel) (by decide) (by decide) ?_
        exact lc_7 K9 C0 hi9 hI hP hD hS hl
      · refine lv_tab (tgt := 489) hx hb dL_law_32 (by rw [cv] <;> decide +kernel) (by decide) (by decide) ?_
        exact lc_8 K9 C0 hi9 hI hP hD hS hl
      · refine lv_tab (tgt := 503) hx hb dL_law_32 (by rw [cv] <;> decide +kernel) (by decide) (by decide) ?_
        exact lc_9 K9 C0 hi9 hI hP hD hS hl
      · refine lv_tab (tgt := 566) hx hb dL_law_32 (by rw [cv] <;> decide +kernel) (by decide) (by decide) ?_
        exact lc_10 K9 C0 hi9 hI hP hD hS hl
      · refine lv_tab (tgt := 579) hx hb dL_law_32 (by rw [cv] <;> decide +kernel) (by decide) (by decide) ?_
        exact lc_11 K9 C0 hi9 hI hP hD hS hl
      · refine lv_tab (tgt := 602) hx hb dL_law_32 (by rw [cv] <;> decide +kernel) (by decide) (by decide) ?_
        exact lc_12 K9 C0 hi9 hI hP hD hS hl
      · refine lv_tab (tgt := 615) hx hb dL_law_32 (by rw [cv] <;> decide +kernel) (by decide) (by decide) ?_
        exact lc_13 K9 C0 hi9 hI hP hD hS hl
      · refine lv_tab (tgt := 628) hx hb dL_law_32 (by rw [cv] <;> decide +kernel) (by decide) (by decide) ?_
        exact lc_14 K9 C0 hi9 hI hP hD hS hl
      · refine lv_tab (tgt := 641) hx hb dL_law_32 (by rw [cv] <;> decide +kernel) (by decide) (by decide) ?_
        exact lc_15 K9 C0 hi9 hI hP hD hS hl
      · refine lv_tab (tgt := 664) hx hb dL_law_32 (by rw [cv] <;> decide +kernel) (by decide) (by decide) ?_
        exact lc_16 K9 C0 hi9 hI hP hD hS hl
      · refine lv_tab (tgt := 687) hx hb dL_law_32 (by rw [cv] <;> decide +kernel) (by decide) (by decide) ?_
        exact lc_17 K9 C0 hi9 hI hP hD hS hl
      · refine lv_tab (tgt := 700) hx hb dL_law_32 (by rw [cv] <;> decide +kernel) (by decide) (by decide) ?_
        exact lc_18 K9 C0 hi9 hI hP hD hS hl
      · refine lv_tab (tgt := 749) hx hb dL_law_32 (by rw [cv] <;> decide +kernel) (by decide) (by decide) ?_
        exact lc_19 K9 C0 hi9 hI hP hD hS hl
      · refine lv_tab (tgt := 762) hx hb dL_law_32 (by rw [cv] <;> decide +kernel) (by decide) (by decide) ?_
        exact lc_20 K9 C0 hi9 hI hP hD hS hl
      · refine lv_tab (tgt := 785) hx hb dL_law_32 (by rw [cv] <;> decide +kernel) (by decide) (by decide) ?_
        exact lc_21 K9 C0 hi9 hI hP hD hS hl
      · refine lv_tab (tgt := 808) hx hb dL_law_32 (by rw [cv] <;> decide +kernel) (by decide) (by decide) ?_
        exact lc_22 K9 C0 hi9 hI hP hD hS hl
      · refine lv_tab (tgt := 831) hx hb dL_law_32 (by rw [cv] <;> decide +kernel) (by decide) (by decide) ?_
        exact lc_23 K9 C0 hi9 hI hP hD hS hl
      · refine lv_tab (tgt := 844) hx hb dL_law_32 (by rw [cv] <;> decide +kernel) (by decide) (by decide) ?_
        exact lc_24 K9 C0 hi9 hI hP hD hS hl
      · refine lv_tab (tgt := 857) hx hb dL_law_32 (by rw [cv] <;> decide +kernel) (by decide) (by decide) ?_
        exact lc_25 K9 C0 hi9 hI hP hD hS hl
      · refine lv_tab (tgt := 870) hx hb dL_law_32 (by rw [cv] <;> decide +kernel) (by decide) (by decide) ?_
        exact lc_26 K9 C0 hi9 hI hP hD hS hl
      · refine lv_tab (tgt := 893) hx hb dL_law_32 (co_dec (N := 32) (P := fun v => 27 ≤ v → tabT 0 26 861 #[124, 157, 220, 243, 267, 336, 350, 364, 457, 471, 534, 547, 570, 583, 596, 609, 632, 655, 668, 717, 730, 753, 776, 799, 812, 825, 838] (nI v) = 861) (by decide +kernel) cv.2 cv.1) (by decide) (by decide) ?_
        exact K9 w mid hi lo mult nx tz ta xz fg la tp tx dn w2 mid2 hi2 lo2 mult2 nx2 tz2 ta2 xz2 fg2 la2 lac tp2 tx2 dn2 hk re en pv ld im mz ct fd sz cm hr0 adr od pr hs los ms tps txs shs las nw ts yTop yRest yMult yNext yTape yText yFig yLast yFun yPair yLow yHigh yMid _ _ _ hI hP hD hS hl
