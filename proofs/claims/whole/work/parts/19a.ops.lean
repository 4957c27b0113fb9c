/-! what each call answers and does -/
abbrev okS (n v : Int32) : Prop := ad n = true ∧ ¬ v < 0 ∧ v ≤ 131071
def aS (n v : Int32) : Int32 := if ad n = true then (if ¬ v < 0 ∧ v ≤ 131071 then 1 else -3) else -2
abbrev okL (n : Int32) (v : Int64) : Prop := ad n = true ∧ ¬ v < 0 ∧ v ≤ 34359738367
def aL (n : Int32) (v : Int64) : Int32 := if ad n = true then (if ¬ v < 0 ∧ v ≤ 34359738367 then 1 else -3) else -2
def aW (w : Nat → Int32) (n : Int32) : Int32 := if ad n = true then w n.toNatClampNeg else -2
def aWL (w mid : Nat → Int32) (n : Int32) : Int64 := if ad n = true then sg (lwd w mid n.toNatClampNeg) else -9223372036854775808
abbrev okO (n f a : Int32) : Prop := ad n = true ∧ sy f = true ∧ ¬ a < 0 ∧ a ≤ 1023
def aO (n f a : Int32) : Int32 := if ad n = true ∧ sy f = true then (if ¬ a < 0 ∧ a ≤ 1023 then 1 else -3) else -2
def orW (f a : Int32) (b : Bool) : Int32 := ((f <<< (12 &&& 31)) ||| (a <<< (1 &&& 31))) ||| bI b
abbrev okT (t r : Int64) : Prop := ¬ t < -17179869184 ∧ t < 17179869184 ∧ ¬ r < 0 ∧ r ≤ 68719476735
def aX (i : Int32) (tx : Nat → Int32) (xz : Nat) : Int32 := if ¬ i < 0 ∧ i < nI xz then tx i.toNatClampNeg else -2
def aD (f : Int32) (dn : Nat → Int32) : Int32 := if sy f = true then dn f.toNatClampNeg else -2
def aRd (i : Int32) (ct : Nat → Int32) : Int32 := if ad i = true then bI (tB (ct i.toNatClampNeg)) else -2
def aC (c : Int32) (nx tz ta xz : Nat) (fg : Bool) (la : Int32) (mz ts : Nat) (pv : Int32) : Int32 := if c = 0 then nI nx else if c = 1 then nI tz else if c = 2 then nI ta else if c = 3 then nI xz else if c = 4 then bI fg else if c = 5 then la else if c = 6 then nI mz else if c = 7 then nI ts else if c = 8 then pv else -3
abbrev mkF (n : Int32) (on : Bool) (im : Nat → Int32) (mz : Nat) : Prop := on = true ∧ tB (im n.toNatClampNeg) = false ∧ 8 ≤ mz
def aM (n : Int32) (on : Bool) (im : Nat → Int32) (mz : Nat) : Int32 := if ad n = true then (if mkF n on im mz then -5 else bI (tB (im n.toNatClampNeg))) else -2
abbrev okM (n : Int32) (on : Bool) (im : Nat → Int32) (mz : Nat) : Prop := ad n = true ∧ ¬ mkF n on im mz
def mkM (n : Int32) (on : Bool) (im : Nat → Int32) (mz : Nat) : Nat := if tB (im n.toNatClampNeg) = on then mz else if on then mz + 1 else mz - 1
theorem ad_clamp {j : Nat} (h : j < 256) : (nI j).toNatClampNeg = j := nI_clamp (by omega)
theorem ad_no {n : Int32} (h : ad n = false) : ¬ ad n = true := by rw [h]; decide
theorem nI_leL {n k : Nat} (h1 : n < 2147483648) (h2 : k < 2147483648) (h : nI n ≤ nI k) : n ≤ k := (nI_leI h1 h2).mp h
theorem orW_m {f a : Nat} (hf : f < 32) (ha : a < 1024) (b : Bool) : orW (nI f) (nI a) b &&& 131071 = orW (nI f) (nI a) b := by
  have hs : nI f <<< ((12 : Int32) &&& 31) = nI (f * 4096) := pk_shlN _ 12 (by decide) (by omega)
  have hs2 : nI a <<< ((1 : Int32) &&& 31) = nI (a * 2) := pk_shlN _ 1 (by decide) (by omega)
  have hor : ∀ x y : Nat, nI x ||| nI y = nI (x ||| y) := fun x y => by
    apply Int32.toBitVec_inj.mp
    simp [nI]
  have hb : bI b = nI (if b then 1 else 0) := by cases b <;> rfl
  have hlt : (f * 4096 ||| a * 2 ||| (if b then 1 else 0)) < 2 ^ 17 := by
    refine Nat.or_lt_two_pow (Nat.or_lt_two_pow (by omega) (by omega)) ?_
    cases b <;> simp
  unfold orW
  rw [hs, hs2, hb, hor, hor, pk_andN (by omega) 17 (by decide)]
  congr 1
  exact Nat.mod_eq_of_lt hlt
theorem aS_1 {n v : Int32} (h : okS n v) : 1 = aS n v := by rw [aS, if_pos h.1, if_pos h.2]
theorem aS_3 {n v : Int32} (h : ad n = true) (h2 : ¬ okS n v) : -3 = aS n v := by rw [aS, if_pos h, if_neg (fun (z : ¬ v < 0 ∧ v ≤ 131071) => h2 ⟨h, z⟩)]
theorem aL_1 {n : Int32} {v : Int64} (h : okL n v) : 1 = aL n v := by rw [aL, if_pos h.1, if_pos h.2]
theorem aL_3 {n : Int32} {v : Int64} (h : ad n = true) (h2 : ¬ okL n v) : -3 = aL n v := by rw [aL, if_pos h, if_neg (fun (z : ¬ v < 0 ∧ v ≤ 34359738367) => h2 ⟨h, z⟩)]
theorem aO_1 {n f a : Int32} (h : okO n f a) : 1 = aO n f a := by rw [aO, if_pos ⟨h.1, h.2.1⟩, if_pos h.2.2]
theorem aO_2 {n f a : Int32} (h : ad n = false ∨ sy f = false) : -2 = aO n f a := by
  rw [aO, if_neg (fun (z : ad n = true ∧ sy f = true) => by rcases h with h | h <;> simp [h] at z)]
theorem aO_3 {n f a : Int32} (h : ad n = true) (h1 : sy f = true) (h2 : ¬ okO n f a) : -3 = aO n f a := by rw [aO, if_pos ⟨h, h1⟩, if_neg (fun (z : ¬ a < 0 ∧ a ≤ 1023) => h2 ⟨h, h1, z⟩)]
theorem aX_1 {i : Int32} {tx : Nat → Int32} {xz : Nat} (h : i < 0) : -2 = aX i tx xz := by rw [aX, if_neg (fun (z : ¬ i < 0 ∧ i < nI xz) => z.1 h)]
theorem aX_2 {i : Int32} {tx : Nat → Int32} {xz : Nat} (h : nI xz ≤ i) : -2 = aX i tx xz := by rw [aX, if_neg (fun (z : ¬ i < 0 ∧ i < nI xz) => Int32.not_lt.mpr h z.2)]
theorem sy_no {n : Int32} (h : sy n = false) : ¬ sy n = true := by rw [h]; decide
theorem sy_clamp {j : Nat} (h : j < 32) : (nI j).toNatClampNeg = j := nI_clamp (by omega)
theorem orW_t {f a : Int32} {lg : Bool} (h : lg = true) : ((f <<< (12 &&& 31)) ||| (a <<< (1 &&& 31))) ||| (1 : Int32) = orW f a lg := by rw [h]; rfl
theorem orW_f {f a : Int32} {lg : Bool} (h : lg = false) : ((f <<< (12 &&& 31)) ||| (a <<< (1 &&& 31))) ||| (0 : Int32) = orW f a lg := by rw [h]; rfl
set_option maxHeartbeats 4000000 in
set_option maxRecDepth 100000 in
theorem kX9_store (l : Launch) (D : va_G) (Z : SZ) (cB cI cJ cZ : ClassId) (ksz : Nat) (e0 : Nat) (h0 : Nat) (g0 : Nat) (t0 : Nat) (l0 : Nat) (k0 : Nat) (f0 : Nat) (hk : Bool) (re : Int32) (t1 : Nat) (t2 : Nat) (t3 : Nat) (t4 : Nat) (t5 : Nat) (t6 : Nat) (t7 : Nat) (t8 : Nat) (t9 : Nat) (t10 : Nat) (nw : Nat) (ts : Nat) (a1 : Nat) (a2 : Nat) (a3 : Nat) (a4 : Nat) (a5 : Nat) (a6 : Nat) (a7 : Nat) (w : Nat → Int32) (mult : Int64) (nx : Nat) (n : Int32) (v : Int32)  : Met l yX9_store wsX9_store { frames := 1, cells := 0, slots := 0, locals := 22 } (PR D Z [(cB, .byte), (cI, .int), (cJ, .long), (cZ, .boolean)] [.ref e0, .int n, .int v] [(e0, .inr (9, [.ref h0, .ref g0, .ref t0, .ref l0, .ref k0, .ref f0, .int (bI hk), .int re])), (h0, .inr (3, [.ref a1, .ref a2, .ref a3, .ref a4, .ref a5, .long mult, .int (nI nx)])), (a1, .inr (5, [.ref a6, .ref a7])), (a6, .inl (cI, 256, .inl w)), (t0, .inr (8, [.ref t1, .ref t2, .ref t3, .ref t4, .ref t5, .ref t6, .ref t7, .ref t8, .ref t9, .ref t10, .int (nI nw), .int (nI ts)]))] ksz) (QI D (fun (r : Int32) (u : (Nat → Int32) × Nat) => r = (aS n v) ∧ u.1 = (if okS n v then upd w n.toNatClampNeg v else w) ∧ u.2 = (if okS n v then 0 else ts)) (fun (u : (Nat → Int32) × Nat) => [(e0, .inr (9, [.ref h0, .ref g0, .ref t0, .ref l0, .ref k0, .ref f0, .int (bI hk), .int re])), (h0, .inr (3, [.ref a1, .ref a2, .ref a3, .ref a4, .ref a5, .long mult, .int (nI nx)])), (a1, .inr (5, [.ref a6, .ref a7])), (a6, .inl (cI, 256, .inl u.1)), (t0, .inr (8, [.ref t1, .ref t2, .ref t3, .ref t4, .ref t5, .ref t6, .ref t7, .ref t8, .ref t9, .ref t10, .int (nI nw), .int (nI u.2)]))]) (va_A [(e0, .inr (9, [.ref h0, .ref g0, .ref t0, .ref l0, .ref k0, .ref f0, .int (bI hk), .int re])), (h0, .inr (3, [.ref a1, .ref a2, .ref a3, .ref a4, .ref a5, .long mult, .int (nI nx)])), (a1, .inr (5, [.ref a6, .ref a7])), (a6, .inl (cI, 256, .inl w)), (t0, .inr (8, [.ref t1, .ref t2, .ref t3, .ref t4, .ref t5, .ref t6, .ref t7, .ref t8, .ref t9, .ref t10, .int (nI nw), .int (nI ts)]))] ksz)) 0 0 (va_A [(e0, .inr (9, [.ref h0, .ref g0, .ref t0, .ref l0, .ref k0, .ref f0, .int (bI hk), .int re])), (h0, .inr (3, [.ref a1, .ref a2, .ref a3, .ref a4, .ref a5, .long mult, .int (nI nx)])), (a1, .inr (5, [.ref a6, .ref a7])), (a6, .inl (cI, 256, .inl w)), (t0, .inr (8, [.ref t1, .ref t2, .ref t3, .ref t4, .ref t5, .ref t6, .ref t7, .ref t8, .ref t9, .ref t10, .int (nI nw), .int (nI ts)]))] ksz) := by
  refine met_g (QI D (fun (r : Int32) (u : (Nat → Int32) × Nat) => r = (aS n v) ∧ u.1 = (if okS n v then upd w n.toNatClampNeg v else w) ∧ u.2 = (if okS n v then 0 else ts)) (fun (u : (Nat → Int32) × Nat) => [(e0, .inr (9, [.ref h0, .ref g0, .ref t0, .ref l0, .ref k0, .ref f0, .int (bI hk), .int re])), (h0, .inr (3, [.ref a1, .ref a2, .ref a3, .ref a4, .ref a5, .long mult, .int (nI nx)])), (a1, .inr (5, [.ref a6, .ref a7])), (a6, .inl (cI, 256, .inl u.1)), (t0, .inr (8, [.ref t1, .ref t2, .ref t3, .ref t4, .ref t5, .ref t6, .ref t7, .ref t8, .ref t9, .ref t10, .int (nI nw), .int (nI u.2)]))])) cX9_store 3 (some .int) (by decide) rfl (Nat.le_of_ble_eq_true rfl) ?_
  intro p e s m below meth c A ls hx hb hr hts hown hlocks hml hin hA hP hK hD hE hS hl hsz
  clear hsz
  have hl : lv_has ls 3 [(0, .ref e0), (1, .int n), (2, .int v)] := hl
  refine lv_iload_n hx hb dX9_store_0 rfl (lv_at hl 1 rfl) ?_
  refine pS_i (As := [.int n]) (rest := []) ⟨hx, hb, hml, hown, hts⟩ (kX9_isAddress l Z n ) (va_cwS 1 hts gX9_store_X9_isAddress rfl rfl rfl (by decide +kernel) ⟨Nat.le_of_ble_eq_true rfl, Nat.le_of_ble_eq_true rfl⟩) hK hE hP hD hS hA hl.1 rfl rfl (Nat.le_of_ble_eq_true rfl) dX9_store_1 ⟨Nat.le_of_ble_eq_true rfl, Nat.le_of_ble_eq_true rfl⟩ (fun H locs hP hS => ?_)
  refine lv_if_ne (tgt := 10) hx hb dX9_store_4 (by decide) (fun c_4 => ?_) (fun c_4 => ?_)
  · skip
    have c_4 := bI_t c_4
    obtain ⟨j, hj9, rfl⟩ := ad_of c_4
    refine lv_iload_n hx hb dX9_store_10 rfl (lv_at hl 2 rfl) ?_
    refine lv_if_lt (tgt := 20) hx hb dX9_store_11 (by decide) (fun c_11 => ?_) (fun c_11 => ?_)
    · skip
      have hno : ¬ okS (nI j) v := fun z => by first | exact z.2.1 c_11 | exact c_17 z.2.2
      have hres : -3 = aS (nI j) v := by first | exact aS_3 (ad_nI hj9) hno
      refine lv_bipush (v := (-3)) hx hb dX9_store_20 (by decide) ?_
      exact ret_i hx hb hr hlocks (w, ts) ⟨(by first | exact hres | exact aS_1 hok), (by first | exact (if_neg hno).symm | (rw [if_pos hok, ad_clamp hj9, e_a17 (by omega)])), (by first | exact (if_neg hno).symm | (rw [if_pos hok]))⟩ (hP.sub [0, 1, 2, 3, 4] rfl) (hD.sub [0, 1, 2, 3, 4] (by decide) rfl) hS dX9_store_22
    · skip
      refine lv_iload_n hx hb dX9_store_14 rfl (lv_at hl 2 rfl) ?_
      refine lv_ldc hx hb hown (hts (.constant RX9 59 (131071)) (by decide +kernel)) dX9_store_15 ?_
      refine lv_icmp_le (tgt := 23) hx hb dX9_store_17 (by decide) (fun c_17 => ?_) (fun c_17 => ?_)
      · skip
        obtain ⟨x, hx9, rfl⟩ := nI_of c_11
        have c_17 : x ≤ 131071 := nI_leL (k := 131071) (by omega) (by decide) c_17
        have hok : okS (nI j) (nI x) := ⟨ad_nI hj9, nI_pos (by omega), nI_le (b := 131071) c_17 (by decide)⟩
        refine lv_aload_n hx hb dX9_store_23 rfl (lv_at hl 0 rfl) ?_
        refine va_get (D := D) (ci := 9) (v := .ref h0) (C := RX9) (T := TX9) (N := 8) hx hb hts (by decide +kernel) hown hK hP 0 rfl rfl 0 (by decide) (hts (.fieldLink RX9 10 "TapeEngine" "machine" "LTapeEngine$Machine;") (by decide +kernel)) (fun _ h9 => h9) rfl dX9_store_24 ?_
        refine va_getN (D := D) (ci := 3) (v := .ref a1) (C := RX3) (T := TX3) (N := 7) hx hb hts (by decide +kernel) hown hK hP 1 rfl rfl 0 (by decide) (va_Nw.use rfl (nf_X9_60 hE)) (fun _ h9 => h9) rfl dX9_store_27 ?_
        refine lv_iload_n hx hb dX9_store_30 rfl (lv_at hl 1 rfl) ?_
        refine lv_iload_n hx hb dX9_store_31 rfl (lv_at hl 2 rfl) ?_
        refine kV_v (As := [.int (nI j), .int (nI x)]) (rest := []) (wr := [(e0, .inr (9, [.ref h0, .ref g0, .ref t0, .ref l0, .ref k0, .ref f0, .int (bI hk), .int re])), (h0, .inr (3, [.ref a1, .ref a2, .ref a3, .ref a4, .ref a5, .long mult, .int (nI nx)])), (t0, .inr (8, [.ref t1, .ref t2, .ref t3, .ref t4, .ref t5, .ref t6, .ref t7, .ref t8, .ref t9, .ref t10, .int (nI nw), .int (nI ts)]))]) ⟨hx, hb, hml, hown, hts⟩ (kX5_layShort l D Z cB cI cJ cZ H.size a1 a6 a7 w j (nI x) (by first | assumption | omega)) (cwV 2 hts gX9_store_X5_layShort rfl rfl rfl (by decide +kernel) ⟨Nat.le_of_ble_eq_true rfl, Nat.le_of_ble_eq_true rfl⟩) hK hE hP hD hS hA 0 5 rfl rfl rfl [2, 3] [0, 1, 4] rfl rfl rfl rfl rfl (by decide) hl.1 rfl rfl (Nat.le_of_ble_eq_true rfl) dX9_store_32 ⟨Nat.le_of_ble_eq_true rfl, Nat.le_of_ble_eq_true rfl⟩ (fun u H locs hp hP hD hS => ?_)
        obtain ⟨v_1, rfl⟩ : ∃ z, z = u := ⟨_, rfl⟩
        try dsimp only at hp
        have hq_0 := hp
        have hq_0 := hq_0.symm
        subst hq_0
        have hP : va_P D vwCl [(e0, .inr (9, [.ref h0, .ref g0, .ref t0, .ref l0, .ref k0, .ref f0, .int (bI hk), .int re])), (h0, .inr (3, [.ref a1, .ref a2, .ref a3, .ref a4, .ref a5, .long mult, .int (nI nx)])), (t0, .inr (8, [.ref t1, .ref t2, .ref t3, .ref t4, .ref t5, .ref t6, .ref t7, .ref t8, .ref t9, .ref t10, .int (nI nw), .int (nI ts)])), (a1, .inr (5, [.ref a6, .ref a7])), (a6, .inl (cI, 256, .inl (upd w j ((nI x) &&& 131071))))] H := hP
        have hD : va_D A [(e0, .inr (9, [.ref h0, .ref g0, .ref t0, .ref l0, .ref k0, .ref f0, .int (bI hk), .int re])), (h0, .inr (3, [.ref a1, .ref a2, .ref a3, .ref a4, .ref a5, .long mult, .int (nI nx)])), (t0, .inr (8, [.ref t1, .ref t2, .ref t3, .ref t4, .ref t5, .ref t6, .ref t7, .ref t8, .ref t9, .ref t10, .int (nI nw), .int (nI ts)])), (a1, .inr (5, [.ref a6, .ref a7])), (a6, .inl (cI, 256, .inl (upd w j ((nI x) &&& 131071))))] := hD
        refine lv_aload_n hx hb dX9_store_35 rfl (lv_at hl 0 rfl) ?_
        refine va_get (D := D) (ci := 9) (v := .ref t0) (C := RX9) (T := TX9) (N := 8) hx hb hts (by decide +kernel) hown hK hP 0 rfl rfl 2 (by decide) (hts (.fieldLink RX9 22 "TapeEngine" "trail" "LTapeEngine$Trail;") (by decide +kernel)) (fun _ h9 => h9) rfl dX9_store_36 ?_
        refine kV_v (As := []) (rest := []) (wr := [(e0, .inr (9, [.ref h0, .ref g0, .ref t0, .ref l0, .ref k0, .ref f0, .int (bI hk), .int re])), (h0, .inr (3, [.ref a1, .ref a2, .ref a3, .ref a4, .ref a5, .long mult, .int (nI nx)])), (a1, .inr (5, [.ref a6, .ref a7])), (a6, .inl (cI, 256, .inl (upd w j ((nI x) &&& 131071))))]) ⟨hx, hb, hml, hown, hts⟩ (kX8_forget l D Z cB cI cJ cZ H.size t0 t1 t2 t3 t4 t5 t6 t7 t8 t9 t10 nw ts ) (cwV 0 hts gX9_store_X8_forget rfl rfl rfl (by decide +kernel) ⟨Nat.le_of_ble_eq_true rfl, Nat.le_of_ble_eq_true rfl⟩) hK hE hP hD hS hA 0 8 rfl rfl rfl [2] [0, 1, 3, 4] rfl rfl rfl rfl rfl (by decide) hl.1 rfl rfl (Nat.le_of_ble_eq_true rfl) dX9_store_39 ⟨Nat.le_of_ble_eq_true rfl, Nat.le_of_ble_eq_true rfl⟩ (fun u H locs hp hP hD hS => ?_)
        have hP : va_P D vwCl [(e0, .inr (9, [.ref h0, .ref g0, .ref t0, .ref l0, .ref k0, .ref f0, .int (bI hk), .int re])), (h0, .inr (3, [.ref a1, .ref a2, .ref a3, .ref a4, .ref a5, .long mult, .int (nI nx)])), (a1, .inr (5, [.ref a6, .ref a7])), (a6, .inl (cI, 256, .inl (upd w j ((nI x) &&& 131071)))), (t0, .inr (8, [.ref t1, .ref t2, .ref t3, .ref t4, .ref t5, .ref t6, .ref t7, .ref t8, .ref t9, .ref t10, .int (nI nw), .int (nI 0)]))] H := hP
        have hD : va_D A [(e0, .inr (9, [.ref h0, .ref g0, .ref t0, .ref l0, .ref k0, .ref f0, .int (bI hk), .int re])), (h0, .inr (3, [.ref a1, .ref a2, .ref a3, .ref a4, .ref a5, .long mult, .int (nI nx)])), (a1, .inr (5, [.ref a6, .ref a7])), (a6, .inl (cI, 256, .inl (upd w j ((nI x) &&& 131071)))), (t0, .inr (8, [.ref t1, .ref t2, .ref t3, .ref t4, .ref t5, .ref t6, .ref t7, .ref t8, .ref t9, .ref t10, .int (nI nw), .int (nI 0)]))] := hD
        refine lv_iconst (v := 1) hx hb dX9_store_42 (by decide) ?_
        exact ret_i hx hb hr hlocks ((upd w j ((nI x) &&& 131071)), 0) ⟨(by first | exact hres | exact aS_1 hok), (by first | exact (if_neg hno).symm | (rw [if_pos hok, ad_clamp hj9, e_a17 (by omega)])), (by first | exact (if_neg hno).symm | (rw [if_pos hok]))⟩ (hP.sub [0, 1, 2, 3, 4] rfl) (hD.sub [0, 1, 2, 3, 4] (by decide) rfl) hS dX9_store_43
      · skip
        have hno : ¬ okS (nI j) v := fun z => by first | exact z.2.1 c_11 | exact c_17 z.2.2
        have hres : -3 = aS (nI j) v := by first | exact aS_3 (ad_nI hj9) hno
        refine lv_bipush (v := (-3)) hx hb dX9_store_20 (by decide) ?_
        exact ret_i hx hb hr hlocks (w, ts) ⟨(by first | exact hres | exact aS_1 hok), (by first | exact (if_neg hno).symm | (rw [if_pos hok, ad_clamp hj9, e_a17 (by omega)])), (by first | exact (if_neg hno).symm | (rw [if_pos hok]))⟩ (hP.sub [0, 1, 2, 3, 4] rfl) (hD.sub [0, 1, 2, 3, 4] (by decide) rfl) hS dX9_store_22
  · skip
    have c_4 := bI_f c_4
    have hno : ¬ okS n v := fun z => by first | exact ad_no c_4 z.1
    have hres : -2 = aS n v := by first | exact (if_neg (ad_no c_4)).symm
    refine lv_bipush (v := (-2)) hx hb dX9_store_7 (by decide) ?_
    exact ret_i hx hb hr hlocks (w, ts) ⟨(by first | exact hres | exact aS_1 hok), (by first | exact (if_neg hno).symm | (rw [if_pos hok, ad_clamp hj9, e_a17 (by omega)])), (by first | exact (if_neg hno).symm | (rw [if_pos hok]))⟩ (hP.sub [0, 1, 2, 3, 4] rfl) (hD.sub [0, 1, 2, 3, 4] (by decide) rfl) hS dX9_store_9
