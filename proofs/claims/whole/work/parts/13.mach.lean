theorem bI_inj {a b : Bool} (h : bI a = bI b) : a = b := by cases a <;> cases b <;> first | rfl | exact absurd h (by decide)
def iN (x : Int32) : Nat := x.toBitVec.toNat
theorem nI_iN (x : Int32) : nI (iN x) = x := by
  apply Int32.toBitVec_inj.mp
  simp [nI, iN]
theorem iN_nI {n : Nat} (h : n < 4294967296) : iN (nI n) = n := pk_tn h
/-- a boolean cell's word as a truth -/
def tB (x : Int32) : Bool := decide (x = 1)
theorem tB_bI (b : Bool) : tB (bI b) = b := by cases b <;> decide
/-- the first place that holds a 1 -/
def ftz (o : Nat) : Nat → Nat
  | 0 => 0
  | n + 1 => if ftz o n < n then ftz o n else if o / 2 ^ n % 2 = 1 then n else n + 1
theorem ftz_hit {o i : Nat} (h0 : ∀ k, k < i → ¬ o / 2 ^ k % 2 = 1) (h1 : o / 2 ^ i % 2 = 1) : ∀ n, i < n → ftz o n = i := by
  have low : ∀ n, n ≤ i → ftz o n = n := by
    intro n
    induction n with
    | zero => intro _; rfl
    | succ n ih =>
      intro hn
      have e := ih (by omega)
      simp only [ftz, e, Nat.lt_irrefl, if_false]
      rw [if_neg (h0 n (by omega))]
  intro n
  induction n with
  | zero => intro h; omega
  | succ n ih =>
    intro hn
    by_cases q : i = n
    · subst q
      have e := low i (Nat.le_refl _)
      simp only [ftz, e, Nat.lt_irrefl, if_false]
      rw [if_pos h1]
    · have e := ih (by omega)
      simp only [ftz, e]
      rw [if_pos (by omega)]
theorem ftz_no {o n : Nat} (h0 : ∀ k, k < n → ¬ o / 2 ^ k % 2 = 1) : ftz o n = n := by
  induction n with
  | zero => rfl
  | succ n ih =>
    have e := ih (fun k hk => h0 k (by omega))
    simp only [ftz, e, Nat.lt_irrefl, if_false]
    rw [if_neg (h0 n (by omega))]
theorem e_sbit {o i : Nat} (ho : o < 131072) (hi : i < 16) : (nI o >>> (nI i &&& 31)) &&& 1 = nI (o / 2 ^ i % 2) := by
  have h : ∀ i, i < 16 → ((nI i &&& 31).toBitVec.smod 32).toNat = i := by decide +kernel
  rw [pk_shrN (by omega) _ i (h i hi), pk_andN (Nat.lt_of_le_of_lt (Nat.div_le_self _ _) (by omega)) 1 (by decide)]
/-- halts ahead of an ORDER -/
def hltI (f tz ta xz : Nat) : Int32 := if lgl f = false then 2 else if f = 8 ∧ tz ≤ ta then 3 else if f = 9 ∧ 400 ≤ xz then 4 else 0
theorem hlt_2 {f tz ta xz : Nat} (h : lgl f = false) : 2 = hltI f tz ta xz := by rw [hltI, if_pos h]
theorem hlt_3 {f tz ta xz : Nat} (h : lgl f = true) (h8 : f = 8) (ha : tz ≤ ta) : 3 = hltI f tz ta xz := by rw [hltI, if_neg (by rw [h]; decide), if_pos ⟨h8, ha⟩]
theorem hlt_4 {f tz ta xz : Nat} (h : lgl f = true) (h9 : f = 9) (ha : 400 ≤ xz) : 4 = hltI f tz ta xz := by rw [hltI, if_neg (by rw [h]; decide), if_neg (fun z => by omega), if_pos ⟨h9, ha⟩]
theorem hlt_0 {f tz ta xz : Nat} (h : lgl f = true) (h8 : ¬ (f = 8 ∧ tz ≤ ta)) (h9 : ¬ (f = 9 ∧ 400 ≤ xz)) : 0 = hltI f tz ta xz := by rw [hltI, if_neg (by rw [h]; decide), if_neg h8, if_neg h9]
theorem upd_same {f : Nat → Int32} {k : Nat} {x : Int32} (h : f k = x) : upd f k x = f := by
  funext j
  unfold upd
  split
  · subst_vars; rfl
  · rfl
/-- the operand -/
def hadr (o : Nat) : Nat := if o % 2 = 1 then o / 2 % 256 / 2 * 2 + 1 else o / 2 % 256
def opd (w mid : Nat → Int32) (o : Nat) : Int64 := if o % 2 = 1 then sg (lwd w mid (o / 2 % 256)) else sg ((w (o / 2 % 256)).toInt64 <<< ((18 : Int32).toInt64 &&& 63))
def lwW (w : Nat → Int32) (o : Nat) (x : Int64) : Nat → Int32 := if o % 2 = 1 then llW w (o / 2 % 256) x else upd w (o / 2 % 256) (x.toInt32 &&& 131071)
def lwM (mid : Nat → Int32) (o : Nat) (x : Int64) : Nat → Int32 := if o % 2 = 1 then llM mid (o / 2 % 256) x else mid
def hbits (hi : Int64) (o : Nat) : Int64 := if o % 2 = 1 then hi &&& 34359738367 else hi >>> ((18 : Int32).toInt64 &&& 63)
def laz (la : Int32) : Int32 := if la = -1 then 0 else la
def lpW (w : Nat → Int32) (n : Nat) (la : Int32) : Nat → Int32 := upd w n (((laz la <<< (12 &&& 31)) ||| (w n &&& 4095)) &&& 131071)
def shp (o : Nat) : Int32 := nI (ftz o 16 + 1)
def rHi (o : Nat) (w mid : Nat → Int32) (hi lo mult : Int64) : Int64 :=
  if o / 4096 = 28 then gTop hi lo (opd w mid o) 0 else if o / 4096 = 12 then gTop hi lo (-opd w mid o) 0 else if o / 4096 = 31 then ppTop hi lo mult (opd w mid o) (1 : Int32).toInt64 else if o / 4096 = 22 then ppTop hi lo mult (opd w mid o) (-1 : Int32).toInt64 else if o / 4096 = 30 then gTop hi lo (mult &&& opd w mid o) 0 else if o / 4096 = 4 then srTop hi (shp o) else if o / 4096 = 25 then slTop hi lo (shp o) else if o / 4096 = 6 then gTop hi lo 0 34359738368 else hi
def rLo (o : Nat) (w mid : Nat → Int32) (hi lo mult : Int64) : Int64 :=
  if o / 4096 = 28 then gRest lo 0 else if o / 4096 = 12 then gRest lo 0 else if o / 4096 = 31 then ppRest hi lo mult (opd w mid o) (1 : Int32).toInt64 else if o / 4096 = 22 then ppRest hi lo mult (opd w mid o) (-1 : Int32).toInt64 else if o / 4096 = 30 then gRest lo 0 else if o / 4096 = 4 then srRest hi lo (shp o) else if o / 4096 = 25 then slRest lo (shp o) else if o / 4096 = 6 then gRest lo 34359738368 else lo
def rMu (o : Nat) (w mid : Nat → Int32) (mult : Int64) : Int64 := if o / 4096 = 21 then opd w mid o else mult
/-- one ORDER done -/
def sHi (o : Nat) (w mid : Nat → Int32) (hi lo mult : Int64) : Int64 := if o / 4096 = 5 then 0 else rHi o w mid hi lo mult
def sLo (o : Nat) (w mid : Nat → Int32) (hi lo mult : Int64) : Int64 := if o / 4096 = 5 then 0 else rLo o w mid hi lo mult
def sW (o : Nat) (w : Nat → Int32) (hi : Int64) (sym la : Int32) : Nat → Int32 := if o / 4096 = 5 ∨ o / 4096 = 7 then lwW w o (hbits hi o) else if o / 4096 = 8 then lwW w o sym.toInt64 else if o / 4096 = 17 then lpW w (hadr o) la else w
def sMid (o : Nat) (mid : Nat → Int32) (hi : Int64) (sym : Int32) : Nat → Int32 := if o / 4096 = 5 ∨ o / 4096 = 7 then lwM mid o (hbits hi o) else if o / 4096 = 8 then lwM mid o sym.toInt64 else mid
def sNx (o : Nat) (hi : Int64) (nx : Nat) : Nat := if o / 4096 = 3 then (if 0 ≤ hi then o / 2 % 256 else (nx + 1) % 256) else if o / 4096 = 27 then (if 0 ≤ hi then (nx + 1) % 256 else o / 2 % 256) else (nx + 1) % 256
def sTa (o ta : Nat) : Nat := if o / 4096 = 8 then ta + 1 else ta
def sSy (o : Nat) (w : Nat → Int32) : Nat := iN (w (hadr o)) / 4096
def sTx (o : Nat) (w tx : Nat → Int32) (xz : Nat) (fg : Bool) : Nat → Int32 := if o / 4096 = 9 then pTx (sSy o w) fg tx xz else tx
def sXz (o : Nat) (w : Nat → Int32) (xz : Nat) : Nat := if o / 4096 = 9 then pXz (sSy o w) xz else xz
def sFg (o : Nat) (w : Nat → Int32) (fg : Bool) : Bool := if o / 4096 = 9 then pFg (sSy o w) fg else fg
def sLa (o : Nat) (w : Nat → Int32) (la : Int32) : Int32 := if o / 4096 = 9 then nI (sSy o w) else la
def sDn (o : Nat) (dn : Nat → Int32) : Nat → Int32 := upd dn (o / 4096) (dn (o / 4096) + 1)
set_option maxHeartbeats 4000000 in
set_option maxRecDepth 100000 in
theorem kX4_isAt (l : Launch) (D : va_G) (Z : SZ) (cB cI cJ cZ : ClassId) (ksz : Nat) (h0 : Nat) (h1 : Nat) (im : Nat → Int32) (mz : Nat) (j : Nat) (hm : ∀ k : Nat, im k = bI (tB (im k))) (hj : j < 256) : Met l yX4_isAt wsX4_isAt { frames := 0, cells := 0, slots := 0, locals := 0 } (PR D Z [(cB, .byte), (cI, .int), (cJ, .long), (cZ, .boolean)] [.ref h0, .int (nI j)] [(h0, .inr (4, [.ref h1, .int (nI mz)])), (h1, .inl (cZ, 256, .inl im))] ksz) (QI D (fun (r : Int32) (_ : Unit) => r = (bI (tB (im j)))) (fun (_ : Unit) => [(h0, .inr (4, [.ref h1, .int (nI mz)])), (h1, .inl (cZ, 256, .inl im))]) (va_A [(h0, .inr (4, [.ref h1, .int (nI mz)])), (h1, .inl (cZ, 256, .inl im))] ksz)) 0 0 (va_A [(h0, .inr (4, [.ref h1, .int (nI mz)])), (h1, .inl (cZ, 256, .inl im))] ksz) := by
  refine met_g (QI D (fun (r : Int32) (_ : Unit) => r = (bI (tB (im j)))) (fun (_ : Unit) => [(h0, .inr (4, [.ref h1, .int (nI mz)])), (h1, .inl (cZ, 256, .inl im))])) cX4_isAt 2 (some .boolean) (by decide) rfl (Nat.le_of_ble_eq_true rfl) ?_
  intro p e s m below meth c A ls hx hb hr hts hown hlocks hml hin hA hP hK hD hE hS hl hsz
  clear hsz
  have hl : lv_has ls 2 [(0, .ref h0), (1, .int (nI j))] := hl
  refine lv_aload_n hx hb dX4_isAt_0 rfl (lv_at hl 0 rfl) ?_
  refine va_get (D := D) (ci := 4) (v := .ref h1) (C := RX4) (T := TX4) (N := 2) hx hb hts (by decide +kernel) hown hK hP 0 rfl rfl 0 (by decide) (hts (.fieldLink RX4 9 "TapeEngine$Marks" "isMark" "[Z") (by decide +kernel)) (fun _ h9 => h9) rfl dX4_isAt_1 ?_
  refine lv_iload_n hx hb dX4_isAt_4 rfl (lv_at hl 1 rfl) ?_
  refine lv_sipush (v := 255) hx hb dX4_isAt_5 (by decide) ?_
  refine lv_iand hx hb dX4_isAt_8 ?_
  refine set_i (y := nI j) (e_a255 hj) ?_
  refine xs_zald (k := j) hx hb hK hP 1 3 rfl rfl (by first | assumption | omega) (by decide) dX4_isAt_9 ?_
  refine set_i (y := bI (tB (im j))) (hm j) ?_
  exact ret_z hx hb hr (bI_nar _) hlocks () (by rfl) (hP.sub [0, 1] rfl) (hD.sub [0, 1] (by decide) rfl) hS dX4_isAt_10

set_option maxHeartbeats 4000000 in
set_option maxRecDepth 100000 in
theorem kX4_put (l : Launch) (D : va_G) (Z : SZ) (cB cI cJ cZ : ClassId) (ksz : Nat) (h0 : Nat) (h1 : Nat) (im : Nat → Int32) (mz : Nat) (j : Nat) (on : Bool) (hm : ∀ k : Nat, im k = bI (tB (im k))) (hj : j < 256) (hz : mz ≤ 8) (hpz : tB (im j) = true → 0 < mz) : Met l yX4_put wsX4_put { frames := 1, cells := 0, slots := 0, locals := 21 } (PR D Z [(cB, .byte), (cI, .int), (cJ, .long), (cZ, .boolean)] [.ref h0, .int (nI j), .int (bI on)] [(h0, .inr (4, [.ref h1, .int (nI mz)])), (h1, .inl (cZ, 256, .inl im))] ksz) (QV D (fun (u : (Nat → Int32) × Nat) => u.1 = (upd im j (bI on)) ∧ u.2 = (if tB (im j) = on then mz else if on then mz + 1 else mz - 1)) (fun (u : (Nat → Int32) × Nat) => [(h0, .inr (4, [.ref h1, .int (nI u.2)])), (h1, .inl (cZ, 256, .inl u.1))]) (va_A [(h0, .inr (4, [.ref h1, .int (nI mz)])), (h1, .inl (cZ, 256, .inl im))] ksz)) 0 0 (va_A [(h0, .inr (4, [.ref h1, .int (nI mz)])), (h1, .inl (cZ, 256, .inl im))] ksz) := by
  refine met_g (QV D (fun (u : (Nat → Int32) × Nat) => u.1 = (upd im j (bI on)) ∧ u.2 = (if tB (im j) = on then mz else if on then mz + 1 else mz - 1)) (fun (u : (Nat → Int32) × Nat) => [(h0, .inr (4, [.ref h1, .int (nI u.2)])), (h1, .inl (cZ, 256, .inl u.1))])) cX4_put 3 none (by decide) rfl (Nat.le_of_ble_eq_true rfl) ?_
  intro p e s m below meth c A ls hx hb hr hts hown hlocks hml hin hA hP hK hD hE hS hl hsz
  clear hsz
  have hl : lv_has ls 3 [(0, .ref h0), (1, .int (nI j)), (2, .int (bI on))] := hl
  refine lv_aload_n hx hb dX4_put_0 rfl (lv_at hl 0 rfl) ?_
  refine lv_iload_n hx hb dX4_put_1 rfl (lv_at hl 1 rfl) ?_
  refine kV_i (As := [.int (nI j)]) (rest := []) (wr := []) ⟨hx, hb, hml, hown, hts⟩ (kX4_isAt l D Z cB cI cJ cZ s.heap.size h0 h1 im mz j (by first | assumption | omega) (by first | assumption | omega)) (cwV 1 hts gX4_put_X4_isAt rfl rfl rfl (by decide +kernel) ⟨Nat.le_of_ble_eq_true rfl, Nat.le_of_ble_eq_true rfl⟩) hK hE hP hD hS hA 0 4 rfl rfl rfl [0, 1] [] rfl rfl rfl rfl rfl (by decide) hl.1 rfl rfl (Nat.le_of_ble_eq_true rfl) dX4_put_2 ⟨Nat.le_of_ble_eq_true rfl, Nat.le_of_ble_eq_true rfl⟩ (fun r u H locs hp hP hD hS => ?_)
  try dsimp only at hp
  have hq_0 := hp
  have hq_0 := hq_0.symm
  subst hq_0
  have hP : va_P D vwCl [(h0, .inr (4, [.ref h1, .int (nI mz)])), (h1, .inl (cZ, 256, .inl im))] H := hP
  have hD : va_D A [(h0, .inr (4, [.ref h1, .int (nI mz)])), (h1, .inl (cZ, 256, .inl im))] := hD
  refine lv_iload_n hx hb dX4_put_5 rfl (lv_at hl 2 rfl) ?_
  refine lv_icmp_eq (tgt := 38) hx hb dX4_put_6 (by decide) (fun c_6 => ?_) (fun c_6 => ?_)
  · skip
    have c_6 := bI_inj c_6
    exact ret_v hx hb hr hlocks (im, mz) ⟨(by first | rfl | exact (upd_same ((hm j).trans (congrArg bI c_6))).symm), (by first | exact (if_pos c_6).symm | rw [if_neg c_6, c_15]; rfl)⟩ (hP.sub [0, 1] rfl) (hD.sub [0, 1] (by decide) rfl) hS dX4_put_38
  · skip
    have c_6 := fun z => c_6 (congrArg bI z)
    refine lv_aload_n hx hb dX4_put_9 rfl (lv_at hl 0 rfl) ?_
    refine lv_dup hx hb dX4_put_10 rfl ?_
    refine va_get (D := D) (ci := 4) (v := .int (nI mz)) (C := RX4) (T := TX4) (N := 2) hx hb hts (by decide +kernel) hown hK hP 0 rfl rfl 1 (by decide) (hts (.fieldLink RX4 15 "TapeEngine$Marks" "size" "I") (by decide +kernel)) (fun _ h9 => h9) rfl dX4_put_11 ?_
    refine lv_iload_n hx hb dX4_put_14 rfl (lv_at hl 2 rfl) ?_
    refine lv_if_eq (tgt := 22) hx hb dX4_put_15 (by decide) (fun c_15 => ?_) (fun c_15 => ?_)
    · skip
      have c_15 := bI_f c_15
      refine lv_iconst (v := (-1)) hx hb dX4_put_22 (by decide) ?_
      refine lv_iadd hx hb dX4_put_23 ?_
      refine set_i (y := nI (mz - 1)) (sb_m1 (hpz (by cases hh : tB (im j); exact absurd (hh.trans c_15.symm) c_6; rfl))) ?_
      refine va_put (D := D) (ci := 4) (v := .int (nI (mz - 1))) (ty := .int) (C := RX4) (T := TX4) (N := 2) hx hb hts (by decide +kernel) tyX4 tyX4_ok nmX4 hown hK hP hD hS 0 rfl rfl 1 (by decide) (hts (.fieldLink RX4 15 "TapeEngine$Marks" "size" "I") (by decide +kernel)) (fun _ h9 => h9) rfl (by decide +kernel) rfl rfl (Nat.le_of_ble_eq_true rfl) dX4_put_24 (fun H locs hP hD hS => ?_)
      have hP : va_P D vwCl [(h0, .inr (4, [.ref h1, .int (nI (mz - 1))])), (h1, .inl (cZ, 256, .inl im))] H := hP
      have hD : va_D A [(h0, .inr (4, [.ref h1, .int (nI (mz - 1))])), (h1, .inl (cZ, 256, .inl im))] := hD
      refine lv_aload_n hx hb dX4_put_27 rfl (lv_at hl 0 rfl) ?_
      refine va_get (D := D) (ci := 4) (v := .ref h1) (C := RX4) (T := TX4) (N := 2) hx hb hts (by decide +kernel) hown hK hP 0 rfl rfl 0 (by decide) (hts (.fieldLink RX4 9 "TapeEngine$Marks" "isMark" "[Z") (by decide +kernel)) (fun _ h9 => h9) rfl dX4_put_28 ?_
      refine lv_iload_n hx hb dX4_put_31 rfl (lv_at hl 1 rfl) ?_
      refine lv_sipush (v := 255) hx hb dX4_put_32 (by decide) ?_
      refine lv_iand hx hb dX4_put_35 ?_
      refine set_i (y := nI j) (e_a255 hj) ?_
      refine lv_iload_n hx hb dX4_put_36 rfl (lv_at hl 2 rfl) ?_
      refine xs_zast (k := j) hx hb hK hP hD hS 1 3 rfl rfl (by first | assumption | omega) (by decide) (bI_vn _) dX4_put_37 (fun H locs hP hD hS => ?_)
      have hP : va_P D vwCl [(h0, .inr (4, [.ref h1, .int (nI (mz - 1))])), (h1, .inl (cZ, 256, .inl (upd im j (bI on))))] H := hP
      have hD : va_D A [(h0, .inr (4, [.ref h1, .int (nI (mz - 1))])), (h1, .inl (cZ, 256, .inl (upd im j (bI on))))] := hD
      exact ret_v hx hb hr hlocks ((upd im j (bI on)), (mz - 1)) ⟨(by first | rfl | exact (upd_same ((hm j).trans (congrArg bI c_6))).symm), (by first | exact (if_pos c_6).symm | rw [if_neg c_6, c_15]; rfl)⟩ (hP.sub [0, 1] rfl) (hD.sub [0, 1] (by decide) rfl) hS dX4_put_38
    · skip
      have c_15 := bI_t c_15
      refine lv_iconst (v := 1) hx hb dX4_put_18 (by decide) ?_
      refine lv_goto (tgt := 23) hx hb dX4_put_19 (by decide) ?_
      refine lv_iadd hx hb dX4_put_23 ?_
      refine set_i (y := nI (mz + 1)) (nI_1 mz) ?_
      refine va_put (D := D) (ci := 4) (v := .int (nI (mz + 1))) (ty := .int) (C := RX4) (T := TX4) (N := 2) hx hb hts (by decide +kernel) tyX4 tyX4_ok nmX4 hown hK hP hD hS 0 rfl rfl 1 (by decide) (hts (.fieldLink RX4 15 "TapeEngine$Marks" "size" "I") (by decide +kernel)) (fun _ h9 => h9) rfl (by decide +kernel) rfl rfl (Nat.le_of_ble_eq_true rfl) dX4_put_24 (fun H locs hP hD hS => ?_)
      have hP : va_P D vwCl [(h0, .inr (4, [.ref h1, .int (nI (mz + 1))])), (h1, .inl (cZ, 256, .inl im))] H := hP
      have hD : va_D A [(h0, .inr (4, [.ref h1, .int (nI (mz + 1))])), (h1, .inl (cZ, 256, .inl im))] := hD
      refine lv_aload_n hx hb dX4_put_27 rfl (lv_at hl 0 rfl) ?_
      refine va_get (D := D) (ci := 4) (v := .ref h1) (C := RX4) (T := TX4) (N := 2) hx hb hts (by decide +kernel) hown hK hP 0 rfl rfl 0 (by decide) (hts (.fieldLink RX4 9 "TapeEngine$Marks" "isMark" "[Z") (by decide +kernel)) (fun _ h9 => h9) rfl dX4_put_28 ?_
      refine lv_iload_n hx hb dX4_put_31 rfl (lv_at hl 1 rfl) ?_
      refine lv_sipush (v := 255) hx hb dX4_put_32 (by decide) ?_
      refine lv_iand hx hb dX4_put_35 ?_
      refine set_i (y := nI j) (e_a255 hj) ?_
      refine lv_iload_n hx hb dX4_put_36 rfl (lv_at hl 2 rfl) ?_
      refine xs_zast (k := j) hx hb hK hP hD hS 1 3 rfl rfl (by first | assumption | omega) (by decide) (bI_vn _) dX4_put_37 (fun H locs hP hD hS => ?_)
      have hP : va_P D vwCl [(h0, .inr (4, [.ref h1, .int (nI (mz + 1))])), (h1, .inl (cZ, 256, .inl (upd im j (bI on))))] H := hP
      have hD : va_D A [(h0, .inr (4, [.ref h1, .int (nI (mz + 1))])), (h1, .inl (cZ, 256, .inl (upd im j (bI on))))] := hD
      exact ret_v hx hb hr hlocks ((upd im j (bI on)), (mz + 1)) ⟨(by first | rfl | exact (upd_same ((hm j).trans (congrArg bI c_6))).symm), (by first | exact (if_pos c_6).symm | rw [if_neg c_6, c_15]; rfl)⟩ (hP.sub [0, 1] rfl) (hD.sub [0, 1] (by decide) rfl) hS dX4_put_38

set_option maxHeartbeats 4000000 in
set_option maxRecDepth 100000 in
theorem kX3_orderAhead (l : Launch) (D : va_G) (Z : SZ) (cB cI cJ cZ : ClassId) (ksz : Nat) (h0 : Nat) (a1 : Nat) (a2 : Nat) (a3 : Nat) (a4 : Nat) (a5 : Nat) (a6 : Nat) (a7 : Nat) (w : Nat → Int32) (mult : Int64) (nx : Nat) (o : Nat) (hnx : nx < 256) (how : w nx = nI o) (ho : o < 131072) : Met l yX3_orderAhead wsX3_orderAhead { frames := 1, cells := 0, slots := 0, locals := 21 } (PR D Z [(cB, .byte), (cI, .int), (cJ, .long), (cZ, .boolean)] [.ref h0] [(h0, .inr (3, [.ref a1, .ref a2, .ref a3, .ref a4, .ref a5, .long mult, .int (nI nx)])), (a1, .inr (5, [.ref a6, .ref a7])), (a6, .inl (cI, 256, .inl w))] ksz) (QI D (fun (r : Int32) (_ : Unit) => r = (nI o)) (fun (_ : Unit) => [(h0, .inr (3, [.ref a1, .ref a2, .ref a3, .ref a4, .ref a5, .long mult, .int (nI nx)])), (a1, .inr (5, [.ref a6, .ref a7])), (a6, .inl (cI, 256, .inl w))]) (va_A [(h0, .inr (3, [.ref a1, .ref a2, .ref a3, .ref a4, .ref a5, .long mult, .int (nI nx)])), (a1, .inr (5, [.ref a6, .ref a7])), (a6, .inl (cI, 256, .inl w))] ksz)) 0 0 (va_A [(h0, .inr (3, [.ref a1, .ref a2, .ref a3, .ref a4, .ref a5, .long mult, .int (nI nx)])), (a1, .inr (5, [.ref a6, .ref a7])), (a6, .inl (cI, 256, .inl w))] ksz) := by
  refine met_g (QI D (fun (r : Int32) (_ : Unit) => r = (nI o)) (fun (_ : Unit) => [(h0, .inr (3, [.ref a1, .ref a2, .ref a3, .ref a4, .ref a5, .long mult, .int (nI nx)])), (a1, .inr (5, [.ref a6, .ref a7])), (a6, .inl (cI, 256, .inl w))])) cX3_orderAhead 1 (some .int) (by decide) rfl (Nat.le_of_ble_eq_true rfl) ?_
  intro p e s m below meth c A ls hx hb hr hts hown hlocks hml hin hA hP hK hD hE hS hl hsz
  clear hsz
  have hl : lv_has ls 1 [(0, .ref h0)] := hl
  refine lv_aload_n hx hb dX3_orderAhead_0 rfl (lv_at hl 0 rfl) ?_
  refine va_get (D := D) (ci := 3) (v := .ref a1) (C := RX3) (T := TX3) (N := 7) hx hb hts (by decide +kernel) hown hK hP 0 rfl rfl 0 (by decide) (hts (.fieldLink RX3 12 "TapeEngine$Machine" "memory" "LTapeEngine$Memory;") (by decide +kernel)) (fun _ h9 => h9) rfl dX3_orderAhead_1 ?_
  refine lv_aload_n hx hb dX3_orderAhead_4 rfl (lv_at hl 0 rfl) ?_
  refine va_get (D := D) (ci := 3) (v := .int (nI nx)) (C := RX3) (T := TX3) (N := 7) hx hb hts (by decide +kernel) hown hK hP 0 rfl rfl 6 (by decide) (hts (.fieldLink RX3 47 "TapeEngine$Machine" "next" "I") (by decide +kernel)) (fun _ h9 => h9) rfl dX3_orderAhead_5 ?_
  refine kV_i (As := [.int (nI nx)]) (rest := []) (wr := [(h0, .inr (3, [.ref a1, .ref a2, .ref a3, .ref a4, .ref a5, .long mult, .int (nI nx)]))]) ⟨hx, hb, hml, hown, hts⟩ (kX5_shortAt l D Z cB cI cJ cZ s.heap.size a1 a6 a7 w nx (by first | assumption | omega)) (cwV 1 hts gX3_orderAhead_X5_shortAt rfl rfl rfl (by decide +kernel) ⟨Nat.le_of_ble_eq_true rfl, Nat.le_of_ble_eq_true rfl⟩) hK hE hP hD hS hA 0 5 rfl rfl rfl [1, 2] [0] rfl rfl rfl rfl rfl (by decide) hl.1 rfl rfl (Nat.le_of_ble_eq_true rfl) dX3_orderAhead_8 ⟨Nat.le_of_ble_eq_true rfl, Nat.le_of_ble_eq_true rfl⟩ (fun r u H locs hp hP hD hS => ?_)
  try dsimp only at hp
  have hq_0 := hp
  have hq_0 := hq_0.symm
  subst hq_0
  have hP : va_P D vwCl [(h0, .inr (3, [.ref a1, .ref a2, .ref a3, .ref a4, .ref a5, .long mult, .int (nI nx)])), (a1, .inr (5, [.ref a6, .ref a7])), (a6, .inl (cI, 256, .inl w))] H := hP
  have hD : va_D A [(h0, .inr (3, [.ref a1, .ref a2, .ref a3, .ref a4, .ref a5, .long mult, .int (nI nx)])), (a1, .inr (5, [.ref a6, .ref a7])), (a6, .inl (cI, 256, .inl w))] := hD
  exact ret_i hx hb hr hlocks () how (hP.sub [0, 1, 2] rfl) (hD.sub [0, 1, 2] (by decide) rfl) hS dX3_orderAhead_11

set_option maxHeartbeats 4000000 in
set_option maxRecDepth 100000 in
theorem kX3_haltAhead (l : Launch) (D : va_G) (Z : SZ) (cB cI cJ cZ : ClassId) (ksz : Nat) (h0 : Nat) (a1 : Nat) (a2 : Nat) (a3 : Nat) (a4 : Nat) (a5 : Nat) (a6 : Nat) (a7 : Nat) (a8 : Nat) (a9 : Nat) (w : Nat → Int32) (mult : Int64) (nx : Nat) (o : Nat) (tz : Nat) (ta : Nat) (xz : Nat) (fg : Bool) (la : Int32) (hnx : nx < 256) (how : w nx = nI o) (ho : o < 131072) (hz : tz ≤ 1000) (ha : ta ≤ tz) (hxz : xz ≤ 400) : Met l yX3_haltAhead wsX3_haltAhead { frames := 2, cells := 0, slots := 0, locals := 41 } (PR D Z [(cB, .byte), (cI, .int), (cJ, .long), (cZ, .boolean)] [.ref h0] [(h0, .inr (3, [.ref a1, .ref a2, .ref a3, .ref a4, .ref a5, .long mult, .int (nI nx)])), (a1, .inr (5, [.ref a6, .ref a7])), (a6, .inl (cI, 256, .inl w)), (a3, .inr (7, [.ref a8, .int (nI tz), .int (nI ta)])), (a4, .inr (6, [.ref a9, .int (nI xz), .int (bI fg), .int la]))] ksz) (QI D (fun (r : Int32) (_ : Unit) => r = (hltI (o / 4096) tz ta xz)) (fun (_ : Unit) => [(h0, .inr (3, [.ref a1, .ref a2, .ref a3, .ref a4, .ref a5, .long mult, .int (nI nx)])), (a1, .inr (5, [.ref a6, .ref a7])), (a6, .inl (cI, 256, .inl w)), (a3, .inr (7, [.ref a8, .int (nI tz), .int (nI ta)])), (a4, .inr (6, [.ref a9, .int (nI xz), .int (bI fg), .int la]))]) (va_A [(h0, .inr (3, [.ref a1, .ref a2, .ref a3, .ref a4, .ref a5, .long mult, .int (nI nx)])), (a1, .inr (5, [.ref a6, .ref a7])), (a6, .inl (cI, 256, .inl w)), (a3, .inr (7, [.ref a8, .int (nI tz), .int (nI ta)])), (a4, .inr (6, [.ref a9, .int (nI xz), .int (bI fg), .int la]))] ksz)) 0 0 (va_A [(h0, .inr (3, [.ref a1, .ref a2, .ref a3, .ref a4, .ref a5, .long mult, .int (nI nx)])), (a1, .inr (5, [.ref a6, .ref a7])), (a6, .inl (cI, 256, .inl w)), (a3, .inr (7, [.ref a8, .int (nI tz), .int (nI ta)])), (a4, .inr (6, [.ref a9, .int (nI xz), .int (bI fg), .int la]))] ksz) := by
  refine met_g (QI D (fun (r : Int32) (_ : Unit) => r = (hltI (o / 4096) tz ta xz)) (fun (_ : Unit) => [(h0, .inr (3, [.ref a1, .ref a2, .ref a3, .ref a4, .ref a5, .long mult, .int (nI nx)])), (a1, .inr (5, [.ref a6, .ref a7])), (a6, .inl (cI, 256, .inl w)), (a3, .inr (7, [.ref a8, .int (nI tz), .int (nI ta)])), (a4, .inr (6, [.ref a9, .int (nI xz), .int (bI fg), .int la]))])) cX3_haltAhead 2 (some .int) (by decide) rfl (Nat.le_of_ble_eq_true rfl) ?_
  intro p e s m below meth c A ls hx hb hr hts hown hlocks hml hin hA hP hK hD hE hS hl hsz
  clear hsz
  have hl : lv_has ls 2 [(0, .ref h0)] := hl
  refine lv_aload_n hx hb dX3_haltAhead_0 rfl (lv_at hl 0 rfl) ?_
  refine kV_i (As := []) (rest := []) (wr := [(a3, .inr (7, [.ref a8, .int (nI tz), .int (nI ta)])), (a4, .inr (6, [.ref a9, .int (nI xz), .int (bI fg), .int la]))]) ⟨hx, hb, hml, hown, hts⟩ (kX3_orderAhead l D Z cB cI cJ cZ s.heap.size h0 a1 a2 a3 a4 a5 a6 a7 w mult nx o (by first | assumption | omega) (by first | assumption | omega) (by first | assumption | omega)) (cwV 0 hts gX3_haltAhead_X3_orderAhead rfl rfl rfl (by decide +kernel) ⟨Nat.le_of_ble_eq_true rfl, Nat.le_of_ble_eq_true rfl⟩) hK hE hP hD hS hA 0 3 rfl rfl rfl [0, 1, 2] [3, 4] rfl rfl rfl rfl rfl (by decide) hl.1 rfl rfl (Nat.le_of_ble_eq_true rfl) dX3_haltAhead_1 ⟨Nat.le_of_ble_eq_true rfl, Nat.le_of_ble_eq_true rfl⟩ (fun r u H locs hp hP hD hS => ?_)
  try dsimp only at hp
  have hq_0 := hp
  have hq_0 := hq_0.symm
  subst hq_0
  have hP : va_P D vwCl [(a3, .inr (7, [.ref a8, .int (nI tz), .int (nI ta)])), (a4, .inr (6, [.ref a9, .int (nI xz), .int (bI fg), .int la])), (h0, .inr (3, [.ref a1, .ref a2, .ref a3, .ref a4, .ref a5, .long mult, .int (nI nx)])), (a1, .inr (5, [.ref a6, .ref a7])), (a6, .inl (cI, 256, .inl w))] H := hP
  have hD : va_D A [(a3, .inr (7, [.ref a8, .int (nI tz), .int (nI ta)])), (a4, .inr (6, [.ref a9, .int (nI xz), .int (bI fg), .int la])), (h0, .inr (3, [.ref a1, .ref a2, .ref a3, .ref a4, .ref a5, .long mult, .int (nI nx)])), (a1, .inr (5, [.ref a6, .ref a7])), (a6, .inl (cI, 256, .inl w))] := hD
  refine pN_i (As := [.int (nI o)]) (rest := []) ⟨hx, hb, hml, hown, hts⟩ (kX9_functionOf l Z o (by first | assumption | omega)) ⟨va_cnB 1 hts gX3_haltAhead_X9_functionOf_n59 rfl rfl rfl (nm_X3_59 hE) (hts (.initialized RX9) (by decide +kernel)) (by decide +kernel) ⟨Nat.le_of_ble_eq_true rfl, Nat.le_of_ble_eq_true rfl⟩, (hts (.static yX9_functionOf) (by decide +kernel)), trivial⟩ hK hE hP hD hS hA hl.1 rfl rfl (Nat.le_of_ble_eq_true rfl) dX3_haltAhead_4 ⟨Nat.le_of_ble_eq_true rfl, Nat.le_of_ble_eq_true rfl⟩ (fun H locs hP hS => ?_)
  refine lv_istore_n (lv' := [(1, .int (nI (o / 4096))), (0, .ref h0)]) hx hb dX3_haltAhead_7 rfl hl (by decide) rfl (fun ls hl => ?_)
  refine lv_iload_n hx hb dX3_haltAhead_8 rfl (lv_at hl 0 rfl) ?_
  refine pN_i (As := [.int (nI (o / 4096))]) (rest := []) ⟨hx, hb, hml, hown, hts⟩ (kX9_isLegal l Z (o / 4096) (by first | assumption | omega)) ⟨va_cnB 1 hts gX3_haltAhead_X9_isLegal_n62 rfl rfl rfl (nm_X3_62 hE) (hts (.initialized RX9) (by decide +kernel)) (by decide +kernel) ⟨Nat.le_of_ble_eq_true rfl, Nat.le_of_ble_eq_true rfl⟩, (hts (.static yX9_isLegal) (by decide +kernel)), trivial⟩ hK hE hP hD hS hA hl.1 rfl rfl (Nat.le_of_ble_eq_true rfl) dX3_haltAhead_9 ⟨Nat.le_of_ble_eq_true rfl, Nat.le_of_ble_eq_true rfl⟩ (fun H locs hP hS => ?_)
  refine lv_if_ne (tgt := 17) hx hb dX3_haltAhead_12 (by decide) (fun c_12 => ?_) (fun c_12 => ?_)
  · skip
    have c_12 := bI_t c_12
    refine lv_iload_n hx hb dX3_haltAhead_17 rfl (lv_at hl 0 rfl) ?_
    refine lv_bipush (v := (nI 8)) hx hb dX3_haltAhead_18 (by decide) ?_
    refine lv_icmp_ne (tgt := 35) hx hb dX3_haltAhead_20 (by decide) (fun c_20 => ?_) (fun c_20 => ?_)
    · skip
      have c_20 : ¬ (o / 4096) = 8 := fun z => c_20 ((nI_eq (a := (o / 4096)) (b := 8) (by omega) (by omega)).mpr z)
      refine lv_iload_n hx hb dX3_haltAhead_35 rfl (lv_at hl 0 rfl) ?_
      refine lv_bipush (v := (nI 9)) hx hb dX3_haltAhead_36 (by decide) ?_
      refine lv_icmp_ne (tgt := 53) hx hb dX3_haltAhead_38 (by decide) (fun c_38 => ?_) (fun c_38 => ?_)
      · skip
        have c_38 : ¬ (o / 4096) = 9 := fun z => c_38 ((nI_eq (a := (o / 4096)) (b := 9) (by omega) (by omega)).mpr z)
        refine lv_iconst (v := 0) hx hb dX3_haltAhead_53 (by decide) ?_
        exact ret_i hx hb hr hlocks () (by first | exact hlt_2 c_12 | exact hlt_3 c_12 (by omega) (by omega) | exact hlt_4 c_12 (by omega) (by omega) | exact hlt_0 c_12 (by omega) (by omega)) (hP.sub [2, 3, 4, 0, 1] rfl) (hD.sub [2, 3, 4, 0, 1] (by decide) rfl) hS dX3_haltAhead_54
      · skip
        have c_38 : (o / 4096) = 9 := (nI_eq (a := (o / 4096)) (b := 9) (by omega) (by omega)).mp c_38
        refine lv_aload_n hx hb dX3_haltAhead_41 rfl (lv_at hl 1 rfl) ?_
        refine va_get (D := D) (ci := 3) (v := .ref a4) (C := RX3) (T := TX3) (N := 7) hx hb hts (by decide +kernel) hown hK hP 2 rfl rfl 3 (by decide) (hts (.fieldLink RX3 35 "TapeEngine$Machine" "printer" "LTapeEngine$Printer;") (by decide +kernel)) (fun _ h9 => h9) rfl dX3_haltAhead_42 ?_
        refine kV_i (As := []) (rest := []) (wr := [(a3, .inr (7, [.ref a8, .int (nI tz), .int (nI ta)])), (h0, .inr (3, [.ref a1, .ref a2, .ref a3, .ref a4, .ref a5, .long mult, .int (nI nx)])), (a1, .inr (5, [.ref a6, .ref a7])), (a6, .inl (cI, 256, .inl w))]) ⟨hx, hb, hml, hown, hts⟩ (kX6_isFull l D Z cB cI cJ cZ H.size a4 a9 xz fg la (by first | assumption | omega)) (cwV 0 hts gX3_haltAhead_X6_isFull rfl rfl rfl (by decide +kernel) ⟨Nat.le_of_ble_eq_true rfl, Nat.le_of_ble_eq_true rfl⟩) hK hE hP hD hS hA 0 6 rfl rfl rfl [1] [0, 2, 3, 4] rfl rfl rfl rfl rfl (by decide) hl.1 rfl rfl (Nat.le_of_ble_eq_true rfl) dX3_haltAhead_45 ⟨Nat.le_of_ble_eq_true rfl, Nat.le_of_ble_eq_true rfl⟩ (fun r u H locs hp hP hD hS => ?_)
        try dsimp only at hp
        have hq_0 := hp
        have hq_0 := hq_0.symm
        subst hq_0
        have hP : va_P D vwCl [(a3, .inr (7, [.ref a8, .int (nI tz), .int (nI ta)])), (h0, .inr (3, [.ref a1, .ref a2, .ref a3, .ref a4, .ref a5, .long mult, .int (nI nx)])), (a1, .inr (5, [.ref a6, .ref a7])), (a6, .inl (cI, 256, .inl w)), (a4, .inr (6, [.ref a9, .int (nI xz), .int (bI fg), .int la]))] H := hP
        have hD : va_D A [(a3, .inr (7, [.ref a8, .int (nI tz), .int (nI ta)])), (h0, .inr (3, [.ref a1, .ref a2, .ref a3, .ref a4, .ref a5, .long mult, .int (nI nx)])), (a1, .inr (5, [.ref a6, .ref a7])), (a6, .inl (cI, 256, .inl w)), (a4, .inr (6, [.ref a9, .int (nI xz), .int (bI fg), .int la]))] := hD
        refine lv_if_eq (tgt := 53) hx hb dX3_haltAhead_48 (by decide) (fun c_48 => ?_) (fun c_48 => ?_)
        · skip
          have c_48 := bI_f c_48
          have c_48 := of_decide_eq_false c_48
          refine lv_iconst (v := 0) hx hb dX3_haltAhead_53 (by decide) ?_
          exact ret_i hx hb hr hlocks () (by first | exact hlt_2 c_12 | exact hlt_3 c_12 (by omega) (by omega) | exact hlt_4 c_12 (by omega) (by omega) | exact hlt_0 c_12 (by omega) (by omega)) (hP.sub [1, 2, 3, 0, 4] rfl) (hD.sub [1, 2, 3, 0, 4] (by decide) rfl) hS dX3_haltAhead_54
        · skip
          have c_48 := bI_t c_48
          have c_48 := of_decide_eq_true c_48
          refine lv_iconst (v := 4) hx hb dX3_haltAhead_51 (by decide) ?_
          exact ret_i hx hb hr hlocks () (by first | exact hlt_2 c_12 | exact hlt_3 c_12 (by omega) (by omega) | exact hlt_4 c_12 (by omega) (by omega) | exact hlt_0 c_12 (by omega) (by omega)) (hP.sub [1, 2, 3, 0, 4] rfl) (hD.sub [1, 2, 3, 0, 4] (by decide) rfl) hS dX3_haltAhead_52
    · skip
      have c_20 : (o / 4096) = 8 := (nI_eq (a := (o / 4096)) (b := 8) (by omega) (by omega)).mp c_20
      refine lv_aload_n hx hb dX3_haltAhead_23 rfl (lv_at hl 1 rfl) ?_
      refine va_get (D := D) (ci := 3) (v := .ref a3) (C := RX3) (T := TX3) (N := 7) hx hb hts (by decide +kernel) hown hK hP 2 rfl rfl 2 (by decide) (hts (.fieldLink RX3 28 "TapeEngine$Machine" "tape" "LTapeEngine$Tape;") (by decide +kernel)) (fun _ h9 => h9) rfl dX3_haltAhead_24 ?_
      refine kV_i (As := []) (rest := []) (wr := [(a4, .inr (6, [.ref a9, .int (nI xz), .int (bI fg), .int la])), (h0, .inr (3, [.ref a1, .ref a2, .ref a3, .ref a4, .ref a5, .long mult, .int (nI nx)])), (a1, .inr (5, [.ref a6, .ref a7])), (a6, .inl (cI, 256, .inl w))]) ⟨hx, hb, hml, hown, hts⟩ (kX7_isAtEnd l D Z cB cI cJ cZ H.size a3 a8 tz ta (by first | assumption | omega) (by first | assumption | omega)) (cwV 0 hts gX3_haltAhead_X7_isAtEnd rfl rfl rfl (by decide +kernel) ⟨Nat.le_of_ble_eq_true rfl, Nat.le_of_ble_eq_true rfl⟩) hK hE hP hD hS hA 0 7 rfl rfl rfl [0] [1, 2, 3, 4] rfl rfl rfl rfl rfl (by decide) hl.1 rfl rfl (Nat.le_of_ble_eq_true rfl) dX3_haltAhead_27 ⟨Nat.le_of_ble_eq_true rfl, Nat.le_of_ble_eq_true rfl⟩ (fun r u H locs hp hP hD hS => ?_)
      try dsimp only at hp
      have hq_0 := hp
      have hq_0 := hq_0.symm
      subst hq_0
      have hP : va_P D vwCl [(a4, .inr (6, [.ref a9, .int (nI xz), .int (bI fg), .int la])), (h0, .inr (3, [.ref a1, .ref a2, .ref a3, .ref a4, .ref a5, .long mult, .int (nI nx)])), (a1, .inr (5, [.ref a6, .ref a7])), (a6, .inl (cI, 256, .inl w)), (a3, .inr (7, [.ref a8, .int (nI tz), .int (nI ta)]))] H := hP
      have hD : va_D A [(a4, .inr (6, [.ref a9, .int (nI xz), .int (bI fg), .int la])), (h0, .inr (3, [.ref a1, .ref a2, .ref a3, .ref a4, .ref a5, .long mult, .int (nI nx)])), (a1, .inr (5, [.ref a6, .ref a7])), (a6, .inl (cI, 256, .inl w)), (a3, .inr (7, [.ref a8, .int (nI tz), .int (nI ta)]))] := hD
      refine lv_if_eq (tgt := 35) hx hb dX3_haltAhead_30 (by decide) (fun c_30 => ?_) (fun c_30 => ?_)
      · skip
        have c_30 := bI_f c_30
        have c_30 := of_decide_eq_false c_30
        refine lv_iload_n hx hb dX3_haltAhead_35 rfl (lv_at hl 0 rfl) ?_
        refine lv_bipush (v := (nI 9)) hx hb dX3_haltAhead_36 (by decide) ?_
        refine lv_icmp_ne (tgt := 53) hx hb dX3_haltAhead_38 (by decide) (fun c_38 => ?_) (fun c_38 => ?_)
        · skip
          have c_38 : ¬ (o / 4096) = 9 := fun z => c_38 ((nI_eq (a := (o / 4096)) (b := 9) (by omega) (by omega)).mpr z)
          refine lv_iconst (v := 0) hx hb dX3_haltAhead_53 (by decide) ?_
          exact ret_i hx hb hr hlocks () (by first | exact hlt_2 c_12 | exact hlt_3 c_12 (by omega) (by omega) | exact hlt_4 c_12 (by omega) (by omega) | exact hlt_0 c_12 (by omega) (by omega)) (hP.sub [1, 2, 3, 4, 0] rfl) (hD.sub [1, 2, 3, 4, 0] (by decide) rfl) hS dX3_haltAhead_54
        · skip
          have c_38 : (o / 4096) = 9 := (nI_eq (a := (o / 4096)) (b := 9) (by omega) (by omega)).mp c_38
          refine lv_aload_n hx hb dX3_haltAhead_41 rfl (lv_at hl 1 rfl) ?_
          refine va_get (D := D) (ci := 3) (v := .ref a4) (C := RX3) (T := TX3) (N := 7) hx hb hts (by decide +kernel) hown hK hP 1 rfl rfl 3 (by decide) (hts (.fieldLink RX3 35 "TapeEngine$Machine" "printer" "LTapeEngine$Printer;") (by decide +kernel)) (fun _ h9 => h9) rfl dX3_haltAhead_42 ?_
          refine kV_i (As := []) (rest := []) (wr := [(h0, .inr (3, [.ref a1, .ref a2, .ref a3, .ref a4, .ref a5, .long mult, .int (nI nx)])), (a1, .inr (5, [.ref a6, .ref a7])), (a6, .inl (cI, 256, .inl w)), (a3, .inr (7, [.ref a8, .int (nI tz), .int (nI ta)]))]) ⟨hx, hb, hml, hown, hts⟩ (kX6_isFull l D Z cB cI cJ cZ H.size a4 a9 xz fg la (by first | assumption | omega)) (cwV 0 hts gX3_haltAhead_X6_isFull rfl rfl rfl (by decide +kernel) ⟨Nat.le_of_ble_eq_true rfl, Nat.le_of_ble_eq_true rfl⟩) hK hE hP hD hS hA 0 6 rfl rfl rfl [0] [1, 2, 3, 4] rfl rfl rfl rfl rfl (by decide) hl.1 rfl rfl (Nat.le_of_ble_eq_true rfl) dX3_haltAhead_45 ⟨Nat.le_of_ble_eq_true rfl, Nat.le_of_ble_eq_true rfl⟩ (fun r u H locs hp hP hD hS => ?_)
          try dsimp only at hp
          have hq_0 := hp
          have hq_0 := hq_0.symm
          subst hq_0
          have hP : va_P D vwCl [(h0, .inr (3, [.ref a1, .ref a2, .ref a3, .ref a4, .ref a5, .long mult, .int (nI nx)])), (a1, .inr (5, [.ref a6, .ref a7])), (a6, .inl (cI, 256, .inl w)), (a3, .inr (7, [.ref a8, .int (nI tz), .int (nI ta)])), (a4, .inr (6, [.ref a9, .int (nI xz), .int (bI fg), .int la]))] H := hP
          have hD : va_D A [(h0, .inr (3, [.ref a1, .ref a2, .ref a3, .ref a4, .ref a5, .long mult, .int (nI nx)])), (a1, .inr (5, [.ref a6, .ref a7])), (a6, .inl (cI, 256, .inl w)), (a3, .inr (7, [.ref a8, .int (nI tz), .int (nI ta)])), (a4, .inr (6, [.ref a9, .int (nI xz), .int (bI fg), .int la]))] := hD
          refine lv_if_eq (tgt := 53) hx hb dX3_haltAhead_48 (by decide) (fun c_48 => ?_) (fun c_48 => ?_)
          · skip
            have c_48 := bI_f c_48
            have c_48 := of_decide_eq_false c_48
            refine lv_iconst (v := 0) hx hb dX3_haltAhead_53 (by decide) ?_
            exact ret_i hx hb hr hlocks () (by first | exact hlt_2 c_12 | exact hlt_3 c_12 (by omega) (by omega) | exact hlt_4 c_12 (by omega) (by omega) | exact hlt_0 c_12 (by omega) (by omega)) (hP.sub [0, 1, 2, 3, 4] rfl) (hD.sub [0, 1, 2, 3, 4] (by decide) rfl) hS dX3_haltAhead_54
          · skip
            have c_48 := bI_t c_48
            have c_48 := of_decide_eq_true c_48
            refine lv_iconst (v := 4) hx hb dX3_haltAhead_51 (by decide) ?_
            exact ret_i hx hb hr hlocks () (by first | exact hlt_2 c_12 | exact hlt_3 c_12 (by omega) (by omega) | exact hlt_4 c_12 (by omega) (by omega) | exact hlt_0 c_12 (by omega) (by omega)) (hP.sub [0, 1, 2, 3, 4] rfl) (hD.sub [0, 1, 2, 3, 4] (by decide) rfl) hS dX3_haltAhead_52
      · skip
        have c_30 := bI_t c_30
        have c_30 := of_decide_eq_true c_30
        refine lv_iconst (v := 3) hx hb dX3_haltAhead_33 (by decide) ?_
        exact ret_i hx hb hr hlocks () (by first | exact hlt_2 c_12 | exact hlt_3 c_12 (by omega) (by omega) | exact hlt_4 c_12 (by omega) (by omega) | exact hlt_0 c_12 (by omega) (by omega)) (hP.sub [1, 2, 3, 4, 0] rfl) (hD.sub [1, 2, 3, 4, 0] (by decide) rfl) hS dX3_haltAhead_34
  · skip
    have c_12 := bI_f c_12
    refine lv_iconst (v := 2) hx hb dX3_haltAhead_15 (by decide) ?_
    exact ret_i hx hb hr hlocks () (by first | exact hlt_2 c_12 | exact hlt_3 c_12 (by omega) (by omega) | exact hlt_4 c_12 (by omega) (by omega) | exact hlt_0 c_12 (by omega) (by omega)) (hP.sub [2, 3, 4, 0, 1] rfl) (hD.sub [2, 3, 4, 0, 1] (by decide) rfl) hS dX3_haltAhead_16

set_option maxHeartbeats 4000000 in
set_option maxRecDepth 100000 in
theorem kX3_highAddress (l : Launch) (D : va_G) (Z : SZ) (cB cI cJ cZ : ClassId) (ksz : Nat) (h0 : Nat) (a1 : Nat) (a2 : Nat) (a3 : Nat) (a4 : Nat) (a5 : Nat) (mult : Int64) (nx : Nat) (o : Nat) (ho : o < 131072) : Met l yX3_highAddress wsX3_highAddress { frames := 1, cells := 0, slots := 0, locals := 20 } (PR D Z [(cB, .byte), (cI, .int), (cJ, .long), (cZ, .boolean)] [.ref h0, .int (nI o)] [(h0, .inr (3, [.ref a1, .ref a2, .ref a3, .ref a4, .ref a5, .long mult, .int (nI nx)]))] ksz) (QI D (fun (r : Int32) (_ : Unit) => r = (nI (hadr o))) (fun (_ : Unit) => [(h0, .inr (3, [.ref a1, .ref a2, .ref a3, .ref a4, .ref a5, .long mult, .int (nI nx)]))]) (va_A [(h0, .inr (3, [.ref a1, .ref a2, .ref a3, .ref a4, .ref a5, .long mult, .int (nI nx)]))] ksz)) 0 0 (va_A [(h0, .inr (3, [.ref a1, .ref a2, .ref a3, .ref a4, .ref a5, .long mult, .int (nI nx)]))] ksz) := by
  refine met_g (QI D (fun (r : Int32) (_ : Unit) => r = (nI (hadr o))) (fun (_ : Unit) => [(h0, .inr (3, [.ref a1, .ref a2, .ref a3, .ref a4, .ref a5, .long mult, .int (nI nx)]))])) cX3_highAddress 2 (some .int) (by decide) rfl (Nat.le_of_ble_eq_true rfl) ?_
  intro p e s m below meth c A ls hx hb hr hts hown hlocks hml hin hA hP hK hD hE hS hl hsz
  clear hsz
  have hl : lv_has ls 2 [(0, .ref h0), (1, .int (nI o))] := hl
  refine lv_iload_n hx hb dX3_highAddress_0 rfl (lv_at hl 1 rfl) ?_
  refine pN_i (As := [.int (nI o)]) (rest := []) ⟨hx, hb, hml, hown, hts⟩ (kX9_isLongOrder l Z o (by first | assumption | omega)) ⟨va_cnB 1 hts gX3_highAddress_X9_isLongOrder_n131 rfl rfl rfl (nm_X3_131 hE) (hts (.initialized RX9) (by decide +kernel)) (by decide +kernel) ⟨Nat.le_of_ble_eq_true rfl, Nat.le_of_ble_eq_true rfl⟩, (hts (.static yX9_isLongOrder) (by decide +kernel)), trivial⟩ hK hE hP hD hS hA hl.1 rfl rfl (Nat.le_of_ble_eq_true rfl) dX3_highAddress_1 ⟨Nat.le_of_ble_eq_true rfl, Nat.le_of_ble_eq_true rfl⟩ (fun H locs hP hS => ?_)
  refine lv_if_eq (tgt := 16) hx hb dX3_highAddress_4 (by decide) (fun c_4 => ?_) (fun c_4 => ?_)
  · skip
    have c_4 := bI_f c_4
    have c_4 := of_decide_eq_false c_4
    refine lv_iload_n hx hb dX3_highAddress_16 rfl (lv_at hl 1 rfl) ?_
    refine pN_i (As := [.int (nI o)]) (rest := []) ⟨hx, hb, hml, hown, hts⟩ (kX9_addressOf l Z o (by first | assumption | omega)) ⟨va_cnB 1 hts gX3_highAddress_X9_addressOf_n79 rfl rfl rfl (nm_X3_79 hE) (hts (.initialized RX9) (by decide +kernel)) (by decide +kernel) ⟨Nat.le_of_ble_eq_true rfl, Nat.le_of_ble_eq_true rfl⟩, (hts (.static yX9_addressOf) (by decide +kernel)), trivial⟩ hK hE hP hD hS hA hl.1 rfl rfl (Nat.le_of_ble_eq_true rfl) dX3_highAddress_17 ⟨Nat.le_of_ble_eq_true rfl, Nat.le_of_ble_eq_true rfl⟩ (fun H locs hP hS => ?_)
    exact ret_i hx hb hr hlocks () (by simp [hadr, *]) (hP.sub [0] rfl) (hD.sub [0] (by decide) rfl) hS dX3_highAddress_20
  · skip
    have c_4 := bI_t c_4
    have c_4 := of_decide_eq_true c_4
    refine lv_iload_n hx hb dX3_highAddress_7 rfl (lv_at hl 1 rfl) ?_
    refine pN_i (As := [.int (nI o)]) (rest := []) ⟨hx, hb, hml, hown, hts⟩ (kX9_addressOf l Z o (by first | assumption | omega)) ⟨va_cnB 1 hts gX3_highAddress_X9_addressOf_n79 rfl rfl rfl (nm_X3_79 hE) (hts (.initialized RX9) (by decide +kernel)) (by decide +kernel) ⟨Nat.le_of_ble_eq_true rfl, Nat.le_of_ble_eq_true rfl⟩, (hts (.static yX9_addressOf) (by decide +kernel)), trivial⟩ hK hE hP hD hS hA hl.1 rfl rfl (Nat.le_of_ble_eq_true rfl) dX3_highAddress_8 ⟨Nat.le_of_ble_eq_true rfl, Nat.le_of_ble_eq_true rfl⟩ (fun H locs hP hS => ?_)
    refine lv_iconst (v := 1) hx hb dX3_highAddress_11 (by decide) ?_
    refine lv_ior hx hb dX3_highAddress_12 ?_
    refine set_i (y := nI (o / 2 % 256 / 2 * 2 + 1)) (e_or1 _ (by omega)) ?_
    refine lv_goto (tgt := 20) hx hb dX3_highAddress_13 (by decide) ?_
    exact ret_i hx hb hr hlocks () (by simp [hadr, *]) (hP.sub [0] rfl) (hD.sub [0] (by decide) rfl) hS dX3_highAddress_20

set_option maxHeartbeats 4000000 in
set_option maxRecDepth 100000 in
theorem kX3_operand (l : Launch) (D : va_G) (Z : SZ) (cB cI cJ cZ : ClassId) (ksz : Nat) (h0 : Nat) (a1 : Nat) (a2 : Nat) (a3 : Nat) (a4 : Nat) (a5 : Nat) (a6 : Nat) (a7 : Nat) (w : Nat → Int32) (mid : Nat → Int32) (mult : Int64) (nx : Nat) (o : Nat) (ho : o < 131072) : Met l yX3_operand wsX3_operand { frames := 2, cells := 0, slots := 0, locals := 46 } (PR D Z [(cB, .byte), (cI, .int), (cJ, .long), (cZ, .boolean)] [.ref h0, .int (nI o)] [(h0, .inr (3, [.ref a1, .ref a2, .ref a3, .ref a4, .ref a5, .long mult, .int (nI nx)])), (a1, .inr (5, [.ref a6, .ref a7])), (a6, .inl (cI, 256, .inl w)), (a7, .inl (cI, 128, .inl mid))] ksz) (QL D (fun (r : Int64) (_ : Unit) => r = (opd w mid o)) (fun (_ : Unit) => [(h0, .inr (3, [.ref a1, .ref a2, .ref a3, .ref a4, .ref a5, .long mult, .int (nI nx)])), (a1, .inr (5, [.ref a6, .ref a7])), (a6, .inl (cI, 256, .inl w)), (a7, .inl (cI, 128, .inl mid))]) (va_A [(h0, .inr (3, [.ref a1, .ref a2, .ref a3, .ref a4, .ref a5, .long mult, .int (nI nx)])), (a1, .inr (5, [.ref a6, .ref a7])), (a6, .inl (cI, 256, .inl w)), (a7, .inl (cI, 128, .inl mid))] ksz)) 0 0 (va_A [(h0, .inr (3, [.ref a1, .ref a2, .ref a3, .ref a4, .ref a5, .long mult, .int (nI nx)])), (a1, .inr (5, [.ref a6, .ref a7])), (a6, .inl (cI, 256, .inl w)), (a7, .inl (cI, 128, .inl mid))] ksz) := by
  refine met_g (QL D (fun (r : Int64) (_ : Unit) => r = (opd w mid o)) (fun (_ : Unit) => [(h0, .inr (3, [.ref a1, .ref a2, .ref a3, .ref a4, .ref a5, .long mult, .int (nI nx)])), (a1, .inr (5, [.ref a6, .ref a7])), (a6, .inl (cI, 256, .inl w)), (a7, .inl (cI, 128, .inl mid))])) cX3_operand 3 (some .long) (by decide) rfl (Nat.le_of_ble_eq_true rfl) ?_
  intro p e s m below meth c A ls hx hb hr hts hown hlocks hml hin hA hP hK hD hE hS hl hsz
  clear hsz
  have hl : lv_has ls 3 [(0, .ref h0), (1, .int (nI o))] := hl
  refine lv_iload_n hx hb dX3_operand_0 rfl (lv_at hl 1 rfl) ?_
  refine pN_i (As := [.int (nI o)]) (rest := []) ⟨hx, hb, hml, hown, hts⟩ (kX9_addressOf l Z o (by first | assumption | omega)) ⟨va_cnB 1 hts gX3_operand_X9_addressOf_n79 rfl rfl rfl (nm_X3_79 hE) (hts (.initialized RX9) (by decide +kernel)) (by decide +kernel) ⟨Nat.le_of_ble_eq_true rfl, Nat.le_of_ble_eq_true rfl⟩, (hts (.static yX9_addressOf) (by decide +kernel)), trivial⟩ hK hE hP hD hS hA hl.1 rfl rfl (Nat.le_of_ble_eq_true rfl) dX3_operand_1 ⟨Nat.le_of_ble_eq_true rfl, Nat.le_of_ble_eq_true rfl⟩ (fun H locs hP hS => ?_)
  refine lv_istore_n (lv' := [(2, .int (nI (o / 2 % 256))), (0, .ref h0), (1, .int (nI o))]) hx hb dX3_operand_4 rfl hl (by decide) rfl (fun ls hl => ?_)
  refine lv_iload_n hx hb dX3_operand_5 rfl (lv_at hl 2 rfl) ?_
  refine pN_i (As := [.int (nI o)]) (rest := []) ⟨hx, hb, hml, hown, hts⟩ (kX9_isLongOrder l Z o (by first | assumption | omega)) ⟨va_cnB 1 hts gX3_operand_X9_isLongOrder_n131 rfl rfl rfl (nm_X3_131 hE) (hts (.initialized RX9) (by decide +kernel)) (by decide +kernel) ⟨Nat.le_of_ble_eq_true rfl, Nat.le_of_ble_eq_true rfl⟩, (hts (.static yX9_isLongOrder) (by decide +kernel)), trivial⟩ hK hE hP hD hS hA hl.1 rfl rfl (Nat.le_of_ble_eq_true rfl) dX3_operand_6 ⟨Nat.le_of_ble_eq_true rfl, Nat.le_of_ble_eq_true rfl⟩ (fun H locs hP hS => ?_)
  refine lv_if_eq (tgt := 23) hx hb dX3_operand_9 (by decide) (fun c_9 => ?_) (fun c_9 => ?_)
  · skip
    have c_9 := bI_f c_9
    have c_9 := of_decide_eq_false c_9
    refine lv_aload_n hx hb dX3_operand_23 rfl (lv_at hl 1 rfl) ?_
    refine va_get (D := D) (ci := 3) (v := .ref a1) (C := RX3) (T := TX3) (N := 7) hx hb hts (by decide +kernel) hown hK hP 0 rfl rfl 0 (by decide) (hts (.fieldLink RX3 12 "TapeEngine$Machine" "memory" "LTapeEngine$Memory;") (by decide +kernel)) (fun _ h9 => h9) rfl dX3_operand_24 ?_
    refine lv_iload_n hx hb dX3_operand_27 rfl (lv_at hl 0 rfl) ?_
    refine kV_i (As := [.int (nI (o / 2 % 256))]) (rest := []) (wr := [(h0, .inr (3, [.ref a1, .ref a2, .ref a3, .ref a4, .ref a5, .long mult, .int (nI nx)])), (a7, .inl (cI, 128, .inl mid))]) ⟨hx, hb, hml, hown, hts⟩ (kX5_shortAt l D Z cB cI cJ cZ H.size a1 a6 a7 w (o / 2 % 256) (by first | assumption | omega)) (cwV 1 hts gX3_operand_X5_shortAt rfl rfl rfl (by decide +kernel) ⟨Nat.le_of_ble_eq_true rfl, Nat.le_of_ble_eq_true rfl⟩) hK hE hP hD hS hA 0 5 rfl rfl rfl [1, 2] [0, 3] rfl rfl rfl rfl rfl (by decide) hl.1 rfl rfl (Nat.le_of_ble_eq_true rfl) dX3_operand_28 ⟨Nat.le_of_ble_eq_true rfl, Nat.le_of_ble_eq_true rfl⟩ (fun r u H locs hp hP hD hS => ?_)
    try dsimp only at hp
    have hq_0 := hp
    have hq_0 := hq_0.symm
    subst hq_0
    have hP : va_P D vwCl [(h0, .inr (3, [.ref a1, .ref a2, .ref a3, .ref a4, .ref a5, .long mult, .int (nI nx)])), (a7, .inl (cI, 128, .inl mid)), (a1, .inr (5, [.ref a6, .ref a7])), (a6, .inl (cI, 256, .inl w))] H := hP
    have hD : va_D A [(h0, .inr (3, [.ref a1, .ref a2, .ref a3, .ref a4, .ref a5, .long mult, .int (nI nx)])), (a7, .inl (cI, 128, .inl mid)), (a1, .inr (5, [.ref a6, .ref a7])), (a6, .inl (cI, 256, .inl w))] := hD
    refine lv_i2l hx hb dX3_operand_31 rfl ?_
    refine lv_bipush (v := 18) hx hb dX3_operand_32 (by decide) ?_
    refine lv_lshl hx hb dX3_operand_34 rfl ?_
    refine pN_l (As := [.long ((w (o / 2 % 256)).toInt64 <<< ((18 : Int32).toInt64 &&& 63))]) (rest := []) ⟨hx, hb, hml, hown, hts⟩ (kX9_signedLong l Z ((w (o / 2 % 256)).toInt64 <<< ((18 : Int32).toInt64 &&& 63)) ) ⟨va_cnB 1 hts gX3_operand_X9_signedLong_n137 rfl rfl rfl (nm_X3_137 hE) (hts (.initialized RX9) (by decide +kernel)) (by decide +kernel) ⟨Nat.le_of_ble_eq_true rfl, Nat.le_of_ble_eq_true rfl⟩, (hts (.static yX9_signedLong) (by decide +kernel)), trivial⟩ hK hE hP hD hS hA hl.1 rfl rfl (Nat.le_of_ble_eq_true rfl) dX3_operand_35 ⟨Nat.le_of_ble_eq_true rfl, Nat.le_of_ble_eq_true rfl⟩ (fun H locs hP hS => ?_)
    exact ret_l hx hb hr hlocks () (by simp [opd, *]) (hP.sub [0, 2, 3, 1] rfl) (hD.sub [0, 2, 3, 1] (by decide) rfl) hS dX3_operand_38
  · skip
    have c_9 := bI_t c_9
    have c_9 := of_decide_eq_true c_9
    refine lv_aload_n hx hb dX3_operand_12 rfl (lv_at hl 1 rfl) ?_
    refine va_get (D := D) (ci := 3) (v := .ref a1) (C := RX3) (T := TX3) (N := 7) hx hb hts (by decide +kernel) hown hK hP 0 rfl rfl 0 (by decide) (hts (.fieldLink RX3 12 "TapeEngine$Machine" "memory" "LTapeEngine$Memory;") (by decide +kernel)) (fun _ h9 => h9) rfl dX3_operand_13 ?_
    refine lv_iload_n hx hb dX3_operand_16 rfl (lv_at hl 0 rfl) ?_
    refine kV_l (As := [.int (nI (o / 2 % 256))]) (rest := []) (wr := [(h0, .inr (3, [.ref a1, .ref a2, .ref a3, .ref a4, .ref a5, .long mult, .int (nI nx)]))]) ⟨hx, hb, hml, hown, hts⟩ (kX5_longAt l D Z cB cI cJ cZ H.size a1 a6 a7 w mid (o / 2 % 256) (by first | assumption | omega)) (cwV 1 hts gX3_operand_X5_longAt rfl rfl rfl (by decide +kernel) ⟨Nat.le_of_ble_eq_true rfl, Nat.le_of_ble_eq_true rfl⟩) hK hE hP hD hS hA 0 5 rfl rfl rfl [1, 2, 3] [0] rfl rfl rfl rfl rfl (by decide) hl.1 rfl rfl (Nat.le_of_ble_eq_true rfl) dX3_operand_17 ⟨Nat.le_of_ble_eq_true rfl, Nat.le_of_ble_eq_true rfl⟩ (fun r u H locs hp hP hD hS => ?_)
    try dsimp only at hp
    have hq_0 := hp
    have hq_0 := hq_0.symm
    subst hq_0
    have hP : va_P D vwCl [(h0, .inr (3, [.ref a1, .ref a2, .ref a3, .ref a4, .ref a5, .long mult, .int (nI nx)])), (a1, .inr (5, [.ref a6, .ref a7])), (a6, .inl (cI, 256, .inl w)), (a7, .inl (cI, 128, .inl mid))] H := hP
    have hD : va_D A [(h0, .inr (3, [.ref a1, .ref a2, .ref a3, .ref a4, .ref a5, .long mult, .int (nI nx)])), (a1, .inr (5, [.ref a6, .ref a7])), (a6, .inl (cI, 256, .inl w)), (a7, .inl (cI, 128, .inl mid))] := hD
    refine lv_goto (tgt := 35) hx hb dX3_operand_20 (by decide) ?_
    refine pN_l (As := [.long (lwd w mid (o / 2 % 256))]) (rest := []) ⟨hx, hb, hml, hown, hts⟩ (kX9_signedLong l Z (lwd w mid (o / 2 % 256)) ) ⟨va_cnB 1 hts gX3_operand_X9_signedLong_n137 rfl rfl rfl (nm_X3_137 hE) (hts (.initialized RX9) (by decide +kernel)) (by decide +kernel) ⟨Nat.le_of_ble_eq_true rfl, Nat.le_of_ble_eq_true rfl⟩, (hts (.static yX9_signedLong) (by decide +kernel)), trivial⟩ hK hE hP hD hS hA hl.1 rfl rfl (Nat.le_of_ble_eq_true rfl) dX3_operand_35 ⟨Nat.le_of_ble_eq_true rfl, Nat.le_of_ble_eq_true rfl⟩ (fun H locs hP hS => ?_)
    exact ret_l hx hb hr hlocks () (by simp [opd, *]) (hP.sub [0, 1, 2, 3] rfl) (hD.sub [0, 1, 2, 3] (by decide) rfl) hS dX3_operand_38

set_option maxHeartbeats 4000000 in
set_option maxRecDepth 100000 in
theorem kX3_shiftOf (l : Launch) (D : va_G) (Z : SZ) (cB cI cJ cZ : ClassId) (ksz : Nat) (h0 : Nat) (a1 : Nat) (a2 : Nat) (a3 : Nat) (a4 : Nat) (a5 : Nat) (mult : Int64) (nx : Nat) (o : Nat) (ho : o < 131072) : Met l yX3_shiftOf wsX3_shiftOf { frames := 0, cells := 0, slots := 0, locals := 0 } (PR D Z [(cB, .byte), (cI, .int), (cJ, .long), (cZ, .boolean)] [.ref h0, .int (nI o)] [(h0, .inr (3, [.ref a1, .ref a2, .ref a3, .ref a4, .ref a5, .long mult, .int (nI nx)]))] ksz) (QI D (fun (r : Int32) (_ : Unit) => r = (shp o)) (fun (_ : Unit) => [(h0, .inr (3, [.ref a1, .ref a2, .ref a3, .ref a4, .ref a5, .long mult, .int (nI nx)]))]) (va_A [(h0, .inr (3, [.ref a1, .ref a2, .ref a3, .ref a4, .ref a5, .long mult, .int (nI nx)]))] ksz)) 0 0 (va_A [(h0, .inr (3, [.ref a1, .ref a2, .ref a3, .ref a4, .ref a5, .long mult, .int (nI nx)]))] ksz) := by
  refine met_g (QI D (fun (r : Int32) (_ : Unit) => r = (shp o)) (fun (_ : Unit) => [(h0, .inr (3, [.ref a1, .ref a2, .ref a3, .ref a4, .ref a5, .long mult, .int (nI nx)]))])) cX3_shiftOf 3 (some .int) (by decide) rfl (Nat.le_of_ble_eq_true rfl) ?_
  intro p e s m below meth c A ls hx hb hr hts hown hlocks hml hin hA hP hK hD hE hS hl hsz
  clear hsz
  have hl : lv_has ls 3 [(0, .ref h0), (1, .int (nI o))] := hl
  have lp_2 : ∀ (n_2 : Nat) (i : Nat) (H : Heap) (locs : List Loc) (ls : Array Slot), (i ≤ 16) → (∀ k : Nat, k < i → ¬ o / 2 ^ k % 2 = 1) → (16 - i) < n_2 → va_P D vwCl [(h0, .inr (3, [.ref a1, .ref a2, .ref a3, .ref a4, .ref a5, .long mult, .int (nI nx)]))] H → va_D A [(h0, .inr (3, [.ref a1, .ref a2, .ref a3, .ref a4, .ref a5, .long mult, .int (nI nx)]))] → va_S A s.heap H locs → lv_has ls 3 [(0, .ref h0), (1, .int (nI o)), (2, .int (nI i))] → W p l e { frames := 0, cells := 0, slots := 0, locals := 0 } s m ([.ref h0, .int (nI o)] : List Value).toArray below meth c H locs 0 0 (MQ below (QI D (fun (r : Int32) (_ : Unit) => r = (shp o)) (fun (_ : Unit) => [(h0, .inr (3, [.ref a1, .ref a2, .ref a3, .ref a4, .ref a5, .long mult, .int (nI nx)]))]) A) ([.ref h0, .int (nI o)] : List Value).toArray s 0 0 A) (F0 m 2 ls []) := by
    intro n_2
    induction n_2 with
    | zero => intro i H locs ls h1 h2 hm_2; exact absurd hm_2 (Nat.not_lt_zero _)
    | succ n_2 ih_2 =>
      intro i H locs ls h1 h2 hm_2 hP hD hS hl
      refine lv_iload_n hx hb dX3_shiftOf_2 rfl (lv_at hl 2 rfl) ?_
      refine lv_bipush (v := (nI 16)) hx hb dX3_shiftOf_3 (by decide) ?_
      refine lv_icmp_ge (tgt := 22) hx hb dX3_shiftOf_5 (by decide) (fun c_5 => ?_) (fun c_5 => ?_)
      · skip
        have c_5 : 16 ≤ i := (nI_leI (a := 16) (b := i) (by omega) (by omega)).mp c_5
        refine lv_iload_n hx hb dX3_shiftOf_22 rfl (lv_at hl 2 rfl) ?_
        refine lv_iconst (v := 1) hx hb dX3_shiftOf_23 (by decide) ?_
        refine lv_iadd hx hb dX3_shiftOf_24 ?_
        refine set_i (y := nI (i + 1)) (nI_1 i) ?_
        exact ret_i hx hb hr hlocks () (by first | (rw [shp, ftz_hit h2 (by omega) 16 (by omega)]) | (rw [shp, ftz_no (n := 16) (fun k hk => h2 k (by omega))]; congr 1; omega)) (hP.sub [0] rfl) (hD.sub [0] (by decide) rfl) hS dX3_shiftOf_25
      · skip
        have c_5 : ¬ 16 ≤ i := fun z => c_5 ((nI_leI (a := 16) (b := i) (by omega) (by omega)).mpr z)
        refine lv_iload_n hx hb dX3_shiftOf_8 rfl (lv_at hl 1 rfl) ?_
        refine lv_iload_n hx hb dX3_shiftOf_9 rfl (lv_at hl 2 rfl) ?_
        refine lv_ishr hx hb dX3_shiftOf_10 ?_
        refine lv_iconst (v := 1) hx hb dX3_shiftOf_11 (by decide) ?_
        refine lv_iand hx hb dX3_shiftOf_12 ?_
        refine set_i (y := nI (o / 2 ^ i % 2)) (e_sbit ho (by omega)) ?_
        refine lv_if_ne (tgt := 22) hx hb dX3_shiftOf_13 (by decide) (fun c_13 => ?_) (fun c_13 => ?_)
        · skip
          have c_13 : ¬ (o / 2 ^ i % 2) = 0 := fun z => c_13 ((nI_eq (a := (o / 2 ^ i % 2)) (b := 0) (by omega) (by omega)).mpr z)
          refine lv_iload_n hx hb dX3_shiftOf_22 rfl (lv_at hl 2 rfl) ?_
          refine lv_iconst (v := 1) hx hb dX3_shiftOf_23 (by decide) ?_
          refine lv_iadd hx hb dX3_shiftOf_24 ?_
          refine set_i (y := nI (i + 1)) (nI_1 i) ?_
          exact ret_i hx hb hr hlocks () (by first | (rw [shp, ftz_hit h2 (by omega) 16 (by omega)]) | (rw [shp, ftz_no (n := 16) (fun k hk => h2 k (by omega))]; congr 1; omega)) (hP.sub [0] rfl) (hD.sub [0] (by decide) rfl) hS dX3_shiftOf_25
        · skip
          have c_13 : (o / 2 ^ i % 2) = 0 := (nI_eq (a := (o / 2 ^ i % 2)) (b := 0) (by omega) (by omega)).mp c_13
          refine lv_iinc (v := (nI (i + 1))) (lv' := [(2, .int (nI (i + 1))), (0, .ref h0), (1, .int (nI o))]) hx hb dX3_shiftOf_16 hl (k := 2) rfl (nI_1 _) (by decide) rfl (fun ls hl => ?_)
          refine lv_goto (tgt := 2) hx hb dX3_shiftOf_19 (by decide) ?_
          exact ih_2 (i + 1) _ _ _ (by first | assumption | omega) (fun k hk => (Nat.lt_or_eq_of_le (Nat.le_of_lt_succ hk)).elim (h2 k) (fun q => by rw [q]; omega)) (by omega) (hP.sub [0] rfl) (hD.sub [0] (by decide) rfl) hS (lv_sub hl [1, 2, 0] rfl)
  refine lv_iconst (v := (nI 0)) hx hb dX3_shiftOf_0 (by decide) ?_
  refine lv_istore_n (lv' := [(2, .int (nI 0)), (0, .ref h0), (1, .int (nI o))]) hx hb dX3_shiftOf_1 rfl hl (by decide) rfl (fun ls hl => ?_)
  exact lp_2 _ 0 _ _ _ (by first | assumption | omega) (fun k hk => absurd hk (Nat.not_lt_zero _)) (Nat.lt_succ_self _) (hP.sub [0] rfl) (hD.sub [0] (by decide) rfl) hS (lv_sub hl [1, 2, 0] rfl)

set_option maxHeartbeats 4000000 in
set_option maxRecDepth 100000 in
theorem kX3_layWord (l : Launch) (D : va_G) (Z : SZ) (cB cI cJ cZ : ClassId) (ksz : Nat) (h0 : Nat) (a1 : Nat) (a2 : Nat) (a3 : Nat) (a4 : Nat) (a5 : Nat) (a6 : Nat) (a7 : Nat) (w : Nat → Int32) (mid : Nat → Int32) (mult : Int64) (nx : Nat) (o : Nat) (x : Int64) (ho : o < 131072) : Met l yX3_layWord wsX3_layWord { frames := 2, cells := 0, slots := 0, locals := 45 } (PR D Z [(cB, .byte), (cI, .int), (cJ, .long), (cZ, .boolean)] [.ref h0, .int (nI o), .long x] [(h0, .inr (3, [.ref a1, .ref a2, .ref a3, .ref a4, .ref a5, .long mult, .int (nI nx)])), (a1, .inr (5, [.ref a6, .ref a7])), (a6, .inl (cI, 256, .inl w)), (a7, .inl (cI, 128, .inl mid))] ksz) (QV D (fun (u : (Nat → Int32) × (Nat → Int32)) => u.1 = (lwW w o x) ∧ u.2 = (lwM mid o x)) (fun (u : (Nat → Int32) × (Nat → Int32)) => [(h0, .inr (3, [.ref a1, .ref a2, .ref a3, .ref a4, .ref a5, .long mult, .int (nI nx)])), (a1, .inr (5, [.ref a6, .ref a7])), (a6, .inl (cI, 256, .inl u.1)), (a7, .inl (cI, 128, .inl u.2))]) (va_A [(h0, .inr (3, [.ref a1, .ref a2, .ref a3, .ref a4, .ref a5, .long mult, .int (nI nx)])), (a1, .inr (5, [.ref a6, .ref a7])), (a6, .inl (cI, 256, .inl w)), (a7, .inl (cI, 128, .inl mid))] ksz)) 0 0 (va_A [(h0, .inr (3, [.ref a1, .ref a2, .ref a3, .ref a4, .ref a5, .long mult, .int (nI nx)])), (a1, .inr (5, [.ref a6, .ref a7])), (a6, .inl (cI, 256, .inl w)), (a7, .inl (cI, 128, .inl mid))] ksz) := by
  refine met_g (QV D (fun (u : (Nat → Int32) × (Nat → Int32)) => u.1 = (lwW w o x) ∧ u.2 = (lwM mid o x)) (fun (u : (Nat → Int32) × (Nat → Int32)) => [(h0, .inr (3, [.ref a1, .ref a2, .ref a3, .ref a4, .ref a5, .long mult, .int (nI nx)])), (a1, .inr (5, [.ref a6, .ref a7])), (a6, .inl (cI, 256, .inl u.1)), (a7, .inl (cI, 128, .inl u.2))])) cX3_layWord 4 none (by decide) rfl (Nat.le_of_ble_eq_true rfl) ?_
  intro p e s m below meth c A ls hx hb hr hts hown hlocks hml hin hA hP hK hD hE hS hl hsz
  clear hsz
  have hl : lv_has ls 4 [(0, .ref h0), (1, .int (nI o)), (2, .long x)] := hl
  refine lv_iload_n hx hb dX3_layWord_0 rfl (lv_at hl 1 rfl) ?_
  refine pN_i (As := [.int (nI o)]) (rest := []) ⟨hx, hb, hml, hown, hts⟩ (kX9_isLongOrder l Z o (by first | assumption | omega)) ⟨va_cnB 1 hts gX3_layWord_X9_isLongOrder_n131 rfl rfl rfl (nm_X3_131 hE) (hts (.initialized RX9) (by decide +kernel)) (by decide +kernel) ⟨Nat.le_of_ble_eq_true rfl, Nat.le_of_ble_eq_true rfl⟩, (hts (.static yX9_isLongOrder) (by decide +kernel)), trivial⟩ hK hE hP hD hS hA hl.1 rfl rfl (Nat.le_of_ble_eq_true rfl) dX3_layWord_1 ⟨Nat.le_of_ble_eq_true rfl, Nat.le_of_ble_eq_true rfl⟩ (fun H locs hP hS => ?_)
  refine lv_if_eq (tgt := 22) hx hb dX3_layWord_4 (by decide) (fun c_4 => ?_) (fun c_4 => ?_)
  · skip
    have c_4 := bI_f c_4
    have c_4 := of_decide_eq_false c_4
    refine lv_aload_n hx hb dX3_layWord_22 rfl (lv_at hl 0 rfl) ?_
    refine va_get (D := D) (ci := 3) (v := .ref a1) (C := RX3) (T := TX3) (N := 7) hx hb hts (by decide +kernel) hown hK hP 0 rfl rfl 0 (by decide) (hts (.fieldLink RX3 12 "TapeEngine$Machine" "memory" "LTapeEngine$Memory;") (by decide +kernel)) (fun _ h9 => h9) rfl dX3_layWord_23 ?_
    refine lv_iload_n hx hb dX3_layWord_26 rfl (lv_at hl 1 rfl) ?_
    refine pN_i (As := [.int (nI o)]) (rest := [.ref a1]) ⟨hx, hb, hml, hown, hts⟩ (kX9_addressOf l Z o (by first | assumption | omega)) ⟨va_cnB 1 hts gX3_layWord_X9_addressOf_n79 rfl rfl rfl (nm_X3_79 hE) (hts (.initialized RX9) (by decide +kernel)) (by decide +kernel) ⟨Nat.le_of_ble_eq_true rfl, Nat.le_of_ble_eq_true rfl⟩, (hts (.static yX9_addressOf) (by decide +kernel)), trivial⟩ hK hE hP hD hS hA hl.1 rfl rfl (Nat.le_of_ble_eq_true rfl) dX3_layWord_27 ⟨Nat.le_of_ble_eq_true rfl, Nat.le_of_ble_eq_true rfl⟩ (fun H locs hP hS => ?_)
    refine lv_lload_n hx hb dX3_layWord_30 rfl (lv_at hl 2 rfl) ?_
    refine lv_l2i hx hb dX3_layWord_31 rfl ?_
    refine kV_v (As := [.int (nI (o / 2 % 256)), .int x.toInt32]) (rest := []) (wr := [(h0, .inr (3, [.ref a1, .ref a2, .ref a3, .ref a4, .ref a5, .long mult, .int (nI nx)])), (a7, .inl (cI, 128, .inl mid))]) ⟨hx, hb, hml, hown, hts⟩ (kX5_layShort l D Z cB cI cJ cZ H.size a1 a6 a7 w (o / 2 % 256) x.toInt32 (by first | assumption | omega)) (cwV 2 hts gX3_layWord_X5_layShort rfl rfl rfl (by decide +kernel) ⟨Nat.le_of_ble_eq_true rfl, Nat.le_of_ble_eq_true rfl⟩) hK hE hP hD hS hA 0 5 rfl rfl rfl [1, 2] [0, 3] rfl rfl rfl rfl rfl (by decide) hl.1 rfl rfl (Nat.le_of_ble_eq_true rfl) dX3_layWord_32 ⟨Nat.le_of_ble_eq_true rfl, Nat.le_of_ble_eq_true rfl⟩ (fun u H locs hp hP hD hS => ?_)
    obtain ⟨v_1, rfl⟩ : ∃ z, z = u := ⟨_, rfl⟩
    try dsimp only at hp
    have hq_0 := hp
    have hq_0 := hq_0.symm
    subst hq_0
    have hP : va_P D vwCl [(h0, .inr (3, [.ref a1, .ref a2, .ref a3, .ref a4, .ref a5, .long mult, .int (nI nx)])), (a7, .inl (cI, 128, .inl mid)), (a1, .inr (5, [.ref a6, .ref a7])), (a6, .inl (cI, 256, .inl (upd w (o / 2 % 256) (x.toInt32 &&& 131071))))] H := hP
    have hD : va_D A [(h0, .inr (3, [.ref a1, .ref a2, .ref a3, .ref a4, .ref a5, .long mult, .int (nI nx)])), (a7, .inl (cI, 128, .inl mid)), (a1, .inr (5, [.ref a6, .ref a7])), (a6, .inl (cI, 256, .inl (upd w (o / 2 % 256) (x.toInt32 &&& 131071))))] := hD
    exact ret_v hx hb hr hlocks ((upd w (o / 2 % 256) (x.toInt32 &&& 131071)), mid) ⟨(by simp [lwW, *]), (by simp [lwM, *])⟩ (hP.sub [0, 2, 3, 1] rfl) (hD.sub [0, 2, 3, 1] (by decide) rfl) hS dX3_layWord_35
  · skip
    have c_4 := bI_t c_4
    have c_4 := of_decide_eq_true c_4
    refine lv_aload_n hx hb dX3_layWord_7 rfl (lv_at hl 0 rfl) ?_
    refine va_get (D := D) (ci := 3) (v := .ref a1) (C := RX3) (T := TX3) (N := 7) hx hb hts (by decide +kernel) hown hK hP 0 rfl rfl 0 (by decide) (hts (.fieldLink RX3 12 "TapeEngine$Machine" "memory" "LTapeEngine$Memory;") (by decide +kernel)) (fun _ h9 => h9) rfl dX3_layWord_8 ?_
    refine lv_iload_n hx hb dX3_layWord_11 rfl (lv_at hl 1 rfl) ?_
    refine pN_i (As := [.int (nI o)]) (rest := [.ref a1]) ⟨hx, hb, hml, hown, hts⟩ (kX9_addressOf l Z o (by first | assumption | omega)) ⟨va_cnB 1 hts gX3_layWord_X9_addressOf_n79 rfl rfl rfl (nm_X3_79 hE) (hts (.initialized RX9) (by decide +kernel)) (by decide +kernel) ⟨Nat.le_of_ble_eq_true rfl, Nat.le_of_ble_eq_true rfl⟩, (hts (.static yX9_addressOf) (by decide +kernel)), trivial⟩ hK hE hP hD hS hA hl.1 rfl rfl (Nat.le_of_ble_eq_true rfl) dX3_layWord_12 ⟨Nat.le_of_ble_eq_true rfl, Nat.le_of_ble_eq_true rfl⟩ (fun H locs hP hS => ?_)
    refine lv_lload_n hx hb dX3_layWord_15 rfl (lv_at hl 2 rfl) ?_
    refine kV_v (As := [.int (nI (o / 2 % 256)), .long x]) (rest := []) (wr := [(h0, .inr (3, [.ref a1, .ref a2, .ref a3, .ref a4, .ref a5, .long mult, .int (nI nx)]))]) ⟨hx, hb, hml, hown, hts⟩ (kX5_layLong l D Z cB cI cJ cZ H.size a1 a6 a7 w mid (o / 2 % 256) x (by first | assumption | omega)) (cwV 2 hts gX3_layWord_X5_layLong rfl rfl rfl (by decide +kernel) ⟨Nat.le_of_ble_eq_true rfl, Nat.le_of_ble_eq_true rfl⟩) hK hE hP hD hS hA 0 5 rfl rfl rfl [1, 2, 3] [0] rfl rfl rfl rfl rfl (by decide) hl.1 rfl rfl (Nat.le_of_ble_eq_true rfl) dX3_layWord_16 ⟨Nat.le_of_ble_eq_true rfl, Nat.le_of_ble_eq_true rfl⟩ (fun u H locs hp hP hD hS => ?_)
    obtain ⟨v_2, v_3⟩ := u
    try dsimp only at hp
    obtain ⟨hq_0, hq_1⟩ := hp
    have hq_0 := hq_0.symm
    subst hq_0
    have hq_1 := hq_1.symm
    subst hq_1
    have hP : va_P D vwCl [(h0, .inr (3, [.ref a1, .ref a2, .ref a3, .ref a4, .ref a5, .long mult, .int (nI nx)])), (a1, .inr (5, [.ref a6, .ref a7])), (a6, .inl (cI, 256, .inl (llW w (o / 2 % 256) x))), (a7, .inl (cI, 128, .inl (llM mid (o / 2 % 256) x)))] H := hP
    have hD : va_D A [(h0, .inr (3, [.ref a1, .ref a2, .ref a3, .ref a4, .ref a5, .long mult, .int (nI nx)])), (a1, .inr (5, [.ref a6, .ref a7])), (a6, .inl (cI, 256, .inl (llW w (o / 2 % 256) x))), (a7, .inl (cI, 128, .inl (llM mid (o / 2 % 256) x)))] := hD
    refine lv_goto (tgt := 35) hx hb dX3_layWord_19 (by decide) ?_
    exact ret_v hx hb hr hlocks ((llW w (o / 2 % 256) x), (llM mid (o / 2 % 256) x)) ⟨(by simp [lwW, *]), (by simp [lwM, *])⟩ (hP.sub [0, 1, 2, 3] rfl) (hD.sub [0, 1, 2, 3] (by decide) rfl) hS dX3_layWord_35

set_option maxHeartbeats 4000000 in
set_option maxRecDepth 100000 in
theorem kX3_layHighest (l : Launch) (D : va_G) (Z : SZ) (cB cI cJ cZ : ClassId) (ksz : Nat) (h0 : Nat) (a1 : Nat) (a2 : Nat) (a3 : Nat) (a4 : Nat) (a5 : Nat) (a6 : Nat) (a7 : Nat) (w : Nat → Int32) (mid : Nat → Int32) (mult : Int64) (hi : Int64) (lo : Int64) (nx : Nat) (o : Nat) (ho : o < 131072) : Met l yX3_layHighest wsX3_layHighest { frames := 3, cells := 0, slots := 0, locals := 68 } (PR D Z [(cB, .byte), (cI, .int), (cJ, .long), (cZ, .boolean)] [.ref h0, .int (nI o)] [(h0, .inr (3, [.ref a1, .ref a2, .ref a3, .ref a4, .ref a5, .long mult, .int (nI nx)])), (a1, .inr (5, [.ref a6, .ref a7])), (a6, .inl (cI, 256, .inl w)), (a7, .inl (cI, 128, .inl mid)), (a2, .inr (0, [.long hi, .long lo]))] ksz) (QV D (fun (u : (Nat → Int32) × (Nat → Int32)) => u.1 = (lwW w o (hbits hi o)) ∧ u.2 = (lwM mid o (hbits hi o))) (fun (u : (Nat → Int32) × (Nat → Int32)) => [(h0, .inr (3, [.ref a1, .ref a2, .ref a3, .ref a4, .ref a5, .long mult, .int (nI nx)])), (a1, .inr (5, [.ref a6, .ref a7])), (a6, .inl (cI, 256, .inl u.1)), (a7, .inl (cI, 128, .inl u.2)), (a2, .inr (0, [.long hi, .long lo]))]) (va_A [(h0, .inr (3, [.ref a1, .ref a2, .ref a3, .ref a4, .ref a5, .long mult, .int (nI nx)])), (a1, .inr (5, [.ref a6, .ref a7])), (a6, .inl (cI, 256, .inl w)), (a7, .inl (cI, 128, .inl mid)), (a2, .inr (0, [.long hi, .long lo]))] ksz)) 0 0 (va_A [(h0, .inr (3, [.ref a1, .ref a2, .ref a3, .ref a4, .ref a5, .long mult, .int (nI nx)])), (a1, .inr (5, [.ref a6, .ref a7])), (a6, .inl (cI, 256, .inl w)), (a7, .inl (cI, 128, .inl mid)), (a2, .inr (0, [.long hi, .long lo]))] ksz) := by
  refine met_g (QV D (fun (u : (Nat → Int32) × (Nat → Int32)) => u.1 = (lwW w o (hbits hi o)) ∧ u.2 = (lwM mid o (hbits hi o))) (fun (u : (Nat → Int32) × (Nat → Int32)) => [(h0, .inr (3, [.ref a1, .ref a2, .ref a3, .ref a4, .ref a5, .long mult, .int (nI nx)])), (a1, .inr (5, [.ref a6, .ref a7])), (a6, .inl (cI, 256, .inl u.1)), (a7, .inl (cI, 128, .inl u.2)), (a2, .inr (0, [.long hi, .long lo]))])) cX3_layHighest 2 none (by decide) rfl (Nat.le_of_ble_eq_true rfl) ?_
  intro p e s m below meth c A ls hx hb hr hts hown hlocks hml hin hA hP hK hD hE hS hl hsz
  clear hsz
  have hl : lv_has ls 2 [(0, .ref h0), (1, .int (nI o))] := hl
  refine lv_aload_n hx hb dX3_layHighest_0 rfl (lv_at hl 0 rfl) ?_
  refine lv_iload_n hx hb dX3_layHighest_1 rfl (lv_at hl 1 rfl) ?_
  refine lv_iload_n hx hb dX3_layHighest_2 rfl (lv_at hl 1 rfl) ?_
  refine pN_i (As := [.int (nI o)]) (rest := [.int (nI o), .ref h0]) ⟨hx, hb, hml, hown, hts⟩ (kX9_isLongOrder l Z o (by first | assumption | omega)) ⟨va_cnB 1 hts gX3_layHighest_X9_isLongOrder_n131 rfl rfl rfl (nm_X3_131 hE) (hts (.initialized RX9) (by decide +kernel)) (by decide +kernel) ⟨Nat.le_of_ble_eq_true rfl, Nat.le_of_ble_eq_true rfl⟩, (hts (.static yX9_isLongOrder) (by decide +kernel)), trivial⟩ hK hE hP hD hS hA hl.1 rfl rfl (Nat.le_of_ble_eq_true rfl) dX3_layHighest_3 ⟨Nat.le_of_ble_eq_true rfl, Nat.le_of_ble_eq_true rfl⟩ (fun H locs hP hS => ?_)
  refine lv_if_eq (tgt := 23) hx hb dX3_layHighest_6 (by decide) (fun c_6 => ?_) (fun c_6 => ?_)
  · skip
    have c_6 := bI_f c_6
    have c_6 := of_decide_eq_false c_6
    refine lv_aload_n hx hb dX3_layHighest_23 rfl (lv_at hl 0 rfl) ?_
    refine va_get (D := D) (ci := 3) (v := .ref a2) (C := RX3) (T := TX3) (N := 7) hx hb hts (by decide +kernel) hown hK hP 0 rfl rfl 1 (by decide) (hts (.fieldLink RX3 21 "TapeEngine$Machine" "ac" "LTapeEngine$Accumulator;") (by decide +kernel)) (fun _ h9 => h9) rfl dX3_layHighest_24 ?_
    refine va_getN (D := D) (ci := 0) (v := .long hi) (C := RX0) (T := TX0) (N := 2) hx hb hts (by decide +kernel) hown hK hP 4 rfl rfl 0 (by decide) (va_Nw.use rfl (nf_X3_76 hE)) (fun _ h9 => h9) rfl dX3_layHighest_27 ?_
    refine lv_bipush (v := 18) hx hb dX3_layHighest_30 (by decide) ?_
    refine lv_lshr hx hb dX3_layHighest_32 rfl ?_
    refine kV_v (As := [.int (nI o), .long (hi >>> ((18 : Int32).toInt64 &&& 63))]) (rest := []) (wr := [(a2, .inr (0, [.long hi, .long lo]))]) ⟨hx, hb, hml, hown, hts⟩ (kX3_layWord l D Z cB cI cJ cZ H.size h0 a1 a2 a3 a4 a5 a6 a7 w mid mult nx o (hi >>> ((18 : Int32).toInt64 &&& 63)) (by first | assumption | omega)) (cwV 2 hts gX3_layHighest_X3_layWord rfl rfl rfl (by decide +kernel) ⟨Nat.le_of_ble_eq_true rfl, Nat.le_of_ble_eq_true rfl⟩) hK hE hP hD hS hA 0 3 rfl rfl rfl [0, 1, 2, 3] [4] rfl rfl rfl rfl rfl (by decide) hl.1 rfl rfl (Nat.le_of_ble_eq_true rfl) dX3_layHighest_33 ⟨Nat.le_of_ble_eq_true rfl, Nat.le_of_ble_eq_true rfl⟩ (fun u H locs hp hP hD hS => ?_)
    obtain ⟨v_1, v_2⟩ := u
    try dsimp only at hp
    obtain ⟨hq_0, hq_1⟩ := hp
    have hq_0 := hq_0.symm
    subst hq_0
    have hq_1 := hq_1.symm
    subst hq_1
    have hP : va_P D vwCl [(a2, .inr (0, [.long hi, .long lo])), (h0, .inr (3, [.ref a1, .ref a2, .ref a3, .ref a4, .ref a5, .long mult, .int (nI nx)])), (a1, .inr (5, [.ref a6, .ref a7])), (a6, .inl (cI, 256, .inl (lwW w o (hi >>> ((18 : Int32).toInt64 &&& 63))))), (a7, .inl (cI, 128, .inl (lwM mid o (hi >>> ((18 : Int32).toInt64 &&& 63)))))] H := hP
    have hD : va_D A [(a2, .inr (0, [.long hi, .long lo])), (h0, .inr (3, [.ref a1, .ref a2, .ref a3, .ref a4, .ref a5, .long mult, .int (nI nx)])), (a1, .inr (5, [.ref a6, .ref a7])), (a6, .inl (cI, 256, .inl (lwW w o (hi >>> ((18 : Int32).toInt64 &&& 63))))), (a7, .inl (cI, 128, .inl (lwM mid o (hi >>> ((18 : Int32).toInt64 &&& 63)))))] := hD
    exact ret_v hx hb hr hlocks ((lwW w o (hi >>> ((18 : Int32).toInt64 &&& 63))), (lwM mid o (hi >>> ((18 : Int32).toInt64 &&& 63)))) ⟨(by simp [hbits, *]), (by simp [hbits, *])⟩ (hP.sub [1, 2, 3, 4, 0] rfl) (hD.sub [1, 2, 3, 4, 0] (by decide) rfl) hS dX3_layHighest_36
  · skip
    have c_6 := bI_t c_6
    have c_6 := of_decide_eq_true c_6
    refine lv_aload_n hx hb dX3_layHighest_9 rfl (lv_at hl 0 rfl) ?_
    refine va_get (D := D) (ci := 3) (v := .ref a2) (C := RX3) (T := TX3) (N := 7) hx hb hts (by decide +kernel) hown hK hP 0 rfl rfl 1 (by decide) (hts (.fieldLink RX3 21 "TapeEngine$Machine" "ac" "LTapeEngine$Accumulator;") (by decide +kernel)) (fun _ h9 => h9) rfl dX3_layHighest_10 ?_
    refine va_getN (D := D) (ci := 0) (v := .long hi) (C := RX0) (T := TX0) (N := 2) hx hb hts (by decide +kernel) hown hK hP 4 rfl rfl 0 (by decide) (va_Nw.use rfl (nf_X3_76 hE)) (fun _ h9 => h9) rfl dX3_layHighest_13 ?_
    refine lv_ldc2 hx hb hown (hts (.constantLong RX3 148 (34359738367)) (by decide +kernel)) dX3_layHighest_16 ?_
    refine lv_land hx hb dX3_layHighest_19 ?_
    refine lv_goto (tgt := 33) hx hb dX3_layHighest_20 (by decide) ?_
    refine kV_v (As := [.int (nI o), .long (hi &&& 34359738367)]) (rest := []) (wr := [(a2, .inr (0, [.long hi, .long lo]))]) ⟨hx, hb, hml, hown, hts⟩ (kX3_layWord l D Z cB cI cJ cZ H.size h0 a1 a2 a3 a4 a5 a6 a7 w mid mult nx o (hi &&& 34359738367) (by first | assumption | omega)) (cwV 2 hts gX3_layHighest_X3_layWord rfl rfl rfl (by decide +kernel) ⟨Nat.le_of_ble_eq_true rfl, Nat.le_of_ble_eq_true rfl⟩) hK hE hP hD hS hA 0 3 rfl rfl rfl [0, 1, 2, 3] [4] rfl rfl rfl rfl rfl (by decide) hl.1 rfl rfl (Nat.le_of_ble_eq_true rfl) dX3_layHighest_33 ⟨Nat.le_of_ble_eq_true rfl, Nat.le_of_ble_eq_true rfl⟩ (fun u H locs hp hP hD hS => ?_)
    obtain ⟨v_3, v_4⟩ := u
    try dsimp only at hp
    obtain ⟨hq_0, hq_1⟩ := hp
    have hq_0 := hq_0.symm
    subst hq_0
    have hq_1 := hq_1.symm
    subst hq_1
    have hP : va_P D vwCl [(a2, .inr (0, [.long hi, .long lo])), (h0, .inr (3, [.ref a1, .ref a2, .ref a3, .ref a4, .ref a5, .long mult, .int (nI nx)])), (a1, .inr (5, [.ref a6, .ref a7])), (a6, .inl (cI, 256, .inl (lwW w o (hi &&& 34359738367)))), (a7, .inl (cI, 128, .inl (lwM mid o (hi &&& 34359738367))))] H := hP
    have hD : va_D A [(a2, .inr (0, [.long hi, .long lo])), (h0, .inr (3, [.ref a1, .ref a2, .ref a3, .ref a4, .ref a5, .long mult, .int (nI nx)])), (a1, .inr (5, [.ref a6, .ref a7])), (a6, .inl (cI, 256, .inl (lwW w o (hi &&& 34359738367)))), (a7, .inl (cI, 128, .inl (lwM mid o (hi &&& 34359738367))))] := hD
    exact ret_v hx hb hr hlocks ((lwW w o (hi &&& 34359738367)), (lwM mid o (hi &&& 34359738367))) ⟨(by simp [hbits, *]), (by simp [hbits, *])⟩ (hP.sub [1, 2, 3, 4, 0] rfl) (hD.sub [1, 2, 3, 4, 0] (by decide) rfl) hS dX3_layHighest_36

set_option maxHeartbeats 4000000 in
set_option maxRecDepth 100000 in
theorem kX3_layPrinted (l : Launch) (D : va_G) (Z : SZ) (cB cI cJ cZ : ClassId) (ksz : Nat) (h0 : Nat) (a1 : Nat) (a2 : Nat) (a3 : Nat) (a4 : Nat) (a5 : Nat) (a6 : Nat) (a7 : Nat) (a9 : Nat) (w : Nat → Int32) (mult : Int64) (nx : Nat) (xz : Nat) (n : Nat) (fg : Bool) (la : Int32) (hn : n < 256) : Met l yX3_layPrinted wsX3_layPrinted { frames := 1, cells := 0, slots := 0, locals := 22 } (PR D Z [(cB, .byte), (cI, .int), (cJ, .long), (cZ, .boolean)] [.ref h0, .int (nI n)] [(h0, .inr (3, [.ref a1, .ref a2, .ref a3, .ref a4, .ref a5, .long mult, .int (nI nx)])), (a1, .inr (5, [.ref a6, .ref a7])), (a6, .inl (cI, 256, .inl w)), (a4, .inr (6, [.ref a9, .int (nI xz), .int (bI fg), .int la]))] ksz) (QV D (fun (u : (Nat → Int32)) => u = (lpW w n la)) (fun (u : (Nat → Int32)) => [(h0, .inr (3, [.ref a1, .ref a2, .ref a3, .ref a4, .ref a5, .long mult, .int (nI nx)])), (a1, .inr (5, [.ref a6, .ref a7])), (a6, .inl (cI, 256, .inl u)), (a4, .inr (6, [.ref a9, .int (nI xz), .int (bI fg), .int la]))]) (va_A [(h0, .inr (3, [.ref a1, .ref a2, .ref a3, .ref a4, .ref a5, .long mult, .int (nI nx)])), (a1, .inr (5, [.ref a6, .ref a7])), (a6, .inl (cI, 256, .inl w)), (a4, .inr (6, [.ref a9, .int (nI xz), .int (bI fg), .int la]))] ksz)) 0 0 (va_A [(h0, .inr (3, [.ref a1, .ref a2, .ref a3, .ref a4, .ref a5, .long mult, .int (nI nx)])), (a1, .inr (5, [.ref a6, .ref a7])), (a6, .inl (cI, 256, .inl w)), (a4, .inr (6, [.ref a9, .int (nI xz), .int (bI fg), .int la]))] ksz) := by
  refine met_g (QV D (fun (u : (Nat → Int32)) => u = (lpW w n la)) (fun (u : (Nat → Int32)) => [(h0, .inr (3, [.ref a1, .ref a2, .ref a3, .ref a4, .ref a5, .long mult, .int (nI nx)])), (a1, .inr (5, [.ref a6, .ref a7])), (a6, .inl (cI, 256, .inl u)), (a4, .inr (6, [.ref a9, .int (nI xz), .int (bI fg), .int la]))])) cX3_layPrinted 3 none (by decide) rfl (Nat.le_of_ble_eq_true rfl) ?_
  intro p e s m below meth c A ls hx hb hr hts hown hlocks hml hin hA hP hK hD hE hS hl hsz
  clear hsz
  have hl : lv_has ls 3 [(0, .ref h0), (1, .int (nI n))] := hl
  refine lv_aload_n hx hb dX3_layPrinted_0 rfl (lv_at hl 0 rfl) ?_
  refine va_get (D := D) (ci := 3) (v := .ref a4) (C := RX3) (T := TX3) (N := 7) hx hb hts (by decide +kernel) hown hK hP 0 rfl rfl 3 (by decide) (hts (.fieldLink RX3 35 "TapeEngine$Machine" "printer" "LTapeEngine$Printer;") (by decide +kernel)) (fun _ h9 => h9) rfl dX3_layPrinted_1 ?_
  refine va_getN (D := D) (ci := 6) (v := .int la) (C := RX6) (T := TX6) (N := 4) hx hb hts (by decide +kernel) hown hK hP 3 rfl rfl 3 (by decide) (va_Nw.use rfl (nf_X3_150 hE)) (fun _ h9 => h9) rfl dX3_layPrinted_4 ?_
  refine lv_iconst (v := (-1)) hx hb dX3_layPrinted_7 (by decide) ?_
  refine lv_icmp_ne (tgt := 15) hx hb dX3_layPrinted_8 (by decide) (fun c_8 => ?_) (fun c_8 => ?_)
  · skip
    refine lv_aload_n hx hb dX3_layPrinted_15 rfl (lv_at hl 0 rfl) ?_
    refine va_get (D := D) (ci := 3) (v := .ref a4) (C := RX3) (T := TX3) (N := 7) hx hb hts (by decide +kernel) hown hK hP 0 rfl rfl 3 (by decide) (hts (.fieldLink RX3 35 "TapeEngine$Machine" "printer" "LTapeEngine$Printer;") (by decide +kernel)) (fun _ h9 => h9) rfl dX3_layPrinted_16 ?_
    refine va_getN (D := D) (ci := 6) (v := .int la) (C := RX6) (T := TX6) (N := 4) hx hb hts (by decide +kernel) hown hK hP 3 rfl rfl 3 (by decide) (va_Nw.use rfl (nf_X3_150 hE)) (fun _ h9 => h9) rfl dX3_layPrinted_19 ?_
    refine lv_istore_n (lv' := [(2, .int la), (0, .ref h0), (1, .int (nI n))]) hx hb dX3_layPrinted_22 rfl hl (by decide) rfl (fun ls hl => ?_)
    refine lv_aload_n hx hb dX3_layPrinted_23 rfl (lv_at hl 1 rfl) ?_
    refine va_get (D := D) (ci := 3) (v := .ref a1) (C := RX3) (T := TX3) (N := 7) hx hb hts (by decide +kernel) hown hK hP 0 rfl rfl 0 (by decide) (hts (.fieldLink RX3 12 "TapeEngine$Machine" "memory" "LTapeEngine$Memory;") (by decide +kernel)) (fun _ h9 => h9) rfl dX3_layPrinted_24 ?_
    refine lv_iload_n hx hb dX3_layPrinted_27 rfl (lv_at hl 2 rfl) ?_
    refine lv_iload_n hx hb dX3_layPrinted_28 rfl (lv_at hl 0 rfl) ?_
    refine lv_bipush (v := 12) hx hb dX3_layPrinted_29 (by decide) ?_
    refine lv_ishl hx hb dX3_layPrinted_31 ?_
    refine lv_aload_n hx hb dX3_layPrinted_32 rfl (lv_at hl 1 rfl) ?_
    refine va_get (D := D) (ci := 3) (v := .ref a1) (C := RX3) (T := TX3) (N := 7) hx hb hts (by decide +kernel) hown hK hP 0 rfl rfl 0 (by decide) (hts (.fieldLink RX3 12 "TapeEngine$Machine" "memory" "LTapeEngine$Memory;") (by decide +kernel)) (fun _ h9 => h9) rfl dX3_layPrinted_33 ?_
    refine lv_iload_n hx hb dX3_layPrinted_36 rfl (lv_at hl 2 rfl) ?_
    refine kV_i (As := [.int (nI n)]) (rest := [.int (la <<< (12 &&& 31)), .int (nI n), .ref a1]) (wr := [(h0, .inr (3, [.ref a1, .ref a2, .ref a3, .ref a4, .ref a5, .long mult, .int (nI nx)])), (a4, .inr (6, [.ref a9, .int (nI xz), .int (bI fg), .int la]))]) ⟨hx, hb, hml, hown, hts⟩ (kX5_shortAt l D Z cB cI cJ cZ s.heap.size a1 a6 a7 w n (by first | assumption | omega)) (cwV 1 hts gX3_layPrinted_X5_shortAt rfl rfl rfl (by decide +kernel) ⟨Nat.le_of_ble_eq_true rfl, Nat.le_of_ble_eq_true rfl⟩) hK hE hP hD hS hA 0 5 rfl rfl rfl [1, 2] [0, 3] rfl rfl rfl rfl rfl (by decide) hl.1 rfl rfl (Nat.le_of_ble_eq_true rfl) dX3_layPrinted_37 ⟨Nat.le_of_ble_eq_true rfl, Nat.le_of_ble_eq_true rfl⟩ (fun r u H locs hp hP hD hS => ?_)
    try dsimp only at hp
    have hq_0 := hp
    have hq_0 := hq_0.symm
    subst hq_0
    have hP : va_P D vwCl [(h0, .inr (3, [.ref a1, .ref a2, .ref a3, .ref a4, .ref a5, .long mult, .int (nI nx)])), (a4, .inr (6, [.ref a9, .int (nI xz), .int (bI fg), .int la])), (a1, .inr (5, [.ref a6, .ref a7])), (a6, .inl (cI, 256, .inl w))] H := hP
    have hD : va_D A [(h0, .inr (3, [.ref a1, .ref a2, .ref a3, .ref a4, .ref a5, .long mult, .int (nI nx)])), (a4, .inr (6, [.ref a9, .int (nI xz), .int (bI fg), .int la])), (a1, .inr (5, [.ref a6, .ref a7])), (a6, .inl (cI, 256, .inl w))] := hD
    refine lv_sipush (v := 4095) hx hb dX3_layPrinted_40 (by decide) ?_
    refine lv_iand hx hb dX3_layPrinted_43 ?_
    refine lv_ior hx hb dX3_layPrinted_44 ?_
    refine kV_v (As := [.int (nI n), .int ((la <<< (12 &&& 31)) ||| ((w n) &&& 4095))]) (rest := []) (wr := [(h0, .inr (3, [.ref a1, .ref a2, .ref a3, .ref a4, .ref a5, .long mult, .int (nI nx)])), (a4, .inr (6, [.ref a9, .int (nI xz), .int (bI fg), .int la]))]) ⟨hx, hb, hml, hown, hts⟩ (kX5_layShort l D Z cB cI cJ cZ H.size a1 a6 a7 w n ((la <<< (12 &&& 31)) ||| ((w n) &&& 4095)) (by first | assumption | omega)) (cwV 2 hts gX3_layPrinted_X5_layShort rfl rfl rfl (by decide +kernel) ⟨Nat.le_of_ble_eq_true rfl, Nat.le_of_ble_eq_true rfl⟩) hK hE hP hD hS hA 0 5 rfl rfl rfl [2, 3] [0, 1] rfl rfl rfl rfl rfl (by decide) hl.1 rfl rfl (Nat.le_of_ble_eq_true rfl) dX3_layPrinted_45 ⟨Nat.le_of_ble_eq_true rfl, Nat.le_of_ble_eq_true rfl⟩ (fun u H locs hp hP hD hS => ?_)
    obtain ⟨v_1, rfl⟩ : ∃ z, z = u := ⟨_, rfl⟩
    try dsimp only at hp
    have hq_0 := hp
    have hq_0 := hq_0.symm
    subst hq_0
    have hP : va_P D vwCl [(h0, .inr (3, [.ref a1, .ref a2, .ref a3, .ref a4, .ref a5, .long mult, .int (nI nx)])), (a4, .inr (6, [.ref a9, .int (nI xz), .int (bI fg), .int la])), (a1, .inr (5, [.ref a6, .ref a7])), (a6, .inl (cI, 256, .inl (upd w n (((la <<< (12 &&& 31)) ||| ((w n) &&& 4095)) &&& 131071))))] H := hP
    have hD : va_D A [(h0, .inr (3, [.ref a1, .ref a2, .ref a3, .ref a4, .ref a5, .long mult, .int (nI nx)])), (a4, .inr (6, [.ref a9, .int (nI xz), .int (bI fg), .int la])), (a1, .inr (5, [.ref a6, .ref a7])), (a6, .inl (cI, 256, .inl (upd w n (((la <<< (12 &&& 31)) ||| ((w n) &&& 4095)) &&& 131071))))] := hD
    exact ret_v hx hb hr hlocks ((upd w n (((la <<< (12 &&& 31)) ||| ((w n) &&& 4095)) &&& 131071))) (by simp [lpW, laz, *]) (hP.sub [0, 2, 3, 1] rfl) (hD.sub [0, 2, 3, 1] (by decide) rfl) hS dX3_layPrinted_48
  · skip
    refine lv_iconst (v := 0) hx hb dX3_layPrinted_11 (by decide) ?_
    refine lv_goto (tgt := 22) hx hb dX3_layPrinted_12 (by decide) ?_
    refine lv_istore_n (lv' := [(2, .int 0), (0, .ref h0), (1, .int (nI n))]) hx hb dX3_layPrinted_22 rfl hl (by decide) rfl (fun ls hl => ?_)
    refine lv_aload_n hx hb dX3_layPrinted_23 rfl (lv_at hl 1 rfl) ?_
    refine va_get (D := D) (ci := 3) (v := .ref a1) (C := RX3) (T := TX3) (N := 7) hx hb hts (by decide +kernel) hown hK hP 0 rfl rfl 0 (by decide) (hts (.fieldLink RX3 12 "TapeEngine$Machine" "memory" "LTapeEngine$Memory;") (by decide +kernel)) (fun _ h9 => h9) rfl dX3_layPrinted_24 ?_
    refine lv_iload_n hx hb dX3_layPrinted_27 rfl (lv_at hl 2 rfl) ?_
    refine lv_iload_n hx hb dX3_layPrinted_28 rfl (lv_at hl 0 rfl) ?_
    refine lv_bipush (v := 12) hx hb dX3_layPrinted_29 (by decide) ?_
    refine lv_ishl hx hb dX3_layPrinted_31 ?_
    refine lv_aload_n hx hb dX3_layPrinted_32 rfl (lv_at hl 1 rfl) ?_
    refine va_get (D := D) (ci := 3) (v := .ref a1) (C := RX3) (T := TX3) (N := 7) hx hb hts (by decide +kernel) hown hK hP 0 rfl rfl 0 (by decide) (hts (.fieldLink RX3 12 "TapeEngine$Machine" "memory" "LTapeEngine$Memory;") (by decide +kernel)) (fun _ h9 => h9) rfl dX3_layPrinted_33 ?_
    refine lv_iload_n hx hb dX3_layPrinted_36 rfl (lv_at hl 2 rfl) ?_
    refine kV_i (As := [.int (nI n)]) (rest := [.int ((0 : Int32) <<< (12 &&& 31)), .int (nI n), .ref a1]) (wr := [(h0, .inr (3, [.ref a1, .ref a2, .ref a3, .ref a4, .ref a5, .long mult, .int (nI nx)])), (a4, .inr (6, [.ref a9, .int (nI xz), .int (bI fg), .int la]))]) ⟨hx, hb, hml, hown, hts⟩ (kX5_shortAt l D Z cB cI cJ cZ s.heap.size a1 a6 a7 w n (by first | assumption | omega)) (cwV 1 hts gX3_layPrinted_X5_shortAt rfl rfl rfl (by decide +kernel) ⟨Nat.le_of_ble_eq_true rfl, Nat.le_of_ble_eq_true rfl⟩) hK hE hP hD hS hA 0 5 rfl rfl rfl [1, 2] [0, 3] rfl rfl rfl rfl rfl (by decide) hl.1 rfl rfl (Nat.le_of_ble_eq_true rfl) dX3_layPrinted_37 ⟨Nat.le_of_ble_eq_true rfl, Nat.le_of_ble_eq_true rfl⟩ (fun r u H locs hp hP hD hS => ?_)
    try dsimp only at hp
    have hq_0 := hp
    have hq_0 := hq_0.symm
    subst hq_0
    have hP : va_P D vwCl [(h0, .inr (3, [.ref a1, .ref a2, .ref a3, .ref a4, .ref a5, .long mult, .int (nI nx)])), (a4, .inr (6, [.ref a9, .int (nI xz), .int (bI fg), .int la])), (a1, .inr (5, [.ref a6, .ref a7])), (a6, .inl (cI, 256, .inl w))] H := hP
    have hD : va_D A [(h0, .inr (3, [.ref a1, .ref a2, .ref a3, .ref a4, .ref a5, .long mult, .int (nI nx)])), (a4, .inr (6, [.ref a9, .int (nI xz), .int (bI fg), .int la])), (a1, .inr (5, [.ref a6, .ref a7])), (a6, .inl (cI, 256, .inl w))] := hD
    refine lv_sipush (v := 4095) hx hb dX3_layPrinted_40 (by decide) ?_
    refine lv_iand hx hb dX3_layPrinted_43 ?_
    refine lv_ior hx hb dX3_layPrinted_44 ?_
    refine kV_v (As := [.int (nI n), .int (((0 : Int32) <<< (12 &&& 31)) ||| ((w n) &&& 4095))]) (rest := []) (wr := [(h0, .inr (3, [.ref a1, .ref a2, .ref a3, .ref a4, .ref a5, .long mult, .int (nI nx)])), (a4, .inr (6, [.ref a9, .int (nI xz), .int (bI fg), .int la]))]) ⟨hx, hb, hml, hown, hts⟩ (kX5_layShort l D Z cB cI cJ cZ H.size a1 a6 a7 w n (((0 : Int32) <<< (12 &&& 31)) ||| ((w n) &&& 4095)) (by first | assumption | omega)) (cwV 2 hts gX3_layPrinted_X5_layShort rfl rfl rfl (by decide +kernel) ⟨Nat.le_of_ble_eq_true rfl, Nat.le_of_ble_eq_true rfl⟩) hK hE hP hD hS hA 0 5 rfl rfl rfl [2, 3] [0, 1] rfl rfl rfl rfl rfl (by decide) hl.1 rfl rfl (Nat.le_of_ble_eq_true rfl) dX3_layPrinted_45 ⟨Nat.le_of_ble_eq_true rfl, Nat.le_of_ble_eq_true rfl⟩ (fun u H locs hp hP hD hS => ?_)
    obtain ⟨v_2, rfl⟩ : ∃ z, z = u := ⟨_, rfl⟩
    try dsimp only at hp
    have hq_0 := hp
    have hq_0 := hq_0.symm
    subst hq_0
    have hP : va_P D vwCl [(h0, .inr (3, [.ref a1, .ref a2, .ref a3, .ref a4, .ref a5, .long mult, .int (nI nx)])), (a4, .inr (6, [.ref a9, .int (nI xz), .int (bI fg), .int la])), (a1, .inr (5, [.ref a6, .ref a7])), (a6, .inl (cI, 256, .inl (upd w n ((((0 : Int32) <<< (12 &&& 31)) ||| ((w n) &&& 4095)) &&& 131071))))] H := hP
    have hD : va_D A [(h0, .inr (3, [.ref a1, .ref a2, .ref a3, .ref a4, .ref a5, .long mult, .int (nI nx)])), (a4, .inr (6, [.ref a9, .int (nI xz), .int (bI fg), .int la])), (a1, .inr (5, [.ref a6, .ref a7])), (a6, .inl (cI, 256, .inl (upd w n ((((0 : Int32) <<< (12 &&& 31)) ||| ((w n) &&& 4095)) &&& 131071))))] := hD
    exact ret_v hx hb hr hlocks ((upd w n ((((0 : Int32) <<< (12 &&& 31)) ||| ((w n) &&& 4095)) &&& 131071))) (by simp [lpW, laz, *]) (hP.sub [0, 2, 3, 1] rfl) (hD.sub [0, 2, 3, 1] (by decide) rfl) hS dX3_layPrinted_48
