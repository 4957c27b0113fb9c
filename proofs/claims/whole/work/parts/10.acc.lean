/-- a LONG word is laid -/
def llW (w : Nat → Int32) (j : Nat) (x : Int64) : Nat → Int32 := upd (upd w (j / 2 * 2 + 1) ((x >>> ((18 : Int32).toInt64 &&& 63)).toInt32 &&& 131071)) (j / 2 * 2) (x.toInt32 &&& 131071)
def llM (mid : Nat → Int32) (j : Nat) (x : Int64) : Nat → Int32 := upd mid (j / 2) ((x >>> ((17 : Int32).toInt64 &&& 63)).toInt32 &&& 1)
/-- shifts of AC -/
def srTop (hi : Int64) (q : Int32) : Int64 := hi >>> (q.toInt64 &&& 63)
def srRest (hi lo : Int64) (q : Int32) : Int64 := (lo >>> (q.toInt64 &&& 63)) ||| ((hi &&& ((1 <<< (q.toInt64 &&& 63)) - 1)) <<< ((36 - q).toInt64 &&& 63))
def slTop (hi lo : Int64) (q : Int32) : Int64 := sg ((hi <<< (q.toInt64 &&& 63)) ||| (lo >>> ((36 - q).toInt64 &&& 63)))
def slRest (lo : Int64) (q : Int32) : Int64 := (lo <<< (q.toInt64 &&& 63)) &&& 68719476735
/-- the class's product: two numbers come to AC -/
def ppU (a b : Int64) : Int64 := a * (b >>> ((18 : Int32).toInt64 &&& 63))
def ppL (a b : Int64) : Int64 := (4 * a) * (b &&& 262143)
def ppT1 (hi lo a b sn : Int64) : Int64 := gTop hi lo (sn * (ppU a b >>> ((16 : Int32).toInt64 &&& 63))) (sn * ((ppU a b &&& 65535) <<< ((20 : Int32).toInt64 &&& 63)))
def ppR1 (lo a b sn : Int64) : Int64 := gRest lo (sn * ((ppU a b &&& 65535) <<< ((20 : Int32).toInt64 &&& 63)))
def ppTop (hi lo a b sn : Int64) : Int64 := gTop (ppT1 hi lo a b sn) (ppR1 lo a b sn) (sn * (ppL a b >>> ((36 : Int32).toInt64 &&& 63))) (sn * (ppL a b &&& 68719476735))
def ppRest (hi lo a b sn : Int64) : Int64 := gRest (ppR1 lo a b sn) (sn * (ppL a b &&& 68719476735))
set_option maxHeartbeats 4000000 in
set_option maxRecDepth 100000 in
theorem kX9_isAddress (l : Launch) (Z : SZ) (n : Int32)  : PI l yX9_isAddress wsX9_isAddress 0 0 Z [.int n] (bI (ad n)) := by
  intro D ty sz
  refine met_g (QI D (fun r (_ : Unit) => r = bI (ad n)) (fun _ => [])) cX9_isAddress 1 (some .boolean) (by decide) rfl (Nat.le_of_ble_eq_true rfl) ?_
  intro p e s m below meth c A ls hx hb hr hts hown hlocks hml hin hA hP hK hD hE hS hl hsz
  clear hsz
  have hl : lv_has ls 1 [(0, .int n)] := hl
  refine lv_iload_n hx hb dX9_isAddress_0 rfl (lv_at hl 0 rfl) ?_
  refine lv_if_lt (tgt := 15) hx hb dX9_isAddress_1 (by decide) (fun c_1 => ?_) (fun c_1 => ?_)
  · skip
    refine lv_iconst (v := 0) hx hb dX9_isAddress_15 (by decide) ?_
    exact ret_z hx hb hr rfl hlocks () (by simp [bI, ad, *]) (fun k q h => by simp at h) hD hS dX9_isAddress_16
  · skip
    refine lv_iload_n hx hb dX9_isAddress_4 rfl (lv_at hl 0 rfl) ?_
    refine lv_sipush (v := 256) hx hb dX9_isAddress_5 (by decide) ?_
    refine lv_icmp_ge (tgt := 15) hx hb dX9_isAddress_8 (by decide) (fun c_8 => ?_) (fun c_8 => ?_)
    · skip
      refine lv_iconst (v := 0) hx hb dX9_isAddress_15 (by decide) ?_
      exact ret_z hx hb hr rfl hlocks () (by simp [bI, ad, *]) (fun k q h => by simp at h) hD hS dX9_isAddress_16
    · skip
      refine lv_iconst (v := 1) hx hb dX9_isAddress_11 (by decide) ?_
      refine lv_goto (tgt := 16) hx hb dX9_isAddress_12 (by decide) ?_
      exact ret_z hx hb hr rfl hlocks () (by simp [bI, ad, *]) (fun k q h => by simp at h) hD hS dX9_isAddress_16

set_option maxHeartbeats 4000000 in
set_option maxRecDepth 100000 in
theorem kX9_isSymbol (l : Launch) (Z : SZ) (n : Int32)  : PI l yX9_isSymbol wsX9_isSymbol 0 0 Z [.int n] (bI (sy n)) := by
  intro D ty sz
  refine met_g (QI D (fun r (_ : Unit) => r = bI (sy n)) (fun _ => [])) cX9_isSymbol 1 (some .boolean) (by decide) rfl (Nat.le_of_ble_eq_true rfl) ?_
  intro p e s m below meth c A ls hx hb hr hts hown hlocks hml hin hA hP hK hD hE hS hl hsz
  clear hsz
  have hl : lv_has ls 1 [(0, .int n)] := hl
  refine lv_iload_n hx hb dX9_isSymbol_0 rfl (lv_at hl 0 rfl) ?_
  refine lv_if_lt (tgt := 14) hx hb dX9_isSymbol_1 (by decide) (fun c_1 => ?_) (fun c_1 => ?_)
  · skip
    refine lv_iconst (v := 0) hx hb dX9_isSymbol_14 (by decide) ?_
    exact ret_z hx hb hr rfl hlocks () (by simp [bI, sy, *]) (fun k q h => by simp at h) hD hS dX9_isSymbol_15
  · skip
    refine lv_iload_n hx hb dX9_isSymbol_4 rfl (lv_at hl 0 rfl) ?_
    refine lv_bipush (v := 32) hx hb dX9_isSymbol_5 (by decide) ?_
    refine lv_icmp_ge (tgt := 14) hx hb dX9_isSymbol_7 (by decide) (fun c_7 => ?_) (fun c_7 => ?_)
    · skip
      refine lv_iconst (v := 0) hx hb dX9_isSymbol_14 (by decide) ?_
      exact ret_z hx hb hr rfl hlocks () (by simp [bI, sy, *]) (fun k q h => by simp at h) hD hS dX9_isSymbol_15
    · skip
      refine lv_iconst (v := 1) hx hb dX9_isSymbol_10 (by decide) ?_
      refine lv_goto (tgt := 15) hx hb dX9_isSymbol_11 (by decide) ?_
      exact ret_z hx hb hr rfl hlocks () (by simp [bI, sy, *]) (fun k q h => by simp at h) hD hS dX9_isSymbol_15

set_option maxHeartbeats 4000000 in
set_option maxRecDepth 100000 in
theorem kX9_behind (l : Launch) (Z : SZ) (j : Nat) (hj : j < 256) : PI l yX9_behind wsX9_behind 0 0 Z [.int (nI j)] (nI ((j + 1) % 256)) := by
  intro D ty sz
  refine met_g (QI D (fun r (_ : Unit) => r = nI ((j + 1) % 256)) (fun _ => [])) cX9_behind 1 (some .int) (by decide) rfl (Nat.le_of_ble_eq_true rfl) ?_
  intro p e s m below meth c A ls hx hb hr hts hown hlocks hml hin hA hP hK hD hE hS hl hsz
  clear hsz
  have hl : lv_has ls 1 [(0, .int (nI j))] := hl
  refine lv_iload_n hx hb dX9_behind_0 rfl (lv_at hl 0 rfl) ?_
  refine lv_iconst (v := 1) hx hb dX9_behind_1 (by decide) ?_
  refine lv_iadd hx hb dX9_behind_2 ?_
  refine lv_sipush (v := 255) hx hb dX9_behind_3 (by decide) ?_
  refine lv_iand hx hb dX9_behind_6 ?_
  exact ret_i hx hb hr hlocks () (e_beh hj) (fun k q h => by simp at h) hD hS dX9_behind_7

set_option maxHeartbeats 4000000 in
set_option maxRecDepth 100000 in
theorem kX9_functionOf (l : Launch) (Z : SZ) (o : Nat) (ho : o < 131072) : PI l yX9_functionOf wsX9_functionOf 0 0 Z [.int (nI o)] (nI (o / 4096)) := by
  intro D ty sz
  refine met_g (QI D (fun r (_ : Unit) => r = nI (o / 4096)) (fun _ => [])) cX9_functionOf 1 (some .int) (by decide) rfl (Nat.le_of_ble_eq_true rfl) ?_
  intro p e s m below meth c A ls hx hb hr hts hown hlocks hml hin hA hP hK hD hE hS hl hsz
  clear hsz
  have hl : lv_has ls 1 [(0, .int (nI o))] := hl
  refine lv_iload_n hx hb dX9_functionOf_0 rfl (lv_at hl 0 rfl) ?_
  refine lv_bipush (v := 12) hx hb dX9_functionOf_1 (by decide) ?_
  refine lv_ishr hx hb dX9_functionOf_3 ?_
  refine lv_bipush (v := 31) hx hb dX9_functionOf_4 (by decide) ?_
  refine lv_iand hx hb dX9_functionOf_6 ?_
  exact ret_i hx hb hr hlocks () (e_fun ho) (fun k q h => by simp at h) hD hS dX9_functionOf_7

set_option maxHeartbeats 4000000 in
set_option maxRecDepth 100000 in
theorem kX9_addressOf (l : Launch) (Z : SZ) (o : Nat) (ho : o < 131072) : PI l yX9_addressOf wsX9_addressOf 0 0 Z [.int (nI o)] (nI (o / 2 % 256)) := by
  intro D ty sz
  refine met_g (QI D (fun r (_ : Unit) => r = nI (o / 2 % 256)) (fun _ => [])) cX9_addressOf 1 (some .int) (by decide) rfl (Nat.le_of_ble_eq_true rfl) ?_
  intro p e s m below meth c A ls hx hb hr hts hown hlocks hml hin hA hP hK hD hE hS hl hsz
  clear hsz
  have hl : lv_has ls 1 [(0, .int (nI o))] := hl
  refine lv_iload_n hx hb dX9_addressOf_0 rfl (lv_at hl 0 rfl) ?_
  refine lv_iconst (v := 1) hx hb dX9_addressOf_1 (by decide) ?_
  refine lv_ishr hx hb dX9_addressOf_2 ?_
  refine lv_sipush (v := 255) hx hb dX9_addressOf_3 (by decide) ?_
  refine lv_iand hx hb dX9_addressOf_6 ?_
  exact ret_i hx hb hr hlocks () (e_adr ho) (fun k q h => by simp at h) hD hS dX9_addressOf_7

set_option maxHeartbeats 4000000 in
set_option maxRecDepth 100000 in
theorem kX9_isLongOrder (l : Launch) (Z : SZ) (o : Nat) (ho : o < 131072) : PI l yX9_isLongOrder wsX9_isLongOrder 0 0 Z [.int (nI o)] (bI (decide (o % 2 = 1))) := by
  intro D ty sz
  refine met_g (QI D (fun r (_ : Unit) => r = bI (decide (o % 2 = 1))) (fun _ => [])) cX9_isLongOrder 1 (some .boolean) (by decide) rfl (Nat.le_of_ble_eq_true rfl) ?_
  intro p e s m below meth c A ls hx hb hr hts hown hlocks hml hin hA hP hK hD hE hS hl hsz
  clear hsz
  have hl : lv_has ls 1 [(0, .int (nI o))] := hl
  refine lv_iload_n hx hb dX9_isLongOrder_0 rfl (lv_at hl 0 rfl) ?_
  refine lv_iconst (v := 1) hx hb dX9_isLongOrder_1 (by decide) ?_
  refine lv_iand hx hb dX9_isLongOrder_2 ?_
  refine set_i (y := nI (o % 2)) (e_odd ho) ?_
  refine lv_iconst (v := (nI 1)) hx hb dX9_isLongOrder_3 (by decide) ?_
  refine lv_icmp_ne (tgt := 11) hx hb dX9_isLongOrder_4 (by decide) (fun c_4 => ?_) (fun c_4 => ?_)
  · skip
    have c_4 : ¬ (o % 2) = 1 := fun z => c_4 ((nI_eq (a := (o % 2)) (b := 1) (by omega) (by omega)).mpr z)
    refine lv_iconst (v := 0) hx hb dX9_isLongOrder_11 (by decide) ?_
    exact ret_z hx hb hr rfl hlocks () (by first | exact bI_y (by assumption) | exact bI_n (by assumption)) (fun k q h => by simp at h) hD hS dX9_isLongOrder_12
  · skip
    have c_4 : (o % 2) = 1 := (nI_eq (a := (o % 2)) (b := 1) (by omega) (by omega)).mp c_4
    refine lv_iconst (v := 1) hx hb dX9_isLongOrder_7 (by decide) ?_
    refine lv_goto (tgt := 12) hx hb dX9_isLongOrder_8 (by decide) ?_
    exact ret_z hx hb hr rfl hlocks () (by first | exact bI_y (by assumption) | exact bI_n (by assumption)) (fun k q h => by simp at h) hD hS dX9_isLongOrder_12

set_option maxHeartbeats 4000000 in
set_option maxRecDepth 100000 in
theorem kX9_signedLong (l : Launch) (Z : SZ) (x : Int64)  : PL l yX9_signedLong wsX9_signedLong 0 0 Z [.long x] (sg x) := by
  intro D ty sz
  refine met_g (QL D (fun r (_ : Unit) => r = sg x) (fun _ => [])) cX9_signedLong 2 (some .long) (by decide) rfl (Nat.le_of_ble_eq_true rfl) ?_
  intro p e s m below meth c A ls hx hb hr hts hown hlocks hml hin hA hP hK hD hE hS hl hsz
  clear hsz
  have hl : lv_has ls 2 [(0, .long x)] := hl
  refine lv_lload_n hx hb dX9_signedLong_0 rfl (lv_at hl 0 rfl) ?_
  refine lv_bipush (v := 29) hx hb dX9_signedLong_1 (by decide) ?_
  refine lv_lshl hx hb dX9_signedLong_3 rfl ?_
  refine lv_bipush (v := 29) hx hb dX9_signedLong_4 (by decide) ?_
  refine lv_lshr hx hb dX9_signedLong_6 rfl ?_
  exact ret_l hx hb hr hlocks () rfl (fun k q h => by simp at h) hD hS dX9_signedLong_7

set_option maxHeartbeats 4000000 in
set_option maxRecDepth 100000 in
theorem kX9_isLegal (l : Launch) (Z : SZ) (f : Nat) (hf : f < 32) : PI l yX9_isLegal wsX9_isLegal 0 0 Z [.int (nI f)] (bI (lgl f)) := by
  intro D ty sz
  refine met_g (QI D (fun r (_ : Unit) => r = bI (lgl f)) (fun _ => [])) cX9_isLegal 1 (some .boolean) (by decide) rfl (Nat.le_of_ble_eq_true rfl) ?_
  intro p e s m below meth c A ls hx hb hr hts hown hlocks hml hin hA hP hK hD hE hS hl hsz
  clear hsz
  have hl : lv_has ls 1 [(0, .int (nI f))] := hl
  refine lv_iload_n hx hb dX9_isLegal_0 rfl (lv_at hl 0 rfl) ?_
  rcases Bool.eq_false_or_eq_true (lgl f) with c_1 | c_1
  · skip
    refine lv_tab (tgt := 132) hx hb dX9_isLegal_1 (co_dec (N := 32) (P := fun f => lgl f = true → tabT 3 31 133 #[131, 131, 131, 131, 131, 131, 131, 133, 133, 131, 131, 133, 133, 133, 131, 133, 133, 133, 131, 131, 133, 133, 131, 131, 131, 131, 133, 131, 131] (nI f) = 131) (by decide +kernel) hf c_1) (by decide) (by decide) ?_
    refine lv_iconst (v := 1) hx hb dX9_isLegal_132 (by decide) ?_
    exact ret_z hx hb hr rfl hlocks () (by rw [c_1]; rfl) (fun k q h => by simp at h) hD hS dX9_isLegal_133
  · skip
    refine lv_tab (tgt := 134) hx hb dX9_isLegal_1 (co_dec (N := 32) (P := fun f => lgl f = false → tabT 3 31 133 #[131, 131, 131, 131, 131, 131, 131, 133, 133, 131, 131, 133, 133, 133, 131, 133, 133, 133, 131, 131, 133, 133, 131, 131, 131, 131, 133, 131, 131] (nI f) = 133) (by decide +kernel) hf c_1) (by decide) (by decide) ?_
    refine lv_iconst (v := 0) hx hb dX9_isLegal_134 (by decide) ?_
    exact ret_z hx hb hr rfl hlocks () (by rw [c_1]; rfl) (fun k q h => by simp at h) hD hS dX9_isLegal_135

set_option maxHeartbeats 4000000 in
set_option maxRecDepth 100000 in
theorem kX0_become (l : Launch) (D : va_G) (Z : SZ) (cB cI cJ cZ : ClassId) (ksz : Nat) (h0 : Nat) (hi : Int64) (lo : Int64) (a : Int64) (b : Int64)  : Met l yX0_become wsX0_become { frames := 0, cells := 0, slots := 0, locals := 0 } (PR D Z [(cB, .byte), (cI, .int), (cJ, .long), (cZ, .boolean)] [.ref h0, .long a, .long b] [(h0, .inr (0, [.long hi, .long lo]))] ksz) (QV D (fun (u : Int64 × Int64) => u.1 = a ∧ u.2 = b) (fun (u : Int64 × Int64) => [(h0, .inr (0, [.long u.1, .long u.2]))]) (va_A [(h0, .inr (0, [.long hi, .long lo]))] ksz)) 0 0 (va_A [(h0, .inr (0, [.long hi, .long lo]))] ksz) := by
  refine met_g (QV D (fun (u : Int64 × Int64) => u.1 = a ∧ u.2 = b) (fun (u : Int64 × Int64) => [(h0, .inr (0, [.long u.1, .long u.2]))])) cX0_become 5 none (by decide) rfl (Nat.le_of_ble_eq_true rfl) ?_
  intro p e s m below meth c A ls hx hb hr hts hown hlocks hml hin hA hP hK hD hE hS hl hsz
  clear hsz
  have hl : lv_has ls 5 [(0, .ref h0), (1, .long a), (3, .long b)] := hl
  refine lv_aload_n hx hb dX0_become_0 rfl (lv_at hl 0 rfl) ?_
  refine lv_lload_n hx hb dX0_become_1 rfl (lv_at hl 1 rfl) ?_
  refine va_put (D := D) (ci := 0) (v := .long a) (ty := .long) (C := RX0) (T := TX0) (N := 2) hx hb hts (by decide +kernel) tyX0 tyX0_ok nmX0 hown hK hP hD hS 0 rfl rfl 0 (by decide) (hts (.fieldLink RX0 9 "TapeEngine$Accumulator" "high" "J") (by decide +kernel)) (fun _ h9 => h9) rfl (by decide +kernel) rfl rfl (Nat.le_of_ble_eq_true rfl) dX0_become_2 (fun H locs hP hD hS => ?_)
  have hP : va_P D vwCl [(h0, .inr (0, [.long a, .long lo]))] H := hP
  have hD : va_D A [(h0, .inr (0, [.long a, .long lo]))] := hD
  refine lv_aload_n hx hb dX0_become_5 rfl (lv_at hl 0 rfl) ?_
  refine lv_lload_n hx hb dX0_become_6 rfl (lv_at hl 2 rfl) ?_
  refine va_put (D := D) (ci := 0) (v := .long b) (ty := .long) (C := RX0) (T := TX0) (N := 2) hx hb hts (by decide +kernel) tyX0 tyX0_ok nmX0 hown hK hP hD hS 0 rfl rfl 1 (by decide) (hts (.fieldLink RX0 15 "TapeEngine$Accumulator" "low" "J") (by decide +kernel)) (fun _ h9 => h9) rfl (by decide +kernel) rfl rfl (Nat.le_of_ble_eq_true rfl) dX0_become_7 (fun H locs hP hD hS => ?_)
  have hP : va_P D vwCl [(h0, .inr (0, [.long a, .long b]))] H := hP
  have hD : va_D A [(h0, .inr (0, [.long a, .long b]))] := hD
  exact ret_v hx hb hr hlocks (a, b) ⟨(by rfl), (by rfl)⟩ (hP.sub [0] rfl) (hD.sub [0] (by decide) rfl) hS dX0_become_10

set_option maxHeartbeats 4000000 in
set_option maxRecDepth 100000 in
theorem kX0_plus (l : Launch) (D : va_G) (Z : SZ) (cB cI cJ cZ : ClassId) (ksz : Nat) (h0 : Nat) (hi : Int64) (lo : Int64) (a : Int64) (b : Int64)  : Met l yX0_plus wsX0_plus { frames := 1, cells := 0, slots := 0, locals := 21 } (PR D Z [(cB, .byte), (cI, .int), (cJ, .long), (cZ, .boolean)] [.ref h0, .long a, .long b] [(h0, .inr (0, [.long hi, .long lo]))] ksz) (QV D (fun (u : Int64 × Int64) => u.1 = (gTop hi lo a b) ∧ u.2 = (gRest lo b)) (fun (u : Int64 × Int64) => [(h0, .inr (0, [.long u.1, .long u.2]))]) (va_A [(h0, .inr (0, [.long hi, .long lo]))] ksz)) 0 0 (va_A [(h0, .inr (0, [.long hi, .long lo]))] ksz) := by
  refine met_g (QV D (fun (u : Int64 × Int64) => u.1 = (gTop hi lo a b) ∧ u.2 = (gRest lo b)) (fun (u : Int64 × Int64) => [(h0, .inr (0, [.long u.1, .long u.2]))])) cX0_plus 7 none (by decide) rfl (Nat.le_of_ble_eq_true rfl) ?_
  intro p e s m below meth c A ls hx hb hr hts hown hlocks hml hin hA hP hK hD hE hS hl hsz
  clear hsz
  have hl : lv_has ls 7 [(0, .ref h0), (1, .long a), (3, .long b)] := hl
  refine lv_aload_n hx hb dX0_plus_0 rfl (lv_at hl 0 rfl) ?_
  refine va_get (D := D) (ci := 0) (v := .long lo) (C := RX0) (T := TX0) (N := 2) hx hb hts (by decide +kernel) hown hK hP 0 rfl rfl 1 (by decide) (hts (.fieldLink RX0 15 "TapeEngine$Accumulator" "low" "J") (by decide +kernel)) (fun _ h9 => h9) rfl dX0_plus_1 ?_
  refine lv_lload_n hx hb dX0_plus_4 rfl (lv_at hl 2 rfl) ?_
  refine lv_ladd hx hb dX0_plus_5 ?_
  refine lv_lstore (lv' := [(5, .long (lo + b)), (0, .ref h0), (1, .long a), (3, .long b)]) hx hb dX0_plus_6 hl (by decide) rfl (fun ls hl => ?_)
  refine lv_aload_n hx hb dX0_plus_8 rfl (lv_at hl 1 rfl) ?_
  refine lv_aload_n hx hb dX0_plus_9 rfl (lv_at hl 1 rfl) ?_
  refine va_get (D := D) (ci := 0) (v := .long hi) (C := RX0) (T := TX0) (N := 2) hx hb hts (by decide +kernel) hown hK hP 0 rfl rfl 0 (by decide) (hts (.fieldLink RX0 9 "TapeEngine$Accumulator" "high" "J") (by decide +kernel)) (fun _ h9 => h9) rfl dX0_plus_10 ?_
  refine lv_lload_n hx hb dX0_plus_13 rfl (lv_at hl 2 rfl) ?_
  refine lv_ladd hx hb dX0_plus_14 ?_
  refine lv_lload hx hb dX0_plus_15 (lv_at hl 0 rfl) ?_
  refine lv_bipush (v := 36) hx hb dX0_plus_17 (by decide) ?_
  refine lv_lshr hx hb dX0_plus_19 rfl ?_
  refine lv_ladd hx hb dX0_plus_20 ?_
  refine pN_l (As := [.long ((hi + a) + ((lo + b) >>> ((36 : Int32).toInt64 &&& 63)))]) (rest := [.ref h0]) ⟨hx, hb, hml, hown, hts⟩ (kX9_signedLong l Z ((hi + a) + ((lo + b) >>> ((36 : Int32).toInt64 &&& 63))) ) ⟨va_cnB 1 hts gX0_plus_X9_signedLong_n18 rfl rfl rfl (nm_X0_18 hE) (hts (.initialized RX9) (by decide +kernel)) (by decide +kernel) ⟨Nat.le_of_ble_eq_true rfl, Nat.le_of_ble_eq_true rfl⟩, (hts (.static yX9_signedLong) (by decide +kernel)), trivial⟩ hK hE hP hD hS hA hl.1 rfl rfl (Nat.le_of_ble_eq_true rfl) dX0_plus_21 ⟨Nat.le_of_ble_eq_true rfl, Nat.le_of_ble_eq_true rfl⟩ (fun H locs hP hS => ?_)
  refine va_put (D := D) (ci := 0) (v := .long (sg ((hi + a) + ((lo + b) >>> ((36 : Int32).toInt64 &&& 63))))) (ty := .long) (C := RX0) (T := TX0) (N := 2) hx hb hts (by decide +kernel) tyX0 tyX0_ok nmX0 hown hK hP hD hS 0 rfl rfl 0 (by decide) (hts (.fieldLink RX0 9 "TapeEngine$Accumulator" "high" "J") (by decide +kernel)) (fun _ h9 => h9) rfl (by decide +kernel) rfl rfl (Nat.le_of_ble_eq_true rfl) dX0_plus_24 (fun H locs hP hD hS => ?_)
  have hP : va_P D vwCl [(h0, .inr (0, [.long (sg ((hi + a) + ((lo + b) >>> ((36 : Int32).toInt64 &&& 63)))), .long lo]))] H := hP
  have hD : va_D A [(h0, .inr (0, [.long (sg ((hi + a) + ((lo + b) >>> ((36 : Int32).toInt64 &&& 63)))), .long lo]))] := hD
  refine lv_aload_n hx hb dX0_plus_27 rfl (lv_at hl 1 rfl) ?_
  refine lv_lload hx hb dX0_plus_28 (lv_at hl 0 rfl) ?_
  refine lv_ldc2 hx hb hown (hts (.constantLong RX0 22 (68719476735)) (by decide +kernel)) dX0_plus_30 ?_
  refine lv_land hx hb dX0_plus_33 ?_
  refine va_put (D := D) (ci := 0) (v := .long ((lo + b) &&& 68719476735)) (ty := .long) (C := RX0) (T := TX0) (N := 2) hx hb hts (by decide +kernel) tyX0 tyX0_ok nmX0 hown hK hP hD hS 0 rfl rfl 1 (by decide) (hts (.fieldLink RX0 15 "TapeEngine$Accumulator" "low" "J") (by decide +kernel)) (fun _ h9 => h9) rfl (by decide +kernel) rfl rfl (Nat.le_of_ble_eq_true rfl) dX0_plus_34 (fun H locs hP hD hS => ?_)
  have hP : va_P D vwCl [(h0, .inr (0, [.long (sg ((hi + a) + ((lo + b) >>> ((36 : Int32).toInt64 &&& 63)))), .long ((lo + b) &&& 68719476735)]))] H := hP
  have hD : va_D A [(h0, .inr (0, [.long (sg ((hi + a) + ((lo + b) >>> ((36 : Int32).toInt64 &&& 63)))), .long ((lo + b) &&& 68719476735)]))] := hD
  exact ret_v hx hb hr hlocks ((sg ((hi + a) + ((lo + b) >>> ((36 : Int32).toInt64 &&& 63)))), ((lo + b) &&& 68719476735)) ⟨(by rfl), (by rfl)⟩ (hP.sub [0] rfl) (hD.sub [0] (by decide) rfl) hS dX0_plus_37

set_option maxHeartbeats 4000000 in
set_option maxRecDepth 100000 in
theorem kX0_shiftRight (l : Launch) (D : va_G) (Z : SZ) (cB cI cJ cZ : ClassId) (ksz : Nat) (h0 : Nat) (hi : Int64) (lo : Int64) (q : Int32)  : Met l yX0_shiftRight wsX0_shiftRight { frames := 1, cells := 0, slots := 0, locals := 24 } (PR D Z [(cB, .byte), (cI, .int), (cJ, .long), (cZ, .boolean)] [.ref h0, .int q] [(h0, .inr (0, [.long hi, .long lo]))] ksz) (QV D (fun (u : Int64 × Int64) => u.1 = (srTop hi q) ∧ u.2 = (srRest hi lo q)) (fun (u : Int64 × Int64) => [(h0, .inr (0, [.long u.1, .long u.2]))]) (va_A [(h0, .inr (0, [.long hi, .long lo]))] ksz)) 0 0 (va_A [(h0, .inr (0, [.long hi, .long lo]))] ksz) := by
  refine met_g (QV D (fun (u : Int64 × Int64) => u.1 = (srTop hi q) ∧ u.2 = (srRest hi lo q)) (fun (u : Int64 × Int64) => [(h0, .inr (0, [.long u.1, .long u.2]))])) cX0_shiftRight 4 none (by decide) rfl (Nat.le_of_ble_eq_true rfl) ?_
  intro p e s m below meth c A ls hx hb hr hts hown hlocks hml hin hA hP hK hD hE hS hl hsz
  clear hsz
  have hl : lv_has ls 4 [(0, .ref h0), (1, .int q)] := hl
  refine lv_aload_n hx hb dX0_shiftRight_0 rfl (lv_at hl 0 rfl) ?_
  refine va_get (D := D) (ci := 0) (v := .long hi) (C := RX0) (T := TX0) (N := 2) hx hb hts (by decide +kernel) hown hK hP 0 rfl rfl 0 (by decide) (hts (.fieldLink RX0 9 "TapeEngine$Accumulator" "high" "J") (by decide +kernel)) (fun _ h9 => h9) rfl dX0_shiftRight_1 ?_
  refine lv_lconst (v := 1) hx hb dX0_shiftRight_4 (by decide) ?_
  refine lv_iload_n hx hb dX0_shiftRight_5 rfl (lv_at hl 1 rfl) ?_
  refine lv_lshl hx hb dX0_shiftRight_6 rfl ?_
  refine lv_lconst (v := 1) hx hb dX0_shiftRight_7 (by decide) ?_
  refine lv_lsub hx hb dX0_shiftRight_8 ?_
  refine lv_land hx hb dX0_shiftRight_9 ?_
  refine lv_lstore_n (lv' := [(2, .long (hi &&& (((1 : Int64) <<< (q.toInt64 &&& 63)) - 1))), (0, .ref h0), (1, .int q)]) hx hb dX0_shiftRight_10 rfl hl (by decide) rfl (fun ls hl => ?_)
  refine lv_aload_n hx hb dX0_shiftRight_11 rfl (lv_at hl 1 rfl) ?_
  refine lv_aload_n hx hb dX0_shiftRight_12 rfl (lv_at hl 1 rfl) ?_
  refine va_get (D := D) (ci := 0) (v := .long hi) (C := RX0) (T := TX0) (N := 2) hx hb hts (by decide +kernel) hown hK hP 0 rfl rfl 0 (by decide) (hts (.fieldLink RX0 9 "TapeEngine$Accumulator" "high" "J") (by decide +kernel)) (fun _ h9 => h9) rfl dX0_shiftRight_13 ?_
  refine lv_iload_n hx hb dX0_shiftRight_16 rfl (lv_at hl 2 rfl) ?_
  refine lv_lshr hx hb dX0_shiftRight_17 rfl ?_
  refine lv_aload_n hx hb dX0_shiftRight_18 rfl (lv_at hl 1 rfl) ?_
  refine va_get (D := D) (ci := 0) (v := .long lo) (C := RX0) (T := TX0) (N := 2) hx hb hts (by decide +kernel) hown hK hP 0 rfl rfl 1 (by decide) (hts (.fieldLink RX0 15 "TapeEngine$Accumulator" "low" "J") (by decide +kernel)) (fun _ h9 => h9) rfl dX0_shiftRight_19 ?_
  refine lv_iload_n hx hb dX0_shiftRight_22 rfl (lv_at hl 2 rfl) ?_
  refine lv_lshr hx hb dX0_shiftRight_23 rfl ?_
  refine lv_lload_n hx hb dX0_shiftRight_24 rfl (lv_at hl 0 rfl) ?_
  refine lv_bipush (v := 36) hx hb dX0_shiftRight_25 (by decide) ?_
  refine lv_iload_n hx hb dX0_shiftRight_27 rfl (lv_at hl 2 rfl) ?_
  refine lv_isub hx hb dX0_shiftRight_28 ?_
  refine lv_lshl hx hb dX0_shiftRight_29 rfl ?_
  refine lv_lor hx hb dX0_shiftRight_30 ?_
  refine kV_v (As := [.long (hi >>> (q.toInt64 &&& 63)), .long ((lo >>> (q.toInt64 &&& 63)) ||| ((hi &&& (((1 : Int64) <<< (q.toInt64 &&& 63)) - 1)) <<< (((36 : Int32) - q).toInt64 &&& 63)))]) (rest := []) (wr := []) ⟨hx, hb, hml, hown, hts⟩ (kX0_become l D Z cB cI cJ cZ s.heap.size h0 hi lo (hi >>> (q.toInt64 &&& 63)) ((lo >>> (q.toInt64 &&& 63)) ||| ((hi &&& (((1 : Int64) <<< (q.toInt64 &&& 63)) - 1)) <<< (((36 : Int32) - q).toInt64 &&& 63))) ) (cwV 2 hts gX0_shiftRight_X0_become rfl rfl rfl (by decide +kernel) ⟨Nat.le_of_ble_eq_true rfl, Nat.le_of_ble_eq_true rfl⟩) hK hE hP hD hS hA 0 0 rfl rfl rfl [0] [] rfl rfl rfl rfl rfl (by decide) hl.1 rfl rfl (Nat.le_of_ble_eq_true rfl) dX0_shiftRight_31 ⟨Nat.le_of_ble_eq_true rfl, Nat.le_of_ble_eq_true rfl⟩ (fun u H locs hp hP hD hS => ?_)
  obtain ⟨v_1, v_2⟩ := u
  try dsimp only at hp
  obtain ⟨hq_0, hq_1⟩ := hp
  have hq_0 := hq_0.symm
  subst hq_0
  have hq_1 := hq_1.symm
  subst hq_1
  have hP : va_P D vwCl [(h0, .inr (0, [.long (hi >>> (q.toInt64 &&& 63)), .long ((lo >>> (q.toInt64 &&& 63)) ||| ((hi &&& (((1 : Int64) <<< (q.toInt64 &&& 63)) - 1)) <<< (((36 : Int32) - q).toInt64 &&& 63)))]))] H := hP
  have hD : va_D A [(h0, .inr (0, [.long (hi >>> (q.toInt64 &&& 63)), .long ((lo >>> (q.toInt64 &&& 63)) ||| ((hi &&& (((1 : Int64) <<< (q.toInt64 &&& 63)) - 1)) <<< (((36 : Int32) - q).toInt64 &&& 63)))]))] := hD
  exact ret_v hx hb hr hlocks ((hi >>> (q.toInt64 &&& 63)), ((lo >>> (q.toInt64 &&& 63)) ||| ((hi &&& (((1 : Int64) <<< (q.toInt64 &&& 63)) - 1)) <<< (((36 : Int32) - q).toInt64 &&& 63)))) ⟨(by rfl), (by rfl)⟩ (hP.sub [0] rfl) (hD.sub [0] (by decide) rfl) hS dX0_shiftRight_34

set_option maxHeartbeats 4000000 in
set_option maxRecDepth 100000 in
theorem kX0_shiftLeft (l : Launch) (D : va_G) (Z : SZ) (cB cI cJ cZ : ClassId) (ksz : Nat) (h0 : Nat) (hi : Int64) (lo : Int64) (q : Int32)  : Met l yX0_shiftLeft wsX0_shiftLeft { frames := 1, cells := 0, slots := 0, locals := 24 } (PR D Z [(cB, .byte), (cI, .int), (cJ, .long), (cZ, .boolean)] [.ref h0, .int q] [(h0, .inr (0, [.long hi, .long lo]))] ksz) (QV D (fun (u : Int64 × Int64) => u.1 = (slTop hi lo q) ∧ u.2 = (slRest lo q)) (fun (u : Int64 × Int64) => [(h0, .inr (0, [.long u.1, .long u.2]))]) (va_A [(h0, .inr (0, [.long hi, .long lo]))] ksz)) 0 0 (va_A [(h0, .inr (0, [.long hi, .long lo]))] ksz) := by
  refine met_g (QV D (fun (u : Int64 × Int64) => u.1 = (slTop hi lo q) ∧ u.2 = (slRest lo q)) (fun (u : Int64 × Int64) => [(h0, .inr (0, [.long u.1, .long u.2]))])) cX0_shiftLeft 2 none (by decide) rfl (Nat.le_of_ble_eq_true rfl) ?_
  intro p e s m below meth c A ls hx hb hr hts hown hlocks hml hin hA hP hK hD hE hS hl hsz
  clear hsz
  have hl : lv_has ls 2 [(0, .ref h0), (1, .int q)] := hl
  refine lv_aload_n hx hb dX0_shiftLeft_0 rfl (lv_at hl 0 rfl) ?_
  refine lv_aload_n hx hb dX0_shiftLeft_1 rfl (lv_at hl 0 rfl) ?_
  refine va_get (D := D) (ci := 0) (v := .long hi) (C := RX0) (T := TX0) (N := 2) hx hb hts (by decide +kernel) hown hK hP 0 rfl rfl 0 (by decide) (hts (.fieldLink RX0 9 "TapeEngine$Accumulator" "high" "J") (by decide +kernel)) (fun _ h9 => h9) rfl dX0_shiftLeft_2 ?_
  refine lv_iload_n hx hb dX0_shiftLeft_5 rfl (lv_at hl 1 rfl) ?_
  refine lv_lshl hx hb dX0_shiftLeft_6 rfl ?_
  refine lv_aload_n hx hb dX0_shiftLeft_7 rfl (lv_at hl 0 rfl) ?_
  refine va_get (D := D) (ci := 0) (v := .long lo) (C := RX0) (T := TX0) (N := 2) hx hb hts (by decide +kernel) hown hK hP 0 rfl rfl 1 (by decide) (hts (.fieldLink RX0 15 "TapeEngine$Accumulator" "low" "J") (by decide +kernel)) (fun _ h9 => h9) rfl dX0_shiftLeft_8 ?_
  refine lv_bipush (v := 36) hx hb dX0_shiftLeft_11 (by decide) ?_
  refine lv_iload_n hx hb dX0_shiftLeft_13 rfl (lv_at hl 1 rfl) ?_
  refine lv_isub hx hb dX0_shiftLeft_14 ?_
  refine lv_lshr hx hb dX0_shiftLeft_15 rfl ?_
  refine lv_lor hx hb dX0_shiftLeft_16 ?_
  refine pN_l (As := [.long ((hi <<< (q.toInt64 &&& 63)) ||| (lo >>> (((36 : Int32) - q).toInt64 &&& 63)))]) (rest := [.ref h0]) ⟨hx, hb, hml, hown, hts⟩ (kX9_signedLong l Z ((hi <<< (q.toInt64 &&& 63)) ||| (lo >>> (((36 : Int32) - q).toInt64 &&& 63))) ) ⟨va_cnB 1 hts gX0_shiftLeft_X9_signedLong_n18 rfl rfl rfl (nm_X0_18 hE) (hts (.initialized RX9) (by decide +kernel)) (by decide +kernel) ⟨Nat.le_of_ble_eq_true rfl, Nat.le_of_ble_eq_true rfl⟩, (hts (.static yX9_signedLong) (by decide +kernel)), trivial⟩ hK hE hP hD hS hA hl.1 rfl rfl (Nat.le_of_ble_eq_true rfl) dX0_shiftLeft_17 ⟨Nat.le_of_ble_eq_true rfl, Nat.le_of_ble_eq_true rfl⟩ (fun H locs hP hS => ?_)
  refine lv_aload_n hx hb dX0_shiftLeft_20 rfl (lv_at hl 0 rfl) ?_
  refine va_get (D := D) (ci := 0) (v := .long lo) (C := RX0) (T := TX0) (N := 2) hx hb hts (by decide +kernel) hown hK hP 0 rfl rfl 1 (by decide) (hts (.fieldLink RX0 15 "TapeEngine$Accumulator" "low" "J") (by decide +kernel)) (fun _ h9 => h9) rfl dX0_shiftLeft_21 ?_
  refine lv_iload_n hx hb dX0_shiftLeft_24 rfl (lv_at hl 1 rfl) ?_
  refine lv_lshl hx hb dX0_shiftLeft_25 rfl ?_
  refine lv_ldc2 hx hb hown (hts (.constantLong RX0 22 (68719476735)) (by decide +kernel)) dX0_shiftLeft_26 ?_
  refine lv_land hx hb dX0_shiftLeft_29 ?_
  refine kV_v (As := [.long (sg ((hi <<< (q.toInt64 &&& 63)) ||| (lo >>> (((36 : Int32) - q).toInt64 &&& 63)))), .long ((lo <<< (q.toInt64 &&& 63)) &&& 68719476735)]) (rest := []) (wr := []) ⟨hx, hb, hml, hown, hts⟩ (kX0_become l D Z cB cI cJ cZ H.size h0 hi lo (sg ((hi <<< (q.toInt64 &&& 63)) ||| (lo >>> (((36 : Int32) - q).toInt64 &&& 63)))) ((lo <<< (q.toInt64 &&& 63)) &&& 68719476735) ) (cwV 2 hts gX0_shiftLeft_X0_become rfl rfl rfl (by decide +kernel) ⟨Nat.le_of_ble_eq_true rfl, Nat.le_of_ble_eq_true rfl⟩) hK hE hP hD hS hA 0 0 rfl rfl rfl [0] [] rfl rfl rfl rfl rfl (by decide) hl.1 rfl rfl (Nat.le_of_ble_eq_true rfl) dX0_shiftLeft_30 ⟨Nat.le_of_ble_eq_true rfl, Nat.le_of_ble_eq_true rfl⟩ (fun u H locs hp hP hD hS => ?_)
  obtain ⟨v_1, v_2⟩ := u
  try dsimp only at hp
  obtain ⟨hq_0, hq_1⟩ := hp
  have hq_0 := hq_0.symm
  subst hq_0
  have hq_1 := hq_1.symm
  subst hq_1
  have hP : va_P D vwCl [(h0, .inr (0, [.long (sg ((hi <<< (q.toInt64 &&& 63)) ||| (lo >>> (((36 : Int32) - q).toInt64 &&& 63)))), .long ((lo <<< (q.toInt64 &&& 63)) &&& 68719476735)]))] H := hP
  have hD : va_D A [(h0, .inr (0, [.long (sg ((hi <<< (q.toInt64 &&& 63)) ||| (lo >>> (((36 : Int32) - q).toInt64 &&& 63)))), .long ((lo <<< (q.toInt64 &&& 63)) &&& 68719476735)]))] := hD
  exact ret_v hx hb hr hlocks ((sg ((hi <<< (q.toInt64 &&& 63)) ||| (lo >>> (((36 : Int32) - q).toInt64 &&& 63)))), ((lo <<< (q.toInt64 &&& 63)) &&& 68719476735)) ⟨(by rfl), (by rfl)⟩ (hP.sub [0] rfl) (hD.sub [0] (by decide) rfl) hS dX0_shiftLeft_33

set_option maxHeartbeats 4000000 in
set_option maxRecDepth 100000 in
theorem kX0_plusProduct (l : Launch) (D : va_G) (Z : SZ) (cB cI cJ cZ : ClassId) (ksz : Nat) (h0 : Nat) (hi : Int64) (lo : Int64) (a : Int64) (b : Int64) (sn : Int32)  : Met l yX0_plusProduct wsX0_plusProduct { frames := 2, cells := 0, slots := 0, locals := 47 } (PR D Z [(cB, .byte), (cI, .int), (cJ, .long), (cZ, .boolean)] [.ref h0, .long a, .long b, .int sn] [(h0, .inr (0, [.long hi, .long lo]))] ksz) (QV D (fun (u : Int64 × Int64) => u.1 = (ppTop hi lo a b sn.toInt64) ∧ u.2 = (ppRest hi lo a b sn.toInt64)) (fun (u : Int64 × Int64) => [(h0, .inr (0, [.long u.1, .long u.2]))]) (va_A [(h0, .inr (0, [.long hi, .long lo]))] ksz)) 0 0 (va_A [(h0, .inr (0, [.long hi, .long lo]))] ksz) := by
  refine met_g (QV D (fun (u : Int64 × Int64) => u.1 = (ppTop hi lo a b sn.toInt64) ∧ u.2 = (ppRest hi lo a b sn.toInt64)) (fun (u : Int64 × Int64) => [(h0, .inr (0, [.long u.1, .long u.2]))])) cX0_plusProduct 10 none (by decide) rfl (Nat.le_of_ble_eq_true rfl) ?_
  intro p e s m below meth c A ls hx hb hr hts hown hlocks hml hin hA hP hK hD hE hS hl hsz
  clear hsz
  have hl : lv_has ls 10 [(0, .ref h0), (1, .long a), (3, .long b), (5, .int sn)] := hl
  refine lv_lload_n hx hb dX0_plusProduct_0 rfl (lv_at hl 1 rfl) ?_
  refine lv_lload_n hx hb dX0_plusProduct_1 rfl (lv_at hl 2 rfl) ?_
  refine lv_bipush (v := 18) hx hb dX0_plusProduct_2 (by decide) ?_
  refine lv_lshr hx hb dX0_plusProduct_4 rfl ?_
  refine lv_lmul hx hb dX0_plusProduct_5 ?_
  refine lv_lstore (lv' := [(6, .long (a * (b >>> ((18 : Int32).toInt64 &&& 63)))), (0, .ref h0), (1, .long a), (3, .long b), (5, .int sn)]) hx hb dX0_plusProduct_6 hl (by decide) rfl (fun ls hl => ?_)
  refine lv_ldc2 hx hb hown (hts (.constantLong RX0 24 (4)) (by decide +kernel)) dX0_plusProduct_8 ?_
  refine lv_lload_n hx hb dX0_plusProduct_11 rfl (lv_at hl 2 rfl) ?_
  refine lv_lmul hx hb dX0_plusProduct_12 ?_
  refine lv_lload_n hx hb dX0_plusProduct_13 rfl (lv_at hl 3 rfl) ?_
  refine lv_ldc2 hx hb hown (hts (.constantLong RX0 26 (262143)) (by decide +kernel)) dX0_plusProduct_14 ?_
  refine lv_land hx hb dX0_plusProduct_17 ?_
  refine lv_lmul hx hb dX0_plusProduct_18 ?_
  refine lv_lstore (lv' := [(8, .long (((4 : Int64) * a) * (b &&& 262143))), (6, .long (a * (b >>> ((18 : Int32).toInt64 &&& 63)))), (0, .ref h0), (1, .long a), (3, .long b), (5, .int sn)]) hx hb dX0_plusProduct_19 hl (by decide) rfl (fun ls hl => ?_)
  refine lv_aload_n hx hb dX0_plusProduct_21 rfl (lv_at hl 2 rfl) ?_
  refine lv_iload hx hb dX0_plusProduct_22 (lv_at hl 5 rfl) ?_
  refine lv_i2l hx hb dX0_plusProduct_24 rfl ?_
  refine lv_lload hx hb dX0_plusProduct_25 (lv_at hl 1 rfl) ?_
  refine lv_bipush (v := 16) hx hb dX0_plusProduct_27 (by decide) ?_
  refine lv_lshr hx hb dX0_plusProduct_29 rfl ?_
  refine lv_lmul hx hb dX0_plusProduct_30 ?_
  refine lv_iload hx hb dX0_plusProduct_31 (lv_at hl 5 rfl) ?_
  refine lv_i2l hx hb dX0_plusProduct_33 rfl ?_
  refine lv_lload hx hb dX0_plusProduct_34 (lv_at hl 1 rfl) ?_
  refine lv_ldc2 hx hb hown (hts (.constantLong RX0 28 (65535)) (by decide +kernel)) dX0_plusProduct_36 ?_
  refine lv_land hx hb dX0_plusProduct_39 ?_
  refine lv_bipush (v := 20) hx hb dX0_plusProduct_40 (by decide) ?_
  refine lv_lshl hx hb dX0_plusProduct_42 rfl ?_
  refine lv_lmul hx hb dX0_plusProduct_43 ?_
  refine kV_v (As := [.long (sn.toInt64 * ((a * (b >>> ((18 : Int32).toInt64 &&& 63))) >>> ((16 : Int32).toInt64 &&& 63))), .long (sn.toInt64 * (((a * (b >>> ((18 : Int32).toInt64 &&& 63))) &&& 65535) <<< ((20 : Int32).toInt64 &&& 63)))]) (rest := []) (wr := []) ⟨hx, hb, hml, hown, hts⟩ (kX0_plus l D Z cB cI cJ cZ s.heap.size h0 hi lo (sn.toInt64 * ((a * (b >>> ((18 : Int32).toInt64 &&& 63))) >>> ((16 : Int32).toInt64 &&& 63))) (sn.toInt64 * (((a * (b >>> ((18 : Int32).toInt64 &&& 63))) &&& 65535) <<< ((20 : Int32).toInt64 &&& 63))) ) (cwV 2 hts gX0_plusProduct_X0_plus rfl rfl rfl (by decide +kernel) ⟨Nat.le_of_ble_eq_true rfl, Nat.le_of_ble_eq_true rfl⟩) hK hE hP hD hS hA 0 0 rfl rfl rfl [0] [] rfl rfl rfl rfl rfl (by decide) hl.1 rfl rfl (Nat.le_of_ble_eq_true rfl) dX0_plusProduct_44 ⟨Nat.le_of_ble_eq_true rfl, Nat.le_of_ble_eq_true rfl⟩ (fun u H locs hp hP hD hS => ?_)
  obtain ⟨v_1, v_2⟩ := u
  try dsimp only at hp
  obtain ⟨hq_0, hq_1⟩ := hp
  have hq_0 := hq_0.symm
  subst hq_0
  have hq_1 := hq_1.symm
  subst hq_1
  have hP : va_P D vwCl [(h0, .inr (0, [.long (gTop hi lo (sn.toInt64 * ((a * (b >>> ((18 : Int32).toInt64 &&& 63))) >>> ((16 : Int32).toInt64 &&& 63))) (sn.toInt64 * (((a * (b >>> ((18 : Int32).toInt64 &&& 63))) &&& 65535) <<< ((20 : Int32).toInt64 &&& 63)))), .long (gRest lo (sn.toInt64 * (((a * (b >>> ((18 : Int32).toInt64 &&& 63))) &&& 65535) <<< ((20 : Int32).toInt64 &&& 63))))]))] H := hP
  have hD : va_D A [(h0, .inr (0, [.long (gTop hi lo (sn.toInt64 * ((a * (b >>> ((18 : Int32).toInt64 &&& 63))) >>> ((16 : Int32).toInt64 &&& 63))) (sn.toInt64 * (((a * (b >>> ((18 : Int32).toInt64 &&& 63))) &&& 65535) <<< ((20 : Int32).toInt64 &&& 63)))), .long (gRest lo (sn.toInt64 * (((a * (b >>> ((18 : Int32).toInt64 &&& 63))) &&& 65535) <<< ((20 : Int32).toInt64 &&& 63))))]))] := hD
  refine lv_aload_n hx hb dX0_plusProduct_47 rfl (lv_at hl 2 rfl) ?_
  refine lv_iload hx hb dX0_plusProduct_48 (lv_at hl 5 rfl) ?_
  refine lv_i2l hx hb dX0_plusProduct_50 rfl ?_
  refine lv_lload hx hb dX0_plusProduct_51 (lv_at hl 0 rfl) ?_
  refine lv_bipush (v := 36) hx hb dX0_plusProduct_53 (by decide) ?_
  refine lv_lshr hx hb dX0_plusProduct_55 rfl ?_
  refine lv_lmul hx hb dX0_plusProduct_56 ?_
  refine lv_iload hx hb dX0_plusProduct_57 (lv_at hl 5 rfl) ?_
  refine lv_i2l hx hb dX0_plusProduct_59 rfl ?_
  refine lv_lload hx hb dX0_plusProduct_60 (lv_at hl 0 rfl) ?_
  refine lv_ldc2 hx hb hown (hts (.constantLong RX0 22 (68719476735)) (by decide +kernel)) dX0_plusProduct_62 ?_
  refine lv_land hx hb dX0_plusProduct_65 ?_
  refine lv_lmul hx hb dX0_plusProduct_66 ?_
  refine kV_v (As := [.long (sn.toInt64 * ((((4 : Int64) * a) * (b &&& 262143)) >>> ((36 : Int32).toInt64 &&& 63))), .long (sn.toInt64 * ((((4 : Int64) * a) * (b &&& 262143)) &&& 68719476735))]) (rest := []) (wr := []) ⟨hx, hb, hml, hown, hts⟩ (kX0_plus l D Z cB cI cJ cZ H.size h0 (gTop hi lo (sn.toInt64 * ((a * (b >>> ((18 : Int32).toInt64 &&& 63))) >>> ((16 : Int32).toInt64 &&& 63))) (sn.toInt64 * (((a * (b >>> ((18 : Int32).toInt64 &&& 63))) &&& 65535) <<< ((20 : Int32).toInt64 &&& 63)))) (gRest lo (sn.toInt64 * (((a * (b >>> ((18 : Int32).toInt64 &&& 63))) &&& 65535) <<< ((20 : Int32).toInt64 &&& 63)))) (sn.toInt64 * ((((4 : Int64) * a) * (b &&& 262143)) >>> ((36 : Int32).toInt64 &&& 63))) (sn.toInt64 * ((((4 : Int64) * a) * (b &&& 262143)) &&& 68719476735)) ) (cwV 2 hts gX0_plusProduct_X0_plus rfl rfl rfl (by decide +kernel) ⟨Nat.le_of_ble_eq_true rfl, Nat.le_of_ble_eq_true rfl⟩) hK hE hP hD hS hA 0 0 rfl rfl rfl [0] [] rfl rfl rfl rfl rfl (by decide) hl.1 rfl rfl (Nat.le_of_ble_eq_true rfl) dX0_plusProduct_67 ⟨Nat.le_of_ble_eq_true rfl, Nat.le_of_ble_eq_true rfl⟩ (fun u H locs hp hP hD hS => ?_)
  obtain ⟨v_3, v_4⟩ := u
  try dsimp only at hp
  obtain ⟨hq_0, hq_1⟩ := hp
  have hq_0 := hq_0.symm
  subst hq_0
  have hq_1 := hq_1.symm
  subst hq_1
  have hP : va_P D vwCl [(h0, .inr (0, [.long (gTop (gTop hi lo (sn.toInt64 * ((a * (b >>> ((18 : Int32).toInt64 &&& 63))) >>> ((16 : Int32).toInt64 &&& 63))) (sn.toInt64 * (((a * (b >>> ((18 : Int32).toInt64 &&& 63))) &&& 65535) <<< ((20 : Int32).toInt64 &&& 63)))) (gRest lo (sn.toInt64 * (((a * (b >>> ((18 : Int32).toInt64 &&& 63))) &&& 65535) <<< ((20 : Int32).toInt64 &&& 63)))) (sn.toInt64 * ((((4 : Int64) * a) * (b &&& 262143)) >>> ((36 : Int32).toInt64 &&& 63))) (sn.toInt64 * ((((4 : Int64) * a) * (b &&& 262143)) &&& 68719476735))), .long (gRest (gRest lo (sn.toInt64 * (((a * (b >>> ((18 : Int32).toInt64 &&& 63))) &&& 65535) <<< ((20 : Int32).toInt64 &&& 63)))) (sn.toInt64 * ((((4 : Int64) * a) * (b &&& 262143)) &&& 68719476735)))]))] H := hP
  have hD : va_D A [(h0, .inr (0, [.long (gTop (gTop hi lo (sn.toInt64 * ((a * (b >>> ((18 : Int32).toInt64 &&& 63))) >>> ((16 : Int32).toInt64 &&& 63))) (sn.toInt64 * (((a * (b >>> ((18 : Int32).toInt64 &&& 63))) &&& 65535) <<< ((20 : Int32).toInt64 &&& 63)))) (gRest lo (sn.toInt64 * (((a * (b >>> ((18 : Int32).toInt64 &&& 63))) &&& 65535) <<< ((20 : Int32).toInt64 &&& 63)))) (sn.toInt64 * ((((4 : Int64) * a) * (b &&& 262143)) >>> ((36 : Int32).toInt64 &&& 63))) (sn.toInt64 * ((((4 : Int64) * a) * (b &&& 262143)) &&& 68719476735))), .long (gRest (gRest lo (sn.toInt64 * (((a * (b >>> ((18 : Int32).toInt64 &&& 63))) &&& 65535) <<< ((20 : Int32).toInt64 &&& 63)))) (sn.toInt64 * ((((4 : Int64) * a) * (b &&& 262143)) &&& 68719476735)))]))] := hD
  exact ret_v hx hb hr hlocks ((gTop (gTop hi lo (sn.toInt64 * ((a * (b >>> ((18 : Int32).toInt64 &&& 63))) >>> ((16 : Int32).toInt64 &&& 63))) (sn.toInt64 * (((a * (b >>> ((18 : Int32).toInt64 &&& 63))) &&& 65535) <<< ((20 : Int32).toInt64 &&& 63)))) (gRest lo (sn.toInt64 * (((a * (b >>> ((18 : Int32).toInt64 &&& 63))) &&& 65535) <<< ((20 : Int32).toInt64 &&& 63)))) (sn.toInt64 * ((((4 : Int64) * a) * (b &&& 262143)) >>> ((36 : Int32).toInt64 &&& 63))) (sn.toInt64 * ((((4 : Int64) * a) * (b &&& 262143)) &&& 68719476735))), (gRest (gRest lo (sn.toInt64 * (((a * (b >>> ((18 : Int32).toInt64 &&& 63))) &&& 65535) <<< ((20 : Int32).toInt64 &&& 63)))) (sn.toInt64 * ((((4 : Int64) * a) * (b &&& 262143)) &&& 68719476735)))) ⟨(by rfl), (by rfl)⟩ (hP.sub [0] rfl) (hD.sub [0] (by decide) rfl) hS dX0_plusProduct_70

set_option maxHeartbeats 4000000 in
set_option maxRecDepth 100000 in
theorem kX5_shortAt (l : Launch) (D : va_G) (Z : SZ) (cB cI cJ cZ : ClassId) (ksz : Nat) (h0 : Nat) (h1 : Nat) (h2 : Nat) (w : Nat → Int32) (j : Nat) (hj : j < 256) : Met l yX5_shortAt wsX5_shortAt { frames := 0, cells := 0, slots := 0, locals := 0 } (PR D Z [(cB, .byte), (cI, .int), (cJ, .long), (cZ, .boolean)] [.ref h0, .int (nI j)] [(h0, .inr (5, [.ref h1, .ref h2])), (h1, .inl (cI, 256, .inl w))] ksz) (QI D (fun (r : Int32) (_ : Unit) => r = (w j)) (fun (_ : Unit) => [(h0, .inr (5, [.ref h1, .ref h2])), (h1, .inl (cI, 256, .inl w))]) (va_A [(h0, .inr (5, [.ref h1, .ref h2])), (h1, .inl (cI, 256, .inl w))] ksz)) 0 0 (va_A [(h0, .inr (5, [.ref h1, .ref h2])), (h1, .inl (cI, 256, .inl w))] ksz) := by
  refine met_g (QI D (fun (r : Int32) (_ : Unit) => r = (w j)) (fun (_ : Unit) => [(h0, .inr (5, [.ref h1, .ref h2])), (h1, .inl (cI, 256, .inl w))])) cX5_shortAt 2 (some .int) (by decide) rfl (Nat.le_of_ble_eq_true rfl) ?_
  intro p e s m below meth c A ls hx hb hr hts hown hlocks hml hin hA hP hK hD hE hS hl hsz
  clear hsz
  have hl : lv_has ls 2 [(0, .ref h0), (1, .int (nI j))] := hl
  refine lv_aload_n hx hb dX5_shortAt_0 rfl (lv_at hl 0 rfl) ?_
  refine va_get (D := D) (ci := 5) (v := .ref h1) (C := RX5) (T := TX5) (N := 2) hx hb hts (by decide +kernel) hown hK hP 0 rfl rfl 0 (by decide) (hts (.fieldLink RX5 9 "TapeEngine$Memory" "shorts" "[I") (by decide +kernel)) (fun _ h9 => h9) rfl dX5_shortAt_1 ?_
  refine lv_iload_n hx hb dX5_shortAt_4 rfl (lv_at hl 1 rfl) ?_
  refine lv_sipush (v := 255) hx hb dX5_shortAt_5 (by decide) ?_
  refine lv_iand hx hb dX5_shortAt_8 ?_
  refine set_i (y := nI j) (e_a255 hj) ?_
  refine xs_iald (k := j) hx hb hK hP 1 1 rfl rfl (by first | assumption | omega) (by decide) dX5_shortAt_9 ?_
  exact ret_i hx hb hr hlocks () (by rfl) (hP.sub [0, 1] rfl) (hD.sub [0, 1] (by decide) rfl) hS dX5_shortAt_10

set_option maxHeartbeats 4000000 in
set_option maxRecDepth 100000 in
theorem kX5_layShort (l : Launch) (D : va_G) (Z : SZ) (cB cI cJ cZ : ClassId) (ksz : Nat) (h0 : Nat) (h1 : Nat) (h2 : Nat) (w : Nat → Int32) (j : Nat) (x : Int32) (hj : j < 256) : Met l yX5_layShort wsX5_layShort { frames := 0, cells := 0, slots := 0, locals := 0 } (PR D Z [(cB, .byte), (cI, .int), (cJ, .long), (cZ, .boolean)] [.ref h0, .int (nI j), .int x] [(h0, .inr (5, [.ref h1, .ref h2])), (h1, .inl (cI, 256, .inl w))] ksz) (QV D (fun (u : (Nat → Int32)) => u = (upd w j (x &&& 131071))) (fun (u : (Nat → Int32)) => [(h0, .inr (5, [.ref h1, .ref h2])), (h1, .inl (cI, 256, .inl u))]) (va_A [(h0, .inr (5, [.ref h1, .ref h2])), (h1, .inl (cI, 256, .inl w))] ksz)) 0 0 (va_A [(h0, .inr (5, [.ref h1, .ref h2])), (h1, .inl (cI, 256, .inl w))] ksz) := by
  refine met_g (QV D (fun (u : (Nat → Int32)) => u = (upd w j (x &&& 131071))) (fun (u : (Nat → Int32)) => [(h0, .inr (5, [.ref h1, .ref h2])), (h1, .inl (cI, 256, .inl u))])) cX5_layShort 3 none (by decide) rfl (Nat.le_of_ble_eq_true rfl) ?_
  intro p e s m below meth c A ls hx hb hr hts hown hlocks hml hin hA hP hK hD hE hS hl hsz
  clear hsz
  have hl : lv_has ls 3 [(0, .ref h0), (1, .int (nI j)), (2, .int x)] := hl
  refine lv_aload_n hx hb dX5_layShort_0 rfl (lv_at hl 0 rfl) ?_
  refine va_get (D := D) (ci := 5) (v := .ref h1) (C := RX5) (T := TX5) (N := 2) hx hb hts (by decide +kernel) hown hK hP 0 rfl rfl 0 (by decide) (hts (.fieldLink RX5 9 "TapeEngine$Memory" "shorts" "[I") (by decide +kernel)) (fun _ h9 => h9) rfl dX5_layShort_1 ?_
  refine lv_iload_n hx hb dX5_layShort_4 rfl (lv_at hl 1 rfl) ?_
  refine lv_sipush (v := 255) hx hb dX5_layShort_5 (by decide) ?_
  refine lv_iand hx hb dX5_layShort_8 ?_
  refine set_i (y := nI j) (e_a255 hj) ?_
  refine lv_iload_n hx hb dX5_layShort_9 rfl (lv_at hl 2 rfl) ?_
  refine lv_ldc hx hb hown (hts (.constant RX5 18 (131071)) (by decide +kernel)) dX5_layShort_10 ?_
  refine lv_iand hx hb dX5_layShort_12 ?_
  refine xs_iast (k := j) hx hb hK hP hD hS 1 1 rfl rfl (by first | assumption | omega) (by decide) dX5_layShort_13 (fun H locs hP hD hS => ?_)
  have hP : va_P D vwCl [(h0, .inr (5, [.ref h1, .ref h2])), (h1, .inl (cI, 256, .inl (upd w j (x &&& 131071))))] H := hP
  have hD : va_D A [(h0, .inr (5, [.ref h1, .ref h2])), (h1, .inl (cI, 256, .inl (upd w j (x &&& 131071))))] := hD
  exact ret_v hx hb hr hlocks ((upd w j (x &&& 131071))) (by rfl) (hP.sub [0, 1] rfl) (hD.sub [0, 1] (by decide) rfl) hS dX5_layShort_14

set_option maxHeartbeats 4000000 in
set_option maxRecDepth 100000 in
theorem kX5_longAt (l : Launch) (D : va_G) (Z : SZ) (cB cI cJ cZ : ClassId) (ksz : Nat) (h0 : Nat) (h1 : Nat) (h2 : Nat) (w : Nat → Int32) (mid : Nat → Int32) (j : Nat) (hj : j < 256) : Met l yX5_longAt wsX5_longAt { frames := 1, cells := 0, slots := 0, locals := 21 } (PR D Z [(cB, .byte), (cI, .int), (cJ, .long), (cZ, .boolean)] [.ref h0, .int (nI j)] [(h0, .inr (5, [.ref h1, .ref h2])), (h1, .inl (cI, 256, .inl w)), (h2, .inl (cI, 128, .inl mid))] ksz) (QL D (fun (r : Int64) (_ : Unit) => r = (lwd w mid j)) (fun (_ : Unit) => [(h0, .inr (5, [.ref h1, .ref h2])), (h1, .inl (cI, 256, .inl w)), (h2, .inl (cI, 128, .inl mid))]) (va_A [(h0, .inr (5, [.ref h1, .ref h2])), (h1, .inl (cI, 256, .inl w)), (h2, .inl (cI, 128, .inl mid))] ksz)) 0 0 (va_A [(h0, .inr (5, [.ref h1, .ref h2])), (h1, .inl (cI, 256, .inl w)), (h2, .inl (cI, 128, .inl mid))] ksz) := by
  refine met_g (QL D (fun (r : Int64) (_ : Unit) => r = (lwd w mid j)) (fun (_ : Unit) => [(h0, .inr (5, [.ref h1, .ref h2])), (h1, .inl (cI, 256, .inl w)), (h2, .inl (cI, 128, .inl mid))])) cX5_longAt 6 (some .long) (by decide) rfl (Nat.le_of_ble_eq_true rfl) ?_
  intro p e s m below meth c A ls hx hb hr hts hown hlocks hml hin hA hP hK hD hE hS hl hsz
  clear hsz
  have hl : lv_has ls 6 [(0, .ref h0), (1, .int (nI j))] := hl
  refine lv_aload_n hx hb dX5_longAt_0 rfl (lv_at hl 0 rfl) ?_
  refine lv_iload_n hx hb dX5_longAt_1 rfl (lv_at hl 1 rfl) ?_
  refine lv_iconst (v := 1) hx hb dX5_longAt_2 (by decide) ?_
  refine lv_ior hx hb dX5_longAt_3 ?_
  refine set_i (y := nI (j / 2 * 2 + 1)) (e_or1 j hj) ?_
  refine kV_i (As := [.int (nI (j / 2 * 2 + 1))]) (rest := []) (wr := [(h2, .inl (cI, 128, .inl mid))]) ⟨hx, hb, hml, hown, hts⟩ (kX5_shortAt l D Z cB cI cJ cZ s.heap.size h0 h1 h2 w (j / 2 * 2 + 1) (by first | assumption | omega)) (cwV 1 hts gX5_longAt_X5_shortAt rfl rfl rfl (by decide +kernel) ⟨Nat.le_of_ble_eq_true rfl, Nat.le_of_ble_eq_true rfl⟩) hK hE hP hD hS hA 0 5 rfl rfl rfl [0, 1] [2] rfl rfl rfl rfl rfl (by decide) hl.1 rfl rfl (Nat.le_of_ble_eq_true rfl) dX5_longAt_4 ⟨Nat.le_of_ble_eq_true rfl, Nat.le_of_ble_eq_true rfl⟩ (fun r u H locs hp hP hD hS => ?_)
  try dsimp only at hp
  have hq_0 := hp
  have hq_0 := hq_0.symm
  subst hq_0
  have hP : va_P D vwCl [(h2, .inl (cI, 128, .inl mid)), (h0, .inr (5, [.ref h1, .ref h2])), (h1, .inl (cI, 256, .inl w))] H := hP
  have hD : va_D A [(h2, .inl (cI, 128, .inl mid)), (h0, .inr (5, [.ref h1, .ref h2])), (h1, .inl (cI, 256, .inl w))] := hD
  refine lv_i2l hx hb dX5_longAt_7 rfl ?_
  refine lv_lstore_n (lv' := [(2, .long ((w (j / 2 * 2 + 1)).toInt64)), (0, .ref h0), (1, .int (nI j))]) hx hb dX5_longAt_8 rfl hl (by decide) rfl (fun ls hl => ?_)
  refine lv_aload_n hx hb dX5_longAt_9 rfl (lv_at hl 1 rfl) ?_
  refine va_get (D := D) (ci := 5) (v := .ref h2) (C := RX5) (T := TX5) (N := 2) hx hb hts (by decide +kernel) hown hK hP 1 rfl rfl 1 (by decide) (hts (.fieldLink RX5 15 "TapeEngine$Memory" "middles" "[I") (by decide +kernel)) (fun _ h9 => h9) rfl dX5_longAt_10 ?_
  refine lv_iload_n hx hb dX5_longAt_13 rfl (lv_at hl 2 rfl) ?_
  refine lv_sipush (v := 255) hx hb dX5_longAt_14 (by decide) ?_
  refine lv_iand hx hb dX5_longAt_17 ?_
  refine lv_iconst (v := 1) hx hb dX5_longAt_18 (by decide) ?_
  refine lv_ishr hx hb dX5_longAt_19 ?_
  refine set_i (y := nI (j / 2)) (e_half j hj) ?_
  refine xs_iald (k := (j / 2)) hx hb hK hP 0 1 rfl rfl (by first | assumption | omega) (by decide) dX5_longAt_20 ?_
  refine lv_i2l hx hb dX5_longAt_21 rfl ?_
  refine lv_lstore (lv' := [(4, .long ((mid (j / 2)).toInt64)), (2, .long ((w (j / 2 * 2 + 1)).toInt64)), (0, .ref h0), (1, .int (nI j))]) hx hb dX5_longAt_22 hl (by decide) rfl (fun ls hl => ?_)
  refine lv_lload_n hx hb dX5_longAt_24 rfl (lv_at hl 1 rfl) ?_
  refine lv_bipush (v := 18) hx hb dX5_longAt_25 (by decide) ?_
  refine lv_lshl hx hb dX5_longAt_27 rfl ?_
  refine lv_lload hx hb dX5_longAt_28 (lv_at hl 0 rfl) ?_
  refine lv_bipush (v := 17) hx hb dX5_longAt_30 (by decide) ?_
  refine lv_lshl hx hb dX5_longAt_32 rfl ?_
  refine lv_lor hx hb dX5_longAt_33 ?_
  refine lv_aload_n hx hb dX5_longAt_34 rfl (lv_at hl 2 rfl) ?_
  refine lv_iload_n hx hb dX5_longAt_35 rfl (lv_at hl 3 rfl) ?_
  refine lv_bipush (v := (-2)) hx hb dX5_longAt_36 (by decide) ?_
  refine lv_iand hx hb dX5_longAt_38 ?_
  refine set_i (y := nI (j / 2 * 2)) (e_am2 j hj) ?_
  refine kV_i (As := [.int (nI (j / 2 * 2))]) (rest := [.long (((w (j / 2 * 2 + 1)).toInt64 <<< ((18 : Int32).toInt64 &&& 63)) ||| ((mid (j / 2)).toInt64 <<< ((17 : Int32).toInt64 &&& 63)))]) (wr := [(h2, .inl (cI, 128, .inl mid))]) ⟨hx, hb, hml, hown, hts⟩ (kX5_shortAt l D Z cB cI cJ cZ H.size h0 h1 h2 w (j / 2 * 2) (by first | assumption | omega)) (cwV 1 hts gX5_longAt_X5_shortAt rfl rfl rfl (by decide +kernel) ⟨Nat.le_of_ble_eq_true rfl, Nat.le_of_ble_eq_true rfl⟩) hK hE hP hD hS hA 0 5 rfl rfl rfl [1, 2] [0] rfl rfl rfl rfl rfl (by decide) hl.1 rfl rfl (Nat.le_of_ble_eq_true rfl) dX5_longAt_39 ⟨Nat.le_of_ble_eq_true rfl, Nat.le_of_ble_eq_true rfl⟩ (fun r u H locs hp hP hD hS => ?_)
  try dsimp only at hp
  have hq_0 := hp
  have hq_0 := hq_0.symm
  subst hq_0
  have hP : va_P D vwCl [(h2, .inl (cI, 128, .inl mid)), (h0, .inr (5, [.ref h1, .ref h2])), (h1, .inl (cI, 256, .inl w))] H := hP
  have hD : va_D A [(h2, .inl (cI, 128, .inl mid)), (h0, .inr (5, [.ref h1, .ref h2])), (h1, .inl (cI, 256, .inl w))] := hD
  refine lv_i2l hx hb dX5_longAt_42 rfl ?_
  refine lv_lor hx hb dX5_longAt_43 ?_
  exact ret_l hx hb hr hlocks () (by rfl) (hP.sub [1, 2, 0] rfl) (hD.sub [1, 2, 0] (by decide) rfl) hS dX5_longAt_44

set_option maxHeartbeats 4000000 in
set_option maxRecDepth 100000 in
theorem kX5_layLong (l : Launch) (D : va_G) (Z : SZ) (cB cI cJ cZ : ClassId) (ksz : Nat) (h0 : Nat) (h1 : Nat) (h2 : Nat) (w : Nat → Int32) (mid : Nat → Int32) (j : Nat) (x : Int64) (hj : j < 256) : Met l yX5_layLong wsX5_layLong { frames := 1, cells := 0, slots := 0, locals := 22 } (PR D Z [(cB, .byte), (cI, .int), (cJ, .long), (cZ, .boolean)] [.ref h0, .int (nI j), .long x] [(h0, .inr (5, [.ref h1, .ref h2])), (h1, .inl (cI, 256, .inl w)), (h2, .inl (cI, 128, .inl mid))] ksz) (QV D (fun (u : (Nat → Int32) × (Nat → Int32)) => u.1 = (llW w j x) ∧ u.2 = (llM mid j x)) (fun (u : (Nat → Int32) × (Nat → Int32)) => [(h0, .inr (5, [.ref h1, .ref h2])), (h1, .inl (cI, 256, .inl u.1)), (h2, .inl (cI, 128, .inl u.2))]) (va_A [(h0, .inr (5, [.ref h1, .ref h2])), (h1, .inl (cI, 256, .inl w)), (h2, .inl (cI, 128, .inl mid))] ksz)) 0 0 (va_A [(h0, .inr (5, [.ref h1, .ref h2])), (h1, .inl (cI, 256, .inl w)), (h2, .inl (cI, 128, .inl mid))] ksz) := by
  refine met_g (QV D (fun (u : (Nat → Int32) × (Nat → Int32)) => u.1 = (llW w j x) ∧ u.2 = (llM mid j x)) (fun (u : (Nat → Int32) × (Nat → Int32)) => [(h0, .inr (5, [.ref h1, .ref h2])), (h1, .inl (cI, 256, .inl u.1)), (h2, .inl (cI, 128, .inl u.2))])) cX5_layLong 4 none (by decide) rfl (Nat.le_of_ble_eq_true rfl) ?_
  intro p e s m below meth c A ls hx hb hr hts hown hlocks hml hin hA hP hK hD hE hS hl hsz
  clear hsz
  have hl : lv_has ls 4 [(0, .ref h0), (1, .int (nI j)), (2, .long x)] := hl
  refine lv_aload_n hx hb dX5_layLong_0 rfl (lv_at hl 0 rfl) ?_
  refine lv_iload_n hx hb dX5_layLong_1 rfl (lv_at hl 1 rfl) ?_
  refine lv_iconst (v := 1) hx hb dX5_layLong_2 (by decide) ?_
  refine lv_ior hx hb dX5_layLong_3 ?_
  refine set_i (y := nI (j / 2 * 2 + 1)) (e_or1 j hj) ?_
  refine lv_lload_n hx hb dX5_layLong_4 rfl (lv_at hl 2 rfl) ?_
  refine lv_bipush (v := 18) hx hb dX5_layLong_5 (by decide) ?_
  refine lv_lshr hx hb dX5_layLong_7 rfl ?_
  refine lv_l2i hx hb dX5_layLong_8 rfl ?_
  refine kV_v (As := [.int (nI (j / 2 * 2 + 1)), .int ((x >>> ((18 : Int32).toInt64 &&& 63)).toInt32)]) (rest := []) (wr := [(h2, .inl (cI, 128, .inl mid))]) ⟨hx, hb, hml, hown, hts⟩ (kX5_layShort l D Z cB cI cJ cZ s.heap.size h0 h1 h2 w (j / 2 * 2 + 1) ((x >>> ((18 : Int32).toInt64 &&& 63)).toInt32) (by first | assumption | omega)) (cwV 2 hts gX5_layLong_X5_layShort rfl rfl rfl (by decide +kernel) ⟨Nat.le_of_ble_eq_true rfl, Nat.le_of_ble_eq_true rfl⟩) hK hE hP hD hS hA 0 5 rfl rfl rfl [0, 1] [2] rfl rfl rfl rfl rfl (by decide) hl.1 rfl rfl (Nat.le_of_ble_eq_true rfl) dX5_layLong_9 ⟨Nat.le_of_ble_eq_true rfl, Nat.le_of_ble_eq_true rfl⟩ (fun u H locs hp hP hD hS => ?_)
  obtain ⟨v_1, rfl⟩ : ∃ z, z = u := ⟨_, rfl⟩
  try dsimp only at hp
  have hq_0 := hp
  have hq_0 := hq_0.symm
  subst hq_0
  have hP : va_P D vwCl [(h2, .inl (cI, 128, .inl mid)), (h0, .inr (5, [.ref h1, .ref h2])), (h1, .inl (cI, 256, .inl (upd w (j / 2 * 2 + 1) (((x >>> ((18 : Int32).toInt64 &&& 63)).toInt32) &&& 131071))))] H := hP
  have hD : va_D A [(h2, .inl (cI, 128, .inl mid)), (h0, .inr (5, [.ref h1, .ref h2])), (h1, .inl (cI, 256, .inl (upd w (j / 2 * 2 + 1) (((x >>> ((18 : Int32).toInt64 &&& 63)).toInt32) &&& 131071))))] := hD
  refine lv_aload_n hx hb dX5_layLong_12 rfl (lv_at hl 0 rfl) ?_
  refine va_get (D := D) (ci := 5) (v := .ref h2) (C := RX5) (T := TX5) (N := 2) hx hb hts (by decide +kernel) hown hK hP 1 rfl rfl 1 (by decide) (hts (.fieldLink RX5 15 "TapeEngine$Memory" "middles" "[I") (by decide +kernel)) (fun _ h9 => h9) rfl dX5_layLong_13 ?_
  refine lv_iload_n hx hb dX5_layLong_16 rfl (lv_at hl 1 rfl) ?_
  refine lv_sipush (v := 255) hx hb dX5_layLong_17 (by decide) ?_
  refine lv_iand hx hb dX5_layLong_20 ?_
  refine lv_iconst (v := 1) hx hb dX5_layLong_21 (by decide) ?_
  refine lv_ishr hx hb dX5_layLong_22 ?_
  refine set_i (y := nI (j / 2)) (e_half j hj) ?_
  refine lv_lload_n hx hb dX5_layLong_23 rfl (lv_at hl 2 rfl) ?_
  refine lv_bipush (v := 17) hx hb dX5_layLong_24 (by decide) ?_
  refine lv_lshr hx hb dX5_layLong_26 rfl ?_
  refine lv_l2i hx hb dX5_layLong_27 rfl ?_
  refine lv_iconst (v := 1) hx hb dX5_layLong_28 (by decide) ?_
  refine lv_iand hx hb dX5_layLong_29 ?_
  refine xs_iast (k := (j / 2)) hx hb hK hP hD hS 0 1 rfl rfl (by first | assumption | omega) (by decide) dX5_layLong_30 (fun H locs hP hD hS => ?_)
  have hP : va_P D vwCl [(h2, .inl (cI, 128, .inl (upd mid (j / 2) ((x >>> ((17 : Int32).toInt64 &&& 63)).toInt32 &&& 1)))), (h0, .inr (5, [.ref h1, .ref h2])), (h1, .inl (cI, 256, .inl (upd w (j / 2 * 2 + 1) (((x >>> ((18 : Int32).toInt64 &&& 63)).toInt32) &&& 131071))))] H := hP
  have hD : va_D A [(h2, .inl (cI, 128, .inl (upd mid (j / 2) ((x >>> ((17 : Int32).toInt64 &&& 63)).toInt32 &&& 1)))), (h0, .inr (5, [.ref h1, .ref h2])), (h1, .inl (cI, 256, .inl (upd w (j / 2 * 2 + 1) (((x >>> ((18 : Int32).toInt64 &&& 63)).toInt32) &&& 131071))))] := hD
  refine lv_aload_n hx hb dX5_layLong_31 rfl (lv_at hl 0 rfl) ?_
  refine lv_iload_n hx hb dX5_layLong_32 rfl (lv_at hl 1 rfl) ?_
  refine lv_bipush (v := (-2)) hx hb dX5_layLong_33 (by decide) ?_
  refine lv_iand hx hb dX5_layLong_35 ?_
  refine set_i (y := nI (j / 2 * 2)) (e_am2 j hj) ?_
  refine lv_lload_n hx hb dX5_layLong_36 rfl (lv_at hl 2 rfl) ?_
  refine lv_l2i hx hb dX5_layLong_37 rfl ?_
  refine kV_v (As := [.int (nI (j / 2 * 2)), .int x.toInt32]) (rest := []) (wr := [(h2, .inl (cI, 128, .inl (upd mid (j / 2) ((x >>> ((17 : Int32).toInt64 &&& 63)).toInt32 &&& 1))))]) ⟨hx, hb, hml, hown, hts⟩ (kX5_layShort l D Z cB cI cJ cZ H.size h0 h1 h2 (upd w (j / 2 * 2 + 1) (((x >>> ((18 : Int32).toInt64 &&& 63)).toInt32) &&& 131071)) (j / 2 * 2) x.toInt32 (by first | assumption | omega)) (cwV 2 hts gX5_layLong_X5_layShort rfl rfl rfl (by decide +kernel) ⟨Nat.le_of_ble_eq_true rfl, Nat.le_of_ble_eq_true rfl⟩) hK hE hP hD hS hA 0 5 rfl rfl rfl [1, 2] [0] rfl rfl rfl rfl rfl (by decide) hl.1 rfl rfl (Nat.le_of_ble_eq_true rfl) dX5_layLong_38 ⟨Nat.le_of_ble_eq_true rfl, Nat.le_of_ble_eq_true rfl⟩ (fun u H locs hp hP hD hS => ?_)
  obtain ⟨v_2, rfl⟩ : ∃ z, z = u := ⟨_, rfl⟩
  try dsimp only at hp
  have hq_0 := hp
  have hq_0 := hq_0.symm
  subst hq_0
  have hP : va_P D vwCl [(h2, .inl (cI, 128, .inl (upd mid (j / 2) ((x >>> ((17 : Int32).toInt64 &&& 63)).toInt32 &&& 1)))), (h0, .inr (5, [.ref h1, .ref h2])), (h1, .inl (cI, 256, .inl (upd (upd w (j / 2 * 2 + 1) (((x >>> ((18 : Int32).toInt64 &&& 63)).toInt32) &&& 131071)) (j / 2 * 2) (x.toInt32 &&& 131071))))] H := hP
  have hD : va_D A [(h2, .inl (cI, 128, .inl (upd mid (j / 2) ((x >>> ((17 : Int32).toInt64 &&& 63)).toInt32 &&& 1)))), (h0, .inr (5, [.ref h1, .ref h2])), (h1, .inl (cI, 256, .inl (upd (upd w (j / 2 * 2 + 1) (((x >>> ((18 : Int32).toInt64 &&& 63)).toInt32) &&& 131071)) (j / 2 * 2) (x.toInt32 &&& 131071))))] := hD
  exact ret_v hx hb hr hlocks ((upd (upd w (j / 2 * 2 + 1) (((x >>> ((18 : Int32).toInt64 &&& 63)).toInt32) &&& 131071)) (j / 2 * 2) (x.toInt32 &&& 131071)), (upd mid (j / 2) ((x >>> ((17 : Int32).toInt64 &&& 63)).toInt32 &&& 1))) ⟨(by rfl), (by rfl)⟩ (hP.sub [1, 2, 0] rfl) (hD.sub [1, 2, 0] (by decide) rfl) hS dX5_layLong_41
