set_option maxHeartbeats 4000000 in
set_option maxRecDepth 100000 in
theorem kX10_write (l : Launch) (D : va_G) (Z : SZ) (cB cI cJ cZ : ClassId) (ksz : Nat) (m0 : Nat) (x0 : Nat) (x1 : Nat) (x8 : Nat) (x10 : Nat) (x13 : Nat) (x14 : Nat) (x21 : Nat) (x22 : Nat) (x23 : Nat) (x24 : Nat) (x25 : Nat) (x26 : Nat) (x27 : Nat) (x28 : Nat) (x29 : Nat) (x30 : Nat) (x31 : Nat) (x32 : Nat) (x33 : Nat) (x35 : Nat) (x37 : Nat) (x38 : Nat) (x45 : Nat) (x47 : Nat) (x50 : Nat) (hi : Int64) (lo : Int64) (mult : Int64) (nx : Nat) (tz : Nat) (ta : Nat) (xz : Nat) (fg : Bool) (la : Int32) (mz : Nat) (re : Int32) (en : Int32) (pv : Int32) (ts : Nat) (nw : Nat) (hr0 : Bool) (hk : Bool) (hi2 : Int64) (lo2 : Int64) (mult2 : Int64) (nx2 : Nat) (tz2 : Nat) (ta2 : Nat) (xz2 : Nat) (fg2 : Bool) (la2 : Int32) (tx : Nat → Int32) (x : Int32) (hxz : xz < 400) : Met l yX10_write wsX10_write { frames := 0, cells := 0, slots := 0, locals := 0 } (PR D Z [(cB, .byte), (cI, .int), (cJ, .long), (cZ, .boolean)] [.ref m0, .int x] [(m0, .inr (10, [.ref x0, .ref x1, .long hi, .long lo, .long mult, .int (nI nx), .int (nI tz), .int (nI ta), .ref x8, .int (nI xz), .ref x10, .int (bI fg), .int la, .ref x13, .ref x14, .int (nI mz), .int re, .int en, .int pv, .int (nI ts), .int (nI nw), .ref x21, .ref x22, .ref x23, .ref x24, .ref x25, .ref x26, .ref x27, .ref x28, .ref x29, .ref x30, .ref x31, .ref x32, .ref x33, .int (bI hr0), .ref x35, .int (bI hk), .ref x37, .ref x38, .long hi2, .long lo2, .long mult2, .int (nI nx2), .int (nI tz2), .int (nI ta2), .ref x45, .int (nI xz2), .ref x47, .int (bI fg2), .int la2, .ref x50])), (x10, .inl (cI, 400, .inl tx))] ksz) (QV D (fun (u : (Nat → Int32)) => u = (upd tx xz x)) (fun (u : (Nat → Int32)) => [(m0, .inr (10, [.ref x0, .ref x1, .long hi, .long lo, .long mult, .int (nI nx), .int (nI tz), .int (nI ta), .ref x8, .int (nI (xz + 1)), .ref x10, .int (bI fg), .int la, .ref x13, .ref x14, .int (nI mz), .int re, .int en, .int pv, .int (nI ts), .int (nI nw), .ref x21, .ref x22, .ref x23, .ref x24, .ref x25, .ref x26, .ref x27, .ref x28, .ref x29, .ref x30, .ref x31, .ref x32, .ref x33, .int (bI hr0), .ref x35, .int (bI hk), .ref x37, .ref x38, .long hi2, .long lo2, .long mult2, .int (nI nx2), .int (nI tz2), .int (nI ta2), .ref x45, .int (nI xz2), .ref x47, .int (bI fg2), .int la2, .ref x50])), (x10, .inl (cI, 400, .inl u))]) (va_A [(m0, .inr (10, [.ref x0, .ref x1, .long hi, .long lo, .long mult, .int (nI nx), .int (nI tz), .int (nI ta), .ref x8, .int (nI xz), .ref x10, .int (bI fg), .int la, .ref x13, .ref x14, .int (nI mz), .int re, .int en, .int pv, .int (nI ts), .int (nI nw), .ref x21, .ref x22, .ref x23, .ref x24, .ref x25, .ref x26, .ref x27, .ref x28, .ref x29, .ref x30, .ref x31, .ref x32, .ref x33, .int (bI hr0), .ref x35, .int (bI hk), .ref x37, .ref x38, .long hi2, .long lo2, .long mult2, .int (nI nx2), .int (nI tz2), .int (nI ta2), .ref x45, .int (nI xz2), .ref x47, .int (bI fg2), .int la2, .ref x50])), (x10, .inl (cI, 400, .inl tx))] ksz)) 0 0 (va_A [(m0, .inr (10, [.ref x0, .ref x1, .long hi, .long lo, .long mult, .int (nI nx), .int (nI tz), .int (nI ta), .ref x8, .int (nI xz), .ref x10, .int (bI fg), .int la, .ref x13, .ref x14, .int (nI mz), .int re, .int en, .int pv, .int (nI ts), .int (nI nw), .ref x21, .ref x22, .ref x23, .ref x24, .ref x25, .ref x26, .ref x27, .ref x28, .ref x29, .ref x30, .ref x31, .ref x32, .ref x33, .int (bI hr0), .ref x35, .int (bI hk), .ref x37, .ref x38, .long hi2, .long lo2, .long mult2, .int (nI nx2), .int (nI tz2), .int (nI ta2), .ref x45, .int (nI xz2), .ref x47, .int (bI fg2), .int la2, .ref x50])), (x10, .inl (cI, 400, .inl tx))] ksz) := by
  refine met_g (l := l) (y := yX10_write) (wsy := wsX10_write) (av := [.ref m0, .int x]) (cells := [(m0, .inr (10, [.ref x0, .ref x1, .long hi, .long lo, .long mult, .int (nI nx), .int (nI tz), .int (nI ta), .ref x8, .int (nI xz), .ref x10, .int (bI fg), .int la, .ref x13, .ref x14, .int (nI mz), .int re, .int en, .int pv, .int (nI ts), .int (nI nw), .ref x21, .ref x22, .ref x23, .ref x24, .ref x25, .ref x26, .ref x27, .ref x28, .ref x29, .ref x30, .ref x31, .ref x32, .ref x33, .int (bI hr0), .ref x35, .int (bI hk), .ref x37, .ref x38, .long hi2, .long lo2, .long mult2, .int (nI nx2), .int (nI tz2), .int (nI ta2), .ref x45, .int (nI xz2), .ref x47, .int (bI fg2), .int la2, .ref x50])), (x10, .inl (cI, 400, .inl tx))]) (sz := ksz) (QV D (fun (u : (Nat → Int32)) => u = (upd tx xz x)) (fun (u : (Nat → Int32)) => [(m0, .inr (10, [.ref x0, .ref x1, .long hi, .long lo, .long mult, .int (nI nx), .int (nI tz), .int (nI ta), .ref x8, .int (nI (xz + 1)), .ref x10, .int (bI fg), .int la, .ref x13, .ref x14, .int (nI mz), .int re, .int en, .int pv, .int (nI ts), .int (nI nw), .ref x21, .ref x22, .ref x23, .ref x24, .ref x25, .ref x26, .ref x27, .ref x28, .ref x29, .ref x30, .ref x31, .ref x32, .ref x33, .int (bI hr0), .ref x35, .int (bI hk), .ref x37, .ref x38, .long hi2, .long lo2, .long mult2, .int (nI nx2), .int (nI tz2), .int (nI ta2), .ref x45, .int (nI xz2), .ref x47, .int (bI fg2), .int la2, .ref x50])), (x10, .inl (cI, 400, .inl u))])) cX10_write 2 none (by decide) rfl (Nat.le_of_ble_eq_true rfl) ?_
  intro p e s m below meth c A ls hx hb hr hts hown hlocks hml hin hA hP hK hD hE hS hl hsz
  clear hsz
  have hl : lv_has ls 2 [(0, .ref m0), (1, .int x)] := hl
  refine lv_aload_n hx hb dX10_write_0 rfl (lv_at hl 0 rfl) ?_
  refine va_get (D := D) (ci := 10) (v := .ref x10) (C := RX10) (T := TX10) (N := 51) hx hb hts (by decide +kernel) hown hK hP 0 rfl rfl 10 (by decide) (hts (.fieldLink RX10 19 "TapeEngineModel" "text" "[I") (by decide +kernel)) (fun _ h9 => h9) rfl dX10_write_1 ?_
  refine lv_aload_n hx hb dX10_write_4 rfl (lv_at hl 0 rfl) ?_
  refine va_get (D := D) (ci := 10) (v := .int (nI xz)) (C := RX10) (T := TX10) (N := 51) hx hb hts (by decide +kernel) hown hK hP 0 rfl rfl 9 (by decide) (hts (.fieldLink RX10 159 "TapeEngineModel" "textSize" "I") (by decide +kernel)) (fun _ h9 => h9) rfl dX10_write_5 ?_
  refine lv_iload_n hx hb dX10_write_8 rfl (lv_at hl 1 rfl) ?_
  refine xs_iast (k := xz) hx hb hK hP hD hS 1 1 rfl rfl (by first | assumption | omega) (by decide) dX10_write_9 (fun H locs hP hD hS => ?_)
  have hP : va_P D vwCl [(m0, .inr (10, [.ref x0, .ref x1, .long hi, .long lo, .long mult, .int (nI nx), .int (nI tz), .int (nI ta), .ref x8, .int (nI xz), .ref x10, .int (bI fg), .int la, .ref x13, .ref x14, .int (nI mz), .int re, .int en, .int pv, .int (nI ts), .int (nI nw), .ref x21, .ref x22, .ref x23, .ref x24, .ref x25, .ref x26, .ref x27, .ref x28, .ref x29, .ref x30, .ref x31, .ref x32, .ref x33, .int (bI hr0), .ref x35, .int (bI hk), .ref x37, .ref x38, .long hi2, .long lo2, .long mult2, .int (nI nx2), .int (nI tz2), .int (nI ta2), .ref x45, .int (nI xz2), .ref x47, .int (bI fg2), .int la2, .ref x50])), (x10, .inl (cI, 400, .inl (upd tx xz x)))] H := hP
  have hD : va_D A [(m0, .inr (10, [.ref x0, .ref x1, .long hi, .long lo, .long mult, .int (nI nx), .int (nI tz), .int (nI ta), .ref x8, .int (nI xz), .ref x10, .int (bI fg), .int la, .ref x13, .ref x14, .int (nI mz), .int re, .int en, .int pv, .int (nI ts), .int (nI nw), .ref x21, .ref x22, .ref x23, .ref x24, .ref x25, .ref x26, .ref x27, .ref x28, .ref x29, .ref x30, .ref x31, .ref x32, .ref x33, .int (bI hr0), .ref x35, .int (bI hk), .ref x37, .ref x38, .long hi2, .long lo2, .long mult2, .int (nI nx2), .int (nI tz2), .int (nI ta2), .ref x45, .int (nI xz2), .ref x47, .int (bI fg2), .int la2, .ref x50])), (x10, .inl (cI, 400, .inl (upd tx xz x)))] := hD
  refine lv_aload_n hx hb dX10_write_10 rfl (lv_at hl 0 rfl) ?_
  refine lv_dup hx hb dX10_write_11 rfl ?_
  refine va_get (D := D) (ci := 10) (v := .int (nI xz)) (C := RX10) (T := TX10) (N := 51) hx hb hts (by decide +kernel) hown hK hP 0 rfl rfl 9 (by decide) (hts (.fieldLink RX10 159 "TapeEngineModel" "textSize" "I") (by decide +kernel)) (fun _ h9 => h9) rfl dX10_write_12 ?_
  refine lv_iconst (v := 1) hx hb dX10_write_15 (by decide) ?_
  refine lv_iadd hx hb dX10_write_16 ?_
  refine set_i (y := nI (xz + 1)) (nI_1 xz) ?_
  refine va_put (D := D) (ci := 10) (v := .int (nI (xz + 1))) (ty := .int) (C := RX10) (T := TX10) (N := 51) hx hb hts (by decide +kernel) tyX10 tyX10_ok nmX10 hown hK hP hD hS 0 rfl rfl 9 (by decide) (hts (.fieldLink RX10 159 "TapeEngineModel" "textSize" "I") (by decide +kernel)) (fun _ h9 => h9) rfl (by decide +kernel) rfl rfl (Nat.le_of_ble_eq_true rfl) dX10_write_17 (fun H locs hP hD hS => ?_)
  have hP : va_P D vwCl [(m0, .inr (10, [.ref x0, .ref x1, .long hi, .long lo, .long mult, .int (nI nx), .int (nI tz), .int (nI ta), .ref x8, .int (nI (xz + 1)), .ref x10, .int (bI fg), .int la, .ref x13, .ref x14, .int (nI mz), .int re, .int en, .int pv, .int (nI ts), .int (nI nw), .ref x21, .ref x22, .ref x23, .ref x24, .ref x25, .ref x26, .ref x27, .ref x28, .ref x29, .ref x30, .ref x31, .ref x32, .ref x33, .int (bI hr0), .ref x35, .int (bI hk), .ref x37, .ref x38, .long hi2, .long lo2, .long mult2, .int (nI nx2), .int (nI tz2), .int (nI ta2), .ref x45, .int (nI xz2), .ref x47, .int (bI fg2), .int la2, .ref x50])), (x10, .inl (cI, 400, .inl (upd tx xz x)))] H := hP
  have hD : va_D A [(m0, .inr (10, [.ref x0, .ref x1, .long hi, .long lo, .long mult, .int (nI nx), .int (nI tz), .int (nI ta), .ref x8, .int (nI (xz + 1)), .ref x10, .int (bI fg), .int la, .ref x13, .ref x14, .int (nI mz), .int re, .int en, .int pv, .int (nI ts), .int (nI nw), .ref x21, .ref x22, .ref x23, .ref x24, .ref x25, .ref x26, .ref x27, .ref x28, .ref x29, .ref x30, .ref x31, .ref x32, .ref x33, .int (bI hr0), .ref x35, .int (bI hk), .ref x37, .ref x38, .long hi2, .long lo2, .long mult2, .int (nI nx2), .int (nI tz2), .int (nI ta2), .ref x45, .int (nI xz2), .ref x47, .int (bI fg2), .int la2, .ref x50])), (x10, .inl (cI, 400, .inl (upd tx xz x)))] := hD
  exact ret_v hx hb hr hlocks ((upd tx xz x)) (by rfl) (hP.sub [0, 1] rfl) (hD.sub [0, 1] (by decide) rfl) hS dX10_write_20

set_option maxHeartbeats 4000000 in
set_option maxRecDepth 100000 in
theorem kX10_letterOf (l : Launch) (Z : SZ) (v : Nat) (hv9 : v < 32) (hc9 : isCh v) : PI l yX10_letterOf wsX10_letterOf 0 0 Z [.int (nI v)] (nI (letT.getD v 0)) := by
  intro D ty sz
  refine met_g (QI D (fun r (_ : Unit) => r = nI (letT.getD v 0)) (fun _ => [])) cX10_letterOf 1 (some .int) (by decide) rfl (Nat.le_of_ble_eq_true rfl) ?_
  intro p e s m below meth c A ls hx hb hr hts hown hlocks hml hin hA hP hK hD hE hS hl hsz
  clear hsz
  have hl : lv_has ls 1 [(0, .int (nI v))] := hl
  refine lv_iload_n hx hb dX10_letterOf_0 rfl (lv_at hl 0 rfl) ?_
  have hv : v = 0 ∨ v = 1 ∨ v = 2 ∨ v = 3 ∨ v = 4 ∨ v = 5 ∨ v = 6 ∨ v = 7 ∨ v = 8 ∨ v = 9 ∨ v = 10 ∨ v = 12 ∨ v = 13 ∨ v = 14 ∨ v = 17 ∨ v = 19 ∨ v = 21 ∨ v = 22 ∨ v = 23 ∨ v = 25 ∨ v = 26 ∨ v = 27 ∨ v = 28 ∨ v = 29 ∨ v = 30 ∨ v = 31 := by unfold isCh at hc9; omega
  rcases hv with cv | cv | cv | cv | cv | cv | cv | cv | cv | cv | cv | cv | cv | cv | cv | cv | cv | cv | cv | cv | cv | cv | cv | cv | cv | cv
  · skip
    refine lv_tab (tgt := 140) hx hb dX10_letterOf_1 (by rw [cv] <;> decide +kernel) (by decide) (by decide) ?_
    refine lv_bipush (v := 80) hx hb dX10_letterOf_140 (by decide) ?_
    exact ret_i hx hb hr hlocks () (by rw [cv] <;> rfl) (fun k q h => by simp at h) hD hS dX10_letterOf_142
  · skip
    refine lv_tab (tgt := 143) hx hb dX10_letterOf_1 (by rw [cv] <;> decide +kernel) (by decide) (by decide) ?_
    refine lv_bipush (v := 81) hx hb dX10_letterOf_143 (by decide) ?_
    exact ret_i hx hb hr hlocks () (by rw [cv] <;> rfl) (fun k q h => by simp at h) hD hS dX10_letterOf_145
  · skip
    refine lv_tab (tgt := 146) hx hb dX10_letterOf_1 (by rw [cv] <;> decide +kernel) (by decide) (by decide) ?_
    refine lv_bipush (v := 87) hx hb dX10_letterOf_146 (by decide) ?_
    exact ret_i hx hb hr hlocks () (by rw [cv] <;> rfl) (fun k q h => by simp at h) hD hS dX10_letterOf_148
  · skip
    refine lv_tab (tgt := 149) hx hb dX10_letterOf_1 (by rw [cv] <;> decide +kernel) (by decide) (by decide) ?_
    refine lv_bipush (v := 69) hx hb dX10_letterOf_149 (by decide) ?_
    exact ret_i hx hb hr hlocks () (by rw [cv] <;> rfl) (fun k q h => by simp at h) hD hS dX10_letterOf_151
  · skip
    refine lv_tab (tgt := 152) hx hb dX10_letterOf_1 (by rw [cv] <;> decide +kernel) (by decide) (by decide) ?_
    refine lv_bipush (v := 82) hx hb dX10_letterOf_152 (by decide) ?_
    exact ret_i hx hb hr hlocks () (by rw [cv] <;> rfl) (fun k q h => by simp at h) hD hS dX10_letterOf_154
  · skip
    refine lv_tab (tgt := 155) hx hb dX10_letterOf_1 (by rw [cv] <;> decide +kernel) (by decide) (by decide) ?_
    refine lv_bipush (v := 84) hx hb dX10_letterOf_155 (by decide) ?_
    exact ret_i hx hb hr hlocks () (by rw [cv] <;> rfl) (fun k q h => by simp at h) hD hS dX10_letterOf_157
  · skip
    refine lv_tab (tgt := 158) hx hb dX10_letterOf_1 (by rw [cv] <;> decide +kernel) (by decide) (by decide) ?_
    refine lv_bipush (v := 89) hx hb dX10_letterOf_158 (by decide) ?_
    exact ret_i hx hb hr hlocks () (by rw [cv] <;> rfl) (fun k q h => by simp at h) hD hS dX10_letterOf_160
  · skip
    refine lv_tab (tgt := 161) hx hb dX10_letterOf_1 (by rw [cv] <;> decide +kernel) (by decide) (by decide) ?_
    refine lv_bipush (v := 85) hx hb dX10_letterOf_161 (by decide) ?_
    exact ret_i hx hb hr hlocks () (by rw [cv] <;> rfl) (fun k q h => by simp at h) hD hS dX10_letterOf_163
  · skip
    refine lv_tab (tgt := 164) hx hb dX10_letterOf_1 (by rw [cv] <;> decide +kernel) (by decide) (by decide) ?_
    refine lv_bipush (v := 73) hx hb dX10_letterOf_164 (by decide) ?_
    exact ret_i hx hb hr hlocks () (by rw [cv] <;> rfl) (fun k q h => by simp at h) hD hS dX10_letterOf_166
  · skip
    refine lv_tab (tgt := 167) hx hb dX10_letterOf_1 (by rw [cv] <;> decide +kernel) (by decide) (by decide) ?_
    refine lv_bipush (v := 79) hx hb dX10_letterOf_167 (by decide) ?_
    exact ret_i hx hb hr hlocks () (by rw [cv] <;> rfl) (fun k q h => by simp at h) hD hS dX10_letterOf_169
  · skip
    refine lv_tab (tgt := 170) hx hb dX10_letterOf_1 (by rw [cv] <;> decide +kernel) (by decide) (by decide) ?_
    refine lv_bipush (v := 74) hx hb dX10_letterOf_170 (by decide) ?_
    exact ret_i hx hb hr hlocks () (by rw [cv] <;> rfl) (fun k q h => by simp at h) hD hS dX10_letterOf_172
  · skip
    refine lv_tab (tgt := 173) hx hb dX10_letterOf_1 (by rw [cv] <;> decide +kernel) (by decide) (by decide) ?_
    refine lv_bipush (v := 83) hx hb dX10_letterOf_173 (by decide) ?_
    exact ret_i hx hb hr hlocks () (by rw [cv] <;> rfl) (fun k q h => by simp at h) hD hS dX10_letterOf_175
  · skip
    refine lv_tab (tgt := 176) hx hb dX10_letterOf_1 (by rw [cv] <;> decide +kernel) (by decide) (by decide) ?_
    refine lv_bipush (v := 90) hx hb dX10_letterOf_176 (by decide) ?_
    exact ret_i hx hb hr hlocks () (by rw [cv] <;> rfl) (fun k q h => by simp at h) hD hS dX10_letterOf_178
  · skip
    refine lv_tab (tgt := 179) hx hb dX10_letterOf_1 (by rw [cv] <;> decide +kernel) (by decide) (by decide) ?_
    refine lv_bipush (v := 75) hx hb dX10_letterOf_179 (by decide) ?_
    exact ret_i hx hb hr hlocks () (by rw [cv] <;> rfl) (fun k q h => by simp at h) hD hS dX10_letterOf_181
  · skip
    refine lv_tab (tgt := 182) hx hb dX10_letterOf_1 (by rw [cv] <;> decide +kernel) (by decide) (by decide) ?_
    refine lv_bipush (v := 70) hx hb dX10_letterOf_182 (by decide) ?_
    exact ret_i hx hb hr hlocks () (by rw [cv] <;> rfl) (fun k q h => by simp at h) hD hS dX10_letterOf_184
  · skip
    refine lv_tab (tgt := 185) hx hb dX10_letterOf_1 (by rw [cv] <;> decide +kernel) (by decide) (by decide) ?_
    refine lv_bipush (v := 68) hx hb dX10_letterOf_185 (by decide) ?_
    exact ret_i hx hb hr hlocks () (by rw [cv] <;> rfl) (fun k q h => by simp at h) hD hS dX10_letterOf_187
  · skip
    refine lv_tab (tgt := 188) hx hb dX10_letterOf_1 (by rw [cv] <;> decide +kernel) (by decide) (by decide) ?_
    refine lv_bipush (v := 72) hx hb dX10_letterOf_188 (by decide) ?_
    exact ret_i hx hb hr hlocks () (by rw [cv] <;> rfl) (fun k q h => by simp at h) hD hS dX10_letterOf_190
  · skip
    refine lv_tab (tgt := 191) hx hb dX10_letterOf_1 (by rw [cv] <;> decide +kernel) (by decide) (by decide) ?_
    refine lv_bipush (v := 78) hx hb dX10_letterOf_191 (by decide) ?_
    exact ret_i hx hb hr hlocks () (by rw [cv] <;> rfl) (fun k q h => by simp at h) hD hS dX10_letterOf_193
  · skip
    refine lv_tab (tgt := 194) hx hb dX10_letterOf_1 (by rw [cv] <;> decide +kernel) (by decide) (by decide) ?_
    refine lv_bipush (v := 77) hx hb dX10_letterOf_194 (by decide) ?_
    exact ret_i hx hb hr hlocks () (by rw [cv] <;> rfl) (fun k q h => by simp at h) hD hS dX10_letterOf_196
  · skip
    refine lv_tab (tgt := 197) hx hb dX10_letterOf_1 (by rw [cv] <;> decide +kernel) (by decide) (by decide) ?_
    refine lv_bipush (v := 76) hx hb dX10_letterOf_197 (by decide) ?_
    exact ret_i hx hb hr hlocks () (by rw [cv] <;> rfl) (fun k q h => by simp at h) hD hS dX10_letterOf_199
  · skip
    refine lv_tab (tgt := 200) hx hb dX10_letterOf_1 (by rw [cv] <;> decide +kernel) (by decide) (by decide) ?_
    refine lv_bipush (v := 88) hx hb dX10_letterOf_200 (by decide) ?_
    exact ret_i hx hb hr hlocks () (by rw [cv] <;> rfl) (fun k q h => by simp at h) hD hS dX10_letterOf_202
  · skip
    refine lv_tab (tgt := 203) hx hb dX10_letterOf_1 (by rw [cv] <;> decide +kernel) (by decide) (by decide) ?_
    refine lv_bipush (v := 71) hx hb dX10_letterOf_203 (by decide) ?_
    exact ret_i hx hb hr hlocks () (by rw [cv] <;> rfl) (fun k q h => by simp at h) hD hS dX10_letterOf_205
  · skip
    refine lv_tab (tgt := 206) hx hb dX10_letterOf_1 (by rw [cv] <;> decide +kernel) (by decide) (by decide) ?_
    refine lv_bipush (v := 65) hx hb dX10_letterOf_206 (by decide) ?_
    exact ret_i hx hb hr hlocks () (by rw [cv] <;> rfl) (fun k q h => by simp at h) hD hS dX10_letterOf_208
  · skip
    refine lv_tab (tgt := 209) hx hb dX10_letterOf_1 (by rw [cv] <;> decide +kernel) (by decide) (by decide) ?_
    refine lv_bipush (v := 66) hx hb dX10_letterOf_209 (by decide) ?_
    exact ret_i hx hb hr hlocks () (by rw [cv] <;> rfl) (fun k q h => by simp at h) hD hS dX10_letterOf_211
  · skip
    refine lv_tab (tgt := 212) hx hb dX10_letterOf_1 (by rw [cv] <;> decide +kernel) (by decide) (by decide) ?_
    refine lv_bipush (v := 67) hx hb dX10_letterOf_212 (by decide) ?_
    exact ret_i hx hb hr hlocks () (by rw [cv] <;> rfl) (fun k q h => by simp at h) hD hS dX10_letterOf_214
  · skip
    refine lv_tab (tgt := 215) hx hb dX10_letterOf_1 (by rw [cv] <;> decide +kernel) (by decide) (by decide) ?_
    refine lv_bipush (v := 86) hx hb dX10_letterOf_215 (by decide) ?_
    exact ret_i hx hb hr hlocks () (by rw [cv] <;> rfl) (fun k q h => by simp at h) hD hS dX10_letterOf_217

set_option maxHeartbeats 4000000 in
set_option maxRecDepth 100000 in
theorem kX10_figureOf (l : Launch) (Z : SZ) (v : Nat) (hv9 : v < 32) (hc9 : isCh v) : PI l yX10_figureOf wsX10_figureOf 0 0 Z [.int (nI v)] (nI (figT.getD v 0)) := by
  intro D ty sz
  refine met_g (QI D (fun r (_ : Unit) => r = nI (figT.getD v 0)) (fun _ => [])) cX10_figureOf 1 (some .int) (by decide) rfl (Nat.le_of_ble_eq_true rfl) ?_
  intro p e s m below meth c A ls hx hb hr hts hown hlocks hml hin hA hP hK hD hE hS hl hsz
  clear hsz
  have hl : lv_has ls 1 [(0, .int (nI v))] := hl
  refine lv_iload_n hx hb dX10_figureOf_0 rfl (lv_at hl 0 rfl) ?_
  have hv : v = 0 ∨ v = 1 ∨ v = 2 ∨ v = 3 ∨ v = 4 ∨ v = 5 ∨ v = 6 ∨ v = 7 ∨ v = 8 ∨ v = 9 ∨ v = 10 ∨ v = 12 ∨ v = 13 ∨ v = 14 ∨ v = 17 ∨ v = 19 ∨ v = 21 ∨ v = 22 ∨ v = 23 ∨ v = 25 ∨ v = 26 ∨ v = 27 ∨ v = 28 ∨ v = 29 ∨ v = 30 ∨ v = 31 := by unfold isCh at hc9; omega
  rcases hv with cv | cv | cv | cv | cv | cv | cv | cv | cv | cv | cv | cv | cv | cv | cv | cv | cv | cv | cv | cv | cv | cv | cv | cv | cv | cv
  · skip
    refine lv_tab (tgt := 152) hx hb dX10_figureOf_1 (by rw [cv] <;> decide +kernel) (by decide) (by decide) ?_
    refine lv_bipush (v := 48) hx hb dX10_figureOf_152 (by decide) ?_
    refine lv_iload_n hx hb dX10_figureOf_154 rfl (lv_at hl 0 rfl) ?_
    refine lv_iadd hx hb dX10_figureOf_155 ?_
    exact ret_i hx hb hr hlocks () (by rw [cv] <;> decide) (fun k q h => by simp at h) hD hS dX10_figureOf_156
  · skip
    refine lv_tab (tgt := 152) hx hb dX10_figureOf_1 (by rw [cv] <;> decide +kernel) (by decide) (by decide) ?_
    refine lv_bipush (v := 48) hx hb dX10_figureOf_152 (by decide) ?_
    refine lv_iload_n hx hb dX10_figureOf_154 rfl (lv_at hl 0 rfl) ?_
    refine lv_iadd hx hb dX10_figureOf_155 ?_
    exact ret_i hx hb hr hlocks () (by rw [cv] <;> decide) (fun k q h => by simp at h) hD hS dX10_figureOf_156
  · skip
    refine lv_tab (tgt := 152) hx hb dX10_figureOf_1 (by rw [cv] <;> decide +kernel) (by decide) (by decide) ?_
    refine lv_bipush (v := 48) hx hb dX10_figureOf_152 (by decide) ?_
    refine lv_iload_n hx hb dX10_figureOf_154 rfl (lv_at hl 0 rfl) ?_
    refine lv_iadd hx hb dX10_figureOf_155 ?_
    exact ret_i hx hb hr hlocks () (by rw [cv] <;> decide) (fun k q h => by simp at h) hD hS dX10_figureOf_156
  · skip
    refine lv_tab (tgt := 152) hx hb dX10_figureOf_1 (by rw [cv] <;> decide +kernel) (by decide) (by decide) ?_
    refine lv_bipush (v := 48) hx hb dX10_figureOf_152 (by decide) ?_
    refine lv_iload_n hx hb dX10_figureOf_154 rfl (lv_at hl 0 rfl) ?_
    refine lv_iadd hx hb dX10_figureOf_155 ?_
    exact ret_i hx hb hr hlocks () (by rw [cv] <;> decide) (fun k q h => by simp at h) hD hS dX10_figureOf_156
  · skip
    refine lv_tab (tgt := 152) hx hb dX10_figureOf_1 (by rw [cv] <;> decide +kernel) (by decide) (by decide) ?_
    refine lv_bipush (v := 48) hx hb dX10_figureOf_152 (by decide) ?_
    refine lv_iload_n hx hb dX10_figureOf_154 rfl (lv_at hl 0 rfl) ?_
    refine lv_iadd hx hb dX10_figureOf_155 ?_
    exact ret_i hx hb hr hlocks () (by rw [cv] <;> decide) (fun k q h => by simp at h) hD hS dX10_figureOf_156
  · skip
    refine lv_tab (tgt := 152) hx hb dX10_figureOf_1 (by rw [cv] <;> decide +kernel) (by decide) (by decide) ?_
    refine lv_bipush (v := 48) hx hb dX10_figureOf_152 (by decide) ?_
    refine lv_iload_n hx hb dX10_figureOf_154 rfl (lv_at hl 0 rfl) ?_
    refine lv_iadd hx hb dX10_figureOf_155 ?_
    exact ret_i hx hb hr hlocks () (by rw [cv] <;> decide) (fun k q h => by simp at h) hD hS dX10_figureOf_156
  · skip
    refine lv_tab (tgt := 152) hx hb dX10_figureOf_1 (by rw [cv] <;> decide +kernel) (by decide) (by decide) ?_
    refine lv_bipush (v := 48) hx hb dX10_figureOf_152 (by decide) ?_
    refine lv_iload_n hx hb dX10_figureOf_154 rfl (lv_at hl 0 rfl) ?_
    refine lv_iadd hx hb dX10_figureOf_155 ?_
    exact ret_i hx hb hr hlocks () (by rw [cv] <;> decide) (fun k q h => by simp at h) hD hS dX10_figureOf_156
  · skip
    refine lv_tab (tgt := 152) hx hb dX10_figureOf_1 (by rw [cv] <;> decide +kernel) (by decide) (by decide) ?_
    refine lv_bipush (v := 48) hx hb dX10_figureOf_152 (by decide) ?_
    refine lv_iload_n hx hb dX10_figureOf_154 rfl (lv_at hl 0 rfl) ?_
    refine lv_iadd hx hb dX10_figureOf_155 ?_
    exact ret_i hx hb hr hlocks () (by rw [cv] <;> decide) (fun k q h => by simp at h) hD hS dX10_figureOf_156
  · skip
    refine lv_tab (tgt := 152) hx hb dX10_figureOf_1 (by rw [cv] <;> decide +kernel) (by decide) (by decide) ?_
    refine lv_bipush (v := 48) hx hb dX10_figureOf_152 (by decide) ?_
    refine lv_iload_n hx hb dX10_figureOf_154 rfl (lv_at hl 0 rfl) ?_
    refine lv_iadd hx hb dX10_figureOf_155 ?_
    exact ret_i hx hb hr hlocks () (by rw [cv] <;> decide) (fun k q h => by simp at h) hD hS dX10_figureOf_156
  · skip
    refine lv_tab (tgt := 152) hx hb dX10_figureOf_1 (by rw [cv] <;> decide +kernel) (by decide) (by decide) ?_
    refine lv_bipush (v := 48) hx hb dX10_figureOf_152 (by decide) ?_
    refine lv_iload_n hx hb dX10_figureOf_154 rfl (lv_at hl 0 rfl) ?_
    refine lv_iadd hx hb dX10_figureOf_155 ?_
    exact ret_i hx hb hr hlocks () (by rw [cv] <;> decide) (fun k q h => by simp at h) hD hS dX10_figureOf_156
  · skip
    refine lv_tab (tgt := 104) hx hb dX10_figureOf_1 (by rw [cv] <;> decide +kernel) (by decide) (by decide) ?_
    refine lv_bipush (v := 39) hx hb dX10_figureOf_104 (by decide) ?_
    exact ret_i hx hb hr hlocks () (by rw [cv] <;> decide) (fun k q h => by simp at h) hD hS dX10_figureOf_106
  · skip
    refine lv_tab (tgt := 107) hx hb dX10_figureOf_1 (by rw [cv] <;> decide +kernel) (by decide) (by decide) ?_
    refine lv_bipush (v := 34) hx hb dX10_figureOf_107 (by decide) ?_
    exact ret_i hx hb hr hlocks () (by rw [cv] <;> decide) (fun k q h => by simp at h) hD hS dX10_figureOf_109
  · skip
    refine lv_tab (tgt := 110) hx hb dX10_figureOf_1 (by rw [cv] <;> decide +kernel) (by decide) (by decide) ?_
    refine lv_bipush (v := 43) hx hb dX10_figureOf_110 (by decide) ?_
    exact ret_i hx hb hr hlocks () (by rw [cv] <;> decide) (fun k q h => by simp at h) hD hS dX10_figureOf_112
  · skip
    refine lv_tab (tgt := 113) hx hb dX10_figureOf_1 (by rw [cv] <;> decide +kernel) (by decide) (by decide) ?_
    refine lv_bipush (v := 40) hx hb dX10_figureOf_113 (by decide) ?_
    exact ret_i hx hb hr hlocks () (by rw [cv] <;> decide) (fun k q h => by simp at h) hD hS dX10_figureOf_115
  · skip
    refine lv_tab (tgt := 116) hx hb dX10_figureOf_1 (by rw [cv] <;> decide +kernel) (by decide) (by decide) ?_
    refine lv_bipush (v := 36) hx hb dX10_figureOf_116 (by decide) ?_
    exact ret_i hx hb hr hlocks () (by rw [cv] <;> decide) (fun k q h => by simp at h) hD hS dX10_figureOf_118
  · skip
    refine lv_tab (tgt := 119) hx hb dX10_figureOf_1 (by rw [cv] <;> decide +kernel) (by decide) (by decide) ?_
    refine lv_bipush (v := 59) hx hb dX10_figureOf_119 (by decide) ?_
    exact ret_i hx hb hr hlocks () (by rw [cv] <;> decide) (fun k q h => by simp at h) hD hS dX10_figureOf_121
  · skip
    refine lv_tab (tgt := 122) hx hb dX10_figureOf_1 (by rw [cv] <;> decide +kernel) (by decide) (by decide) ?_
    refine lv_bipush (v := 37) hx hb dX10_figureOf_122 (by decide) ?_
    exact ret_i hx hb hr hlocks () (by rw [cv] <;> decide) (fun k q h => by simp at h) hD hS dX10_figureOf_124
  · skip
    refine lv_tab (tgt := 125) hx hb dX10_figureOf_1 (by rw [cv] <;> decide +kernel) (by decide) (by decide) ?_
    refine lv_bipush (v := 44) hx hb dX10_figureOf_125 (by decide) ?_
    exact ret_i hx hb hr hlocks () (by rw [cv] <;> decide) (fun k q h => by simp at h) hD hS dX10_figureOf_127
  · skip
    refine lv_tab (tgt := 128) hx hb dX10_figureOf_1 (by rw [cv] <;> decide +kernel) (by decide) (by decide) ?_
    refine lv_bipush (v := 46) hx hb dX10_figureOf_128 (by decide) ?_
    exact ret_i hx hb hr hlocks () (by rw [cv] <;> decide) (fun k q h => by simp at h) hD hS dX10_figureOf_130
  · skip
    refine lv_tab (tgt := 131) hx hb dX10_figureOf_1 (by rw [cv] <;> decide +kernel) (by decide) (by decide) ?_
    refine lv_bipush (v := 41) hx hb dX10_figureOf_131 (by decide) ?_
    exact ret_i hx hb hr hlocks () (by rw [cv] <;> decide) (fun k q h => by simp at h) hD hS dX10_figureOf_133
  · skip
    refine lv_tab (tgt := 134) hx hb dX10_figureOf_1 (by rw [cv] <;> decide +kernel) (by decide) (by decide) ?_
    refine lv_bipush (v := 47) hx hb dX10_figureOf_134 (by decide) ?_
    exact ret_i hx hb hr hlocks () (by rw [cv] <;> decide) (fun k q h => by simp at h) hD hS dX10_figureOf_136
  · skip
    refine lv_tab (tgt := 137) hx hb dX10_figureOf_1 (by rw [cv] <;> decide +kernel) (by decide) (by decide) ?_
    refine lv_bipush (v := 60) hx hb dX10_figureOf_137 (by decide) ?_
    exact ret_i hx hb hr hlocks () (by rw [cv] <;> decide) (fun k q h => by simp at h) hD hS dX10_figureOf_139
  · skip
    refine lv_tab (tgt := 140) hx hb dX10_figureOf_1 (by rw [cv] <;> decide +kernel) (by decide) (by decide) ?_
    refine lv_bipush (v := 45) hx hb dX10_figureOf_140 (by decide) ?_
    exact ret_i hx hb hr hlocks () (by rw [cv] <;> decide) (fun k q h => by simp at h) hD hS dX10_figureOf_142
  · skip
    refine lv_tab (tgt := 143) hx hb dX10_figureOf_1 (by rw [cv] <;> decide +kernel) (by decide) (by decide) ?_
    refine lv_bipush (v := 63) hx hb dX10_figureOf_143 (by decide) ?_
    exact ret_i hx hb hr hlocks () (by rw [cv] <;> decide) (fun k q h => by simp at h) hD hS dX10_figureOf_145
  · skip
    refine lv_tab (tgt := 146) hx hb dX10_figureOf_1 (by rw [cv] <;> decide +kernel) (by decide) (by decide) ?_
    refine lv_bipush (v := 58) hx hb dX10_figureOf_146 (by decide) ?_
    exact ret_i hx hb hr hlocks () (by rw [cv] <;> decide) (fun k q h => by simp at h) hD hS dX10_figureOf_148
  · skip
    refine lv_tab (tgt := 149) hx hb dX10_figureOf_1 (by rw [cv] <;> decide +kernel) (by decide) (by decide) ?_
    refine lv_bipush (v := 61) hx hb dX10_figureOf_149 (by decide) ?_
    exact ret_i hx hb hr hlocks () (by rw [cv] <;> decide) (fun k q h => by simp at h) hD hS dX10_figureOf_151
