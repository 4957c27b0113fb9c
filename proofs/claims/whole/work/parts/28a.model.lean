theorem ld0 (w : Nat → Int32) : upd (upd w 41 0) 43 1 = ldW0 w := by
  unfold ldW0
  rw [show (0 : Int32) &&& 131071 = 0 by decide, show (1 : Int32) &&& 131071 = 1 by decide]
section LDK
variable {tp w : Nat → Int32} {tz nx pl ld ta p n : Nat}
theorem ld_k0 (h : ta ≤ tz) (hk : iK tp tz ta = 0) : ldR tp tz (tz - ta + 1) w nx pl ld ta = (w, nx, pl, ld, ta, 1) := by
  rw [ldR_step w nx pl ld h]
  simp [kCode, kW, kNx, kPl, kLd, kTa, hk]
theorem ld_k1 (h : ta ≤ tz) (hk : iK tp tz ta = 1) : ldR tp tz (tz - ta + 1) w nx pl ld ta = ldR tp tz (tz - (ta + 1) + 1) w nx pl ld (ta + 1) := by
  rw [ldR_step w nx pl ld h]
  simp [kCode, kW, kNx, kPl, kLd, kTa, hk]
theorem ld_k2 (h : ta ≤ tz) (hk : iK tp tz ta = 2) (hp : p = tz) : ldR tp tz (tz - ta + 1) w nx pl ld ta = (w, nx, pl, ld, p, 2) := by
  rw [ldR_step w nx pl ld h, hp]
  simp [kCode, kW, kNx, kPl, kLd, kTa, hk]
theorem ld_k3 (h : ta ≤ tz) (hit : itP tp tz ta = (p, n)) (hk : iK tp tz ta = 3) : ldR tp tz (tz - ta + 1) w nx pl ld ta = ldR tp tz (tz - (p + 1) + 1) (upd w pl ((nI (4096 * iN (tp ta) + 2 * n) + w (24 + iN (tp p))) &&& 131071)) nx ((pl + 1) % 256) (ld + 1) (p + 1) := by
  rw [ldR_step w nx pl ld h]
  simp [kCode, kW, kNx, kPl, kLd, kTa, hk, hit]
theorem ld_k4 (h : ta ≤ tz) (hit : itP tp tz ta = (p, n)) (hk : iK tp tz ta = 4) : ldR tp tz (tz - ta + 1) w nx pl ld ta = ldR tp tz (tz - (p + 1) + 1) w nx (n % 256) ld (p + 1) := by
  rw [ldR_step w nx pl ld h]
  simp [kCode, kW, kNx, kPl, kLd, kTa, hk, hit]
theorem ld_k5 (h : ta ≤ tz) (hit : itP tp tz ta = (p, n)) (hk : iK tp tz ta = 5) : ldR tp tz (tz - ta + 1) w nx pl ld ta = ldR tp tz (tz - (p + 1) + 1) (upd w 42 (nI (2 * pl))) nx pl ld (p + 1) := by
  rw [ldR_step w nx pl ld h]
  simp [kCode, kW, kNx, kPl, kLd, kTa, hk, hit]
theorem ld_k6 (h : ta ≤ tz) (hit : itP tp tz ta = (p, n)) (hk : iK tp tz ta = 6) : ldR tp tz (tz - ta + 1) w nx pl ld ta = (w, n % 256, pl, ld, p + 1, 0) := by
  rw [ldR_step w nx pl ld h]
  simp [kCode, kW, kNx, kPl, kLd, kTa, hk, hit]
theorem ld_k7 (h : ta ≤ tz) (hit : itP tp tz ta = (p, n)) (hk : iK tp tz ta = 7) : ldR tp tz (tz - ta + 1) w nx pl ld ta = (w, nx, pl, ld, p + 1, 3) := by
  rw [ldR_step w nx pl ld h]
  simp [kCode, kW, kNx, kPl, kLd, kTa, hk, hit]
end LDK
set_option maxHeartbeats 4000000 in
set_option maxRecDepth 100000 in
theorem kX10_load (l : Launch) (D : va_G) (Z : SZ) (cB cI cJ cZ : ClassId) (ksz : Nat) (m0 : Nat) (x0 : Nat) (x1 : Nat) (x8 : Nat) (x10 : Nat) (x13 : Nat) (x14 : Nat) (x21 : Nat) (x22 : Nat) (x23 : Nat) (x24 : Nat) (x25 : Nat) (x26 : Nat) (x27 : Nat) (x28 : Nat) (x29 : Nat) (x30 : Nat) (x31 : Nat) (x32 : Nat) (x33 : Nat) (x35 : Nat) (x37 : Nat) (x38 : Nat) (x45 : Nat) (x47 : Nat) (x50 : Nat) (hi : Int64) (lo : Int64) (mult : Int64) (nx : Nat) (tz : Nat) (ta : Nat) (xz : Nat) (fg : Bool) (la : Int32) (mz : Nat) (re : Int32) (en : Int32) (pv : Int32) (ts : Nat) (nw : Nat) (hr0 : Bool) (hk : Bool) (hi2 : Int64) (lo2 : Int64) (mult2 : Int64) (nx2 : Nat) (tz2 : Nat) (ta2 : Nat) (xz2 : Nat) (fg2 : Bool) (la2 : Int32) (w : Nat → Int32) (tp : Nat → Int32) (ht : ∀ k : Nat, iN (tp k) < 32) (hz : tz ≤ 1000) (ha0 : ta ≤ tz) : Met l yX10_load wsX10_load { frames := 0, cells := 0, slots := 0, locals := 0 } (PR D Z [(cB, .byte), (cI, .int), (cJ, .long), (cZ, .boolean)] [.ref m0] [(m0, .inr (10, [.ref x0, .ref x1, .long hi, .long lo, .long mult, .int (nI nx), .int (nI tz), .int (nI ta), .ref x8, .int (nI xz), .ref x10, .int (bI fg), .int la, .ref x13, .ref x14, .int (nI mz), .int re, .int en, .int pv, .int (nI ts), .int (nI nw), .ref x21, .ref x22, .ref x23, .ref x24, .ref x25, .ref x26, .ref x27, .ref x28, .ref x29, .ref x30, .ref x31, .ref x32, .ref x33, .int (bI hr0), .ref x35, .int (bI hk), .ref x37, .ref x38, .long hi2, .long lo2, .long mult2, .int (nI nx2), .int (nI tz2), .int (nI ta2), .ref x45, .int (nI xz2), .ref x47, .int (bI fg2), .int la2, .ref x50])), (x0, .inl (cI, 256, .inl w)), (x8, .inl (cI, 1000, .inl tp))] ksz) (QI D (fun (r : Int32) (u : (Nat → Int32) × Nat × Nat × Nat × Int32) => r = (nI (ldA tp tz w nx ta).2.2.2.1) ∧ u.1 = ((ldA tp tz w nx ta).1) ∧ u.2.1 = ((ldA tp tz w nx ta).2.1) ∧ u.2.2.1 = ((ldA tp tz w nx ta).2.2.1) ∧ u.2.2.2.1 = ((ldA tp tz w nx ta).2.2.2.2.1) ∧ u.2.2.2.2 = ((ldA tp tz w nx ta).2.2.2.2.2)) (fun (u : (Nat → Int32) × Nat × Nat × Nat × Int32) => [(m0, .inr (10, [.ref x0, .ref x1, .long hi, .long lo, .long mult, .int (nI u.2.1), .int (nI tz), .int (nI u.2.2.2.1), .ref x8, .int (nI xz), .ref x10, .int (bI fg), .int la, .ref x13, .ref x14, .int (nI mz), .int re, .int u.2.2.2.2, .int (nI u.2.2.1), .int (nI 0), .int (nI nw), .ref x21, .ref x22, .ref x23, .ref x24, .ref x25, .ref x26, .ref x27, .ref x28, .ref x29, .ref x30, .ref x31, .ref x32, .ref x33, .int (bI hr0), .ref x35, .int (bI hk), .ref x37, .ref x38, .long hi2, .long lo2, .long mult2, .int (nI nx2), .int (nI tz2), .int (nI ta2), .ref x45, .int (nI xz2), .ref x47, .int (bI fg2), .int la2, .ref x50])), (x0, .inl (cI, 256, .inl u.1)), (x8, .inl (cI, 1000, .inl tp))]) (va_A [(m0, .inr (10, [.ref x0, .ref x1, .long hi, .long lo, .long mult, .int (nI nx), .int (nI tz), .int (nI ta), .ref x8, .int (nI xz), .ref x10, .int (bI fg), .int la, .ref x13, .ref x14, .int (nI mz), .int re, .int en, .int pv, .int (nI ts), .int (nI nw), .ref x21, .ref x22, .ref x23, .ref x24, .ref x25, .ref x26, .ref x27, .ref x28, .ref x29, .ref x30, .ref x31, .ref x32, .ref x33, .int (bI hr0), .ref x35, .int (bI hk), .ref x37, .ref x38, .long hi2, .long lo2, .long mult2, .int (nI nx2), .int (nI tz2), .int (nI ta2), .ref x45, .int (nI xz2), .ref x47, .int (bI fg2), .int la2, .ref x50])), (x0, .inl (cI, 256, .inl w)), (x8, .inl (cI, 1000, .inl tp))] ksz)) 0 0 (va_A [(m0, .inr (10, [.ref x0, .ref x1, .long hi, .long lo, .long mult, .int (nI nx), .int (nI tz), .int (nI ta), .ref x8, .int (nI xz), .ref x10, .int (bI fg), .int la, .ref x13, .ref x14, .int (nI mz), .int re, .int en, .int pv, .int (nI ts), .int (nI nw), .ref x21, .ref x22, .ref x23, .ref x24, .ref x25, .ref x26, .ref x27, .ref x28, .ref x29, .ref x30, .ref x31, .ref x32, .ref x33, .int (bI hr0), .ref x35, .int (bI hk), .ref x37, .ref x38, .long hi2, .long lo2, .long mult2, .int (nI nx2), .int (nI tz2), .int (nI ta2), .ref x45, .int (nI xz2), .ref x47, .int (bI fg2), .int la2, .ref x50])), (x0, .inl (cI, 256, .inl w)), (x8, .inl (cI, 1000, .inl tp))] ksz) := by
  refine met_g (l := l) (y := yX10_load) (wsy := wsX10_load) (av := [.ref m0]) (cells := [(m0, .inr (10, [.ref x0, .ref x1, .long hi, .long lo, .long mult, .int (nI nx), .int (nI tz), .int (nI ta), .ref x8, .int (nI xz), .ref x10, .int (bI fg), .int la, .ref x13, .ref x14, .int (nI mz), .int re, .int en, .int pv, .int (nI ts), .int (nI nw), .ref x21, .ref x22, .ref x23, .ref x24, .ref x25, .ref x26, .ref x27, .ref x28, .ref x29, .ref x30, .ref x31, .ref x32, .ref x33, .int (bI hr0), .ref x35, .int (bI hk), .ref x37, .ref x38, .long hi2, .long lo2, .long mult2, .int (nI nx2), .int (nI tz2), .int (nI ta2), .ref x45, .int (nI xz2), .ref x47, .int (bI fg2), .int la2, .ref x50])), (x0, .inl (cI, 256, .inl w)), (x8, .inl (cI, 1000, .inl tp))]) (sz := ksz) (QI D (fun (r : Int32) (u : (Nat → Int32) × Nat × Nat × Nat × Int32) => r = (nI (ldA tp tz w nx ta).2.2.2.1) ∧ u.1 = ((ldA tp tz w nx ta).1) ∧ u.2.1 = ((ldA tp tz w nx ta).2.1) ∧ u.2.2.1 = ((ldA tp tz w nx ta).2.2.1) ∧ u.2.2.2.1 = ((ldA tp tz w nx ta).2.2.2.2.1) ∧ u.2.2.2.2 = ((ldA tp tz w nx ta).2.2.2.2.2)) (fun (u : (Nat → Int32) × Nat × Nat × Nat × Int32) => [(m0, .inr (10, [.ref x0, .ref x1, .long hi, .long lo, .long mult, .int (nI u.2.1), .int (nI tz), .int (nI u.2.2.2.1), .ref x8, .int (nI xz), .ref x10, .int (bI fg), .int la, .ref x13, .ref x14, .int (nI mz), .int re, .int u.2.2.2.2, .int (nI u.2.2.1), .int (nI 0), .int (nI nw), .ref x21, .ref x22, .ref x23, .ref x24, .ref x25, .ref x26, .ref x27, .ref x28, .ref x29, .ref x30, .ref x31, .ref x32, .ref x33, .int (bI hr0), .ref x35, .int (bI hk), .ref x37, .ref x38, .long hi2, .long lo2, .long mult2, .int (nI nx2), .int (nI tz2), .int (nI ta2), .ref x45, .int (nI xz2), .ref x47, .int (bI fg2), .int la2, .ref x50])), (x0, .inl (cI, 256, .inl u.1)), (x8, .inl (cI, 1000, .inl tp))])) cX10_load 6 (some .int) (by decide) rfl (Nat.le_of_ble_eq_true rfl) ?_
  intro p e s m below meth c A ls hx hb hr hts hown hlocks hml hin hA hP hK hD hE hS hl hsz
  clear hsz
  have hl : lv_has ls 6 [(0, .ref m0)] := hl
  have lp_31 : ∀ (n_31 : Nat) (en1 : Int32) (w1 : Nat → Int32) (nx1 : Nat) (pl1 : Nat) (ld1 : Nat) (ta1 : Nat) (H : Heap) (locs : List Loc) (ls : Array Slot), (ta1 ≤ tz) → (pl1 < 256) → (ldA tp tz w nx ta = if en1 = -1 then ldR tp tz (tz - ta1 + 1) w1 nx1 pl1 ld1 ta1 else (w1, nx1, pl1, ld1, ta1, en1)) → (2 * (tz - ta1) + (if en1 = -1 then 1 else 0)) < n_31 → va_P D vwCl [(m0, .inr (10, [.ref x0, .ref x1, .long hi, .long lo, .long mult, .int (nI nx1), .int (nI tz), .int (nI ta1), .ref x8, .int (nI xz), .ref x10, .int (bI fg), .int la, .ref x13, .ref x14, .int (nI mz), .int re, .int en, .int (nI pl1), .int (nI 0), .int (nI nw), .ref x21, .ref x22, .ref x23, .ref x24, .ref x25, .ref x26, .ref x27, .ref x28, .ref x29, .ref x30, .ref x31, .ref x32, .ref x33, .int (bI hr0), .ref x35, .int (bI hk), .ref x37, .ref x38, .long hi2, .long lo2, .long mult2, .int (nI nx2), .int (nI tz2), .int (nI ta2), .ref x45, .int (nI xz2), .ref x47, .int (bI fg2), .int la2, .ref x50])), (x0, .inl (cI, 256, .inl w1)), (x8, .inl (cI, 1000, .inl tp))] H → va_D A [(m0, .inr (10, [.ref x0, .ref x1, .long hi, .long lo, .long mult, .int (nI nx1), .int (nI tz), .int (nI ta1), .ref x8, .int (nI xz), .ref x10, .int (bI fg), .int la, .ref x13, .ref x14, .int (nI mz), .int re, .int en, .int (nI pl1), .int (nI 0), .int (nI nw), .ref x21, .ref x22, .ref x23, .ref x24, .ref x25, .ref x26, .ref x27, .ref x28, .ref x29, .ref x30, .ref x31, .ref x32, .ref x33, .int (bI hr0), .ref x35, .int (bI hk), .ref x37, .ref x38, .long hi2, .long lo2, .long mult2, .int (nI nx2), .int (nI tz2), .int (nI ta2), .ref x45, .int (nI xz2), .ref x47, .int (bI fg2), .int la2, .ref x50])), (x0, .inl (cI, 256, .inl w1)), (x8, .inl (cI, 1000, .inl tp))] → va_S A s.heap H locs → lv_has ls 6 [(0, .ref m0), (1, .int (nI ld1)), (2, .int en1)] → W p l e { frames := 0, cells := 0, slots := 0, locals := 0 } s m ([.ref m0] : List Value).toArray below meth c H locs 0 0 (MQ below (QI D (fun (r : Int32) (u : (Nat → Int32) × Nat × Nat × Nat × Int32) => r = (nI (ldA tp tz w nx ta).2.2.2.1) ∧ u.1 = ((ldA tp tz w nx ta).1) ∧ u.2.1 = ((ldA tp tz w nx ta).2.1) ∧ u.2.2.1 = ((ldA tp tz w nx ta).2.2.1) ∧ u.2.2.2.1 = ((ldA tp tz w nx ta).2.2.2.2.1) ∧ u.2.2.2.2 = ((ldA tp tz w nx ta).2.2.2.2.2)) (fun (u : (Nat → Int32) × Nat × Nat × Nat × Int32) => [(m0, .inr (10, [.ref x0, .ref x1, .long hi, .long lo, .long mult, .int (nI u.2.1), .int (nI tz), .int (nI u.2.2.2.1), .ref x8, .int (nI xz), .ref x10, .int (bI fg), .int la, .ref x13, .ref x14, .int (nI mz), .int re, .int u.2.2.2.2, .int (nI u.2.2.1), .int (nI 0), .int (nI nw), .ref x21, .ref x22, .ref x23, .ref x24, .ref x25, .ref x26, .ref x27, .ref x28, .ref x29, .ref x30, .ref x31, .ref x32, .ref x33, .int (bI hr0), .ref x35, .int (bI hk), .ref x37, .ref x38, .long hi2, .long lo2, .long mult2, .int (nI nx2), .int (nI tz2), .int (nI ta2), .ref x45, .int (nI xz2), .ref x47, .int (bI fg2), .int la2, .ref x50])), (x0, .inl (cI, 256, .inl u.1)), (x8, .inl (cI, 1000, .inl tp))]) A) ([.ref m0] : List Value).toArray s 0 0 A) (F0 m 31 ls []) := by
    intro n_31
    induction n_31 with
    | zero => intro en1 w1 nx1 pl1 ld1 ta1 H locs ls ha hpl hR hm_31; exact absurd hm_31 (Nat.not_lt_zero _)
    | succ n_31 ih_31 =>
      intro en1 w1 nx1 pl1 ld1 ta1 H locs ls ha hpl hR hm_31 hP hD hS hl
      have lp_36 : ∀ (n_36 : Nat) (tb9 : Nat) (H : Heap) (locs : List Loc) (ls : Array Slot), (tb9 ≤ tz) → (ldA tp tz w nx ta = ldR tp tz (tz - tb9 + 1) w1 nx1 pl1 ld1 tb9) → (ta1 ≤ tb9) → (2 * (tz - ta1) < n_31) → (tz - tb9) < n_36 → va_P D vwCl [(m0, .inr (10, [.ref x0, .ref x1, .long hi, .long lo, .long mult, .int (nI nx1), .int (nI tz), .int (nI tb9), .ref x8, .int (nI xz), .ref x10, .int (bI fg), .int la, .ref x13, .ref x14, .int (nI mz), .int re, .int en, .int (nI pl1), .int (nI 0), .int (nI nw), .ref x21, .ref x22, .ref x23, .ref x24, .ref x25, .ref x26, .ref x27, .ref x28, .ref x29, .ref x30, .ref x31, .ref x32, .ref x33, .int (bI hr0), .ref x35, .int (bI hk), .ref x37, .ref x38, .long hi2, .long lo2, .long mult2, .int (nI nx2), .int (nI tz2), .int (nI ta2), .ref x45, .int (nI xz2), .ref x47, .int (bI fg2), .int la2, .ref x50])), (x0, .inl (cI, 256, .inl w1)), (x8, .inl (cI, 1000, .inl tp))] H → va_D A [(m0, .inr (10, [.ref x0, .ref x1, .long hi, .long lo, .long mult, .int (nI nx1), .int (nI tz), .int (nI tb9), .ref x8, .int (nI xz), .ref x10, .int (bI fg), .int la, .ref x13, .ref x14, .int (nI mz), .int re, .int en, .int (nI pl1), .int (nI 0), .int (nI nw), .ref x21, .ref x22, .ref x23, .ref x24, .ref x25, .ref x26, .ref x27, .ref x28, .ref x29, .ref x30, .ref x31, .ref x32, .ref x33, .int (bI hr0), .ref x35, .int (bI hk), .ref x37, .ref x38, .long hi2, .long lo2, .long mult2, .int (nI nx2), .int (nI tz2), .int (nI ta2), .ref x45, .int (nI xz2), .ref x47, .int (bI fg2), .int la2, .ref x50])), (x0, .inl (cI, 256, .inl w1)), (x8, .inl (cI, 1000, .inl tp))] → va_S A s.heap H locs → lv_has ls 6 [(0, .ref m0), (1, .int (nI ld1)), (2, .int (-1))] → W p l e { frames := 0, cells := 0, slots := 0, locals := 0 } s m ([.ref m0] : List Value).toArray below meth c H locs 0 0 (MQ below (QI D (fun (r : Int32) (u : (Nat → Int32) × Nat × Nat × Nat × Int32) => r = (nI (ldA tp tz w nx ta).2.2.2.1) ∧ u.1 = ((ldA tp tz w nx ta).1) ∧ u.2.1 = ((ldA tp tz w nx ta).2.1) ∧ u.2.2.1 = ((ldA tp tz w nx ta).2.2.1) ∧ u.2.2.2.1 = ((ldA tp tz w nx ta).2.2.2.2.1) ∧ u.2.2.2.2 = ((ldA tp tz w nx ta).2.2.2.2.2)) (fun (u : (Nat → Int32) × Nat × Nat × Nat × Int32) => [(m0, .inr (10, [.ref x0, .ref x1, .long hi, .long lo, .long mult, .int (nI u.2.1), .int (nI tz), .int (nI u.2.2.2.1), .ref x8, .int (nI xz), .ref x10, .int (bI fg), .int la, .ref x13, .ref x14, .int (nI mz), .int re, .int u.2.2.2.2, .int (nI u.2.2.1), .int (nI 0), .int (nI nw), .ref x21, .ref x22, .ref x23, .ref x24, .ref x25, .ref x26, .ref x27, .ref x28, .ref x29, .ref x30, .ref x31, .ref x32, .ref x33, .int (bI hr0), .ref x35, .int (bI hk), .ref x37, .ref x38, .long hi2, .long lo2, .long mult2, .int (nI nx2), .int (nI tz2), .int (nI ta2), .ref x45, .int (nI xz2), .ref x47, .int (bI fg2), .int la2, .ref x50])), (x0, .inl (cI, 256, .inl u.1)), (x8, .inl (cI, 1000, .inl tp))]) A) ([.ref m0] : List Value).toArray s 0 0 A) (F0 m 36 ls []) := by
        intro n_36
        induction n_36 with
        | zero => intro tb9 H locs ls h2a hR2 hge hmm hm_36; exact absurd hm_36 (Nat.not_lt_zero _)
        | succ n_36 ih_36 =>
          intro tb9 H locs ls h2a hR2 hge hmm hm_36 hP hD hS hl
          have htf := ht tb9
          have lp_113 : ∀ (n_113 : Nat) (pq : Nat) (nn : Nat) (H : Heap) (locs : List Loc) (ls : Array Slot), (pq ≤ tz) → (tb9 + 1 ≤ pq) → (nn < 1024) → (tb9 < tz) → (¬ iN (tp tb9) = 16) → (fgA tp tz (tz - (tb9 + 1)) (tb9 + 1) 0 = fgA tp tz (tz - pq) pq nn) → (tz - pq) < n_113 → va_P D vwCl [(m0, .inr (10, [.ref x0, .ref x1, .long hi, .long lo, .long mult, .int (nI nx1), .int (nI tz), .int (nI pq), .ref x8, .int (nI xz), .ref x10, .int (bI fg), .int la, .ref x13, .ref x14, .int (nI mz), .int re, .int en, .int (nI pl1), .int (nI 0), .int (nI nw), .ref x21, .ref x22, .ref x23, .ref x24, .ref x25, .ref x26, .ref x27, .ref x28, .ref x29, .ref x30, .ref x31, .ref x32, .ref x33, .int (bI hr0), .ref x35, .int (bI hk), .ref x37, .ref x38, .long hi2, .long lo2, .long mult2, .int (nI nx2), .int (nI tz2), .int (nI ta2), .ref x45, .int (nI xz2), .ref x47, .int (bI fg2), .int la2, .ref x50])), (x0, .inl (cI, 256, .inl w1)), (x8, .inl (cI, 1000, .inl tp))] H → va_D A [(m0, .inr (10, [.ref x0, .ref x1, .long hi, .long lo, .long mult, .int (nI nx1), .int (nI tz), .int (nI pq), .ref x8, .int (nI xz), .ref x10, .int (bI fg), .int la, .ref x13, .ref x14, .int (nI mz), .int re, .int en, .int (nI pl1), .int (nI 0), .int (nI nw), .ref x21, .ref x22, .ref x23, .ref x24, .ref x25, .ref x26, .ref x27, .ref x28, .ref x29, .ref x30, .ref x31, .ref x32, .ref x33, .int (bI hr0), .ref x35, .int (bI hk), .ref x37, .ref x38, .long hi2, .long lo2, .long mult2, .int (nI nx2), .int (nI tz2), .int (nI ta2), .ref x45, .int (nI xz2), .ref x47, .int (bI fg2), .int la2, .ref x50])), (x0, .inl (cI, 256, .inl w1)), (x8, .inl (cI, 1000, .inl tp))] → va_S A s.heap H locs → lv_has ls 6 [(0, .ref m0), (1, .int (nI ld1)), (2, .int (-1)), (3, .int (nI (iN (tp tb9)))), (4, .int (nI nn))] → W p l e { frames := 0, cells := 0, slots := 0, locals := 0 } s m ([.ref m0] : List Value).toArray below meth c H locs 0 0 (MQ below (QI D (fun (r : Int32) (u : (Nat → Int32) × Nat × Nat × Nat × Int32) => r = (nI (ldA tp tz w nx ta).2.2.2.1) ∧ u.1 = ((ldA tp tz w nx ta).1) ∧ u.2.1 = ((ldA tp tz w nx ta).2.1) ∧ u.2.2.1 = ((ldA tp tz w nx ta).2.2.1) ∧ u.2.2.2.1 = ((ldA tp tz w nx ta).2.2.2.2.1) ∧ u.2.2.2.2 = ((ldA tp tz w nx ta).2.2.2.2.2)) (fun (u : (Nat → Int32) × Nat × Nat × Nat × Int32) => [(m0, .inr (10, [.ref x0, .ref x1, .long hi, .long lo, .long mult, .int (nI u.2.1), .int (nI tz), .int (nI u.2.2.2.1), .ref x8, .int (nI xz), .ref x10, .int (bI fg), .int la, .ref x13, .ref x14, .int (nI mz), .int re, .int u.2.2.2.2, .int (nI u.2.2.1), .int (nI 0), .int (nI nw), .ref x21, .ref x22, .ref x23, .ref x24, .ref x25, .ref x26, .ref x27, .ref x28, .ref x29, .ref x30, .ref x31, .ref x32, .ref x33, .int (bI hr0), .ref x35, .int (bI hk), .ref x37, .ref x38, .long hi2, .long lo2, .long mult2, .int (nI nx2), .int (nI tz2), .int (nI ta2), .ref x45, .int (nI xz2), .ref x47, .int (bI fg2), .int la2, .ref x50])), (x0, .inl (cI, 256, .inl u.1)), (x8, .inl (cI, 1000, .inl tp))]) A) ([.ref m0] : List Value).toArray s 0 0 A) (F0 m 113 ls []) := by
            intro n_113
            induction n_113 with
            | zero => intro pq nn H locs ls h3 h3b hnn c_t c_s hfg hm_113; exact absurd hm_113 (Nat.not_lt_zero _)
            | succ n_113 ih_113 =>
              intro pq nn H locs ls h3 h3b hnn c_t c_s hfg hm_113 hP hD hS hl
              have htp := ht pq
              have htf := ht tb9
              refine lv_aload_n hx hb dX10_load_113 rfl (lv_at hl 0 rfl) ?_
              refine va_get (D := D) (ci := 10) (v := .int (nI pq)) (C := RX10) (T := TX10) (N := 51) hx hb hts (by decide +kernel) hown hK hP 0 rfl rfl 7 (by decide) (hts (.fieldLink RX10 156 "TapeEngineModel" "tapeAt" "I") (by decide +kernel)) (fun _ h9 => h9) rfl dX10_load_114 ?_
              refine lv_aload_n hx hb dX10_load_117 rfl (lv_at hl 0 rfl) ?_
              refine va_get (D := D) (ci := 10) (v := .int (nI tz)) (C := RX10) (T := TX10) (N := 51) hx hb hts (by decide +kernel) hown hK hP 0 rfl rfl 6 (by decide) (hts (.fieldLink RX10 153 "TapeEngineModel" "tapeSize" "I") (by decide +kernel)) (fun _ h9 => h9) rfl dX10_load_118 ?_
              refine lv_icmp_ge (tgt := 172) hx hb dX10_load_121 (by decide) (fun c_121 => ?_) (fun c_121 => ?_)
              · skip
                have c_121 : tz ≤ pq := (nI_leI (a := tz) (b := pq) (by omega) (by omega)).mp c_121
                have hit : itP tp tz tb9 = (pq, nn) := hfg.trans (fgA_stop (by omega) _)
                refine lv_aload_n hx hb dX10_load_172 rfl (lv_at hl 0 rfl) ?_
                refine va_get (D := D) (ci := 10) (v := .int (nI pq)) (C := RX10) (T := TX10) (N := 51) hx hb hts (by decide +kernel) hown hK hP 0 rfl rfl 7 (by decide) (hts (.fieldLink RX10 156 "TapeEngineModel" "tapeAt" "I") (by decide +kernel)) (fun _ h9 => h9) rfl dX10_load_173 ?_
                refine lv_aload_n hx hb dX10_load_176 rfl (lv_at hl 0 rfl) ?_
                refine va_get (D := D) (ci := 10) (v := .int (nI tz)) (C := RX10) (T := TX10) (N := 51) hx hb hts (by decide +kernel) hown hK hP 0 rfl rfl 6 (by decide) (hts (.fieldLink RX10 153 "TapeEngineModel" "tapeSize" "I") (by decide +kernel)) (fun _ h9 => h9) rfl dX10_load_177 ?_
                refine lv_icmp_ne (tgt := 188) hx hb dX10_load_180 (by decide) (fun c_180 => ?_) (fun c_180 => ?_)
                · skip
                  have c_180 : ¬ pq = tz := fun z => c_180 ((nI_eq (a := pq) (b := tz) (by omega) (by omega)).mpr z)
                  exfalso
                  omega
                · skip
                  have c_180 : pq = tz := (nI_eq (a := pq) (b := tz) (by omega) (by omega)).mp c_180
                  have hkd : iK tp tz tb9 = 2 := iK_2 c_t c_s (hit.trans (congrArg (fun x : Nat => (x, nn)) c_180))
                  refine lv_iconst (v := 2) hx hb dX10_load_183 (by decide) ?_
                  refine lv_istore_n (lv' := [(2, .int 2), (0, .ref m0), (1, .int (nI ld1)), (3, .int (nI (iN (tp tb9)))), (4, .int (nI nn))]) hx hb dX10_load_184 rfl hl (by decide) rfl (fun ls hl => ?_)
                  refine lv_goto (tgt := 352) hx hb dX10_load_185 (by decide) ?_
                  refine lv_goto (tgt := 31) hx hb dX10_load_352 (by decide) ?_
                  exact ih_31 2 w1 nx1 pl1 ld1 pq _ _ _ (by omega) (by omega) (hR2.trans ((ld_k2 h2a hkd c_180).trans (if_neg (by decide)).symm)) (by first | (rw [if_pos rfl]; omega) | (rw [if_neg (by decide)]; omega)) (hP.sub [0, 1, 2] rfl) (hD.sub [0, 1, 2] (by decide) rfl) hS (lv_sub hl [1, 2, 0] rfl)
              · skip
                have c_121 : ¬ tz ≤ pq := fun z => c_121 ((nI_leI (a := tz) (b := pq) (by omega) (by omega)).mpr z)
                refine lv_aload_n hx hb dX10_load_124 rfl (lv_at hl 0 rfl) ?_
                refine va_get (D := D) (ci := 10) (v := .ref x8) (C := RX10) (T := TX10) (N := 51) hx hb hts (by decide +kernel) hown hK hP 0 rfl rfl 8 (by decide) (hts (.fieldLink RX10 16 "TapeEngineModel" "tape" "[I") (by decide +kernel)) (fun _ h9 => h9) rfl dX10_load_125 ?_
                refine lv_aload_n hx hb dX10_load_128 rfl (lv_at hl 0 rfl) ?_
                refine va_get (D := D) (ci := 10) (v := .int (nI pq)) (C := RX10) (T := TX10) (N := 51) hx hb hts (by decide +kernel) hown hK hP 0 rfl rfl 7 (by decide) (hts (.fieldLink RX10 156 "TapeEngineModel" "tapeAt" "I") (by decide +kernel)) (fun _ h9 => h9) rfl dX10_load_129 ?_
                refine xs_iald (k := pq) hx hb hK hP 2 1 rfl rfl (by first | assumption | omega) (by decide) dX10_load_132 ?_
                refine set_i (y := nI (iN (tp pq))) (nI_iN _).symm ?_
                refine lv_bipush (v := (nI 10)) hx hb dX10_load_133 (by decide) ?_
                refine lv_icmp_ge (tgt := 172) hx hb dX10_load_135 (by decide) (fun c_135 => ?_) (fun c_135 => ?_)
                · skip
                  have c_135 : 10 ≤ (iN (tp pq)) := (nI_leI (a := 10) (b := (iN (tp pq))) (by omega) (by omega)).mp c_135
                  have hit : itP tp tz tb9 = (pq, nn) := hfg.trans (fgA_stop (by omega) _)
                  refine lv_aload_n hx hb dX10_load_172 rfl (lv_at hl 0 rfl) ?_
                  refine va_get (D := D) (ci := 10) (v := .int (nI pq)) (C := RX10) (T := TX10) (N := 51) hx hb hts (by decide +kernel) hown hK hP 0 rfl rfl 7 (by decide) (hts (.fieldLink RX10 156 "TapeEngineModel" "tapeAt" "I") (by decide +kernel)) (fun _ h9 => h9) rfl dX10_load_173 ?_
                  refine lv_aload_n hx hb dX10_load_176 rfl (lv_at hl 0 rfl) ?_
                  refine va_get (D := D) (ci := 10) (v := .int (nI tz)) (C := RX10) (T := TX10) (N := 51) hx hb hts (by decide +kernel) hown hK hP 0 rfl rfl 6 (by decide) (hts (.fieldLink RX10 153 "TapeEngineModel" "tapeSize" "I") (by decide +kernel)) (fun _ h9 => h9) rfl dX10_load_177 ?_
                  refine lv_icmp_ne (tgt := 188) hx hb dX10_load_180 (by decide) (fun c_180 => ?_) (fun c_180 => ?_)
                  · skip
                    have c_180 : ¬ pq = tz := fun z => c_180 ((nI_eq (a := pq) (b := tz) (by omega) (by omega)).mpr z)
                    refine lv_aload_n hx hb dX10_load_188 rfl (lv_at hl 0 rfl) ?_
                    refine va_get (D := D) (ci := 10) (v := .ref x8) (C := RX10) (T := TX10) (N := 51) hx hb hts (by decide +kernel) hown hK hP 0 rfl rfl 8 (by decide) (hts (.fieldLink RX10 16 "TapeEngineModel" "tape" "[I") (by decide +kernel)) (fun _ h9 => h9) rfl dX10_load_189 ?_
                    refine lv_aload_n hx hb dX10_load_192 rfl (lv_at hl 0 rfl) ?_
                    refine va_get (D := D) (ci := 10) (v := .int (nI pq)) (C := RX10) (T := TX10) (N := 51) hx hb hts (by decide +kernel) hown hK hP 0 rfl rfl 7 (by decide) (hts (.fieldLink RX10 156 "TapeEngineModel" "tapeAt" "I") (by decide +kernel)) (fun _ h9 => h9) rfl dX10_load_193 ?_
                    refine xs_iald (k := pq) hx hb hK hP 2 1 rfl rfl (by first | assumption | omega) (by decide) dX10_load_196 ?_
                    refine set_i (y := nI (iN (tp pq))) (nI_iN _).symm ?_
                    refine lv_istore (lv' := [(5, .int (nI (iN (tp pq)))), (0, .ref m0), (1, .int (nI ld1)), (2, .int (-1)), (3, .int (nI (iN (tp tb9)))), (4, .int (nI nn))]) hx hb dX10_load_197 hl (by decide) rfl (fun ls hl => ?_)
                    refine lv_aload_n hx hb dX10_load_199 rfl (lv_at hl 1 rfl) ?_
                    refine lv_dup hx hb dX10_load_200 rfl ?_
                    refine va_get (D := D) (ci := 10) (v := .int (nI pq)) (C := RX10) (T := TX10) (N := 51) hx hb hts (by decide +kernel) hown hK hP 0 rfl rfl 7 (by decide) (hts (.fieldLink RX10 156 "TapeEngineModel" "tapeAt" "I") (by decide +kernel)) (fun _ h9 => h9) rfl dX10_load_201 ?_
                    refine lv_iconst (v := 1) hx hb dX10_load_204 (by decide) ?_
                    refine lv_iadd hx hb dX10_load_205 ?_
                    refine set_i (y := nI (pq + 1)) (nI_1 _) ?_
                    refine va_put (D := D) (ci := 10) (v := .int (nI (pq + 1))) (ty := .int) (C := RX10) (T := TX10) (N := 51) hx hb hts (by decide +kernel) tyX10 tyX10_ok nmX10 hown hK hP hD hS 0 rfl rfl 7 (by decide) (hts (.fieldLink RX10 156 "TapeEngineModel" "tapeAt" "I") (by decide +kernel)) (fun _ h9 => h9) rfl (by decide +kernel) rfl rfl (Nat.le_of_ble_eq_true rfl) dX10_load_206 (fun H locs hP hD hS => ?_)
                    have hP : va_P D vwCl [(m0, .inr (10, [.ref x0, .ref x1, .long hi, .long lo, .long mult, .int (nI nx1), .int (nI tz), .int (nI (pq + 1)), .ref x8, .int (nI xz), .ref x10, .int (bI fg), .int la, .ref x13, .ref x14, .int (nI mz), .int re, .int en, .int (nI pl1), .int (nI 0), .int (nI nw), .ref x21, .ref x22, .ref x23, .ref x24, .ref x25, .ref x26, .ref x27, .ref x28, .ref x29, .ref x30, .ref x31, .ref x32, .ref x33, .int (bI hr0), .ref x35, .int (bI hk), .ref x37, .ref x38, .long hi2, .long lo2, .long mult2, .int (nI nx2), .int (nI tz2), .int (nI ta2), .ref x45, .int (nI xz2), .ref x47, .int (bI fg2), .int la2, .ref x50])), (x0, .inl (cI, 256, .inl w1)), (x8, .inl (cI, 1000, .inl tp))] H := hP
                    have hD : va_D A [(m0, .inr (10, [.ref x0, .ref x1, .long hi, .long lo, .long mult, .int (nI nx1), .int (nI tz), .int (nI (pq + 1)), .ref x8, .int (nI xz), .ref x10, .int (bI fg), .int la, .ref x13, .ref x14, .int (nI mz), .int re, .int en, .int (nI pl1), .int (nI 0), .int (nI nw), .ref x21, .ref x22, .ref x23, .ref x24, .ref x25, .ref x26, .ref x27, .ref x28, .ref x29, .ref x30, .ref x31, .ref x32, .ref x33, .int (bI hr0), .ref x35, .int (bI hk), .ref x37, .ref x38, .long hi2, .long lo2, .long mult2, .int (nI nx2), .int (nI tz2), .int (nI ta2), .ref x45, .int (nI xz2), .ref x47, .int (bI fg2), .int la2, .ref x50])), (x0, .inl (cI, 256, .inl w1)), (x8, .inl (cI, 1000, .inl tp))] := hD
                    refine lv_iload hx hb dX10_load_209 (lv_at hl 0 rfl) ?_
                    refine lv_bipush (v := (nI 16)) hx hb dX10_load_211 (by decide) ?_
                    refine lv_icmp_le (tgt := 269) hx hb dX10_load_213 (by decide) (fun c_213 => ?_) (fun c_213 => ?_)
                    · skip
                      have c_213 : (iN (tp pq)) ≤ 16 := (nI_leI (a := (iN (tp pq))) (b := 16) (by omega) (by omega)).mp c_213
                      refine lv_iload hx hb dX10_load_269 (lv_at hl 0 rfl) ?_
                      refine lv_bipush (v := (nI 14)) hx hb dX10_load_271 (by decide) ?_
                      refine lv_icmp_ne (tgt := 294) hx hb dX10_load_273 (by decide) (fun c_273 => ?_) (fun c_273 => ?_)
                      · skip
                        have c_273 : ¬ (iN (tp pq)) = 14 := fun z => c_273 ((nI_eq (a := (iN (tp pq))) (b := 14) (by omega) (by omega)).mpr z)
                        refine lv_iload hx hb dX10_load_294 (lv_at hl 0 rfl) ?_
                        refine lv_bipush (v := (nI 14)) hx hb dX10_load_296 (by decide) ?_
                        refine lv_icmp_ne (tgt := 323) hx hb dX10_load_298 (by decide) (fun c_298 => ?_) (fun c_298 => ?_)
                        · skip
                          have c_298 : ¬ (iN (tp pq)) = 14 := fun z => c_298 ((nI_eq (a := (iN (tp pq))) (b := 14) (by omega) (by omega)).mpr z)
                          refine lv_iload hx hb dX10_load_323 (lv_at hl 0 rfl) ?_
                          refine lv_bipush (v := (nI 14)) hx hb dX10_load_325 (by decide) ?_
                          refine lv_icmp_ne (tgt := 350) hx hb dX10_load_327 (by decide) (fun c_327 => ?_) (fun c_327 => ?_)
                          · skip
                            have c_327 : ¬ (iN (tp pq)) = 14 := fun z => c_327 ((nI_eq (a := (iN (tp pq))) (b := 14) (by omega) (by omega)).mpr z)
                            have hkd : iK tp tz tb9 = 7 := iK_7 c_t c_s hit (by omega) (by omega) c_273
                            refine lv_iconst (v := 3) hx hb dX10_load_350 (by decide) ?_
                            refine lv_istore_n (lv' := [(2, .int 3), (5, .int (nI (iN (tp pq)))), (0, .ref m0), (1, .int (nI ld1)), (3, .int (nI (iN (tp tb9)))), (4, .int (nI nn))]) hx hb dX10_load_351 rfl hl (by decide) rfl (fun ls hl => ?_)
                            refine lv_goto (tgt := 31) hx hb dX10_load_352 (by decide) ?_
                            exact ih_31 3 w1 nx1 pl1 ld1 (pq + 1) _ _ _ (by omega) (by omega) (hR2.trans ((ld_k7 h2a hit hkd).trans (if_neg (by decide)).symm)) (by first | (rw [if_pos rfl]; omega) | (rw [if_neg (by decide)]; omega)) (hP.sub [0, 1, 2] rfl) (hD.sub [0, 1, 2] (by decide) rfl) hS (lv_sub hl [2, 3, 0] rfl)
                          · skip
                            have c_327 : (iN (tp pq)) = 14 := (nI_eq (a := (iN (tp pq))) (b := 14) (by omega) (by omega)).mp c_327
                            exfalso
                            omega
                        · skip
                          have c_298 : (iN (tp pq)) = 14 := (nI_eq (a := (iN (tp pq))) (b := 14) (by omega) (by omega)).mp c_298
                          exfalso
                          omega
                      · skip
                        have c_273 : (iN (tp pq)) = 14 := (nI_eq (a := (iN (tp pq))) (b := 14) (by omega) (by omega)).mp c_273
                        refine lv_iload_n hx hb dX10_load_276 rfl (lv_at hl 4 rfl) ?_
                        refine lv_iconst (v := (nI 5)) hx hb dX10_load_277 (by decide) ?_
                        refine lv_icmp_ne (tgt := 294) hx hb dX10_load_278 (by decide) (fun c_278 => ?_) (fun c_278 => ?_)
                        · skip
                          have c_278 : ¬ (iN (tp tb9)) = 5 := fun z => c_278 ((nI_eq (a := (iN (tp tb9))) (b := 5) (by omega) (by omega)).mpr z)
                          refine lv_iload hx hb dX10_load_294 (lv_at hl 0 rfl) ?_
                          refine lv_bipush (v := (nI 14)) hx hb dX10_load_296 (by decide) ?_
                          refine lv_icmp_ne (tgt := 323) hx hb dX10_load_298 (by decide) (fun c_298 => ?_) (fun c_298 => ?_)
                          · skip
                            have c_298 : ¬ (iN (tp pq)) = 14 := fun z => c_298 ((nI_eq (a := (iN (tp pq))) (b := 14) (by omega) (by omega)).mpr z)
                            exfalso
                            omega
                          · skip
                            have c_298 : (iN (tp pq)) = 14 := (nI_eq (a := (iN (tp pq))) (b := 14) (by omega) (by omega)).mp c_298
                            refine lv_iload_n hx hb dX10_load_301 rfl (lv_at hl 4 rfl) ?_
                            refine lv_bipush (v := (nI 27)) hx hb dX10_load_302 (by decide) ?_
                            refine lv_icmp_ne (tgt := 323) hx hb dX10_load_304 (by decide) (fun c_304 => ?_) (fun c_304 => ?_)
                            · skip
                              have c_304 : ¬ (iN (tp tb9)) = 27 := fun z => c_304 ((nI_eq (a := (iN (tp tb9))) (b := 27) (by omega) (by omega)).mpr z)
                              refine lv_iload hx hb dX10_load_323 (lv_at hl 0 rfl) ?_
                              refine lv_bipush (v := (nI 14)) hx hb dX10_load_325 (by decide) ?_
                              refine lv_icmp_ne (tgt := 350) hx hb dX10_load_327 (by decide) (fun c_327 => ?_) (fun c_327 => ?_)
                              · skip
                                have c_327 : ¬ (iN (tp pq)) = 14 := fun z => c_327 ((nI_eq (a := (iN (tp pq))) (b := 14) (by omega) (by omega)).mpr z)
                                exfalso
                                omega
                              · skip
                                have c_327 : (iN (tp pq)) = 14 := (nI_eq (a := (iN (tp pq))) (b := 14) (by omega) (by omega)).mp c_327
                                refine lv_iload_n hx hb dX10_load_330 rfl (lv_at hl 4 rfl) ?_
                                refine lv_iconst (v := (nI 3)) hx hb dX10_load_331 (by decide) ?_
                                refine lv_icmp_ne (tgt := 350) hx hb dX10_load_332 (by decide) (fun c_332 => ?_) (fun c_332 => ?_)
                                · skip
                                  have c_332 : ¬ (iN (tp tb9)) = 3 := fun z => c_332 ((nI_eq (a := (iN (tp tb9))) (b := 3) (by omega) (by omega)).mpr z)
                                  have hkd : iK tp tz tb9 = 7 := (iK_c c_t c_s hit (by omega) c_273).trans ((if_neg c_278).trans ((if_neg c_304).trans (if_neg c_332)))
                                  refine lv_iconst (v := 3) hx hb dX10_load_350 (by decide) ?_
                                  refine lv_istore_n (lv' := [(2, .int 3), (5, .int (nI (iN (tp pq)))), (0, .ref m0), (1, .int (nI ld1)), (3, .int (nI (iN (tp tb9)))), (4, .int (nI nn))]) hx hb dX10_load_351 rfl hl (by decide) rfl (fun ls hl => ?_)
                                  refine lv_goto (tgt := 31) hx hb dX10_load_352 (by decide) ?_
                                  exact ih_31 3 w1 nx1 pl1 ld1 (pq + 1) _ _ _ (by omega) (by omega) (hR2.trans ((ld_k7 h2a hit hkd).trans (if_neg (by decide)).symm)) (by first | (rw [if_pos rfl]; omega) | (rw [if_neg (by decide)]; omega)) (hP.sub [0, 1, 2] rfl) (hD.sub [0, 1, 2] (by decide) rfl) hS (lv_sub hl [2, 3, 0] rfl)
                                · skip
                                  have c_332 : (iN (tp tb9)) = 3 := (nI_eq (a := (iN (tp tb9))) (b := 3) (by omega) (by omega)).mp c_332
                                  have hkd : iK tp tz tb9 = 6 := (iK_c c_t c_s hit (by omega) c_273).trans ((if_neg c_278).trans ((if_neg c_304).trans (if_pos c_332)))
                                  refine lv_aload_n hx hb dX10_load_335 rfl (lv_at hl 1 rfl) ?_
                                  refine lv_iload hx hb dX10_load_336 (lv_at hl 5 rfl) ?_
                                  refine lv_sipush (v := (nI 256)) hx hb dX10_load_338 (by decide) ?_
                                  refine lv_irem hx hb dX10_load_341 (by decide) ?_
                                  refine set_i (y := nI (nn % 256)) (pk_rem (by omega) (by omega) (by omega)) ?_
                                  refine va_put (D := D) (ci := 10) (v := .int (nI (nn % 256))) (ty := .int) (C := RX10) (T := TX10) (N := 51) hx hb hts (by decide +kernel) tyX10 tyX10_ok nmX10 hown hK hP hD hS 0 rfl rfl 5 (by decide) (hts (.fieldLink RX10 163 "TapeEngineModel" "next" "I") (by decide +kernel)) (fun _ h9 => h9) rfl (by decide +kernel) rfl rfl (Nat.le_of_ble_eq_true rfl) dX10_load_342 (fun H locs hP hD hS => ?_)
                                  have hP : va_P D vwCl [(m0, .inr (10, [.ref x0, .ref x1, .long hi, .long lo, .long mult, .int (nI (nn % 256)), .int (nI tz), .int (nI (pq + 1)), .ref x8, .int (nI xz), .ref x10, .int (bI fg), .int la, .ref x13, .ref x14, .int (nI mz), .int re, .int en, .int (nI pl1), .int (nI 0), .int (nI nw), .ref x21, .ref x22, .ref x23, .ref x24, .ref x25, .ref x26, .ref x27, .ref x28, .ref x29, .ref x30, .ref x31, .ref x32, .ref x33, .int (bI hr0), .ref x35, .int (bI hk), .ref x37, .ref x38, .long hi2, .long lo2, .long mult2, .int (nI nx2), .int (nI tz2), .int (nI ta2), .ref x45, .int (nI xz2), .ref x47, .int (bI fg2), .int la2, .ref x50])), (x0, .inl (cI, 256, .inl w1)), (x8, .inl (cI, 1000, .inl tp))] H := hP
                                  have hD : va_D A [(m0, .inr (10, [.ref x0, .ref x1, .long hi, .long lo, .long mult, .int (nI (nn % 256)), .int (nI tz), .int (nI (pq + 1)), .ref x8, .int (nI xz), .ref x10, .int (bI fg), .int la, .ref x13, .ref x14, .int (nI mz), .int re, .int en, .int (nI pl1), .int (nI 0), .int (nI nw), .ref x21, .ref x22, .ref x23, .ref x24, .ref x25, .ref x26, .ref x27, .ref x28, .ref x29, .ref x30, .ref x31, .ref x32, .ref x33, .int (bI hr0), .ref x35, .int (bI hk), .ref x37, .ref x38, .long hi2, .long lo2, .long mult2, .int (nI nx2), .int (nI tz2), .int (nI ta2), .ref x45, .int (nI xz2), .ref x47, .int (bI fg2), .int la2, .ref x50])), (x0, .inl (cI, 256, .inl w1)), (x8, .inl (cI, 1000, .inl tp))] := hD
                                  refine lv_iconst (v := 0) hx hb dX10_load_345 (by decide) ?_
                                  refine lv_istore_n (lv' := [(2, .int 0), (5, .int (nI (iN (tp pq)))), (0, .ref m0), (1, .int (nI ld1)), (3, .int (nI (iN (tp tb9)))), (4, .int (nI nn))]) hx hb dX10_load_346 rfl hl (by decide) rfl (fun ls hl => ?_)
                                  refine lv_goto (tgt := 352) hx hb dX10_load_347 (by decide) ?_
                                  refine lv_goto (tgt := 31) hx hb dX10_load_352 (by decide) ?_
                                  exact ih_31 0 w1 (nn % 256) pl1 ld1 (pq + 1) _ _ _ (by omega) (by omega) (hR2.trans ((ld_k6 h2a hit hkd).trans (if_neg (by decide)).symm)) (by first | (rw [if_pos rfl]; omega) | (rw [if_neg (by decide)]; omega)) (hP.sub [0, 1, 2] rfl) (hD.sub [0, 1, 2] (by decide) rfl) hS (lv_sub hl [2, 3, 0] rfl)
                            · skip
                              have c_304 : (iN (tp tb9)) = 27 := (nI_eq (a := (iN (tp tb9))) (b := 27) (by omega) (by omega)).mp c_304
                              have hkd : iK tp tz tb9 = 5 := (iK_c c_t c_s hit (by omega) c_273).trans ((if_neg c_278).trans (if_pos c_304))
                              refine lv_aload_n hx hb dX10_load_307 rfl (lv_at hl 1 rfl) ?_
                              refine va_get (D := D) (ci := 10) (v := .ref x0) (C := RX10) (T := TX10) (N := 51) hx hb hts (by decide +kernel) hown hK hP 0 rfl rfl 0 (by decide) (hts (.fieldLink RX10 7 "TapeEngineModel" "word" "[I") (by decide +kernel)) (fun _ h9 => h9) rfl dX10_load_308 ?_
                              refine lv_bipush (v := (nI 42)) hx hb dX10_load_311 (by decide) ?_
                              refine lv_iconst (v := 2) hx hb dX10_load_313 (by decide) ?_
                              refine lv_aload_n hx hb dX10_load_314 rfl (lv_at hl 1 rfl) ?_
                              refine va_get (D := D) (ci := 10) (v := .int (nI pl1)) (C := RX10) (T := TX10) (N := 51) hx hb hts (by decide +kernel) hown hK hP 0 rfl rfl 18 (by decide) (hts (.fieldLink RX10 39 "TapeEngineModel" "place" "I") (by decide +kernel)) (fun _ h9 => h9) rfl dX10_load_315 ?_
                              refine lv_imul hx hb dX10_load_318 ?_
                              refine set_i (y := nI (2 * pl1)) (pk_mul 2 pl1) ?_
                              refine xs_iast (k := 42) hx hb hK hP hD hS 1 1 rfl rfl (by first | assumption | omega) (by decide) dX10_load_319 (fun H locs hP hD hS => ?_)
                              have hP : va_P D vwCl [(m0, .inr (10, [.ref x0, .ref x1, .long hi, .long lo, .long mult, .int (nI nx1), .int (nI tz), .int (nI (pq + 1)), .ref x8, .int (nI xz), .ref x10, .int (bI fg), .int la, .ref x13, .ref x14, .int (nI mz), .int re, .int en, .int (nI pl1), .int (nI 0), .int (nI nw), .ref x21, .ref x22, .ref x23, .ref x24, .ref x25, .ref x26, .ref x27, .ref x28, .ref x29, .ref x30, .ref x31, .ref x32, .ref x33, .int (bI hr0), .ref x35, .int (bI hk), .ref x37, .ref x38, .long hi2, .long lo2, .long mult2, .int (nI nx2), .int (nI tz2), .int (nI ta2), .ref x45, .int (nI xz2), .ref x47, .int (bI fg2), .int la2, .ref x50])), (x0, .inl (cI, 256, .inl (upd w1 42 (nI (2 * pl1))))), (x8, .inl (cI, 1000, .inl tp))] H := hP
                              have hD : va_D A [(m0, .inr (10, [.ref x0, .ref x1, .long hi, .long lo, .long mult, .int (nI nx1), .int (nI tz), .int (nI (pq + 1)), .ref x8, .int (nI xz), .ref x10, .int (bI fg), .int la, .ref x13, .ref x14, .int (nI mz), .int re, .int en, .int (nI pl1), .int (nI 0), .int (nI nw), .ref x21, .ref x22, .ref x23, .ref x24, .ref x25, .ref x26, .ref x27, .ref x28, .ref x29, .ref x30, .ref x31, .ref x32, .ref x33, .int (bI hr0), .ref x35, .int (bI hk), .ref x37, .ref x38, .long hi2, .long lo2, .long mult2, .int (nI nx2), .int (nI tz2), .int (nI ta2), .ref x45, .int (nI xz2), .ref x47, .int (bI fg2), .int la2, .ref x50])), (x0, .inl (cI, 256, .inl (upd w1 42 (nI (2 * pl1))))), (x8, .inl (cI, 1000, .inl tp))] := hD
                              refine lv_goto (tgt := 352) hx hb dX10_load_320 (by decide) ?_
                              refine lv_goto (tgt := 31) hx hb dX10_load_352 (by decide) ?_
                              exact ih_31 (-1) (upd w1 42 (nI (2 * pl1))) nx1 pl1 ld1 (pq + 1) _ _ _ (by omega) (by omega) (hR2.trans ((ld_k5 h2a hit hkd).trans (if_pos rfl).symm)) (by first | (rw [if_pos rfl]; omega) | (rw [if_neg (by decide)]; omega)) (hP.sub [0, 1, 2] rfl) (hD.sub [0, 1, 2] (by decide) rfl) hS (lv_sub hl [1, 2, 3] rfl)
                        · skip
                          have c_278 : (iN (tp tb9)) = 5 := (nI_eq (a := (iN (tp tb9))) (b := 5) (by omega) (by omega)).mp c_278
                          have hkd : iK tp tz tb9 = 4 := (iK_c c_t c_s hit (by omega) c_273).trans (if_pos c_278)
                          refine lv_aload_n hx hb dX10_load_281 rfl (lv_at hl 1 rfl) ?_
                          refine lv_iload hx hb dX10_load_282 (lv_at hl 5 rfl) ?_
                          refine lv_sipush (v := (nI 256)) hx hb dX10_load_284 (by decide) ?_
                          refine lv_irem hx hb dX10_load_287 (by decide) ?_
                          refine set_i (y := nI (nn % 256)) (pk_rem (by omega) (by omega) (by omega)) ?_
                          refine va_put (D := D) (ci := 10) (v := .int (nI (nn % 256))) (ty := .int) (C := RX10) (T := TX10) (N := 51) hx hb hts (by decide +kernel) tyX10 tyX10_ok nmX10 hown hK hP hD hS 0 rfl rfl 18 (by decide) (hts (.fieldLink RX10 39 "TapeEngineModel" "place" "I") (by decide +kernel)) (fun _ h9 => h9) rfl (by decide +kernel) rfl rfl (Nat.le_of_ble_eq_true rfl) dX10_load_288 (fun H locs hP hD hS => ?_)
                          have hP : va_P D vwCl [(m0, .inr (10, [.ref x0, .ref x1, .long hi, .long lo, .long mult, .int (nI nx1), .int (nI tz), .int (nI (pq + 1)), .ref x8, .int (nI xz), .ref x10, .int (bI fg), .int la, .ref x13, .ref x14, .int (nI mz), .int re, .int en, .int (nI (nn % 256)), .int (nI 0), .int (nI nw), .ref x21, .ref x22, .ref x23, .ref x24, .ref x25, .ref x26, .ref x27, .ref x28, .ref x29, .ref x30, .ref x31, .ref x32, .ref x33, .int (bI hr0), .ref x35, .int (bI hk), .ref x37, .ref x38, .long hi2, .long lo2, .long mult2, .int (nI nx2), .int (nI tz2), .int (nI ta2), .ref x45, .int (nI xz2), .ref x47, .int (bI fg2), .int la2, .ref x50])), (x0, .inl (cI, 256, .inl w1)), (x8, .inl (cI, 1000, .inl tp))] H := hP
                          have hD : va_D A [(m0, .inr (10, [.ref x0, .ref x1, .long hi, .long lo, .long mult, .int (nI nx1), .int (nI tz), .int (nI (pq + 1)), .ref x8, .int (nI xz), .ref x10, .int (bI fg), .int la, .ref x13, .ref x14, .int (nI mz), .int re, .int en, .int (nI (nn % 256)), .int (nI 0), .int (nI nw), .ref x21, .ref x22, .ref x23, .ref x24, .ref x25, .ref x26, .ref x27, .ref x28, .ref x29, .ref x30, .ref x31, .ref x32, .ref x33, .int (bI hr0), .ref x35, .int (bI hk), .ref x37, .ref x38, .long hi2, .long lo2, .long mult2, .int (nI nx2), .int (nI tz2), .int (nI ta2), .ref x45, .int (nI xz2), .ref x47, .int (bI fg2), .int la2, .ref x50])), (x0, .inl (cI, 256, .inl w1)), (x8, .inl (cI, 1000, .inl tp))] := hD
                          refine lv_goto (tgt := 352) hx hb dX10_load_291 (by decide) ?_
                          refine lv_goto (tgt := 31) hx hb dX10_load_352 (by decide) ?_
                          exact ih_31 (-1) w1 nx1 (nn % 256) ld1 (pq + 1) _ _ _ (by omega) (by omega) (hR2.trans ((ld_k4 h2a hit hkd).trans (if_pos rfl).symm)) (by first | (rw [if_pos rfl]; omega) | (rw [if_neg (by decide)]; omega)) (hP.sub [0, 1, 2] rfl) (hD.sub [0, 1, 2] (by decide) rfl) hS (lv_sub hl [1, 2, 3] rfl)
                    · skip
                      have c_213 : ¬ (iN (tp pq)) ≤ 16 := fun z => c_213 ((nI_leI (a := (iN (tp pq))) (b := 16) (by omega) (by omega)).mpr z)
                      have hkd : iK tp tz tb9 = 3 := iK_3 c_t c_s hit (by omega) (by omega)
                      refine lv_aload_n hx hb dX10_load_216 rfl (lv_at hl 1 rfl) ?_
                      refine va_get (D := D) (ci := 10) (v := .ref x0) (C := RX10) (T := TX10) (N := 51) hx hb hts (by decide +kernel) hown hK hP 0 rfl rfl 0 (by decide) (hts (.fieldLink RX10 7 "TapeEngineModel" "word" "[I") (by decide +kernel)) (fun _ h9 => h9) rfl dX10_load_217 ?_
                      refine lv_aload_n hx hb dX10_load_220 rfl (lv_at hl 1 rfl) ?_
                      refine va_get (D := D) (ci := 10) (v := .int (nI pl1)) (C := RX10) (T := TX10) (N := 51) hx hb hts (by decide +kernel) hown hK hP 0 rfl rfl 18 (by decide) (hts (.fieldLink RX10 39 "TapeEngineModel" "place" "I") (by decide +kernel)) (fun _ h9 => h9) rfl dX10_load_221 ?_
                      refine lv_sipush (v := 4096) hx hb dX10_load_224 (by decide) ?_
                      refine lv_iload_n hx hb dX10_load_227 rfl (lv_at hl 4 rfl) ?_
                      refine lv_imul hx hb dX10_load_228 ?_
                      refine set_i (y := nI (4096 * iN (tp tb9))) (pk_mul 4096 _) ?_
                      refine lv_iconst (v := 2) hx hb dX10_load_229 (by decide) ?_
                      refine lv_iload hx hb dX10_load_230 (lv_at hl 5 rfl) ?_
                      refine lv_imul hx hb dX10_load_232 ?_
                      refine set_i (y := nI (2 * nn)) (pk_mul 2 nn) ?_
                      refine lv_iadd hx hb dX10_load_233 ?_
                      refine set_i (y := nI (4096 * iN (tp tb9) + 2 * nn)) (nI_add _ _) ?_
                      refine lv_aload_n hx hb dX10_load_234 rfl (lv_at hl 1 rfl) ?_
                      refine va_get (D := D) (ci := 10) (v := .ref x0) (C := RX10) (T := TX10) (N := 51) hx hb hts (by decide +kernel) hown hK hP 0 rfl rfl 0 (by decide) (hts (.fieldLink RX10 7 "TapeEngineModel" "word" "[I") (by decide +kernel)) (fun _ h9 => h9) rfl dX10_load_235 ?_
                      refine lv_bipush (v := (nI 24)) hx hb dX10_load_238 (by decide) ?_
                      refine lv_iload hx hb dX10_load_240 (lv_at hl 0 rfl) ?_
                      refine lv_iadd hx hb dX10_load_242 ?_
                      refine set_i (y := nI (24 + iN (tp pq))) (nI_add 24 _) ?_
                      refine xs_iald (k := (24 + iN (tp pq))) hx hb hK hP 1 1 rfl rfl (by first | assumption | omega) (by decide) dX10_load_243 ?_
                      refine lv_iadd hx hb dX10_load_244 ?_
                      refine lv_ldc hx hb hown (hts (.constant RX10 162 (131071)) (by decide +kernel)) dX10_load_245 ?_
                      refine lv_iand hx hb dX10_load_247 ?_
                      refine xs_iast (k := pl1) hx hb hK hP hD hS 1 1 rfl rfl (by first | assumption | omega) (by decide) dX10_load_248 (fun H locs hP hD hS => ?_)
                      have hP : va_P D vwCl [(m0, .inr (10, [.ref x0, .ref x1, .long hi, .long lo, .long mult, .int (nI nx1), .int (nI tz), .int (nI (pq + 1)), .ref x8, .int (nI xz), .ref x10, .int (bI fg), .int la, .ref x13, .ref x14, .int (nI mz), .int re, .int en, .int (nI pl1), .int (nI 0), .int (nI nw), .ref x21, .ref x22, .ref x23, .ref x24, .ref x25, .ref x26, .ref x27, .ref x28, .ref x29, .ref x30, .ref x31, .ref x32, .ref x33, .int (bI hr0), .ref x35, .int (bI hk), .ref x37, .ref x38, .long hi2, .long lo2, .long mult2, .int (nI nx2), .int (nI tz2), .int (nI ta2), .ref x45, .int (nI xz2), .ref x47, .int (bI fg2), .int la2, .ref x50])), (x0, .inl (cI, 256, .inl (upd w1 pl1 (((nI (4096 * iN (tp tb9) + 2 * nn)) + (w1 (24 + iN (tp pq)))) &&& 131071)))), (x8, .inl (cI, 1000, .inl tp))] H := hP
                      have hD : va_D A [(m0, .inr (10, [.ref x0, .ref x1, .long hi, .long lo, .long mult, .int (nI nx1), .int (nI tz), .int (nI (pq + 1)), .ref x8, .int (nI xz), .ref x10, .int (bI fg), .int la, .ref x13, .ref x14, .int (nI mz), .int re, .int en, .int (nI pl1), .int (nI 0), .int (nI nw), .ref x21, .ref x22, .ref x23, .ref x24, .ref x25, .ref x26, .ref x27, .ref x28, .ref x29, .ref x30, .ref x31, .ref x32, .ref x33, .int (bI hr0), .ref x35, .int (bI hk), .ref x37, .ref x38, .long hi2, .long lo2, .long mult2, .int (nI nx2), .int (nI tz2), .int (nI ta2), .ref x45, .int (nI xz2), .ref x47, .int (bI fg2), .int la2, .ref x50])), (x0, .inl (cI, 256, .inl (upd w1 pl1 (((nI (4096 * iN (tp tb9) + 2 * nn)) + (w1 (24 + iN (tp pq)))) &&& 131071)))), (x8, .inl (cI, 1000, .inl tp))] := hD
                      refine lv_aload_n hx hb dX10_load_249 rfl (lv_at hl 1 rfl) ?_
                      refine lv_aload_n hx hb dX10_load_250 rfl (lv_at hl 1 rfl) ?_
                      refine va_get (D := D) (ci := 10) (v := .int (nI pl1)) (C := RX10) (T := TX10) (N := 51) hx hb hts (by decide +kernel) hown hK hP 0 rfl rfl 18 (by decide) (hts (.fieldLink RX10 39 "TapeEngineModel" "place" "I") (by decide +kernel)) (fun _ h9 => h9) rfl dX10_load_251 ?_
                      refine lv_iconst (v := 1) hx hb dX10_load_254 (by decide) ?_
                      refine lv_iadd hx hb dX10_load_255 ?_
                      refine set_i (y := nI (pl1 + 1)) (nI_1 _) ?_
                      refine lv_sipush (v := (nI 256)) hx hb dX10_load_256 (by decide) ?_
                      refine lv_irem hx hb dX10_load_259 (by decide) ?_
                      refine set_i (y := nI ((pl1 + 1) % 256)) (pk_rem (by omega) (by omega) (by omega)) ?_
                      refine va_put (D := D) (ci := 10) (v := .int (nI ((pl1 + 1) % 256))) (ty := .int) (C := RX10) (T := TX10) (N := 51) hx hb hts (by decide +kernel) tyX10 tyX10_ok nmX10 hown hK hP hD hS 0 rfl rfl 18 (by decide) (hts (.fieldLink RX10 39 "TapeEngineModel" "place" "I") (by decide +kernel)) (fun _ h9 => h9) rfl (by decide +kernel) rfl rfl (Nat.le_of_ble_eq_true rfl) dX10_load_260 (fun H locs hP hD hS => ?_)
                      have hP : va_P D vwCl [(m0, .inr (10, [.ref x0, .ref x1, .long hi, .long lo, .long mult, .int (nI nx1), .int (nI tz), .int (nI (pq + 1)), .ref x8, .int (nI xz), .ref x10, .int (bI fg), .int la, .ref x13, .ref x14, .int (nI mz), .int re, .int en, .int (nI ((pl1 + 1) % 256)), .int (nI 0), .int (nI nw), .ref x21, .ref x22, .ref x23, .ref x24, .ref x25, .ref x26, .ref x27, .ref x28, .ref x29, .ref x30, .ref x31, .ref x32, .ref x33, .int (bI hr0), .ref x35, .int (bI hk), .ref x37, .ref x38, .long hi2, .long lo2, .long mult2, .int (nI nx2), .int (nI tz2), .int (nI ta2), .ref x45, .int (nI xz2), .ref x47, .int (bI fg2), .int la2, .ref x50])), (x0, .inl (cI, 256, .inl (upd w1 pl1 (((nI (4096 * iN (tp tb9) + 2 * nn)) + (w1 (24 + iN (tp pq)))) &&& 131071)))), (x8, .inl (cI, 1000, .inl tp))] H := hP
                      have hD : va_D A [(m0, .inr (10, [.ref x0, .ref x1, .long hi, .long lo, .long mult, .int (nI nx1), .int (nI tz), .int (nI (pq + 1)), .ref x8, .int (nI xz), .ref x10, .int (bI fg), .int la, .ref x13, .ref x14, .int (nI mz), .int re, .int en, .int (nI ((pl1 + 1) % 256)), .int (nI 0), .int (nI nw), .ref x21, .ref x22, .ref x23, .ref x24, .ref x25, .ref x26, .ref x27, .ref x28, .ref x29, .ref x30, .ref x31, .ref x32, .ref x33, .int (bI hr0), .ref x35, .int (bI hk), .ref x37, .ref x38, .long hi2, .long lo2, .long mult2, .int (nI nx2), .int (nI tz2), .int (nI ta2), .ref x45, .int (nI xz2), .ref x47, .int (bI fg2), .int la2, .ref x50])), (x0, .inl (cI, 256, .inl (upd w1 pl1 (((nI (4096 * iN (tp tb9) + 2 * nn)) + (w1 (24 + iN (tp pq)))) &&& 131071)))), (x8, .inl (cI, 1000, .inl tp))] := hD
                      refine lv_iinc (v := (nI (ld1 + 1))) (lv' := [(1, .int (nI (ld1 + 1))), (5, .int (nI (iN (tp pq)))), (0, .ref m0), (2, .int (-1)), (3, .int (nI (iN (tp tb9)))), (4, .int (nI nn))]) hx hb dX10_load_263 hl (k := 2) rfl (nI_1 _) (by decide) rfl (fun ls hl => ?_)
                      refine lv_goto (tgt := 352) hx hb dX10_load_266 (by decide) ?_
                      refine lv_goto (tgt := 31) hx hb dX10_load_352 (by decide) ?_
                      exact ih_31 (-1) (upd w1 pl1 (((nI (4096 * iN (tp tb9) + 2 * nn)) + (w1 (24 + iN (tp pq)))) &&& 131071)) nx1 ((pl1 + 1) % 256) (ld1 + 1) (pq + 1) _ _ _ (by omega) (by omega) (hR2.trans ((ld_k3 h2a hit hkd).trans (if_pos rfl).symm)) (by first | (rw [if_pos rfl]; omega) | (rw [if_neg (by decide)]; omega)) (hP.sub [0, 1, 2] rfl) (hD.sub [0, 1, 2] (by decide) rfl) hS (lv_sub hl [2, 0, 3] rfl)
                  · skip
                    have c_180 : pq = tz := (nI_eq (a := pq) (b := tz) (by omega) (by omega)).mp c_180
                    exfalso
                    omega
                · skip
                  have c_135 : ¬ 10 ≤ (iN (tp pq)) := fun z => c_135 ((nI_leI (a := 10) (b := (iN (tp pq))) (by omega) (by omega)).mpr z)
                  refine lv_bipush (v := 10) hx hb dX10_load_138 (by decide) ?_
                  refine lv_iload hx hb dX10_load_140 (lv_at hl 4 rfl) ?_
                  refine lv_imul hx hb dX10_load_142 ?_
                  refine set_i (y := nI (10 * nn)) (pk_mul 10 nn) ?_
                  refine lv_aload_n hx hb dX10_load_143 rfl (lv_at hl 0 rfl) ?_
                  refine va_get (D := D) (ci := 10) (v := .ref x8) (C := RX10) (T := TX10) (N := 51) hx hb hts (by decide +kernel) hown hK hP 0 rfl rfl 8 (by decide) (hts (.fieldLink RX10 16 "TapeEngineModel" "tape" "[I") (by decide +kernel)) (fun _ h9 => h9) rfl dX10_load_144 ?_
                  refine lv_aload_n hx hb dX10_load_147 rfl (lv_at hl 0 rfl) ?_
                  refine va_get (D := D) (ci := 10) (v := .int (nI pq)) (C := RX10) (T := TX10) (N := 51) hx hb hts (by decide +kernel) hown hK hP 0 rfl rfl 7 (by decide) (hts (.fieldLink RX10 156 "TapeEngineModel" "tapeAt" "I") (by decide +kernel)) (fun _ h9 => h9) rfl dX10_load_148 ?_
                  refine xs_iald (k := pq) hx hb hK hP 2 1 rfl rfl (by first | assumption | omega) (by decide) dX10_load_151 ?_
                  refine set_i (y := nI (iN (tp pq))) (nI_iN _).symm ?_
                  refine lv_iadd hx hb dX10_load_152 ?_
                  refine set_i (y := nI (10 * nn + iN (tp pq))) (nI_add _ _) ?_
                  refine lv_sipush (v := (nI 1024)) hx hb dX10_load_153 (by decide) ?_
                  refine lv_irem hx hb dX10_load_156 (by decide) ?_
                  refine set_i (y := nI ((10 * nn + iN (tp pq)) % 1024)) (pk_rem (by omega) (by omega) (by omega)) ?_
                  refine lv_istore (lv' := [(4, .int (nI ((10 * nn + iN (tp pq)) % 1024))), (0, .ref m0), (1, .int (nI ld1)), (2, .int (-1)), (3, .int (nI (iN (tp tb9))))]) hx hb dX10_load_157 hl (by decide) rfl (fun ls hl => ?_)
                  refine lv_aload_n hx hb dX10_load_159 rfl (lv_at hl 1 rfl) ?_
                  refine lv_dup hx hb dX10_load_160 rfl ?_
                  refine va_get (D := D) (ci := 10) (v := .int (nI pq)) (C := RX10) (T := TX10) (N := 51) hx hb hts (by decide +kernel) hown hK hP 0 rfl rfl 7 (by decide) (hts (.fieldLink RX10 156 "TapeEngineModel" "tapeAt" "I") (by decide +kernel)) (fun _ h9 => h9) rfl dX10_load_161 ?_
                  refine lv_iconst (v := 1) hx hb dX10_load_164 (by decide) ?_
                  refine lv_iadd hx hb dX10_load_165 ?_
                  refine set_i (y := nI (pq + 1)) (nI_1 _) ?_
                  refine va_put (D := D) (ci := 10) (v := .int (nI (pq + 1))) (ty := .int) (C := RX10) (T := TX10) (N := 51) hx hb hts (by decide +kernel) tyX10 tyX10_ok nmX10 hown hK hP hD hS 0 rfl rfl 7 (by decide) (hts (.fieldLink RX10 156 "TapeEngineModel" "tapeAt" "I") (by decide +kernel)) (fun _ h9 => h9) rfl (by decide +kernel) rfl rfl (Nat.le_of_ble_eq_true rfl) dX10_load_166 (fun H locs hP hD hS => ?_)
                  have hP : va_P D vwCl [(m0, .inr (10, [.ref x0, .ref x1, .long hi, .long lo, .long mult, .int (nI nx1), .int (nI tz), .int (nI (pq + 1)), .ref x8, .int (nI xz), .ref x10, .int (bI fg), .int la, .ref x13, .ref x14, .int (nI mz), .int re, .int en, .int (nI pl1), .int (nI 0), .int (nI nw), .ref x21, .ref x22, .ref x23, .ref x24, .ref x25, .ref x26, .ref x27, .ref x28, .ref x29, .ref x30, .ref x31, .ref x32, .ref x33, .int (bI hr0), .ref x35, .int (bI hk), .ref x37, .ref x38, .long hi2, .long lo2, .long mult2, .int (nI nx2), .int (nI tz2), .int (nI ta2), .ref x45, .int (nI xz2), .ref x47, .int (bI fg2), .int la2, .ref x50])), (x0, .inl (cI, 256, .inl w1)), (x8, .inl (cI, 1000, .inl tp))] H := hP
                  have hD : va_D A [(m0, .inr (10, [.ref x0, .ref x1, .long hi, .long lo, .long mult, .int (nI nx1), .int (nI tz), .int (nI (pq + 1)), .ref x8, .int (nI xz), .ref x10, .int (bI fg), .int la, .ref x13, .ref x14, .int (nI mz), .int re, .int en, .int (nI pl1), .int (nI 0), .int (nI nw), .ref x21, .ref x22, .ref x23, .ref x24, .ref x25, .ref x26, .ref x27, .ref x28, .ref x29, .ref x30, .ref x31, .ref x32, .ref x33, .int (bI hr0), .ref x35, .int (bI hk), .ref x37, .ref x38, .long hi2, .long lo2, .long mult2, .int (nI nx2), .int (nI tz2), .int (nI ta2), .ref x45, .int (nI xz2), .ref x47, .int (bI fg2), .int la2, .ref x50])), (x0, .inl (cI, 256, .inl w1)), (x8, .inl (cI, 1000, .inl tp))] := hD
                  refine lv_goto (tgt := 113) hx hb dX10_load_169 (by decide) ?_
                  exact ih_113 (pq + 1) ((10 * nn + iN (tp pq)) % 1024) _ _ _ (by first | assumption | omega) (by first | assumption | omega) (by first | assumption | omega) (by first | assumption | omega) c_s (hfg.trans (fgA_go (by omega) (by omega))) (by omega) (hP.sub [0, 1, 2] rfl) (hD.sub [0, 1, 2] (by decide) rfl) hS (lv_sub hl [1, 2, 3, 4, 0] rfl)
          refine lv_aload_n hx hb dX10_load_36 rfl (lv_at hl 0 rfl) ?_
          refine va_get (D := D) (ci := 10) (v := .int (nI tb9)) (C := RX10) (T := TX10) (N := 51) hx hb hts (by decide +kernel) hown hK hP 0 rfl rfl 7 (by decide) (hts (.fieldLink RX10 156 "TapeEngineModel" "tapeAt" "I") (by decide +kernel)) (fun _ h9 => h9) rfl dX10_load_37 ?_
          refine lv_aload_n hx hb dX10_load_40 rfl (lv_at hl 0 rfl) ?_
          refine va_get (D := D) (ci := 10) (v := .int (nI tz)) (C := RX10) (T := TX10) (N := 51) hx hb hts (by decide +kernel) hown hK hP 0 rfl rfl 6 (by decide) (hts (.fieldLink RX10 153 "TapeEngineModel" "tapeSize" "I") (by decide +kernel)) (fun _ h9 => h9) rfl dX10_load_41 ?_
          refine lv_icmp_ge (tgt := 74) hx hb dX10_load_44 (by decide) (fun c_44 => ?_) (fun c_44 => ?_)
          · skip
            have c_44 : tz ≤ tb9 := (nI_leI (a := tz) (b := tb9) (by omega) (by omega)).mp c_44
            refine lv_aload_n hx hb dX10_load_74 rfl (lv_at hl 0 rfl) ?_
            refine va_get (D := D) (ci := 10) (v := .int (nI tb9)) (C := RX10) (T := TX10) (N := 51) hx hb hts (by decide +kernel) hown hK hP 0 rfl rfl 7 (by decide) (hts (.fieldLink RX10 156 "TapeEngineModel" "tapeAt" "I") (by decide +kernel)) (fun _ h9 => h9) rfl dX10_load_75 ?_
            refine lv_aload_n hx hb dX10_load_78 rfl (lv_at hl 0 rfl) ?_
            refine va_get (D := D) (ci := 10) (v := .int (nI tz)) (C := RX10) (T := TX10) (N := 51) hx hb hts (by decide +kernel) hown hK hP 0 rfl rfl 6 (by decide) (hts (.fieldLink RX10 153 "TapeEngineModel" "tapeSize" "I") (by decide +kernel)) (fun _ h9 => h9) rfl dX10_load_79 ?_
            refine lv_icmp_ne (tgt := 90) hx hb dX10_load_82 (by decide) (fun c_82 => ?_) (fun c_82 => ?_)
            · skip
              have c_82 : ¬ tb9 = tz := fun z => c_82 ((nI_eq (a := tb9) (b := tz) (by omega) (by omega)).mpr z)
              exfalso
              omega
            · skip
              have c_82 : tb9 = tz := (nI_eq (a := tb9) (b := tz) (by omega) (by omega)).mp c_82
              have hkd : iK tp tz tb9 = 0 := iK_0 (by omega)
              refine lv_iconst (v := 1) hx hb dX10_load_85 (by decide) ?_
              refine lv_istore_n (lv' := [(2, .int 1), (0, .ref m0), (1, .int (nI ld1))]) hx hb dX10_load_86 rfl hl (by decide) rfl (fun ls hl => ?_)
              refine lv_goto (tgt := 31) hx hb dX10_load_87 (by decide) ?_
              exact ih_31 1 w1 nx1 pl1 ld1 tb9 _ _ _ (by omega) (by omega) (hR2.trans ((ld_k0 h2a hkd).trans (if_neg (by decide)).symm)) (by first | (rw [if_pos rfl]; omega) | (rw [if_neg (by decide)]; omega)) (hP.sub [0, 1, 2] rfl) (hD.sub [0, 1, 2] (by decide) rfl) hS (lv_sub hl [1, 2, 0] rfl)
          · skip
            have c_44 : ¬ tz ≤ tb9 := fun z => c_44 ((nI_leI (a := tz) (b := tb9) (by omega) (by omega)).mpr z)
            refine lv_aload_n hx hb dX10_load_47 rfl (lv_at hl 0 rfl) ?_
            refine va_get (D := D) (ci := 10) (v := .ref x8) (C := RX10) (T := TX10) (N := 51) hx hb hts (by decide +kernel) hown hK hP 0 rfl rfl 8 (by decide) (hts (.fieldLink RX10 16 "TapeEngineModel" "tape" "[I") (by decide +kernel)) (fun _ h9 => h9) rfl dX10_load_48 ?_
            refine lv_aload_n hx hb dX10_load_51 rfl (lv_at hl 0 rfl) ?_
            refine va_get (D := D) (ci := 10) (v := .int (nI tb9)) (C := RX10) (T := TX10) (N := 51) hx hb hts (by decide +kernel) hown hK hP 0 rfl rfl 7 (by decide) (hts (.fieldLink RX10 156 "TapeEngineModel" "tapeAt" "I") (by decide +kernel)) (fun _ h9 => h9) rfl dX10_load_52 ?_
            refine xs_iald (k := tb9) hx hb hK hP 2 1 rfl rfl (by first | assumption | omega) (by decide) dX10_load_55 ?_
            refine set_i (y := nI (iN (tp tb9))) (nI_iN _).symm ?_
            refine lv_bipush (v := (nI 16)) hx hb dX10_load_56 (by decide) ?_
            refine lv_icmp_ne (tgt := 74) hx hb dX10_load_58 (by decide) (fun c_58 => ?_) (fun c_58 => ?_)
            · skip
              have c_58 : ¬ (iN (tp tb9)) = 16 := fun z => c_58 ((nI_eq (a := (iN (tp tb9))) (b := 16) (by omega) (by omega)).mpr z)
              refine lv_aload_n hx hb dX10_load_74 rfl (lv_at hl 0 rfl) ?_
              refine va_get (D := D) (ci := 10) (v := .int (nI tb9)) (C := RX10) (T := TX10) (N := 51) hx hb hts (by decide +kernel) hown hK hP 0 rfl rfl 7 (by decide) (hts (.fieldLink RX10 156 "TapeEngineModel" "tapeAt" "I") (by decide +kernel)) (fun _ h9 => h9) rfl dX10_load_75 ?_
              refine lv_aload_n hx hb dX10_load_78 rfl (lv_at hl 0 rfl) ?_
              refine va_get (D := D) (ci := 10) (v := .int (nI tz)) (C := RX10) (T := TX10) (N := 51) hx hb hts (by decide +kernel) hown hK hP 0 rfl rfl 6 (by decide) (hts (.fieldLink RX10 153 "TapeEngineModel" "tapeSize" "I") (by decide +kernel)) (fun _ h9 => h9) rfl dX10_load_79 ?_
              refine lv_icmp_ne (tgt := 90) hx hb dX10_load_82 (by decide) (fun c_82 => ?_) (fun c_82 => ?_)
              · skip
                have c_82 : ¬ tb9 = tz := fun z => c_82 ((nI_eq (a := tb9) (b := tz) (by omega) (by omega)).mpr z)
                refine lv_aload_n hx hb dX10_load_90 rfl (lv_at hl 0 rfl) ?_
                refine va_get (D := D) (ci := 10) (v := .ref x8) (C := RX10) (T := TX10) (N := 51) hx hb hts (by decide +kernel) hown hK hP 0 rfl rfl 8 (by decide) (hts (.fieldLink RX10 16 "TapeEngineModel" "tape" "[I") (by decide +kernel)) (fun _ h9 => h9) rfl dX10_load_91 ?_
                refine lv_aload_n hx hb dX10_load_94 rfl (lv_at hl 0 rfl) ?_
                refine va_get (D := D) (ci := 10) (v := .int (nI tb9)) (C := RX10) (T := TX10) (N := 51) hx hb hts (by decide +kernel) hown hK hP 0 rfl rfl 7 (by decide) (hts (.fieldLink RX10 156 "TapeEngineModel" "tapeAt" "I") (by decide +kernel)) (fun _ h9 => h9) rfl dX10_load_95 ?_
                refine xs_iald (k := tb9) hx hb hK hP 2 1 rfl rfl (by first | assumption | omega) (by decide) dX10_load_98 ?_
                refine set_i (y := nI (iN (tp tb9))) (nI_iN _).symm ?_
                refine lv_istore_n (lv' := [(3, .int (nI (iN (tp tb9)))), (0, .ref m0), (1, .int (nI ld1)), (2, .int (-1))]) hx hb dX10_load_99 rfl hl (by decide) rfl (fun ls hl => ?_)
                refine lv_aload_n hx hb dX10_load_100 rfl (lv_at hl 1 rfl) ?_
                refine lv_dup hx hb dX10_load_101 rfl ?_
                refine va_get (D := D) (ci := 10) (v := .int (nI tb9)) (C := RX10) (T := TX10) (N := 51) hx hb hts (by decide +kernel) hown hK hP 0 rfl rfl 7 (by decide) (hts (.fieldLink RX10 156 "TapeEngineModel" "tapeAt" "I") (by decide +kernel)) (fun _ h9 => h9) rfl dX10_load_102 ?_
                refine lv_iconst (v := 1) hx hb dX10_load_105 (by decide) ?_
                refine lv_iadd hx hb dX10_load_106 ?_
                refine set_i (y := nI (tb9 + 1)) (nI_1 _) ?_
                refine va_put (D := D) (ci := 10) (v := .int (nI (tb9 + 1))) (ty := .int) (C := RX10) (T := TX10) (N := 51) hx hb hts (by decide +kernel) tyX10 tyX10_ok nmX10 hown hK hP hD hS 0 rfl rfl 7 (by decide) (hts (.fieldLink RX10 156 "TapeEngineModel" "tapeAt" "I") (by decide +kernel)) (fun _ h9 => h9) rfl (by decide +kernel) rfl rfl (Nat.le_of_ble_eq_true rfl) dX10_load_107 (fun H locs hP hD hS => ?_)
                have hP : va_P D vwCl [(m0, .inr (10, [.ref x0, .ref x1, .long hi, .long lo, .long mult, .int (nI nx1), .int (nI tz), .int (nI (tb9 + 1)), .ref x8, .int (nI xz), .ref x10, .int (bI fg), .int la, .ref x13, .ref x14, .int (nI mz), .int re, .int en, .int (nI pl1), .int (nI 0), .int (nI nw), .ref x21, .ref x22, .ref x23, .ref x24, .ref x25, .ref x26, .ref x27, .ref x28, .ref x29, .ref x30, .ref x31, .ref x32, .ref x33, .int (bI hr0), .ref x35, .int (bI hk), .ref x37, .ref x38, .long hi2, .long lo2, .long mult2, .int (nI nx2), .int (nI tz2), .int (nI ta2), .ref x45, .int (nI xz2), .ref x47, .int (bI fg2), .int la2, .ref x50])), (x0, .inl (cI, 256, .inl w1)), (x8, .inl (cI, 1000, .inl tp))] H := hP
                have hD : va_D A [(m0, .inr (10, [.ref x0, .ref x1, .long hi, .long lo, .long mult, .int (nI nx1), .int (nI tz), .int (nI (tb9 + 1)), .ref x8, .int (nI xz), .ref x10, .int (bI fg), .int la, .ref x13, .ref x14, .int (nI mz), .int re, .int en, .int (nI pl1), .int (nI 0), .int (nI nw), .ref x21, .ref x22, .ref x23, .ref x24, .ref x25, .ref x26, .ref x27, .ref x28, .ref x29, .ref x30, .ref x31, .ref x32, .ref x33, .int (bI hr0), .ref x35, .int (bI hk), .ref x37, .ref x38, .long hi2, .long lo2, .long mult2, .int (nI nx2), .int (nI tz2), .int (nI ta2), .ref x45, .int (nI xz2), .ref x47, .int (bI fg2), .int la2, .ref x50])), (x0, .inl (cI, 256, .inl w1)), (x8, .inl (cI, 1000, .inl tp))] := hD
                refine lv_iconst (v := 0) hx hb dX10_load_110 (by decide) ?_
                refine lv_istore (lv' := [(4, .int 0), (3, .int (nI (iN (tp tb9)))), (0, .ref m0), (1, .int (nI ld1)), (2, .int (-1))]) hx hb dX10_load_111 hl (by decide) rfl (fun ls hl => ?_)
                exact lp_113 _ (tb9 + 1) 0 _ _ _ (by first | assumption | omega) (by first | assumption | omega) (by first | assumption | omega) (by first | assumption | omega) c_58 rfl (Nat.lt_succ_self _) (hP.sub [0, 1, 2] rfl) (hD.sub [0, 1, 2] (by decide) rfl) hS (lv_sub hl [2, 3, 4, 1, 0] rfl)
              · skip
                have c_82 : tb9 = tz := (nI_eq (a := tb9) (b := tz) (by omega) (by omega)).mp c_82
                exfalso
                omega
            · skip
              have c_58 : (iN (tp tb9)) = 16 := (nI_eq (a := (iN (tp tb9))) (b := 16) (by omega) (by omega)).mp c_58
              refine lv_aload_n hx hb dX10_load_61 rfl (lv_at hl 0 rfl) ?_
              refine lv_dup hx hb dX10_load_62 rfl ?_
              refine va_get (D := D) (ci := 10) (v := .int (nI tb9)) (C := RX10) (T := TX10) (N := 51) hx hb hts (by decide +kernel) hown hK hP 0 rfl rfl 7 (by decide) (hts (.fieldLink RX10 156 "TapeEngineModel" "tapeAt" "I") (by decide +kernel)) (fun _ h9 => h9) rfl dX10_load_63 ?_
              refine lv_iconst (v := 1) hx hb dX10_load_66 (by decide) ?_
              refine lv_iadd hx hb dX10_load_67 ?_
              refine set_i (y := nI (tb9 + 1)) (nI_1 _) ?_
              refine va_put (D := D) (ci := 10) (v := .int (nI (tb9 + 1))) (ty := .int) (C := RX10) (T := TX10) (N := 51) hx hb hts (by decide +kernel) tyX10 tyX10_ok nmX10 hown hK hP hD hS 0 rfl rfl 7 (by decide) (hts (.fieldLink RX10 156 "TapeEngineModel" "tapeAt" "I") (by decide +kernel)) (fun _ h9 => h9) rfl (by decide +kernel) rfl rfl (Nat.le_of_ble_eq_true rfl) dX10_load_68 (fun H locs hP hD hS => ?_)
              have hP : va_P D vwCl [(m0, .inr (10, [.ref x0, .ref x1, .long hi, .long lo, .long mult, .int (nI nx1), .int (nI tz), .int (nI (tb9 + 1)), .ref x8, .int (nI xz), .ref x10, .int (bI fg), .int la, .ref x13, .ref x14, .int (nI mz), .int re, .int en, .int (nI pl1), .int (nI 0), .int (nI nw), .ref x21, .ref x22, .ref x23, .ref x24, .ref x25, .ref x26, .ref x27, .ref x28, .ref x29, .ref x30, .ref x31, .ref x32, .ref x33, .int (bI hr0), .ref x35, .int (bI hk), .ref x37, .ref x38, .long hi2, .long lo2, .long mult2, .int (nI nx2), .int (nI tz2), .int (nI ta2), .ref x45, .int (nI xz2), .ref x47, .int (bI fg2), .int la2, .ref x50])), (x0, .inl (cI, 256, .inl w1)), (x8, .inl (cI, 1000, .inl tp))] H := hP
              have hD : va_D A [(m0, .inr (10, [.ref x0, .ref x1, .long hi, .long lo, .long mult, .int (nI nx1), .int (nI tz), .int (nI (tb9 + 1)), .ref x8, .int (nI xz), .ref x10, .int (bI fg), .int la, .ref x13, .ref x14, .int (nI mz), .int re, .int en, .int (nI pl1), .int (nI 0), .int (nI nw), .ref x21, .ref x22, .ref x23, .ref x24, .ref x25, .ref x26, .ref x27, .ref x28, .ref x29, .ref x30, .ref x31, .ref x32, .ref x33, .int (bI hr0), .ref x35, .int (bI hk), .ref x37, .ref x38, .long hi2, .long lo2, .long mult2, .int (nI nx2), .int (nI tz2), .int (nI ta2), .ref x45, .int (nI xz2), .ref x47, .int (bI fg2), .int la2, .ref x50])), (x0, .inl (cI, 256, .inl w1)), (x8, .inl (cI, 1000, .inl tp))] := hD
              refine lv_goto (tgt := 36) hx hb dX10_load_71 (by decide) ?_
              exact ih_36 (tb9 + 1) _ _ _ (by first | assumption | omega) (hR2.trans (ld_k1 h2a (iK_1 (by omega) c_58))) (by first | assumption | omega) hmm (by omega) (hP.sub [0, 1, 2] rfl) (hD.sub [0, 1, 2] (by decide) rfl) hS (lv_sub hl [0, 1, 2] rfl)
      rcases Decidable.em (en1 = -1) with rfl | hen
      · skip
        have hR := hR.trans (if_pos rfl)
        refine lv_iload_n hx hb dX10_load_31 rfl (lv_at hl 2 rfl) ?_
        refine lv_iconst (v := (-1)) hx hb dX10_load_32 (by decide) ?_
        refine lv_icmp_ne (tgt := 355) hx hb dX10_load_33 (by decide) (fun c_33 => absurd (by decide) c_33) (fun _ => ?_)
        exact lp_36 _ ta1 _ _ _ ha hR (Nat.le_refl _) (by rw [if_pos rfl] at hm_31; omega) (Nat.lt_succ_self _) (hP.sub [0, 1, 2] rfl) (hD.sub [0, 1, 2] (by decide) rfl) hS (lv_sub hl [0, 1, 2] rfl)
      · skip
        have ldX := hR.trans (if_neg hen)
        refine lv_iload_n hx hb dX10_load_31 rfl (lv_at hl 2 rfl) ?_
        refine lv_iconst (v := (-1)) hx hb dX10_load_32 (by decide) ?_
        refine lv_icmp_ne (tgt := 355) hx hb dX10_load_33 (by decide) (fun c_33 => ?_) (fun c_33 => ?_)
        · skip
          refine lv_aload_n hx hb dX10_load_355 rfl (lv_at hl 0 rfl) ?_
          refine lv_iload_n hx hb dX10_load_356 rfl (lv_at hl 2 rfl) ?_
          refine va_put (D := D) (ci := 10) (v := .int en1) (ty := .int) (C := RX10) (T := TX10) (N := 51) hx hb hts (by decide +kernel) tyX10 tyX10_ok nmX10 hown hK hP hD hS 0 rfl rfl 17 (by decide) (hts (.fieldLink RX10 36 "TapeEngineModel" "loaded" "I") (by decide +kernel)) (fun _ h9 => h9) rfl (by decide +kernel) rfl rfl (Nat.le_of_ble_eq_true rfl) dX10_load_357 (fun H locs hP hD hS => ?_)
          have hP : va_P D vwCl [(m0, .inr (10, [.ref x0, .ref x1, .long hi, .long lo, .long mult, .int (nI nx1), .int (nI tz), .int (nI ta1), .ref x8, .int (nI xz), .ref x10, .int (bI fg), .int la, .ref x13, .ref x14, .int (nI mz), .int re, .int en1, .int (nI pl1), .int (nI 0), .int (nI nw), .ref x21, .ref x22, .ref x23, .ref x24, .ref x25, .ref x26, .ref x27, .ref x28, .ref x29, .ref x30, .ref x31, .ref x32, .ref x33, .int (bI hr0), .ref x35, .int (bI hk), .ref x37, .ref x38, .long hi2, .long lo2, .long mult2, .int (nI nx2), .int (nI tz2), .int (nI ta2), .ref x45, .int (nI xz2), .ref x47, .int (bI fg2), .int la2, .ref x50])), (x0, .inl (cI, 256, .inl w1)), (x8, .inl (cI, 1000, .inl tp))] H := hP
          have hD : va_D A [(m0, .inr (10, [.ref x0, .ref x1, .long hi, .long lo, .long mult, .int (nI nx1), .int (nI tz), .int (nI ta1), .ref x8, .int (nI xz), .ref x10, .int (bI fg), .int la, .ref x13, .ref x14, .int (nI mz), .int re, .int en1, .int (nI pl1), .int (nI 0), .int (nI nw), .ref x21, .ref x22, .ref x23, .ref x24, .ref x25, .ref x26, .ref x27, .ref x28, .ref x29, .ref x30, .ref x31, .ref x32, .ref x33, .int (bI hr0), .ref x35, .int (bI hk), .ref x37, .ref x38, .long hi2, .long lo2, .long mult2, .int (nI nx2), .int (nI tz2), .int (nI ta2), .ref x45, .int (nI xz2), .ref x47, .int (bI fg2), .int la2, .ref x50])), (x0, .inl (cI, 256, .inl w1)), (x8, .inl (cI, 1000, .inl tp))] := hD
          refine lv_iload_n hx hb dX10_load_360 rfl (lv_at hl 1 rfl) ?_
          exact ret_i hx hb hr hlocks (w1, nx1, pl1, ta1, en1) ⟨(by rw [ldX]), (by rw [ldX]), (by rw [ldX]), (by rw [ldX]), (by rw [ldX]), (by rw [ldX])⟩ (hP.sub [0, 1, 2] rfl) (hD.sub [0, 1, 2] (by decide) rfl) hS dX10_load_361
        · skip
          exfalso
          exact hen c_33
  refine lv_aload_n hx hb dX10_load_0 rfl (lv_at hl 0 rfl) ?_
  refine lv_iconst (v := 0) hx hb dX10_load_1 (by decide) ?_
  refine va_put (D := D) (ci := 10) (v := .int 0) (ty := .int) (C := RX10) (T := TX10) (N := 51) hx hb hts (by decide +kernel) tyX10 tyX10_ok nmX10 hown hK hP hD hS 0 rfl rfl 19 (by decide) (hts (.fieldLink RX10 112 "TapeEngineModel" "kept" "I") (by decide +kernel)) (fun _ h9 => h9) rfl (by decide +kernel) rfl rfl (Nat.le_of_ble_eq_true rfl) dX10_load_2 (fun H locs hP hD hS => ?_)
  have hP : va_P D vwCl [(m0, .inr (10, [.ref x0, .ref x1, .long hi, .long lo, .long mult, .int (nI nx), .int (nI tz), .int (nI ta), .ref x8, .int (nI xz), .ref x10, .int (bI fg), .int la, .ref x13, .ref x14, .int (nI mz), .int re, .int en, .int pv, .int 0, .int (nI nw), .ref x21, .ref x22, .ref x23, .ref x24, .ref x25, .ref x26, .ref x27, .ref x28, .ref x29, .ref x30, .ref x31, .ref x32, .ref x33, .int (bI hr0), .ref x35, .int (bI hk), .ref x37, .ref x38, .long hi2, .long lo2, .long mult2, .int (nI nx2), .int (nI tz2), .int (nI ta2), .ref x45, .int (nI xz2), .ref x47, .int (bI fg2), .int la2, .ref x50])), (x0, .inl (cI, 256, .inl w)), (x8, .inl (cI, 1000, .inl tp))] H := hP
  have hD : va_D A [(m0, .inr (10, [.ref x0, .ref x1, .long hi, .long lo, .long mult, .int (nI nx), .int (nI tz), .int (nI ta), .ref x8, .int (nI xz), .ref x10, .int (bI fg), .int la, .ref x13, .ref x14, .int (nI mz), .int re, .int en, .int pv, .int 0, .int (nI nw), .ref x21, .ref x22, .ref x23, .ref x24, .ref x25, .ref x26, .ref x27, .ref x28, .ref x29, .ref x30, .ref x31, .ref x32, .ref x33, .int (bI hr0), .ref x35, .int (bI hk), .ref x37, .ref x38, .long hi2, .long lo2, .long mult2, .int (nI nx2), .int (nI tz2), .int (nI ta2), .ref x45, .int (nI xz2), .ref x47, .int (bI fg2), .int la2, .ref x50])), (x0, .inl (cI, 256, .inl w)), (x8, .inl (cI, 1000, .inl tp))] := hD
  refine lv_aload_n hx hb dX10_load_5 rfl (lv_at hl 0 rfl) ?_
  refine va_get (D := D) (ci := 10) (v := .ref x0) (C := RX10) (T := TX10) (N := 51) hx hb hts (by decide +kernel) hown hK hP 0 rfl rfl 0 (by decide) (hts (.fieldLink RX10 7 "TapeEngineModel" "word" "[I") (by decide +kernel)) (fun _ h9 => h9) rfl dX10_load_6 ?_
  refine lv_bipush (v := (nI 41)) hx hb dX10_load_9 (by decide) ?_
  refine lv_iconst (v := 0) hx hb dX10_load_11 (by decide) ?_
  refine xs_iast (k := 41) hx hb hK hP hD hS 1 1 rfl rfl (by first | assumption | omega) (by decide) dX10_load_12 (fun H locs hP hD hS => ?_)
  have hP : va_P D vwCl [(m0, .inr (10, [.ref x0, .ref x1, .long hi, .long lo, .long mult, .int (nI nx), .int (nI tz), .int (nI ta), .ref x8, .int (nI xz), .ref x10, .int (bI fg), .int la, .ref x13, .ref x14, .int (nI mz), .int re, .int en, .int pv, .int 0, .int (nI nw), .ref x21, .ref x22, .ref x23, .ref x24, .ref x25, .ref x26, .ref x27, .ref x28, .ref x29, .ref x30, .ref x31, .ref x32, .ref x33, .int (bI hr0), .ref x35, .int (bI hk), .ref x37, .ref x38, .long hi2, .long lo2, .long mult2, .int (nI nx2), .int (nI tz2), .int (nI ta2), .ref x45, .int (nI xz2), .ref x47, .int (bI fg2), .int la2, .ref x50])), (x0, .inl (cI, 256, .inl (upd w 41 0))), (x8, .inl (cI, 1000, .inl tp))] H := hP
  have hD : va_D A [(m0, .inr (10, [.ref x0, .ref x1, .long hi, .long lo, .long mult, .int (nI nx), .int (nI tz), .int (nI ta), .ref x8, .int (nI xz), .ref x10, .int (bI fg), .int la, .ref x13, .ref x14, .int (nI mz), .int re, .int en, .int pv, .int 0, .int (nI nw), .ref x21, .ref x22, .ref x23, .ref x24, .ref x25, .ref x26, .ref x27, .ref x28, .ref x29, .ref x30, .ref x31, .ref x32, .ref x33, .int (bI hr0), .ref x35, .int (bI hk), .ref x37, .ref x38, .long hi2, .long lo2, .long mult2, .int (nI nx2), .int (nI tz2), .int (nI ta2), .ref x45, .int (nI xz2), .ref x47, .int (bI fg2), .int la2, .ref x50])), (x0, .inl (cI, 256, .inl (upd w 41 0))), (x8, .inl (cI, 1000, .inl tp))] := hD
  refine lv_aload_n hx hb dX10_load_13 rfl (lv_at hl 0 rfl) ?_
  refine va_get (D := D) (ci := 10) (v := .ref x0) (C := RX10) (T := TX10) (N := 51) hx hb hts (by decide +kernel) hown hK hP 0 rfl rfl 0 (by decide) (hts (.fieldLink RX10 7 "TapeEngineModel" "word" "[I") (by decide +kernel)) (fun _ h9 => h9) rfl dX10_load_14 ?_
  refine lv_bipush (v := (nI 43)) hx hb dX10_load_17 (by decide) ?_
  refine lv_iconst (v := 1) hx hb dX10_load_19 (by decide) ?_
  refine xs_iast (k := 43) hx hb hK hP hD hS 1 1 rfl rfl (by first | assumption | omega) (by decide) dX10_load_20 (fun H locs hP hD hS => ?_)
  have hP : va_P D vwCl [(m0, .inr (10, [.ref x0, .ref x1, .long hi, .long lo, .long mult, .int (nI nx), .int (nI tz), .int (nI ta), .ref x8, .int (nI xz), .ref x10, .int (bI fg), .int la, .ref x13, .ref x14, .int (nI mz), .int re, .int en, .int pv, .int 0, .int (nI nw), .ref x21, .ref x22, .ref x23, .ref x24, .ref x25, .ref x26, .ref x27, .ref x28, .ref x29, .ref x30, .ref x31, .ref x32, .ref x33, .int (bI hr0), .ref x35, .int (bI hk), .ref x37, .ref x38, .long hi2, .long lo2, .long mult2, .int (nI nx2), .int (nI tz2), .int (nI ta2), .ref x45, .int (nI xz2), .ref x47, .int (bI fg2), .int la2, .ref x50])), (x0, .inl (cI, 256, .inl (upd (upd w 41 0) 43 1))), (x8, .inl (cI, 1000, .inl tp))] H := hP
  have hD : va_D A [(m0, .inr (10, [.ref x0, .ref x1, .long hi, .long lo, .long mult, .int (nI nx), .int (nI tz), .int (nI ta), .ref x8, .int (nI xz), .ref x10, .int (bI fg), .int la, .ref x13, .ref x14, .int (nI mz), .int re, .int en, .int pv, .int 0, .int (nI nw), .ref x21, .ref x22, .ref x23, .ref x24, .ref x25, .ref x26, .ref x27, .ref x28, .ref x29, .ref x30, .ref x31, .ref x32, .ref x33, .int (bI hr0), .ref x35, .int (bI hk), .ref x37, .ref x38, .long hi2, .long lo2, .long mult2, .int (nI nx2), .int (nI tz2), .int (nI ta2), .ref x45, .int (nI xz2), .ref x47, .int (bI fg2), .int la2, .ref x50])), (x0, .inl (cI, 256, .inl (upd (upd w 41 0) 43 1))), (x8, .inl (cI, 1000, .inl tp))] := hD
  refine lv_aload_n hx hb dX10_load_21 rfl (lv_at hl 0 rfl) ?_
  refine lv_bipush (v := (nI 64)) hx hb dX10_load_22 (by decide) ?_
  refine va_put (D := D) (ci := 10) (v := .int (nI 64)) (ty := .int) (C := RX10) (T := TX10) (N := 51) hx hb hts (by decide +kernel) tyX10 tyX10_ok nmX10 hown hK hP hD hS 0 rfl rfl 18 (by decide) (hts (.fieldLink RX10 39 "TapeEngineModel" "place" "I") (by decide +kernel)) (fun _ h9 => h9) rfl (by decide +kernel) rfl rfl (Nat.le_of_ble_eq_true rfl) dX10_load_24 (fun H locs hP hD hS => ?_)
  have hP : va_P D vwCl [(m0, .inr (10, [.ref x0, .ref x1, .long hi, .long lo, .long mult, .int (nI nx), .int (nI tz), .int (nI ta), .ref x8, .int (nI xz), .ref x10, .int (bI fg), .int la, .ref x13, .ref x14, .int (nI mz), .int re, .int en, .int (nI 64), .int 0, .int (nI nw), .ref x21, .ref x22, .ref x23, .ref x24, .ref x25, .ref x26, .ref x27, .ref x28, .ref x29, .ref x30, .ref x31, .ref x32, .ref x33, .int (bI hr0), .ref x35, .int (bI hk), .ref x37, .ref x38, .long hi2, .long lo2, .long mult2, .int (nI nx2), .int (nI tz2), .int (nI ta2), .ref x45, .int (nI xz2), .ref x47, .int (bI fg2), .int la2, .ref x50])), (x0, .inl (cI, 256, .inl (upd (upd w 41 0) 43 1))), (x8, .inl (cI, 1000, .inl tp))] H := hP
  have hD : va_D A [(m0, .inr (10, [.ref x0, .ref x1, .long hi, .long lo, .long mult, .int (nI nx), .int (nI tz), .int (nI ta), .ref x8, .int (nI xz), .ref x10, .int (bI fg), .int la, .ref x13, .ref x14, .int (nI mz), .int re, .int en, .int (nI 64), .int 0, .int (nI nw), .ref x21, .ref x22, .ref x23, .ref x24, .ref x25, .ref x26, .ref x27, .ref x28, .ref x29, .ref x30, .ref x31, .ref x32, .ref x33, .int (bI hr0), .ref x35, .int (bI hk), .ref x37, .ref x38, .long hi2, .long lo2, .long mult2, .int (nI nx2), .int (nI tz2), .int (nI ta2), .ref x45, .int (nI xz2), .ref x47, .int (bI fg2), .int la2, .ref x50])), (x0, .inl (cI, 256, .inl (upd (upd w 41 0) 43 1))), (x8, .inl (cI, 1000, .inl tp))] := hD
  refine lv_iconst (v := 0) hx hb dX10_load_27 (by decide) ?_
  refine lv_istore_n (lv' := [(1, .int 0), (0, .ref m0)]) hx hb dX10_load_28 rfl hl (by decide) rfl (fun ls hl => ?_)
  refine lv_iconst (v := (-1)) hx hb dX10_load_29 (by decide) ?_
  refine lv_istore_n (lv' := [(2, .int (-1)), (1, .int 0), (0, .ref m0)]) hx hb dX10_load_30 rfl hl (by decide) rfl (fun ls hl => ?_)
  exact lp_31 _ (-1) (upd (upd w 41 0) 43 1) nx 64 0 ta _ _ _ ha0 (by first | assumption | omega) (by rw [if_pos rfl, ld0]; rfl) (Nat.lt_succ_self _) (hP.sub [0, 1, 2] rfl) (hD.sub [0, 1, 2] (by decide) rfl) hS (lv_sub hl [2, 1, 0] rfl)
