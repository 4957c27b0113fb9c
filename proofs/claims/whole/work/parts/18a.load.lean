theorem nI_ne_m1 {n : Nat} (h : n < 2147483648) : ¬ nI n = -1 := by
  intro e
  have h1 := congrArg Int32.toInt e
  rw [nI_toInt h] at h1
  have h2 : (-1 : Int32).toInt = -1 := by decide
  omega
theorem e_a17 {n : Nat} (h : n < 131072) : nI n &&& 131071 = nI n := by
  rw [pk_andN (by omega) 17 (by decide)]
  congr 1
  omega
/-- figures are passed -/
def fgA (tp : Nat → Int32) (tz : Nat) : Nat → Nat → Nat → Nat × Nat
  | 0, p, n => (p, n)
  | k + 1, p, n => if p < tz ∧ iN (tp p) ≤ 9 then fgA tp tz k (p + 1) ((10 * n + iN (tp p)) % 1024) else (p, n)
theorem fgA_stop {tp : Nat → Int32} {tz p n : Nat} (h : ¬ (p < tz ∧ iN (tp p) ≤ 9)) : ∀ k, fgA tp tz k p n = (p, n)
  | 0 => rfl
  | k + 1 => by rw [fgA, if_neg h]
theorem fgA_go {tp : Nat → Int32} {tz p n : Nat} (h1 : p < tz) (h2 : iN (tp p) ≤ 9) : fgA tp tz (tz - p) p n = fgA tp tz (tz - (p + 1)) (p + 1) ((10 * n + iN (tp p)) % 1024) := by
  rw [show tz - p = (tz - (p + 1)) + 1 by omega, fgA, if_pos ⟨h1, h2⟩]
theorem fgA_in {tp : Nat → Int32} {tz : Nat} : ∀ k p n, p ≤ tz → n < 1024 → p ≤ (fgA tp tz k p n).1 ∧ (fgA tp tz k p n).1 ≤ tz ∧ (fgA tp tz k p n).2 < 1024
  | 0, p, n, h1, h2 => ⟨Nat.le_refl _, h1, h2⟩
  | k + 1, p, n, h1, h2 => by
    rw [fgA]
    split
    · rename_i q
      obtain ⟨a, b, d⟩ := fgA_in (tp := tp) (tz := tz) k (p + 1) ((10 * n + iN (tp p)) % 1024) (by omega) (by omega)
      exact ⟨by omega, b, d⟩
    · exact ⟨Nat.le_refl _, h1, h2⟩
/-- an item: where its end stands, its number; what kind it is -/
def itP (tp : Nat → Int32) (tz ta : Nat) : Nat × Nat := fgA tp tz (tz - (ta + 1)) (ta + 1) 0
def iK (tp : Nat → Int32) (tz ta : Nat) : Nat := if tz ≤ ta then 0 else if iN (tp ta) = 16 then 1 else if tz ≤ (itP tp tz ta).1 then 2 else if 17 ≤ iN (tp (itP tp tz ta).1) then 3 else if iN (tp (itP tp tz ta).1) = 14 then (if iN (tp ta) = 5 then 4 else if iN (tp ta) = 27 then 5 else if iN (tp ta) = 3 then 6 else 7) else 7
def kCode (k : Nat) : Int32 := if k = 0 then 1 else if k = 2 then 2 else if k = 6 then 0 else if k = 7 then 3 else -1
def kTa (tp : Nat → Int32) (tz ta : Nat) : Nat := if iK tp tz ta = 0 then ta else if iK tp tz ta = 1 then ta + 1 else if iK tp tz ta = 2 then tz else (itP tp tz ta).1 + 1
def kW (tp : Nat → Int32) (tz ta : Nat) (w : Nat → Int32) (pl : Nat) : Nat → Int32 := if iK tp tz ta = 3 then upd w pl ((nI (4096 * iN (tp ta) + 2 * (itP tp tz ta).2) + w (24 + iN (tp (itP tp tz ta).1))) &&& 131071) else if iK tp tz ta = 5 then upd w 42 (nI (2 * pl)) else w
def kPl (tp : Nat → Int32) (tz ta pl : Nat) : Nat := if iK tp tz ta = 3 then (pl + 1) % 256 else if iK tp tz ta = 4 then (itP tp tz ta).2 % 256 else pl
def kLd (tp : Nat → Int32) (tz ta ld : Nat) : Nat := if iK tp tz ta = 3 then ld + 1 else ld
def kNx (tp : Nat → Int32) (tz ta nx : Nat) : Nat := if iK tp tz ta = 6 then (itP tp tz ta).2 % 256 else nx
section IKS
variable {tp : Nat → Int32} {tz ta p n : Nat}
theorem iK_0 (h : tz ≤ ta) : iK tp tz ta = 0 := if_pos h
theorem iK_1 (h : ta < tz) (h2 : iN (tp ta) = 16) : iK tp tz ta = 1 := by rw [iK, if_neg (by omega), if_pos h2]
theorem iK_2 (h : ta < tz) (h2 : ¬ iN (tp ta) = 16) (hp : itP tp tz ta = (tz, n)) : iK tp tz ta = 2 := by rw [iK, if_neg (by omega), if_neg h2, hp, if_pos (Nat.le_refl _)]
theorem iK_3 (h : ta < tz) (h2 : ¬ iN (tp ta) = 16) (hp : itP tp tz ta = (p, n)) (h3 : p < tz) (h4 : 17 ≤ iN (tp p)) : iK tp tz ta = 3 := by rw [iK, if_neg (by omega), if_neg h2, hp, if_neg (by show ¬ tz ≤ p; omega), if_pos h4]
theorem iK_c (h : ta < tz) (h2 : ¬ iN (tp ta) = 16) (hp : itP tp tz ta = (p, n)) (h3 : p < tz) (h4 : iN (tp p) = 14) : iK tp tz ta = if iN (tp ta) = 5 then 4 else if iN (tp ta) = 27 then 5 else if iN (tp ta) = 3 then 6 else 7 := by rw [iK, if_neg (by omega), if_neg h2, hp, if_neg (by show ¬ tz ≤ p; omega), if_neg (by show ¬ 17 ≤ iN (tp p); omega), if_pos h4]
theorem iK_7 (h : ta < tz) (h2 : ¬ iN (tp ta) = 16) (hp : itP tp tz ta = (p, n)) (h3 : p < tz) (h4 : ¬ 17 ≤ iN (tp p)) (h5 : ¬ iN (tp p) = 14) : iK tp tz ta = 7 := by rw [iK, if_neg (by omega), if_neg h2, hp, if_neg (by show ¬ tz ≤ p; omega), if_neg h4, if_neg h5]
end IKS
/-- the loader's whole course -/
def ldR (tp : Nat → Int32) (tz : Nat) : Nat → (Nat → Int32) → Nat → Nat → Nat → Nat → (Nat → Int32) × Nat × Nat × Nat × Nat × Int32
  | 0, w, nx, pl, ld, ta => (w, nx, pl, ld, ta, -1)
  | k + 1, w, nx, pl, ld, ta => if kCode (iK tp tz ta) = -1 then ldR tp tz k (kW tp tz ta w pl) (kNx tp tz ta nx) (kPl tp tz ta pl) (kLd tp tz ta ld) (kTa tp tz ta) else (kW tp tz ta w pl, kNx tp tz ta nx, kPl tp tz ta pl, kLd tp tz ta ld, kTa tp tz ta, kCode (iK tp tz ta))
def ldW0 (w : Nat → Int32) : Nat → Int32 := upd (upd w 41 ((0 : Int32) &&& 131071)) 43 ((1 : Int32) &&& 131071)
def ldA (tp : Nat → Int32) (tz : Nat) (w : Nat → Int32) (nx ta : Nat) : (Nat → Int32) × Nat × Nat × Nat × Nat × Int32 := ldR tp tz (tz - ta + 1) (ldW0 w) nx 64 0 ta
theorem itP_in {tp : Nat → Int32} {tz ta : Nat} (h : ta < tz) : ta + 1 ≤ (itP tp tz ta).1 ∧ (itP tp tz ta).1 ≤ tz ∧ (itP tp tz ta).2 < 1024 := fgA_in _ _ _ (by omega) (by omega)
theorem kTa_in {tp : Nat → Int32} {tz ta : Nat} (h : ta ≤ tz) : ta ≤ kTa tp tz ta ∧ kTa tp tz ta ≤ tz ∧ (kCode (iK tp tz ta) = -1 → ta < kTa tp tz ta) := by
  by_cases q : tz ≤ ta
  · have e : iK tp tz ta = 0 := iK_0 q
    rw [kTa, e, if_pos rfl]
    exact ⟨Nat.le_refl _, h, fun z => absurd z (by decide)⟩
  · obtain ⟨a, b, d⟩ := itP_in (tp := tp) (tz := tz) (ta := ta) (by omega)
    by_cases q2 : iN (tp ta) = 16
    · have e := iK_1 (tp := tp) (by omega : ta < tz) q2
      rw [kTa, e, if_neg (by decide), if_pos rfl]
      exact ⟨by omega, by omega, fun _ => by omega⟩
    · by_cases q3 : tz ≤ (itP tp tz ta).1
      · have e : iK tp tz ta = 2 := by rw [iK, if_neg q, if_neg q2, if_pos q3]
        rw [kTa, e, if_neg (by decide), if_neg (by decide), if_pos rfl]
        exact ⟨by omega, Nat.le_refl _, fun z => absurd z (by decide)⟩
      · have e : ¬ iK tp tz ta = 0 ∧ ¬ iK tp tz ta = 1 ∧ ¬ iK tp tz ta = 2 := by
          rw [iK, if_neg q, if_neg q2, if_neg q3]
          repeat' split
          all_goals decide
        rw [kTa, if_neg e.1, if_neg e.2.1, if_neg e.2.2]
        exact ⟨by omega, by omega, fun _ => by omega⟩
theorem ldR_fuel {tp : Nat → Int32} {tz : Nat} : ∀ (k1 k2 : Nat) (w : Nat → Int32) (nx pl ld ta : Nat), ta ≤ tz → tz - ta < k1 → tz - ta < k2 → ldR tp tz k1 w nx pl ld ta = ldR tp tz k2 w nx pl ld ta
  | 0, _, _, _, _, _, _, _, h, _ => absurd h (Nat.not_lt_zero _)
  | _ + 1, 0, _, _, _, _, _, _, _, h => absurd h (Nat.not_lt_zero _)
  | k1 + 1, k2 + 1, w, nx, pl, ld, ta, h0, h1, h2 => by
    obtain ⟨a, b, d⟩ := kTa_in (tp := tp) h0
    rw [ldR, ldR]
    split
    · rename_i q
      have := d q
      by_cases z : ta = tz
      · omega
      · exact ldR_fuel k1 k2 _ _ _ _ _ b (by omega) (by omega)
    · rfl
set_option maxHeartbeats 4000000 in
set_option maxRecDepth 100000 in
theorem kX2_layAtPlace (l : Launch) (D : va_G) (Z : SZ) (cB cI cJ cZ : ClassId) (ksz : Nat) (l0 : Nat) (h0 : Nat) (a1 : Nat) (a2 : Nat) (a3 : Nat) (a4 : Nat) (a5 : Nat) (a6 : Nat) (a7 : Nat) (w : Nat → Int32) (mult : Int64) (nx : Nat) (pl : Nat) (ld : Nat) (en : Int32) (x : Int32) (hpl : pl < 256) : Met l yX2_layAtPlace wsX2_layAtPlace { frames := 1, cells := 0, slots := 0, locals := 22 } (PR D Z [(cB, .byte), (cI, .int), (cJ, .long), (cZ, .boolean)] [.ref l0, .ref h0, .int x] [(l0, .inr (2, [.int (nI pl), .int en, .int (nI ld)])), (h0, .inr (3, [.ref a1, .ref a2, .ref a3, .ref a4, .ref a5, .long mult, .int (nI nx)])), (a1, .inr (5, [.ref a6, .ref a7])), (a6, .inl (cI, 256, .inl w))] ksz) (QV D (fun (u : (Nat → Int32)) => u = (upd w pl (x &&& 131071))) (fun (u : (Nat → Int32)) => [(l0, .inr (2, [.int (nI ((pl + 1) % 256)), .int en, .int (nI (ld + 1))])), (h0, .inr (3, [.ref a1, .ref a2, .ref a3, .ref a4, .ref a5, .long mult, .int (nI nx)])), (a1, .inr (5, [.ref a6, .ref a7])), (a6, .inl (cI, 256, .inl u))]) (va_A [(l0, .inr (2, [.int (nI pl), .int en, .int (nI ld)])), (h0, .inr (3, [.ref a1, .ref a2, .ref a3, .ref a4, .ref a5, .long mult, .int (nI nx)])), (a1, .inr (5, [.ref a6, .ref a7])), (a6, .inl (cI, 256, .inl w))] ksz)) 0 0 (va_A [(l0, .inr (2, [.int (nI pl), .int en, .int (nI ld)])), (h0, .inr (3, [.ref a1, .ref a2, .ref a3, .ref a4, .ref a5, .long mult, .int (nI nx)])), (a1, .inr (5, [.ref a6, .ref a7])), (a6, .inl (cI, 256, .inl w))] ksz) := by
  refine met_g (QV D (fun (u : (Nat → Int32)) => u = (upd w pl (x &&& 131071))) (fun (u : (Nat → Int32)) => [(l0, .inr (2, [.int (nI ((pl + 1) % 256)), .int en, .int (nI (ld + 1))])), (h0, .inr (3, [.ref a1, .ref a2, .ref a3, .ref a4, .ref a5, .long mult, .int (nI nx)])), (a1, .inr (5, [.ref a6, .ref a7])), (a6, .inl (cI, 256, .inl u))])) cX2_layAtPlace 3 none (by decide) rfl (Nat.le_of_ble_eq_true rfl) ?_
  intro p e s m below meth c A ls hx hb hr hts hown hlocks hml hin hA hP hK hD hE hS hl hsz
  clear hsz
  have hl : lv_has ls 3 [(0, .ref l0), (1, .ref h0), (2, .int x)] := hl
  refine lv_aload_n hx hb dX2_layAtPlace_0 rfl (lv_at hl 1 rfl) ?_
  refine va_getN (D := D) (ci := 3) (v := .ref a1) (C := RX3) (T := TX3) (N := 7) hx hb hts (by decide +kernel) hown hK hP 1 rfl rfl 0 (by decide) (va_Nw.use rfl (nf_X2_21 hE)) (fun _ h9 => h9) rfl dX2_layAtPlace_1 ?_
  refine lv_aload_n hx hb dX2_layAtPlace_4 rfl (lv_at hl 0 rfl) ?_
  refine va_get (D := D) (ci := 2) (v := .int (nI pl)) (C := RX2) (T := TX2) (N := 3) hx hb hts (by decide +kernel) hown hK hP 0 rfl rfl 0 (by decide) (hts (.fieldLink RX2 9 "TapeEngine$Loader" "place" "I") (by decide +kernel)) (fun _ h9 => h9) rfl dX2_layAtPlace_5 ?_
  refine lv_iload_n hx hb dX2_layAtPlace_8 rfl (lv_at hl 2 rfl) ?_
  refine kV_v (As := [.int (nI pl), .int x]) (rest := []) (wr := [(l0, .inr (2, [.int (nI pl), .int en, .int (nI ld)])), (h0, .inr (3, [.ref a1, .ref a2, .ref a3, .ref a4, .ref a5, .long mult, .int (nI nx)]))]) ⟨hx, hb, hml, hown, hts⟩ (kX5_layShort l D Z cB cI cJ cZ s.heap.size a1 a6 a7 w pl x (by first | assumption | omega)) (cwV 2 hts gX2_layAtPlace_X5_layShort rfl rfl rfl (by decide +kernel) ⟨Nat.le_of_ble_eq_true rfl, Nat.le_of_ble_eq_true rfl⟩) hK hE hP hD hS hA 0 5 rfl rfl rfl [2, 3] [0, 1] rfl rfl rfl rfl rfl (by decide) hl.1 rfl rfl (Nat.le_of_ble_eq_true rfl) dX2_layAtPlace_9 ⟨Nat.le_of_ble_eq_true rfl, Nat.le_of_ble_eq_true rfl⟩ (fun u H locs hp hP hD hS => ?_)
  obtain ⟨v_1, rfl⟩ : ∃ z, z = u := ⟨_, rfl⟩
  try dsimp only at hp
  have hq_0 := hp
  have hq_0 := hq_0.symm
  subst hq_0
  have hP : va_P D vwCl [(l0, .inr (2, [.int (nI pl), .int en, .int (nI ld)])), (h0, .inr (3, [.ref a1, .ref a2, .ref a3, .ref a4, .ref a5, .long mult, .int (nI nx)])), (a1, .inr (5, [.ref a6, .ref a7])), (a6, .inl (cI, 256, .inl (upd w pl (x &&& 131071))))] H := hP
  have hD : va_D A [(l0, .inr (2, [.int (nI pl), .int en, .int (nI ld)])), (h0, .inr (3, [.ref a1, .ref a2, .ref a3, .ref a4, .ref a5, .long mult, .int (nI nx)])), (a1, .inr (5, [.ref a6, .ref a7])), (a6, .inl (cI, 256, .inl (upd w pl (x &&& 131071))))] := hD
  refine lv_aload_n hx hb dX2_layAtPlace_12 rfl (lv_at hl 0 rfl) ?_
  refine lv_aload_n hx hb dX2_layAtPlace_13 rfl (lv_at hl 0 rfl) ?_
  refine va_get (D := D) (ci := 2) (v := .int (nI pl)) (C := RX2) (T := TX2) (N := 3) hx hb hts (by decide +kernel) hown hK hP 0 rfl rfl 0 (by decide) (hts (.fieldLink RX2 9 "TapeEngine$Loader" "place" "I") (by decide +kernel)) (fun _ h9 => h9) rfl dX2_layAtPlace_14 ?_
  refine pN_i (As := [.int (nI pl)]) (rest := [.ref l0]) ⟨hx, hb, hml, hown, hts⟩ (kX9_behind l Z pl (by first | assumption | omega)) ⟨va_cnB 1 hts gX2_layAtPlace_X9_behind_n59 rfl rfl rfl (nm_X2_59 hE) (hts (.initialized RX9) (by decide +kernel)) (by decide +kernel) ⟨Nat.le_of_ble_eq_true rfl, Nat.le_of_ble_eq_true rfl⟩, (hts (.static yX9_behind) (by decide +kernel)), trivial⟩ hK hE hP hD hS hA hl.1 rfl rfl (Nat.le_of_ble_eq_true rfl) dX2_layAtPlace_17 ⟨Nat.le_of_ble_eq_true rfl, Nat.le_of_ble_eq_true rfl⟩ (fun H locs hP hS => ?_)
  refine va_put (D := D) (ci := 2) (v := .int (nI ((pl + 1) % 256))) (ty := .int) (C := RX2) (T := TX2) (N := 3) hx hb hts (by decide +kernel) tyX2 tyX2_ok nmX2 hown hK hP hD hS 0 rfl rfl 0 (by decide) (hts (.fieldLink RX2 9 "TapeEngine$Loader" "place" "I") (by decide +kernel)) (fun _ h9 => h9) rfl (by decide +kernel) rfl rfl (Nat.le_of_ble_eq_true rfl) dX2_layAtPlace_20 (fun H locs hP hD hS => ?_)
  have hP : va_P D vwCl [(l0, .inr (2, [.int (nI ((pl + 1) % 256)), .int en, .int (nI ld)])), (h0, .inr (3, [.ref a1, .ref a2, .ref a3, .ref a4, .ref a5, .long mult, .int (nI nx)])), (a1, .inr (5, [.ref a6, .ref a7])), (a6, .inl (cI, 256, .inl (upd w pl (x &&& 131071))))] H := hP
  have hD : va_D A [(l0, .inr (2, [.int (nI ((pl + 1) % 256)), .int en, .int (nI ld)])), (h0, .inr (3, [.ref a1, .ref a2, .ref a3, .ref a4, .ref a5, .long mult, .int (nI nx)])), (a1, .inr (5, [.ref a6, .ref a7])), (a6, .inl (cI, 256, .inl (upd w pl (x &&& 131071))))] := hD
  refine lv_aload_n hx hb dX2_layAtPlace_23 rfl (lv_at hl 0 rfl) ?_
  refine lv_dup hx hb dX2_layAtPlace_24 rfl ?_
  refine va_get (D := D) (ci := 2) (v := .int (nI ld)) (C := RX2) (T := TX2) (N := 3) hx hb hts (by decide +kernel) hown hK hP 0 rfl rfl 2 (by decide) (hts (.fieldLink RX2 18 "TapeEngine$Loader" "laid" "I") (by decide +kernel)) (fun _ h9 => h9) rfl dX2_layAtPlace_25 ?_
  refine lv_iconst (v := 1) hx hb dX2_layAtPlace_28 (by decide) ?_
  refine lv_iadd hx hb dX2_layAtPlace_29 ?_
  refine set_i (y := nI (ld + 1)) (nI_1 ld) ?_
  refine va_put (D := D) (ci := 2) (v := .int (nI (ld + 1))) (ty := .int) (C := RX2) (T := TX2) (N := 3) hx hb hts (by decide +kernel) tyX2 tyX2_ok nmX2 hown hK hP hD hS 0 rfl rfl 2 (by decide) (hts (.fieldLink RX2 18 "TapeEngine$Loader" "laid" "I") (by decide +kernel)) (fun _ h9 => h9) rfl (by decide +kernel) rfl rfl (Nat.le_of_ble_eq_true rfl) dX2_layAtPlace_30 (fun H locs hP hD hS => ?_)
  have hP : va_P D vwCl [(l0, .inr (2, [.int (nI ((pl + 1) % 256)), .int en, .int (nI (ld + 1))])), (h0, .inr (3, [.ref a1, .ref a2, .ref a3, .ref a4, .ref a5, .long mult, .int (nI nx)])), (a1, .inr (5, [.ref a6, .ref a7])), (a6, .inl (cI, 256, .inl (upd w pl (x &&& 131071))))] H := hP
  have hD : va_D A [(l0, .inr (2, [.int (nI ((pl + 1) % 256)), .int en, .int (nI (ld + 1))])), (h0, .inr (3, [.ref a1, .ref a2, .ref a3, .ref a4, .ref a5, .long mult, .int (nI nx)])), (a1, .inr (5, [.ref a6, .ref a7])), (a6, .inl (cI, 256, .inl (upd w pl (x &&& 131071))))] := hD
  exact ret_v hx hb hr hlocks ((upd w pl (x &&& 131071))) (by rfl) (hP.sub [0, 1, 2, 3] rfl) (hD.sub [0, 1, 2, 3] (by decide) rfl) hS dX2_layAtPlace_33

set_option maxHeartbeats 4000000 in
set_option maxRecDepth 100000 in
theorem kX2_control (l : Launch) (D : va_G) (Z : SZ) (cB cI cJ cZ : ClassId) (ksz : Nat) (l0 : Nat) (h0 : Nat) (a1 : Nat) (a2 : Nat) (a3 : Nat) (a4 : Nat) (a5 : Nat) (a6 : Nat) (a7 : Nat) (w : Nat → Int32) (mult : Int64) (nx : Nat) (pl : Nat) (ld : Nat) (en : Int32) (f : Nat) (n : Nat) (hf : f < 32) (hn : n < 1024) (hpl : pl < 256) : Met l yX2_control wsX2_control { frames := 1, cells := 0, slots := 0, locals := 22 } (PR D Z [(cB, .byte), (cI, .int), (cJ, .long), (cZ, .boolean)] [.ref l0, .ref h0, .int (nI f), .int (nI n)] [(l0, .inr (2, [.int (nI pl), .int en, .int (nI ld)])), (h0, .inr (3, [.ref a1, .ref a2, .ref a3, .ref a4, .ref a5, .long mult, .int (nI nx)])), (a1, .inr (5, [.ref a6, .ref a7])), (a6, .inl (cI, 256, .inl w))] ksz) (QI D (fun (r : Int32) (u : (Nat → Int32) × Nat × Nat) => r = (if f = 5 ∨ f = 27 then -1 else if f = 3 then 0 else 3) ∧ u.1 = (if f = 27 then upd w 42 (nI (2 * pl)) else w) ∧ u.2.1 = (if f = 5 then n % 256 else pl) ∧ u.2.2 = (if f = 3 then n % 256 else nx)) (fun (u : (Nat → Int32) × Nat × Nat) => [(l0, .inr (2, [.int (nI u.2.1), .int en, .int (nI ld)])), (h0, .inr (3, [.ref a1, .ref a2, .ref a3, .ref a4, .ref a5, .long mult, .int (nI u.2.2)])), (a1, .inr (5, [.ref a6, .ref a7])), (a6, .inl (cI, 256, .inl u.1))]) (va_A [(l0, .inr (2, [.int (nI pl), .int en, .int (nI ld)])), (h0, .inr (3, [.ref a1, .ref a2, .ref a3, .ref a4, .ref a5, .long mult, .int (nI nx)])), (a1, .inr (5, [.ref a6, .ref a7])), (a6, .inl (cI, 256, .inl w))] ksz)) 0 0 (va_A [(l0, .inr (2, [.int (nI pl), .int en, .int (nI ld)])), (h0, .inr (3, [.ref a1, .ref a2, .ref a3, .ref a4, .ref a5, .long mult, .int (nI nx)])), (a1, .inr (5, [.ref a6, .ref a7])), (a6, .inl (cI, 256, .inl w))] ksz) := by
  refine met_g (QI D (fun (r : Int32) (u : (Nat → Int32) × Nat × Nat) => r = (if f = 5 ∨ f = 27 then -1 else if f = 3 then 0 else 3) ∧ u.1 = (if f = 27 then upd w 42 (nI (2 * pl)) else w) ∧ u.2.1 = (if f = 5 then n % 256 else pl) ∧ u.2.2 = (if f = 3 then n % 256 else nx)) (fun (u : (Nat → Int32) × Nat × Nat) => [(l0, .inr (2, [.int (nI u.2.1), .int en, .int (nI ld)])), (h0, .inr (3, [.ref a1, .ref a2, .ref a3, .ref a4, .ref a5, .long mult, .int (nI u.2.2)])), (a1, .inr (5, [.ref a6, .ref a7])), (a6, .inl (cI, 256, .inl u.1))])) cX2_control 4 (some .int) (by decide) rfl (Nat.le_of_ble_eq_true rfl) ?_
  intro p e s m below meth c A ls hx hb hr hts hown hlocks hml hin hA hP hK hD hE hS hl hsz
  clear hsz
  have hl : lv_has ls 4 [(0, .ref l0), (1, .ref h0), (2, .int (nI f)), (3, .int (nI n))] := hl
  refine lv_iload_n hx hb dX2_control_0 rfl (lv_at hl 2 rfl) ?_
  have hv : f = 5 ∨ f = 27 ∨ f = 3 ∨ (¬ f = 5 ∧ ¬ f = 27 ∧ ¬ f = 3) := by omega
  rcases hv with cv | cv | cv | cv
  · skip
    refine lv_lookup (tgt := 36) hx hb dX2_control_1 (by decide) (by rw [cv] <;> decide +kernel) (by decide) ?_
    refine lv_aload_n hx hb dX2_control_36 rfl (lv_at hl 0 rfl) ?_
    refine lv_iload_n hx hb dX2_control_37 rfl (lv_at hl 3 rfl) ?_
    refine lv_sipush (v := 255) hx hb dX2_control_38 (by decide) ?_
    refine lv_iand hx hb dX2_control_41 ?_
    refine set_i (y := nI (n % 256)) (pk_andN (by omega) 8 (by decide)) ?_
    refine va_put (D := D) (ci := 2) (v := .int (nI (n % 256))) (ty := .int) (C := RX2) (T := TX2) (N := 3) hx hb hts (by decide +kernel) tyX2 tyX2_ok nmX2 hown hK hP hD hS 0 rfl rfl 0 (by decide) (hts (.fieldLink RX2 9 "TapeEngine$Loader" "place" "I") (by decide +kernel)) (fun _ h9 => h9) rfl (by decide +kernel) rfl rfl (Nat.le_of_ble_eq_true rfl) dX2_control_42 (fun H locs hP hD hS => ?_)
    have hP : va_P D vwCl [(l0, .inr (2, [.int (nI (n % 256)), .int en, .int (nI ld)])), (h0, .inr (3, [.ref a1, .ref a2, .ref a3, .ref a4, .ref a5, .long mult, .int (nI nx)])), (a1, .inr (5, [.ref a6, .ref a7])), (a6, .inl (cI, 256, .inl w))] H := hP
    have hD : va_D A [(l0, .inr (2, [.int (nI (n % 256)), .int en, .int (nI ld)])), (h0, .inr (3, [.ref a1, .ref a2, .ref a3, .ref a4, .ref a5, .long mult, .int (nI nx)])), (a1, .inr (5, [.ref a6, .ref a7])), (a6, .inl (cI, 256, .inl w))] := hD
    refine lv_iconst (v := (-1)) hx hb dX2_control_45 (by decide) ?_
    exact ret_i hx hb hr hlocks (w, (n % 256), nx) ⟨(by simp [cv]), (by first | (simp [cv]; done) | (rw [if_pos cv, e_a17 (by omega)])), (by simp [cv]), (by simp [cv])⟩ (hP.sub [0, 1, 2, 3] rfl) (hD.sub [0, 1, 2, 3] (by decide) rfl) hS dX2_control_46
  · skip
    refine lv_lookup (tgt := 47) hx hb dX2_control_1 (by decide) (by rw [cv] <;> decide +kernel) (by decide) ?_
    refine lv_aload_n hx hb dX2_control_47 rfl (lv_at hl 1 rfl) ?_
    refine va_getN (D := D) (ci := 3) (v := .ref a1) (C := RX3) (T := TX3) (N := 7) hx hb hts (by decide +kernel) hown hK hP 1 rfl rfl 0 (by decide) (va_Nw.use rfl (nf_X2_21 hE)) (fun _ h9 => h9) rfl dX2_control_48 ?_
    refine lv_bipush (v := (nI 42)) hx hb dX2_control_51 (by decide) ?_
    refine lv_iconst (v := (nI 2)) hx hb dX2_control_53 (by decide) ?_
    refine lv_aload_n hx hb dX2_control_54 rfl (lv_at hl 0 rfl) ?_
    refine va_get (D := D) (ci := 2) (v := .int (nI pl)) (C := RX2) (T := TX2) (N := 3) hx hb hts (by decide +kernel) hown hK hP 0 rfl rfl 0 (by decide) (hts (.fieldLink RX2 9 "TapeEngine$Loader" "place" "I") (by decide +kernel)) (fun _ h9 => h9) rfl dX2_control_55 ?_
    refine lv_imul hx hb dX2_control_58 ?_
    refine set_i (y := nI (2 * pl)) (pk_mul 2 pl) ?_
    refine kV_v (As := [.int (nI 42), .int (nI (2 * pl))]) (rest := []) (wr := [(l0, .inr (2, [.int (nI pl), .int en, .int (nI ld)])), (h0, .inr (3, [.ref a1, .ref a2, .ref a3, .ref a4, .ref a5, .long mult, .int (nI nx)]))]) ⟨hx, hb, hml, hown, hts⟩ (kX5_layShort l D Z cB cI cJ cZ s.heap.size a1 a6 a7 w 42 (nI (2 * pl)) (by first | assumption | omega)) (cwV 2 hts gX2_control_X5_layShort rfl rfl rfl (by decide +kernel) ⟨Nat.le_of_ble_eq_true rfl, Nat.le_of_ble_eq_true rfl⟩) hK hE hP hD hS hA 0 5 rfl rfl rfl [2, 3] [0, 1] rfl rfl rfl rfl rfl (by decide) hl.1 rfl rfl (Nat.le_of_ble_eq_true rfl) dX2_control_59 ⟨Nat.le_of_ble_eq_true rfl, Nat.le_of_ble_eq_true rfl⟩ (fun u H locs hp hP hD hS => ?_)
    obtain ⟨v_1, rfl⟩ : ∃ z, z = u := ⟨_, rfl⟩
    try dsimp only at hp
    have hq_0 := hp
    have hq_0 := hq_0.symm
    subst hq_0
    have hP : va_P D vwCl [(l0, .inr (2, [.int (nI pl), .int en, .int (nI ld)])), (h0, .inr (3, [.ref a1, .ref a2, .ref a3, .ref a4, .ref a5, .long mult, .int (nI nx)])), (a1, .inr (5, [.ref a6, .ref a7])), (a6, .inl (cI, 256, .inl (upd w 42 ((nI (2 * pl)) &&& 131071))))] H := hP
    have hD : va_D A [(l0, .inr (2, [.int (nI pl), .int en, .int (nI ld)])), (h0, .inr (3, [.ref a1, .ref a2, .ref a3, .ref a4, .ref a5, .long mult, .int (nI nx)])), (a1, .inr (5, [.ref a6, .ref a7])), (a6, .inl (cI, 256, .inl (upd w 42 ((nI (2 * pl)) &&& 131071))))] := hD
    refine lv_iconst (v := (-1)) hx hb dX2_control_62 (by decide) ?_
    exact ret_i hx hb hr hlocks ((upd w 42 ((nI (2 * pl)) &&& 131071)), pl, nx) ⟨(by simp [cv]), (by first | (simp [cv]; done) | (rw [if_pos cv, e_a17 (by omega)])), (by simp [cv]), (by simp [cv])⟩ (hP.sub [0, 1, 2, 3] rfl) (hD.sub [0, 1, 2, 3] (by decide) rfl) hS dX2_control_63
  · skip
    refine lv_lookup (tgt := 64) hx hb dX2_control_1 (by decide) (by rw [cv] <;> decide +kernel) (by decide) ?_
    refine lv_aload_n hx hb dX2_control_64 rfl (lv_at hl 1 rfl) ?_
    refine lv_iload_n hx hb dX2_control_65 rfl (lv_at hl 3 rfl) ?_
    refine lv_sipush (v := 255) hx hb dX2_control_66 (by decide) ?_
    refine lv_iand hx hb dX2_control_69 ?_
    refine set_i (y := nI (n % 256)) (pk_andN (by omega) 8 (by decide)) ?_
    refine va_putN (D := D) (ci := 3) (v := .int (nI (n % 256))) (ty := .int) (C := RX3) (T := TX3) (N := 7) hx hb hts (by decide +kernel) tyX3 tyX3_ok nmX3 hown hK hP hD hS 1 rfl rfl 6 (by decide) (va_Nw.use rfl (nf_X2_62 hE)) (fun _ h9 => h9) rfl (by decide +kernel) rfl rfl (Nat.le_of_ble_eq_true rfl) dX2_control_70 (fun H locs hP hD hS => ?_)
    have hP : va_P D vwCl [(l0, .inr (2, [.int (nI pl), .int en, .int (nI ld)])), (h0, .inr (3, [.ref a1, .ref a2, .ref a3, .ref a4, .ref a5, .long mult, .int (nI (n % 256))])), (a1, .inr (5, [.ref a6, .ref a7])), (a6, .inl (cI, 256, .inl w))] H := hP
    have hD : va_D A [(l0, .inr (2, [.int (nI pl), .int en, .int (nI ld)])), (h0, .inr (3, [.ref a1, .ref a2, .ref a3, .ref a4, .ref a5, .long mult, .int (nI (n % 256))])), (a1, .inr (5, [.ref a6, .ref a7])), (a6, .inl (cI, 256, .inl w))] := hD
    refine lv_iconst (v := 0) hx hb dX2_control_73 (by decide) ?_
    exact ret_i hx hb hr hlocks (w, pl, (n % 256)) ⟨(by simp [cv]), (by first | (simp [cv]; done) | (rw [if_pos cv, e_a17 (by omega)])), (by simp [cv]), (by simp [cv])⟩ (hP.sub [0, 1, 2, 3] rfl) (hD.sub [0, 1, 2, 3] (by decide) rfl) hS dX2_control_74
  · skip
    refine lv_lookup (tgt := 75) hx hb dX2_control_1 (by decide) (co_dec (N := 32) (P := fun v => (¬ v = 5 ∧ ¬ v = 27 ∧ ¬ v = 3) → Op.lookupswitch.offset (#[(3, 63), (5, 35), (27, 46)] : Array (Int × Int)).toList 74 (nI v).toInt = 74) (by decide +kernel) (show f < 32 by omega) cv) (by decide) ?_
    refine lv_iconst (v := 3) hx hb dX2_control_75 (by decide) ?_
    exact ret_i hx hb hr hlocks (w, pl, nx) ⟨(by simp [cv]), (by first | (simp [cv]; done) | (rw [if_pos cv, e_a17 (by omega)])), (by simp [cv]), (by simp [cv])⟩ (hP.sub [0, 1, 2, 3] rfl) (hD.sub [0, 1, 2, 3] (by decide) rfl) hS dX2_control_76

set_option maxHeartbeats 4000000 in
set_option maxRecDepth 100000 in
theorem kX2_takeItem (l : Launch) (D : va_G) (Z : SZ) (cB cI cJ cZ : ClassId) (ksz : Nat) (l0 : Nat) (h0 : Nat) (a1 : Nat) (a2 : Nat) (a3 : Nat) (a4 : Nat) (a5 : Nat) (a6 : Nat) (a7 : Nat) (a8 : Nat) (w : Nat → Int32) (mult : Int64) (nx : Nat) (pl : Nat) (ld : Nat) (en : Int32) (tp : Nat → Int32) (tz : Nat) (ta : Nat) (ht : ∀ k : Nat, iN (tp k) < 32) (hz : tz ≤ 1000) (ha : ta ≤ tz) (hpl : pl < 256) : Met l yX2_takeItem wsX2_takeItem { frames := 2, cells := 0, slots := 0, locals := 45 } (PR D Z [(cB, .byte), (cI, .int), (cJ, .long), (cZ, .boolean)] [.ref l0, .ref h0] [(l0, .inr (2, [.int (nI pl), .int en, .int (nI ld)])), (h0, .inr (3, [.ref a1, .ref a2, .ref a3, .ref a4, .ref a5, .long mult, .int (nI nx)])), (a1, .inr (5, [.ref a6, .ref a7])), (a6, .inl (cI, 256, .inl w)), (a3, .inr (7, [.ref a8, .int (nI tz), .int (nI ta)])), (a8, .inl (cB, 1000, .inl tp))] ksz) (QI D (fun (r : Int32) (u : (Nat → Int32) × Nat × Nat × Nat × Nat) => r = (kCode (iK tp tz ta)) ∧ u.1 = (kW tp tz ta w pl) ∧ u.2.1 = (kPl tp tz ta pl) ∧ u.2.2.1 = (kLd tp tz ta ld) ∧ u.2.2.2.1 = (kNx tp tz ta nx) ∧ u.2.2.2.2 = (kTa tp tz ta)) (fun (u : (Nat → Int32) × Nat × Nat × Nat × Nat) => [(l0, .inr (2, [.int (nI u.2.1), .int en, .int (nI u.2.2.1)])), (h0, .inr (3, [.ref a1, .ref a2, .ref a3, .ref a4, .ref a5, .long mult, .int (nI u.2.2.2.1)])), (a1, .inr (5, [.ref a6, .ref a7])), (a6, .inl (cI, 256, .inl u.1)), (a3, .inr (7, [.ref a8, .int (nI tz), .int (nI u.2.2.2.2)])), (a8, .inl (cB, 1000, .inl tp))]) (va_A [(l0, .inr (2, [.int (nI pl), .int en, .int (nI ld)])), (h0, .inr (3, [.ref a1, .ref a2, .ref a3, .ref a4, .ref a5, .long mult, .int (nI nx)])), (a1, .inr (5, [.ref a6, .ref a7])), (a6, .inl (cI, 256, .inl w)), (a3, .inr (7, [.ref a8, .int (nI tz), .int (nI ta)])), (a8, .inl (cB, 1000, .inl tp))] ksz)) 0 0 (va_A [(l0, .inr (2, [.int (nI pl), .int en, .int (nI ld)])), (h0, .inr (3, [.ref a1, .ref a2, .ref a3, .ref a4, .ref a5, .long mult, .int (nI nx)])), (a1, .inr (5, [.ref a6, .ref a7])), (a6, .inl (cI, 256, .inl w)), (a3, .inr (7, [.ref a8, .int (nI tz), .int (nI ta)])), (a8, .inl (cB, 1000, .inl tp))] ksz) := by
  refine met_g (QI D (fun (r : Int32) (u : (Nat → Int32) × Nat × Nat × Nat × Nat) => r = (kCode (iK tp tz ta)) ∧ u.1 = (kW tp tz ta w pl) ∧ u.2.1 = (kPl tp tz ta pl) ∧ u.2.2.1 = (kLd tp tz ta ld) ∧ u.2.2.2.1 = (kNx tp tz ta nx) ∧ u.2.2.2.2 = (kTa tp tz ta)) (fun (u : (Nat → Int32) × Nat × Nat × Nat × Nat) => [(l0, .inr (2, [.int (nI u.2.1), .int en, .int (nI u.2.2.1)])), (h0, .inr (3, [.ref a1, .ref a2, .ref a3, .ref a4, .ref a5, .long mult, .int (nI u.2.2.2.1)])), (a1, .inr (5, [.ref a6, .ref a7])), (a6, .inl (cI, 256, .inl u.1)), (a3, .inr (7, [.ref a8, .int (nI tz), .int (nI u.2.2.2.2)])), (a8, .inl (cB, 1000, .inl tp))])) cX2_takeItem 6 (some .int) (by decide) rfl (Nat.le_of_ble_eq_true rfl) ?_
  intro p e s m below meth c A ls hx hb hr hts hown hlocks hml hin hA hP hK hD hE hS hl hsz
  clear hsz
  have hl : lv_has ls 6 [(0, .ref l0), (1, .ref h0)] := hl
  have lp_37 : ∀ (n_37 : Nat) (pq : Nat) (nn : Nat) (i : Nat) (ev : Int32) (pt : Nat) (H : Heap) (locs : List Loc) (ls : Array Slot), (pq ≤ tz) → (i + (ta + 1) = pq) → (nn < 1024) → (ta < tz) → (¬ iN (tp ta) = 16) → (fgA tp tz (tz - (ta + 1)) (ta + 1) 0 = fgA tp tz (tz - pq) pq nn) → ((pq < tz ∧ ev = nI (iN (tp pq)) ∧ pt = pq + 1) ∨ (pq = tz ∧ ev = -1 ∧ pt = tz)) → (tz - pq) < n_37 → va_P D vwCl [(l0, .inr (2, [.int (nI pl), .int en, .int (nI ld)])), (h0, .inr (3, [.ref a1, .ref a2, .ref a3, .ref a4, .ref a5, .long mult, .int (nI nx)])), (a1, .inr (5, [.ref a6, .ref a7])), (a6, .inl (cI, 256, .inl w)), (a3, .inr (7, [.ref a8, .int (nI tz), .int (nI pt)])), (a8, .inl (cB, 1000, .inl tp))] H → va_D A [(l0, .inr (2, [.int (nI pl), .int en, .int (nI ld)])), (h0, .inr (3, [.ref a1, .ref a2, .ref a3, .ref a4, .ref a5, .long mult, .int (nI nx)])), (a1, .inr (5, [.ref a6, .ref a7])), (a6, .inl (cI, 256, .inl w)), (a3, .inr (7, [.ref a8, .int (nI tz), .int (nI pt)])), (a8, .inl (cB, 1000, .inl tp))] → va_S A s.heap H locs → lv_has ls 6 [(0, .ref l0), (1, .ref h0), (2, .int (nI (iN (tp ta)))), (3, .int (nI nn)), (4, .int ev), (5, .int (nI i))] → W p l e { frames := 2, cells := 0, slots := 0, locals := 45 } s m ([.ref l0, .ref h0] : List Value).toArray below meth c H locs 0 0 (MQ below (QI D (fun (r : Int32) (u : (Nat → Int32) × Nat × Nat × Nat × Nat) => r = (kCode (iK tp tz ta)) ∧ u.1 = (kW tp tz ta w pl) ∧ u.2.1 = (kPl tp tz ta pl) ∧ u.2.2.1 = (kLd tp tz ta ld) ∧ u.2.2.2.1 = (kNx tp tz ta nx) ∧ u.2.2.2.2 = (kTa tp tz ta)) (fun (u : (Nat → Int32) × Nat × Nat × Nat × Nat) => [(l0, .inr (2, [.int (nI u.2.1), .int en, .int (nI u.2.2.1)])), (h0, .inr (3, [.ref a1, .ref a2, .ref a3, .ref a4, .ref a5, .long mult, .int (nI u.2.2.2.1)])), (a1, .inr (5, [.ref a6, .ref a7])), (a6, .inl (cI, 256, .inl u.1)), (a3, .inr (7, [.ref a8, .int (nI tz), .int (nI u.2.2.2.2)])), (a8, .inl (cB, 1000, .inl tp))]) A) ([.ref l0, .ref h0] : List Value).toArray s 0 0 A) (F0 m 37 ls []) := by
    intro n_37
    induction n_37 with
    | zero => intro pq nn i ev pt H locs ls h1 h2 hn c_t4 c_18 hfg he hm_37; exact absurd hm_37 (Nat.not_lt_zero _)
    | succ n_37 ih_37 =>
      intro pq nn i ev pt H locs ls h1 h2 hn c_t4 c_18 hfg he hm_37 hP hD hS hl
      have htp := ht pq
      have hta := ht ta
      rcases he with ⟨q1, rfl, rfl⟩ | ⟨q1, rfl, q3⟩
      · skip
        refine lv_iload hx hb dX2_takeItem_37 (lv_at hl 5 rfl) ?_
        refine lv_sipush (v := (nI 1000)) hx hb dX2_takeItem_39 (by decide) ?_
        refine lv_icmp_ge (tgt := 84) hx hb dX2_takeItem_42 (by decide) (fun c_42 => ?_) (fun c_42 => ?_)
        · skip
          have c_42 : 1000 ≤ i := (nI_leI (a := 1000) (b := i) (by omega) (by omega)).mp c_42
          exfalso
          omega
        · skip
          have c_42 : ¬ 1000 ≤ i := fun z => c_42 ((nI_leI (a := 1000) (b := i) (by omega) (by omega)).mpr z)
          refine lv_iload hx hb dX2_takeItem_45 (lv_at hl 4 rfl) ?_
          refine lv_if_lt (tgt := 84) hx hb dX2_takeItem_47 (by decide) (fun c_47 => ?_) (fun c_47 => ?_)
          · skip
            have c_47 : (iN (tp pq)) < 0 := (nI_ltI (a := (iN (tp pq))) (b := 0) (by omega) (by omega)).mp c_47
            exact absurd c_47 (Nat.not_lt_zero _)
          · skip
            have c_47 : ¬ (iN (tp pq)) < 0 := fun z => c_47 ((nI_ltI (a := (iN (tp pq))) (b := 0) (by omega) (by omega)).mpr z)
            refine lv_iload hx hb dX2_takeItem_50 (lv_at hl 4 rfl) ?_
            refine lv_bipush (v := (nI 9)) hx hb dX2_takeItem_52 (by decide) ?_
            refine lv_icmp_gt (tgt := 84) hx hb dX2_takeItem_54 (by decide) (fun c_54 => ?_) (fun c_54 => ?_)
            · skip
              have c_54 : 9 < (iN (tp pq)) := (nI_ltI (a := 9) (b := (iN (tp pq))) (by omega) (by omega)).mp c_54
              have hit : itP tp tz ta = (pq, nn) := hfg.trans (fgA_stop (by omega) _)
              refine lv_iload hx hb dX2_takeItem_84 (lv_at hl 4 rfl) ?_
              refine lv_iconst (v := (-1)) hx hb dX2_takeItem_86 (by decide) ?_
              refine lv_icmp_ne (tgt := 92) hx hb dX2_takeItem_87 (by decide) (fun c_87 => ?_) (fun c_87 => ?_)
              · skip
                refine lv_iload hx hb dX2_takeItem_92 (lv_at hl 4 rfl) ?_
                refine lv_bipush (v := (nI 17)) hx hb dX2_takeItem_94 (by decide) ?_
                refine lv_icmp_lt (tgt := 128) hx hb dX2_takeItem_96 (by decide) (fun c_96 => ?_) (fun c_96 => ?_)
                · skip
                  have c_96 : (iN (tp pq)) < 17 := (nI_ltI (a := (iN (tp pq))) (b := 17) (by omega) (by omega)).mp c_96
                  refine lv_iload hx hb dX2_takeItem_128 (lv_at hl 4 rfl) ?_
                  refine lv_bipush (v := (nI 14)) hx hb dX2_takeItem_130 (by decide) ?_
                  refine lv_icmp_ne (tgt := 145) hx hb dX2_takeItem_132 (by decide) (fun c_132 => ?_) (fun c_132 => ?_)
                  · skip
                    have c_132 : ¬ (iN (tp pq)) = 14 := fun z => c_132 ((nI_eq (a := (iN (tp pq))) (b := 14) (by omega) (by omega)).mpr z)
                    have hk : iK tp tz ta = 7 := iK_7 c_t4 c_18 hit q1 (by omega) c_132
                    refine lv_iconst (v := 3) hx hb dX2_takeItem_145 (by decide) ?_
                    exact ret_i hx hb hr hlocks (w, pl, ld, nx, (pq + 1)) ⟨(by first | (simp [kCode, hk, hit]; done) | (simp [kCode, hk, hit]; omega)), (by first | (simp [kW, hk, hit]; done) | (simp [kW, hk, hit]; omega)), (by first | (simp [kPl, hk, hit]; done) | (simp [kPl, hk, hit]; omega)), (by first | (simp [kLd, hk, hit]; done) | (simp [kLd, hk, hit]; omega)), (by first | (simp [kNx, hk, hit]; done) | (simp [kNx, hk, hit]; omega)), (by first | (simp [kTa, hk, hit]; done) | (simp [kTa, hk, hit]; omega))⟩ (hP.sub [0, 1, 2, 3, 4, 5] rfl) (hD.sub [0, 1, 2, 3, 4, 5] (by decide) rfl) hS dX2_takeItem_146
                  · skip
                    have c_132 : (iN (tp pq)) = 14 := (nI_eq (a := (iN (tp pq))) (b := 14) (by omega) (by omega)).mp c_132
                    refine lv_aload_n hx hb dX2_takeItem_135 rfl (lv_at hl 0 rfl) ?_
                    refine lv_aload_n hx hb dX2_takeItem_136 rfl (lv_at hl 1 rfl) ?_
                    refine lv_iload_n hx hb dX2_takeItem_137 rfl (lv_at hl 2 rfl) ?_
                    refine lv_iload_n hx hb dX2_takeItem_138 rfl (lv_at hl 3 rfl) ?_
                    rcases (show iN (tp ta) = 5 ∨ iN (tp ta) = 27 ∨ iN (tp ta) = 3 ∨ (¬ iN (tp ta) = 5 ∧ ¬ iN (tp ta) = 27 ∧ ¬ iN (tp ta) = 3) by omega) with cv | cv | cv | cv
                    · skip
                      have hk : iK tp tz ta = 4 := (iK_c c_t4 c_18 hit q1 c_132).trans (by simp [cv])
                      refine kV_i (As := [.ref h0, .int (nI (iN (tp ta))), .int (nI nn)]) (rest := []) (wr := [(a3, .inr (7, [.ref a8, .int (nI tz), .int (nI (pq + 1))])), (a8, .inl (cB, 1000, .inl tp))]) ⟨hx, hb, hml, hown, hts⟩ (kX2_control l D Z cB cI cJ cZ H.size l0 h0 a1 a2 a3 a4 a5 a6 a7 w mult nx pl ld en (iN (tp ta)) nn (by first | assumption | omega) (by first | assumption | omega) (by first | assumption | omega)) (cwV 3 hts gX2_takeItem_X2_control rfl rfl rfl (by decide +kernel) ⟨Nat.le_of_ble_eq_true rfl, Nat.le_of_ble_eq_true rfl⟩) hK hE hP hD hS hA 0 2 rfl rfl rfl [0, 1, 2, 3] [4, 5] rfl rfl rfl rfl rfl (by decide) hl.1 rfl rfl (Nat.le_of_ble_eq_true rfl) dX2_takeItem_139 ⟨Nat.le_of_ble_eq_true rfl, Nat.le_of_ble_eq_true rfl⟩ (fun r u H locs hp hP hD hS => ?_)
                      obtain ⟨v_1, v_2, v_3⟩ := u
                      try dsimp only at hp
                      obtain ⟨hq_0, hq_1, hq_2, hq_3⟩ := hp
                      have hq_0 := hq_0.symm
                      subst hq_0
                      have hq_1 := hq_1.symm
                      subst hq_1
                      have hq_2 := hq_2.symm
                      subst hq_2
                      have hq_3 := hq_3.symm
                      subst hq_3
                      have hP : va_P D vwCl [(a3, .inr (7, [.ref a8, .int (nI tz), .int (nI (pq + 1))])), (a8, .inl (cB, 1000, .inl tp)), (l0, .inr (2, [.int (nI (if (iN (tp ta)) = 5 then nn % 256 else pl)), .int en, .int (nI ld)])), (h0, .inr (3, [.ref a1, .ref a2, .ref a3, .ref a4, .ref a5, .long mult, .int (nI (if (iN (tp ta)) = 3 then nn % 256 else nx))])), (a1, .inr (5, [.ref a6, .ref a7])), (a6, .inl (cI, 256, .inl (if (iN (tp ta)) = 27 then upd w 42 (nI (2 * pl)) else w)))] H := hP
                      have hD : va_D A [(a3, .inr (7, [.ref a8, .int (nI tz), .int (nI (pq + 1))])), (a8, .inl (cB, 1000, .inl tp)), (l0, .inr (2, [.int (nI (if (iN (tp ta)) = 5 then nn % 256 else pl)), .int en, .int (nI ld)])), (h0, .inr (3, [.ref a1, .ref a2, .ref a3, .ref a4, .ref a5, .long mult, .int (nI (if (iN (tp ta)) = 3 then nn % 256 else nx))])), (a1, .inr (5, [.ref a6, .ref a7])), (a6, .inl (cI, 256, .inl (if (iN (tp ta)) = 27 then upd w 42 (nI (2 * pl)) else w)))] := hD
                      refine lv_goto (tgt := 146) hx hb dX2_takeItem_142 (by decide) ?_
                      exact ret_i hx hb hr hlocks ((if (iN (tp ta)) = 27 then upd w 42 (nI (2 * pl)) else w), (if (iN (tp ta)) = 5 then nn % 256 else pl), ld, (if (iN (tp ta)) = 3 then nn % 256 else nx), (pq + 1)) ⟨(by first | (simp [kCode, hk, hit, cv]; done) | (simp [kCode, hk, hit, cv]; omega)), (by first | (simp [kW, hk, hit, cv]; done) | (simp [kW, hk, hit, cv]; omega)), (by first | (simp [kPl, hk, hit, cv]; done) | (simp [kPl, hk, hit, cv]; omega)), (by first | (simp [kLd, hk, hit, cv]; done) | (simp [kLd, hk, hit, cv]; omega)), (by first | (simp [kNx, hk, hit, cv]; done) | (simp [kNx, hk, hit, cv]; omega)), (by first | (simp [kTa, hk, hit, cv]; done) | (simp [kTa, hk, hit, cv]; omega))⟩ (hP.sub [2, 3, 4, 5, 0, 1] rfl) (hD.sub [2, 3, 4, 5, 0, 1] (by decide) rfl) hS dX2_takeItem_146
                    · skip
                      have hk : iK tp tz ta = 5 := (iK_c c_t4 c_18 hit q1 c_132).trans (by simp [cv])
                      refine kV_i (As := [.ref h0, .int (nI (iN (tp ta))), .int (nI nn)]) (rest := []) (wr := [(a3, .inr (7, [.ref a8, .int (nI tz), .int (nI (pq + 1))])), (a8, .inl (cB, 1000, .inl tp))]) ⟨hx, hb, hml, hown, hts⟩ (kX2_control l D Z cB cI cJ cZ H.size l0 h0 a1 a2 a3 a4 a5 a6 a7 w mult nx pl ld en (iN (tp ta)) nn (by first | assumption | omega) (by first | assumption | omega) (by first | assumption | omega)) (cwV 3 hts gX2_takeItem_X2_control rfl rfl rfl (by decide +kernel) ⟨Nat.le_of_ble_eq_true rfl, Nat.le_of_ble_eq_true rfl⟩) hK hE hP hD hS hA 0 2 rfl rfl rfl [0, 1, 2, 3] [4, 5] rfl rfl rfl rfl rfl (by decide) hl.1 rfl rfl (Nat.le_of_ble_eq_true rfl) dX2_takeItem_139 ⟨Nat.le_of_ble_eq_true rfl, Nat.le_of_ble_eq_true rfl⟩ (fun r u H locs hp hP hD hS => ?_)
                      obtain ⟨v_4, v_5, v_6⟩ := u
                      try dsimp only at hp
                      obtain ⟨hq_0, hq_1, hq_2, hq_3⟩ := hp
                      have hq_0 := hq_0.symm
                      subst hq_0
                      have hq_1 := hq_1.symm
                      subst hq_1
                      have hq_2 := hq_2.symm
                      subst hq_2
                      have hq_3 := hq_3.symm
                      subst hq_3
                      have hP : va_P D vwCl [(a3, .inr (7, [.ref a8, .int (nI tz), .int (nI (pq + 1))])), (a8, .inl (cB, 1000, .inl tp)), (l0, .inr (2, [.int (nI (if (iN (tp ta)) = 5 then nn % 256 else pl)), .int en, .int (nI ld)])), (h0, .inr (3, [.ref a1, .ref a2, .ref a3, .ref a4, .ref a5, .long mult, .int (nI (if (iN (tp ta)) = 3 then nn % 256 else nx))])), (a1, .inr (5, [.ref a6, .ref a7])), (a6, .inl (cI, 256, .inl (if (iN (tp ta)) = 27 then upd w 42 (nI (2 * pl)) else w)))] H := hP
                      have hD : va_D A [(a3, .inr (7, [.ref a8, .int (nI tz), .int (nI (pq + 1))])), (a8, .inl (cB, 1000, .inl tp)), (l0, .inr (2, [.int (nI (if (iN (tp ta)) = 5 then nn % 256 else pl)), .int en, .int (nI ld)])), (h0, .inr (3, [.ref a1, .ref a2, .ref a3, .ref a4, .ref a5, .long mult, .int (nI (if (iN (tp ta)) = 3 then nn % 256 else nx))])), (a1, .inr (5, [.ref a6, .ref a7])), (a6, .inl (cI, 256, .inl (if (iN (tp ta)) = 27 then upd w 42 (nI (2 * pl)) else w)))] := hD
                      refine lv_goto (tgt := 146) hx hb dX2_takeItem_142 (by decide) ?_
                      exact ret_i hx hb hr hlocks ((if (iN (tp ta)) = 27 then upd w 42 (nI (2 * pl)) else w), (if (iN (tp ta)) = 5 then nn % 256 else pl), ld, (if (iN (tp ta)) = 3 then nn % 256 else nx), (pq + 1)) ⟨(by first | (simp [kCode, hk, hit, cv]; done) | (simp [kCode, hk, hit, cv]; omega)), (by first | (simp [kW, hk, hit, cv]; done) | (simp [kW, hk, hit, cv]; omega)), (by first | (simp [kPl, hk, hit, cv]; done) | (simp [kPl, hk, hit, cv]; omega)), (by first | (simp [kLd, hk, hit, cv]; done) | (simp [kLd, hk, hit, cv]; omega)), (by first | (simp [kNx, hk, hit, cv]; done) | (simp [kNx, hk, hit, cv]; omega)), (by first | (simp [kTa, hk, hit, cv]; done) | (simp [kTa, hk, hit, cv]; omega))⟩ (hP.sub [2, 3, 4, 5, 0, 1] rfl) (hD.sub [2, 3, 4, 5, 0, 1] (by decide) rfl) hS dX2_takeItem_146
                    · skip
                      have hk : iK tp tz ta = 6 := (iK_c c_t4 c_18 hit q1 c_132).trans (by simp [cv])
                      refine kV_i (As := [.ref h0, .int (nI (iN (tp ta))), .int (nI nn)]) (rest := []) (wr := [(a3, .inr (7, [.ref a8, .int (nI tz), .int (nI (pq + 1))])), (a8, .inl (cB, 1000, .inl tp))]) ⟨hx, hb, hml, hown, hts⟩ (kX2_control l D Z cB cI cJ cZ H.size l0 h0 a1 a2 a3 a4 a5 a6 a7 w mult nx pl ld en (iN (tp ta)) nn (by first | assumption | omega) (by first | assumption | omega) (by first | assumption | omega)) (cwV 3 hts gX2_takeItem_X2_control rfl rfl rfl (by decide +kernel) ⟨Nat.le_of_ble_eq_true rfl, Nat.le_of_ble_eq_true rfl⟩) hK hE hP hD hS hA 0 2 rfl rfl rfl [0, 1, 2, 3] [4, 5] rfl rfl rfl rfl rfl (by decide) hl.1 rfl rfl (Nat.le_of_ble_eq_true rfl) dX2_takeItem_139 ⟨Nat.le_of_ble_eq_true rfl, Nat.le_of_ble_eq_true rfl⟩ (fun r u H locs hp hP hD hS => ?_)
                      obtain ⟨v_7, v_8, v_9⟩ := u
                      try dsimp only at hp
                      obtain ⟨hq_0, hq_1, hq_2, hq_3⟩ := hp
                      have hq_0 := hq_0.symm
                      subst hq_0
                      have hq_1 := hq_1.symm
                      subst hq_1
                      have hq_2 := hq_2.symm
                      subst hq_2
                      have hq_3 := hq_3.symm
                      subst hq_3
                      have hP : va_P D vwCl [(a3, .inr (7, [.ref a8, .int (nI tz), .int (nI (pq + 1))])), (a8, .inl (cB, 1000, .inl tp)), (l0, .inr (2, [.int (nI (if (iN (tp ta)) = 5 then nn % 256 else pl)), .int en, .int (nI ld)])), (h0, .inr (3, [.ref a1, .ref a2, .ref a3, .ref a4, .ref a5, .long mult, .int (nI (if (iN (tp ta)) = 3 then nn % 256 else nx))])), (a1, .inr (5, [.ref a6, .ref a7])), (a6, .inl (cI, 256, .inl (if (iN (tp ta)) = 27 then upd w 42 (nI (2 * pl)) else w)))] H := hP
                      have hD : va_D A [(a3, .inr (7, [.ref a8, .int (nI tz), .int (nI (pq + 1))])), (a8, .inl (cB, 1000, .inl tp)), (l0, .inr (2, [.int (nI (if (iN (tp ta)) = 5 then nn % 256 else pl)), .int en, .int (nI ld)])), (h0, .inr (3, [.ref a1, .ref a2, .ref a3, .ref a4, .ref a5, .long mult, .int (nI (if (iN (tp ta)) = 3 then nn % 256 else nx))])), (a1, .inr (5, [.ref a6, .ref a7])), (a6, .inl (cI, 256, .inl (if (iN (tp ta)) = 27 then upd w 42 (nI (2 * pl)) else w)))] := hD
                      refine lv_goto (tgt := 146) hx hb dX2_takeItem_142 (by decide) ?_
                      exact ret_i hx hb hr hlocks ((if (iN (tp ta)) = 27 then upd w 42 (nI (2 * pl)) else w), (if (iN (tp ta)) = 5 then nn % 256 else pl), ld, (if (iN (tp ta)) = 3 then nn % 256 else nx), (pq + 1)) ⟨(by first | (simp [kCode, hk, hit, cv]; done) | (simp [kCode, hk, hit, cv]; omega)), (by first | (simp [kW, hk, hit, cv]; done) | (simp [kW, hk, hit, cv]; omega)), (by first | (simp [kPl, hk, hit, cv]; done) | (simp [kPl, hk, hit, cv]; omega)), (by first | (simp [kLd, hk, hit, cv]; done) | (simp [kLd, hk, hit, cv]; omega)), (by first | (simp [kNx, hk, hit, cv]; done) | (simp [kNx, hk, hit, cv]; omega)), (by first | (simp [kTa, hk, hit, cv]; done) | (simp [kTa, hk, hit, cv]; omega))⟩ (hP.sub [2, 3, 4, 5, 0, 1] rfl) (hD.sub [2, 3, 4, 5, 0, 1] (by decide) rfl) hS dX2_takeItem_146
                    · skip
                      have hk : iK tp tz ta = 7 := (iK_c c_t4 c_18 hit q1 c_132).trans (by simp [cv])
                      refine kV_i (As := [.ref h0, .int (nI (iN (tp ta))), .int (nI nn)]) (rest := []) (wr := [(a3, .inr (7, [.ref a8, .int (nI tz), .int (nI (pq + 1))])), (a8, .inl (cB, 1000, .inl tp))]) ⟨hx, hb, hml, hown, hts⟩ (kX2_control l D Z cB cI cJ cZ H.size l0 h0 a1 a2 a3 a4 a5 a6 a7 w mult nx pl ld en (iN (tp ta)) nn (by first | assumption | omega) (by first | assumption | omega) (by first | assumption | omega)) (cwV 3 hts gX2_takeItem_X2_control rfl rfl rfl (by decide +kernel) ⟨Nat.le_of_ble_eq_true rfl, Nat.le_of_ble_eq_true rfl⟩) hK hE hP hD hS hA 0 2 rfl rfl rfl [0, 1, 2, 3] [4, 5] rfl rfl rfl rfl rfl (by decide) hl.1 rfl rfl (Nat.le_of_ble_eq_true rfl) dX2_takeItem_139 ⟨Nat.le_of_ble_eq_true rfl, Nat.le_of_ble_eq_true rfl⟩ (fun r u H locs hp hP hD hS => ?_)
                      obtain ⟨v_10, v_11, v_12⟩ := u
                      try dsimp only at hp
                      obtain ⟨hq_0, hq_1, hq_2, hq_3⟩ := hp
                      have hq_0 := hq_0.symm
                      subst hq_0
                      have hq_1 := hq_1.symm
                      subst hq_1
                      have hq_2 := hq_2.symm
                      subst hq_2
                      have hq_3 := hq_3.symm
                      subst hq_3
                      have hP : va_P D vwCl [(a3, .inr (7, [.ref a8, .int (nI tz), .int (nI (pq + 1))])), (a8, .inl (cB, 1000, .inl tp)), (l0, .inr (2, [.int (nI (if (iN (tp ta)) = 5 then nn % 256 else pl)), .int en, .int (nI ld)])), (h0, .inr (3, [.ref a1, .ref a2, .ref a3, .ref a4, .ref a5, .long mult, .int (nI (if (iN (tp ta)) = 3 then nn % 256 else nx))])), (a1, .inr (5, [.ref a6, .ref a7])), (a6, .inl (cI, 256, .inl (if (iN (tp ta)) = 27 then upd w 42 (nI (2 * pl)) else w)))] H := hP
                      have hD : va_D A [(a3, .inr (7, [.ref a8, .int (nI tz), .int (nI (pq + 1))])), (a8, .inl (cB, 1000, .inl tp)), (l0, .inr (2, [.int (nI (if (iN (tp ta)) = 5 then nn % 256 else pl)), .int en, .int (nI ld)])), (h0, .inr (3, [.ref a1, .ref a2, .ref a3, .ref a4, .ref a5, .long mult, .int (nI (if (iN (tp ta)) = 3 then nn % 256 else nx))])), (a1, .inr (5, [.ref a6, .ref a7])), (a6, .inl (cI, 256, .inl (if (iN (tp ta)) = 27 then upd w 42 (nI (2 * pl)) else w)))] := hD
                      refine lv_goto (tgt := 146) hx hb dX2_takeItem_142 (by decide) ?_
                      exact ret_i hx hb hr hlocks ((if (iN (tp ta)) = 27 then upd w 42 (nI (2 * pl)) else w), (if (iN (tp ta)) = 5 then nn % 256 else pl), ld, (if (iN (tp ta)) = 3 then nn % 256 else nx), (pq + 1)) ⟨(by first | (simp [kCode, hk, hit, cv]; done) | (simp [kCode, hk, hit, cv]; omega)), (by first | (simp [kW, hk, hit, cv]; done) | (simp [kW, hk, hit, cv]; omega)), (by first | (simp [kPl, hk, hit, cv]; done) | (simp [kPl, hk, hit, cv]; omega)), (by first | (simp [kLd, hk, hit, cv]; done) | (simp [kLd, hk, hit, cv]; omega)), (by first | (simp [kNx, hk, hit, cv]; done) | (simp [kNx, hk, hit, cv]; omega)), (by first | (simp [kTa, hk, hit, cv]; done) | (simp [kTa, hk, hit, cv]; omega))⟩ (hP.sub [2, 3, 4, 5, 0, 1] rfl) (hD.sub [2, 3, 4, 5, 0, 1] (by decide) rfl) hS dX2_takeItem_146
                · skip
                  have c_96 : ¬ (iN (tp pq)) < 17 := fun z => c_96 ((nI_ltI (a := (iN (tp pq))) (b := 17) (by omega) (by omega)).mpr z)
                  refine lv_aload_n hx hb dX2_takeItem_99 rfl (lv_at hl 0 rfl) ?_
                  refine lv_aload_n hx hb dX2_takeItem_100 rfl (lv_at hl 1 rfl) ?_
                  refine lv_sipush (v := (nI 4096)) hx hb dX2_takeItem_101 (by decide) ?_
                  refine lv_iload_n hx hb dX2_takeItem_104 rfl (lv_at hl 2 rfl) ?_
                  refine lv_imul hx hb dX2_takeItem_105 ?_
                  refine set_i (y := nI (4096 * iN (tp ta))) (pk_mul 4096 _) ?_
                  refine lv_iconst (v := (nI 2)) hx hb dX2_takeItem_106 (by decide) ?_
                  refine lv_iload_n hx hb dX2_takeItem_107 rfl (lv_at hl 3 rfl) ?_
                  refine lv_imul hx hb dX2_takeItem_108 ?_
                  refine set_i (y := nI (2 * nn)) (pk_mul 2 nn) ?_
                  refine lv_iadd hx hb dX2_takeItem_109 ?_
                  refine set_i (y := nI (4096 * iN (tp ta) + 2 * nn)) (nI_add _ _) ?_
                  refine lv_aload_n hx hb dX2_takeItem_110 rfl (lv_at hl 1 rfl) ?_
                  refine va_getN (D := D) (ci := 3) (v := .ref a1) (C := RX3) (T := TX3) (N := 7) hx hb hts (by decide +kernel) hown hK hP 1 rfl rfl 0 (by decide) (va_Nw.use rfl (nf_X2_21 hE)) (fun _ h9 => h9) rfl dX2_takeItem_111 ?_
                  refine lv_bipush (v := (nI 24)) hx hb dX2_takeItem_114 (by decide) ?_
                  refine lv_iload hx hb dX2_takeItem_116 (lv_at hl 4 rfl) ?_
                  refine lv_iadd hx hb dX2_takeItem_118 ?_
                  refine set_i (y := nI (24 + iN (tp pq))) (nI_add 24 _) ?_
                  refine kV_i (As := [.int (nI (24 + iN (tp pq)))]) (rest := [.int (nI (4096 * iN (tp ta) + 2 * nn)), .ref h0, .ref l0]) (wr := [(l0, .inr (2, [.int (nI pl), .int en, .int (nI ld)])), (h0, .inr (3, [.ref a1, .ref a2, .ref a3, .ref a4, .ref a5, .long mult, .int (nI nx)])), (a3, .inr (7, [.ref a8, .int (nI tz), .int (nI (pq + 1))])), (a8, .inl (cB, 1000, .inl tp))]) ⟨hx, hb, hml, hown, hts⟩ (kX5_shortAt l D Z cB cI cJ cZ H.size a1 a6 a7 w (24 + iN (tp pq)) (by first | assumption | omega)) (cwV 1 hts gX2_takeItem_X5_shortAt rfl rfl rfl (by decide +kernel) ⟨Nat.le_of_ble_eq_true rfl, Nat.le_of_ble_eq_true rfl⟩) hK hE hP hD hS hA 0 5 rfl rfl rfl [2, 3] [0, 1, 4, 5] rfl rfl rfl rfl rfl (by decide) hl.1 rfl rfl (Nat.le_of_ble_eq_true rfl) dX2_takeItem_119 ⟨Nat.le_of_ble_eq_true rfl, Nat.le_of_ble_eq_true rfl⟩ (fun r u H locs hp hP hD hS => ?_)
                  try dsimp only at hp
                  have hq_0 := hp
                  have hq_0 := hq_0.symm
                  subst hq_0
                  have hP : va_P D vwCl [(l0, .inr (2, [.int (nI pl), .int en, .int (nI ld)])), (h0, .inr (3, [.ref a1, .ref a2, .ref a3, .ref a4, .ref a5, .long mult, .int (nI nx)])), (a3, .inr (7, [.ref a8, .int (nI tz), .int (nI (pq + 1))])), (a8, .inl (cB, 1000, .inl tp)), (a1, .inr (5, [.ref a6, .ref a7])), (a6, .inl (cI, 256, .inl w))] H := hP
                  have hD : va_D A [(l0, .inr (2, [.int (nI pl), .int en, .int (nI ld)])), (h0, .inr (3, [.ref a1, .ref a2, .ref a3, .ref a4, .ref a5, .long mult, .int (nI nx)])), (a3, .inr (7, [.ref a8, .int (nI tz), .int (nI (pq + 1))])), (a8, .inl (cB, 1000, .inl tp)), (a1, .inr (5, [.ref a6, .ref a7])), (a6, .inl (cI, 256, .inl w))] := hD
                  refine lv_iadd hx hb dX2_takeItem_122 ?_
                  refine kV_v (As := [.ref h0, .int ((nI (4096 * iN (tp ta) + 2 * nn)) + (w (24 + iN (tp pq))))]) (rest := []) (wr := [(a3, .inr (7, [.ref a8, .int (nI tz), .int (nI (pq + 1))])), (a8, .inl (cB, 1000, .inl tp))]) ⟨hx, hb, hml, hown, hts⟩ (kX2_layAtPlace l D Z cB cI cJ cZ H.size l0 h0 a1 a2 a3 a4 a5 a6 a7 w mult nx pl ld en ((nI (4096 * iN (tp ta) + 2 * nn)) + (w (24 + iN (tp pq)))) (by first | assumption | omega)) (cwV 2 hts gX2_takeItem_X2_layAtPlace rfl rfl rfl (by decide +kernel) ⟨Nat.le_of_ble_eq_true rfl, Nat.le_of_ble_eq_true rfl⟩) hK hE hP hD hS hA 0 2 rfl rfl rfl [0, 1, 4, 5] [2, 3] rfl rfl rfl rfl rfl (by decide) hl.1 rfl rfl (Nat.le_of_ble_eq_true rfl) dX2_takeItem_123 ⟨Nat.le_of_ble_eq_true rfl, Nat.le_of_ble_eq_true rfl⟩ (fun u H locs hp hP hD hS => ?_)
                  obtain ⟨v_13, rfl⟩ : ∃ z, z = u := ⟨_, rfl⟩
                  try dsimp only at hp
                  have hq_0 := hp
                  have hq_0 := hq_0.symm
                  subst hq_0
                  have hP : va_P D vwCl [(a3, .inr (7, [.ref a8, .int (nI tz), .int (nI (pq + 1))])), (a8, .inl (cB, 1000, .inl tp)), (l0, .inr (2, [.int (nI ((pl + 1) % 256)), .int en, .int (nI (ld + 1))])), (h0, .inr (3, [.ref a1, .ref a2, .ref a3, .ref a4, .ref a5, .long mult, .int (nI nx)])), (a1, .inr (5, [.ref a6, .ref a7])), (a6, .inl (cI, 256, .inl (upd w pl (((nI (4096 * iN (tp ta) + 2 * nn)) + (w (24 + iN (tp pq)))) &&& 131071))))] H := hP
                  have hD : va_D A [(a3, .inr (7, [.ref a8, .int (nI tz), .int (nI (pq + 1))])), (a8, .inl (cB, 1000, .inl tp)), (l0, .inr (2, [.int (nI ((pl + 1) % 256)), .int en, .int (nI (ld + 1))])), (h0, .inr (3, [.ref a1, .ref a2, .ref a3, .ref a4, .ref a5, .long mult, .int (nI nx)])), (a1, .inr (5, [.ref a6, .ref a7])), (a6, .inl (cI, 256, .inl (upd w pl (((nI (4096 * iN (tp ta) + 2 * nn)) + (w (24 + iN (tp pq)))) &&& 131071))))] := hD
                  refine lv_iconst (v := (-1)) hx hb dX2_takeItem_126 (by decide) ?_
                  have hk : iK tp tz ta = 3 := iK_3 c_t4 c_18 hit q1 (by omega)
                  exact ret_i hx hb hr hlocks ((upd w pl (((nI (4096 * iN (tp ta) + 2 * nn)) + (w (24 + iN (tp pq)))) &&& 131071)), ((pl + 1) % 256), (ld + 1), nx, (pq + 1)) ⟨(by first | (simp [kCode, hk, hit]; done) | (simp [kCode, hk, hit]; omega)), (by first | (simp [kW, hk, hit]; done) | (simp [kW, hk, hit]; omega)), (by first | (simp [kPl, hk, hit]; done) | (simp [kPl, hk, hit]; omega)), (by first | (simp [kLd, hk, hit]; done) | (simp [kLd, hk, hit]; omega)), (by first | (simp [kNx, hk, hit]; done) | (simp [kNx, hk, hit]; omega)), (by first | (simp [kTa, hk, hit]; done) | (simp [kTa, hk, hit]; omega))⟩ (hP.sub [2, 3, 4, 5, 0, 1] rfl) (hD.sub [2, 3, 4, 5, 0, 1] (by decide) rfl) hS dX2_takeItem_127
              · skip
                exfalso
                exact nI_ne_m1 (by omega) c_87
            · skip
              have c_54 : ¬ 9 < (iN (tp pq)) := fun z => c_54 ((nI_ltI (a := 9) (b := (iN (tp pq))) (by omega) (by omega)).mpr z)
              refine lv_bipush (v := (nI 10)) hx hb dX2_takeItem_57 (by decide) ?_
              refine lv_iload_n hx hb dX2_takeItem_59 rfl (lv_at hl 3 rfl) ?_
              refine lv_imul hx hb dX2_takeItem_60 ?_
              refine set_i (y := nI (10 * nn)) (pk_mul 10 nn) ?_
              refine lv_iload hx hb dX2_takeItem_61 (lv_at hl 4 rfl) ?_
              refine lv_iadd hx hb dX2_takeItem_63 ?_
              refine set_i (y := nI (10 * nn + iN (tp pq))) (nI_add _ _) ?_
              refine lv_sipush (v := (nI 1023)) hx hb dX2_takeItem_64 (by decide) ?_
              refine lv_iand hx hb dX2_takeItem_67 ?_
              refine set_i (y := nI ((10 * nn + iN (tp pq)) % 1024)) (pk_andN (by omega) 10 (by decide)) ?_
              refine lv_istore_n (lv' := [(3, .int (nI ((10 * nn + iN (tp pq)) % 1024))), (0, .ref l0), (1, .ref h0), (2, .int (nI (iN (tp ta)))), (4, .int (nI (iN (tp pq)))), (5, .int (nI i))]) hx hb dX2_takeItem_68 rfl hl (by decide) rfl (fun ls hl => ?_)
              refine lv_aload_n hx hb dX2_takeItem_69 rfl (lv_at hl 2 rfl) ?_
              refine va_getN (D := D) (ci := 3) (v := .ref a3) (C := RX3) (T := TX3) (N := 7) hx hb hts (by decide +kernel) hown hK hP 1 rfl rfl 2 (by decide) (va_Nw.use rfl (nf_X2_37 hE)) (fun _ h9 => h9) rfl dX2_takeItem_70 ?_
              rcases Nat.lt_or_ge (pq + 1) tz with c_t73 | c_t73
              · skip
                refine kV_i (As := []) (rest := []) (wr := [(l0, .inr (2, [.int (nI pl), .int en, .int (nI ld)])), (h0, .inr (3, [.ref a1, .ref a2, .ref a3, .ref a4, .ref a5, .long mult, .int (nI nx)])), (a1, .inr (5, [.ref a6, .ref a7])), (a6, .inl (cI, 256, .inl w))]) ⟨hx, hb, hml, hown, hts⟩ (kX7_take_s l D Z cB cI cJ cZ H.size a3 a8 tp tz (pq + 1) (by first | assumption | omega) (by first | assumption | omega)) (cwV 0 hts gX2_takeItem_X7_take rfl rfl rfl (by decide +kernel) ⟨Nat.le_of_ble_eq_true rfl, Nat.le_of_ble_eq_true rfl⟩) hK hE hP hD hS hA 0 7 rfl rfl rfl [4, 5] [0, 1, 2, 3] rfl rfl rfl rfl rfl (by decide) hl.1 rfl rfl (Nat.le_of_ble_eq_true rfl) dX2_takeItem_73 ⟨Nat.le_of_ble_eq_true rfl, Nat.le_of_ble_eq_true rfl⟩ (fun r u H locs hp hP hD hS => ?_)
                try dsimp only at hp
                have hq_0 := hp
                have hq_0 := hq_0.symm
                subst hq_0
                have hP : va_P D vwCl [(l0, .inr (2, [.int (nI pl), .int en, .int (nI ld)])), (h0, .inr (3, [.ref a1, .ref a2, .ref a3, .ref a4, .ref a5, .long mult, .int (nI nx)])), (a1, .inr (5, [.ref a6, .ref a7])), (a6, .inl (cI, 256, .inl w)), (a3, .inr (7, [.ref a8, .int (nI tz), .int (nI ((pq + 1) + 1))])), (a8, .inl (cB, 1000, .inl tp))] H := hP
                have hD : va_D A [(l0, .inr (2, [.int (nI pl), .int en, .int (nI ld)])), (h0, .inr (3, [.ref a1, .ref a2, .ref a3, .ref a4, .ref a5, .long mult, .int (nI nx)])), (a1, .inr (5, [.ref a6, .ref a7])), (a6, .inl (cI, 256, .inl w)), (a3, .inr (7, [.ref a8, .int (nI tz), .int (nI ((pq + 1) + 1))])), (a8, .inl (cB, 1000, .inl tp))] := hD
                refine set_i (y := nI (iN (tp (pq + 1)))) (nI_iN _).symm ?_
                refine lv_istore (lv' := [(4, .int (nI (iN (tp (pq + 1))))), (3, .int (nI ((10 * nn + iN (tp pq)) % 1024))), (0, .ref l0), (1, .ref h0), (2, .int (nI (iN (tp ta)))), (5, .int (nI i))]) hx hb dX2_takeItem_76 hl (by decide) rfl (fun ls hl => ?_)
                refine lv_iinc (v := (nI (i + 1))) (lv' := [(5, .int (nI (i + 1))), (4, .int (nI (iN (tp (pq + 1))))), (3, .int (nI ((10 * nn + iN (tp pq)) % 1024))), (0, .ref l0), (1, .ref h0), (2, .int (nI (iN (tp ta))))]) hx hb dX2_takeItem_78 hl (k := 5) rfl (nI_1 _) (by decide) rfl (fun ls hl => ?_)
                refine lv_goto (tgt := 37) hx hb dX2_takeItem_81 (by decide) ?_
                exact ih_37 (pq + 1) ((10 * nn + iN (tp pq)) % 1024) (i + 1) (nI (iN (tp (pq + 1)))) ((pq + 1) + 1) _ _ _ (by first | assumption | omega) (by first | assumption | omega) (by first | assumption | omega) (by first | assumption | omega) (by first | assumption | omega) (hfg.trans (fgA_go q1 (by omega))) (by first | exact Or.inl ⟨by omega, rfl, rfl⟩ | exact Or.inr ⟨by omega, rfl, by omega⟩) (by omega) (hP.sub [0, 1, 2, 3, 4, 5] rfl) (hD.sub [0, 1, 2, 3, 4, 5] (by decide) rfl) hS (lv_sub hl [3, 4, 5, 2, 1, 0] rfl)
              · skip
                refine kV_i (As := []) (rest := []) (wr := [(l0, .inr (2, [.int (nI pl), .int en, .int (nI ld)])), (h0, .inr (3, [.ref a1, .ref a2, .ref a3, .ref a4, .ref a5, .long mult, .int (nI nx)])), (a1, .inr (5, [.ref a6, .ref a7])), (a6, .inl (cI, 256, .inl w)), (a8, .inl (cB, 1000, .inl tp))]) ⟨hx, hb, hml, hown, hts⟩ (kX7_take_n l D Z cB cI cJ cZ H.size a3 a8 tz (pq + 1) (by first | assumption | omega) (by first | assumption | omega)) (cwV 0 hts gX2_takeItem_X7_take rfl rfl rfl (by decide +kernel) ⟨Nat.le_of_ble_eq_true rfl, Nat.le_of_ble_eq_true rfl⟩) hK hE hP hD hS hA 0 7 rfl rfl rfl [4] [0, 1, 2, 3, 5] rfl rfl rfl rfl rfl (by decide) hl.1 rfl rfl (Nat.le_of_ble_eq_true rfl) dX2_takeItem_73 ⟨Nat.le_of_ble_eq_true rfl, Nat.le_of_ble_eq_true rfl⟩ (fun r u H locs hp hP hD hS => ?_)
                try dsimp only at hp
                have hq_0 := hp
                have hq_0 := hq_0.symm
                subst hq_0
                have hP : va_P D vwCl [(l0, .inr (2, [.int (nI pl), .int en, .int (nI ld)])), (h0, .inr (3, [.ref a1, .ref a2, .ref a3, .ref a4, .ref a5, .long mult, .int (nI nx)])), (a1, .inr (5, [.ref a6, .ref a7])), (a6, .inl (cI, 256, .inl w)), (a8, .inl (cB, 1000, .inl tp)), (a3, .inr (7, [.ref a8, .int (nI tz), .int (nI (pq + 1))]))] H := hP
                have hD : va_D A [(l0, .inr (2, [.int (nI pl), .int en, .int (nI ld)])), (h0, .inr (3, [.ref a1, .ref a2, .ref a3, .ref a4, .ref a5, .long mult, .int (nI nx)])), (a1, .inr (5, [.ref a6, .ref a7])), (a6, .inl (cI, 256, .inl w)), (a8, .inl (cB, 1000, .inl tp)), (a3, .inr (7, [.ref a8, .int (nI tz), .int (nI (pq + 1))]))] := hD
                refine lv_istore (lv' := [(4, .int (-1)), (3, .int (nI ((10 * nn + iN (tp pq)) % 1024))), (0, .ref l0), (1, .ref h0), (2, .int (nI (iN (tp ta)))), (5, .int (nI i))]) hx hb dX2_takeItem_76 hl (by decide) rfl (fun ls hl => ?_)
                refine lv_iinc (v := (nI (i + 1))) (lv' := [(5, .int (nI (i + 1))), (4, .int (-1)), (3, .int (nI ((10 * nn + iN (tp pq)) % 1024))), (0, .ref l0), (1, .ref h0), (2, .int (nI (iN (tp ta))))]) hx hb dX2_takeItem_78 hl (k := 5) rfl (nI_1 _) (by decide) rfl (fun ls hl => ?_)
                refine lv_goto (tgt := 37) hx hb dX2_takeItem_81 (by decide) ?_
                exact ih_37 (pq + 1) ((10 * nn + iN (tp pq)) % 1024) (i + 1) (-1) (pq + 1) _ _ _ (by first | assumption | omega) (by first | assumption | omega) (by first | assumption | omega) (by first | assumption | omega) (by first | assumption | omega) (hfg.trans (fgA_go q1 (by omega))) (by first | exact Or.inl ⟨by omega, rfl, rfl⟩ | exact Or.inr ⟨by omega, rfl, by omega⟩) (by omega) (hP.sub [0, 1, 2, 3, 5, 4] rfl) (hD.sub [0, 1, 2, 3, 5, 4] (by decide) rfl) hS (lv_sub hl [3, 4, 5, 2, 1, 0] rfl)
      · skip
        have q3 := q3.symm
        subst q3
        refine lv_iload hx hb dX2_takeItem_37 (lv_at hl 5 rfl) ?_
        refine lv_sipush (v := (nI 1000)) hx hb dX2_takeItem_39 (by decide) ?_
        refine lv_icmp_ge (tgt := 84) hx hb dX2_takeItem_42 (by decide) (fun c_42 => ?_) (fun c_42 => ?_)
        · skip
          have c_42 : 1000 ≤ i := (nI_leI (a := 1000) (b := i) (by omega) (by omega)).mp c_42
          exfalso
          omega
        · skip
          have c_42 : ¬ 1000 ≤ i := fun z => c_42 ((nI_leI (a := 1000) (b := i) (by omega) (by omega)).mpr z)
          refine lv_iload hx hb dX2_takeItem_45 (lv_at hl 4 rfl) ?_
          refine lv_if_lt (tgt := 84) hx hb dX2_takeItem_47 (by decide) (fun _ => ?_) (fun c_47 => absurd (by decide) c_47)
          have hit : itP tp tz ta = (tz, nn) := hfg.trans (by rw [q1]; exact fgA_stop (by omega) _)
          refine lv_iload hx hb dX2_takeItem_84 (lv_at hl 4 rfl) ?_
          refine lv_iconst (v := (-1)) hx hb dX2_takeItem_86 (by decide) ?_
          refine lv_icmp_ne (tgt := 92) hx hb dX2_takeItem_87 (by decide) (fun c_87 => absurd (by decide) c_87) (fun _ => ?_)
          refine lv_iconst (v := 2) hx hb dX2_takeItem_90 (by decide) ?_
          have hk : iK tp tz ta = 2 := iK_2 c_t4 c_18 hit
          exact ret_i hx hb hr hlocks (w, pl, ld, nx, tz) ⟨(by first | (simp [kCode, hk, hit]; done) | (simp [kCode, hk, hit]; omega)), (by first | (simp [kW, hk, hit]; done) | (simp [kW, hk, hit]; omega)), (by first | (simp [kPl, hk, hit]; done) | (simp [kPl, hk, hit]; omega)), (by first | (simp [kLd, hk, hit]; done) | (simp [kLd, hk, hit]; omega)), (by first | (simp [kNx, hk, hit]; done) | (simp [kNx, hk, hit]; omega)), (by first | (simp [kTa, hk, hit]; done) | (simp [kTa, hk, hit]; omega))⟩ (hP.sub [0, 1, 2, 3, 4, 5] rfl) (hD.sub [0, 1, 2, 3, 4, 5] (by decide) rfl) hS dX2_takeItem_91
  have hta := ht ta
  refine lv_aload_n hx hb dX2_takeItem_0 rfl (lv_at hl 1 rfl) ?_
  refine va_getN (D := D) (ci := 3) (v := .ref a3) (C := RX3) (T := TX3) (N := 7) hx hb hts (by decide +kernel) hown hK hP 1 rfl rfl 2 (by decide) (va_Nw.use rfl (nf_X2_37 hE)) (fun _ h9 => h9) rfl dX2_takeItem_1 ?_
  rcases Nat.lt_or_ge (ta) tz with c_t4 | c_t4
  · skip
    refine kV_i (As := []) (rest := []) (wr := [(l0, .inr (2, [.int (nI pl), .int en, .int (nI ld)])), (h0, .inr (3, [.ref a1, .ref a2, .ref a3, .ref a4, .ref a5, .long mult, .int (nI nx)])), (a1, .inr (5, [.ref a6, .ref a7])), (a6, .inl (cI, 256, .inl w))]) ⟨hx, hb, hml, hown, hts⟩ (kX7_take_s l D Z cB cI cJ cZ s.heap.size a3 a8 tp tz ta (by first | assumption | omega) (by first | assumption | omega)) (cwV 0 hts gX2_takeItem_X7_take rfl rfl rfl (by decide +kernel) ⟨Nat.le_of_ble_eq_true rfl, Nat.le_of_ble_eq_true rfl⟩) hK hE hP hD hS hA 0 7 rfl rfl rfl [4, 5] [0, 1, 2, 3] rfl rfl rfl rfl rfl (by decide) hl.1 rfl rfl (Nat.le_of_ble_eq_true rfl) dX2_takeItem_4 ⟨Nat.le_of_ble_eq_true rfl, Nat.le_of_ble_eq_true rfl⟩ (fun r u H locs hp hP hD hS => ?_)
    try dsimp only at hp
    have hq_0 := hp
    have hq_0 := hq_0.symm
    subst hq_0
    have hP : va_P D vwCl [(l0, .inr (2, [.int (nI pl), .int en, .int (nI ld)])), (h0, .inr (3, [.ref a1, .ref a2, .ref a3, .ref a4, .ref a5, .long mult, .int (nI nx)])), (a1, .inr (5, [.ref a6, .ref a7])), (a6, .inl (cI, 256, .inl w)), (a3, .inr (7, [.ref a8, .int (nI tz), .int (nI (ta + 1))])), (a8, .inl (cB, 1000, .inl tp))] H := hP
    have hD : va_D A [(l0, .inr (2, [.int (nI pl), .int en, .int (nI ld)])), (h0, .inr (3, [.ref a1, .ref a2, .ref a3, .ref a4, .ref a5, .long mult, .int (nI nx)])), (a1, .inr (5, [.ref a6, .ref a7])), (a6, .inl (cI, 256, .inl w)), (a3, .inr (7, [.ref a8, .int (nI tz), .int (nI (ta + 1))])), (a8, .inl (cB, 1000, .inl tp))] := hD
    refine set_i (y := nI (iN (tp ta))) (nI_iN _).symm ?_
    refine lv_istore_n (lv' := [(2, .int (nI (iN (tp ta)))), (0, .ref l0), (1, .ref h0)]) hx hb dX2_takeItem_7 rfl hl (by decide) rfl (fun ls hl => ?_)
    refine lv_iload_n hx hb dX2_takeItem_8 rfl (lv_at hl 0 rfl) ?_
    refine lv_iconst (v := (-1)) hx hb dX2_takeItem_9 (by decide) ?_
    refine lv_icmp_ne (tgt := 15) hx hb dX2_takeItem_10 (by decide) (fun c_10 => ?_) (fun c_10 => ?_)
    · skip
      refine lv_iload_n hx hb dX2_takeItem_15 rfl (lv_at hl 0 rfl) ?_
      refine lv_bipush (v := (nI 16)) hx hb dX2_takeItem_16 (by decide) ?_
      refine lv_icmp_ne (tgt := 23) hx hb dX2_takeItem_18 (by decide) (fun c_18 => ?_) (fun c_18 => ?_)
      · skip
        have c_18 : ¬ (iN (tp ta)) = 16 := fun z => c_18 ((nI_eq (a := (iN (tp ta))) (b := 16) (by omega) (by omega)).mpr z)
        refine lv_iconst (v := (nI 0)) hx hb dX2_takeItem_23 (by decide) ?_
        refine lv_istore_n (lv' := [(3, .int (nI 0)), (2, .int (nI (iN (tp ta)))), (0, .ref l0), (1, .ref h0)]) hx hb dX2_takeItem_24 rfl hl (by decide) rfl (fun ls hl => ?_)
        refine lv_aload_n hx hb dX2_takeItem_25 rfl (lv_at hl 3 rfl) ?_
        refine va_getN (D := D) (ci := 3) (v := .ref a3) (C := RX3) (T := TX3) (N := 7) hx hb hts (by decide +kernel) hown hK hP 1 rfl rfl 2 (by decide) (va_Nw.use rfl (nf_X2_37 hE)) (fun _ h9 => h9) rfl dX2_takeItem_26 ?_
        rcases Nat.lt_or_ge (ta + 1) tz with c_t29 | c_t29
        · skip
          refine kV_i (As := []) (rest := []) (wr := [(l0, .inr (2, [.int (nI pl), .int en, .int (nI ld)])), (h0, .inr (3, [.ref a1, .ref a2, .ref a3, .ref a4, .ref a5, .long mult, .int (nI nx)])), (a1, .inr (5, [.ref a6, .ref a7])), (a6, .inl (cI, 256, .inl w))]) ⟨hx, hb, hml, hown, hts⟩ (kX7_take_s l D Z cB cI cJ cZ H.size a3 a8 tp tz (ta + 1) (by first | assumption | omega) (by first | assumption | omega)) (cwV 0 hts gX2_takeItem_X7_take rfl rfl rfl (by decide +kernel) ⟨Nat.le_of_ble_eq_true rfl, Nat.le_of_ble_eq_true rfl⟩) hK hE hP hD hS hA 0 7 rfl rfl rfl [4, 5] [0, 1, 2, 3] rfl rfl rfl rfl rfl (by decide) hl.1 rfl rfl (Nat.le_of_ble_eq_true rfl) dX2_takeItem_29 ⟨Nat.le_of_ble_eq_true rfl, Nat.le_of_ble_eq_true rfl⟩ (fun r u H locs hp hP hD hS => ?_)
          try dsimp only at hp
          have hq_0 := hp
          have hq_0 := hq_0.symm
          subst hq_0
          have hP : va_P D vwCl [(l0, .inr (2, [.int (nI pl), .int en, .int (nI ld)])), (h0, .inr (3, [.ref a1, .ref a2, .ref a3, .ref a4, .ref a5, .long mult, .int (nI nx)])), (a1, .inr (5, [.ref a6, .ref a7])), (a6, .inl (cI, 256, .inl w)), (a3, .inr (7, [.ref a8, .int (nI tz), .int (nI ((ta + 1) + 1))])), (a8, .inl (cB, 1000, .inl tp))] H := hP
          have hD : va_D A [(l0, .inr (2, [.int (nI pl), .int en, .int (nI ld)])), (h0, .inr (3, [.ref a1, .ref a2, .ref a3, .ref a4, .ref a5, .long mult, .int (nI nx)])), (a1, .inr (5, [.ref a6, .ref a7])), (a6, .inl (cI, 256, .inl w)), (a3, .inr (7, [.ref a8, .int (nI tz), .int (nI ((ta + 1) + 1))])), (a8, .inl (cB, 1000, .inl tp))] := hD
          refine set_i (y := nI (iN (tp (ta + 1)))) (nI_iN _).symm ?_
          refine lv_istore (lv' := [(4, .int (nI (iN (tp (ta + 1))))), (3, .int (nI 0)), (2, .int (nI (iN (tp ta)))), (0, .ref l0), (1, .ref h0)]) hx hb dX2_takeItem_32 hl (by decide) rfl (fun ls hl => ?_)
          refine lv_iconst (v := (nI 0)) hx hb dX2_takeItem_34 (by decide) ?_
          refine lv_istore (lv' := [(5, .int (nI 0)), (4, .int (nI (iN (tp (ta + 1))))), (3, .int (nI 0)), (2, .int (nI (iN (tp ta)))), (0, .ref l0), (1, .ref h0)]) hx hb dX2_takeItem_35 hl (by decide) rfl (fun ls hl => ?_)
          exact lp_37 _ (ta + 1) 0 0 (nI (iN (tp (ta + 1)))) ((ta + 1) + 1) _ _ _ (by first | assumption | omega) (by first | assumption | omega) (by first | assumption | omega) (by first | assumption | omega) (by first | assumption | omega) rfl (by first | exact Or.inl ⟨by omega, rfl, rfl⟩ | exact Or.inr ⟨by omega, rfl, by omega⟩) (Nat.lt_succ_self _) (hP.sub [0, 1, 2, 3, 4, 5] rfl) (hD.sub [0, 1, 2, 3, 4, 5] (by decide) rfl) hS (lv_sub hl [4, 5, 3, 2, 1, 0] rfl)
        · skip
          refine kV_i (As := []) (rest := []) (wr := [(l0, .inr (2, [.int (nI pl), .int en, .int (nI ld)])), (h0, .inr (3, [.ref a1, .ref a2, .ref a3, .ref a4, .ref a5, .long mult, .int (nI nx)])), (a1, .inr (5, [.ref a6, .ref a7])), (a6, .inl (cI, 256, .inl w)), (a8, .inl (cB, 1000, .inl tp))]) ⟨hx, hb, hml, hown, hts⟩ (kX7_take_n l D Z cB cI cJ cZ H.size a3 a8 tz (ta + 1) (by first | assumption | omega) (by first | assumption | omega)) (cwV 0 hts gX2_takeItem_X7_take rfl rfl rfl (by decide +kernel) ⟨Nat.le_of_ble_eq_true rfl, Nat.le_of_ble_eq_true rfl⟩) hK hE hP hD hS hA 0 7 rfl rfl rfl [4] [0, 1, 2, 3, 5] rfl rfl rfl rfl rfl (by decide) hl.1 rfl rfl (Nat.le_of_ble_eq_true rfl) dX2_takeItem_29 ⟨Nat.le_of_ble_eq_true rfl, Nat.le_of_ble_eq_true rfl⟩ (fun r u H locs hp hP hD hS => ?_)
          try dsimp only at hp
          have hq_0 := hp
          have hq_0 := hq_0.symm
          subst hq_0
          have hP : va_P D vwCl [(l0, .inr (2, [.int (nI pl), .int en, .int (nI ld)])), (h0, .inr (3, [.ref a1, .ref a2, .ref a3, .ref a4, .ref a5, .long mult, .int (nI nx)])), (a1, .inr (5, [.ref a6, .ref a7])), (a6, .inl (cI, 256, .inl w)), (a8, .inl (cB, 1000, .inl tp)), (a3, .inr (7, [.ref a8, .int (nI tz), .int (nI (ta + 1))]))] H := hP
          have hD : va_D A [(l0, .inr (2, [.int (nI pl), .int en, .int (nI ld)])), (h0, .inr (3, [.ref a1, .ref a2, .ref a3, .ref a4, .ref a5, .long mult, .int (nI nx)])), (a1, .inr (5, [.ref a6, .ref a7])), (a6, .inl (cI, 256, .inl w)), (a8, .inl (cB, 1000, .inl tp)), (a3, .inr (7, [.ref a8, .int (nI tz), .int (nI (ta + 1))]))] := hD
          refine lv_istore (lv' := [(4, .int (-1)), (3, .int (nI 0)), (2, .int (nI (iN (tp ta)))), (0, .ref l0), (1, .ref h0)]) hx hb dX2_takeItem_32 hl (by decide) rfl (fun ls hl => ?_)
          refine lv_iconst (v := (nI 0)) hx hb dX2_takeItem_34 (by decide) ?_
          refine lv_istore (lv' := [(5, .int (nI 0)), (4, .int (-1)), (3, .int (nI 0)), (2, .int (nI (iN (tp ta)))), (0, .ref l0), (1, .ref h0)]) hx hb dX2_takeItem_35 hl (by decide) rfl (fun ls hl => ?_)
          exact lp_37 _ (ta + 1) 0 0 (-1) (ta + 1) _ _ _ (by first | assumption | omega) (by first | assumption | omega) (by first | assumption | omega) (by first | assumption | omega) (by first | assumption | omega) rfl (by first | exact Or.inl ⟨by omega, rfl, rfl⟩ | exact Or.inr ⟨by omega, rfl, by omega⟩) (Nat.lt_succ_self _) (hP.sub [0, 1, 2, 3, 5, 4] rfl) (hD.sub [0, 1, 2, 3, 5, 4] (by decide) rfl) hS (lv_sub hl [4, 5, 3, 2, 1, 0] rfl)
      · skip
        have c_18 : (iN (tp ta)) = 16 := (nI_eq (a := (iN (tp ta))) (b := 16) (by omega) (by omega)).mp c_18
        refine lv_iconst (v := (-1)) hx hb dX2_takeItem_21 (by decide) ?_
        have hk : iK tp tz ta = 1 := iK_1 c_t4 c_18
        exact ret_i hx hb hr hlocks (w, pl, ld, nx, (ta + 1)) ⟨(by first | (simp [kCode, hk]; done) | (simp [kCode, hk]; omega)), (by first | (simp [kW, hk]; done) | (simp [kW, hk]; omega)), (by first | (simp [kPl, hk]; done) | (simp [kPl, hk]; omega)), (by first | (simp [kLd, hk]; done) | (simp [kLd, hk]; omega)), (by first | (simp [kNx, hk]; done) | (simp [kNx, hk]; omega)), (by first | (simp [kTa, hk]; done) | (simp [kTa, hk]; omega))⟩ (hP.sub [0, 1, 2, 3, 4, 5] rfl) (hD.sub [0, 1, 2, 3, 4, 5] (by decide) rfl) hS dX2_takeItem_22
    · skip
      exfalso
      exact nI_ne_m1 (by omega) c_10
  · skip
    refine kV_i (As := []) (rest := []) (wr := [(l0, .inr (2, [.int (nI pl), .int en, .int (nI ld)])), (h0, .inr (3, [.ref a1, .ref a2, .ref a3, .ref a4, .ref a5, .long mult, .int (nI nx)])), (a1, .inr (5, [.ref a6, .ref a7])), (a6, .inl (cI, 256, .inl w)), (a8, .inl (cB, 1000, .inl tp))]) ⟨hx, hb, hml, hown, hts⟩ (kX7_take_n l D Z cB cI cJ cZ s.heap.size a3 a8 tz ta (by first | assumption | omega) (by first | assumption | omega)) (cwV 0 hts gX2_takeItem_X7_take rfl rfl rfl (by decide +kernel) ⟨Nat.le_of_ble_eq_true rfl, Nat.le_of_ble_eq_true rfl⟩) hK hE hP hD hS hA 0 7 rfl rfl rfl [4] [0, 1, 2, 3, 5] rfl rfl rfl rfl rfl (by decide) hl.1 rfl rfl (Nat.le_of_ble_eq_true rfl) dX2_takeItem_4 ⟨Nat.le_of_ble_eq_true rfl, Nat.le_of_ble_eq_true rfl⟩ (fun r u H locs hp hP hD hS => ?_)
    try dsimp only at hp
    have hq_0 := hp
    have hq_0 := hq_0.symm
    subst hq_0
    have hP : va_P D vwCl [(l0, .inr (2, [.int (nI pl), .int en, .int (nI ld)])), (h0, .inr (3, [.ref a1, .ref a2, .ref a3, .ref a4, .ref a5, .long mult, .int (nI nx)])), (a1, .inr (5, [.ref a6, .ref a7])), (a6, .inl (cI, 256, .inl w)), (a8, .inl (cB, 1000, .inl tp)), (a3, .inr (7, [.ref a8, .int (nI tz), .int (nI ta)]))] H := hP
    have hD : va_D A [(l0, .inr (2, [.int (nI pl), .int en, .int (nI ld)])), (h0, .inr (3, [.ref a1, .ref a2, .ref a3, .ref a4, .ref a5, .long mult, .int (nI nx)])), (a1, .inr (5, [.ref a6, .ref a7])), (a6, .inl (cI, 256, .inl w)), (a8, .inl (cB, 1000, .inl tp)), (a3, .inr (7, [.ref a8, .int (nI tz), .int (nI ta)]))] := hD
    refine lv_istore_n (lv' := [(2, .int (-1)), (0, .ref l0), (1, .ref h0)]) hx hb dX2_takeItem_7 rfl hl (by decide) rfl (fun ls hl => ?_)
    refine lv_iload_n hx hb dX2_takeItem_8 rfl (lv_at hl 0 rfl) ?_
    refine lv_iconst (v := (-1)) hx hb dX2_takeItem_9 (by decide) ?_
    refine lv_icmp_ne (tgt := 15) hx hb dX2_takeItem_10 (by decide) (fun c_10 => absurd (by decide) c_10) (fun _ => ?_)
    refine lv_iconst (v := 1) hx hb dX2_takeItem_13 (by decide) ?_
    have hk : iK tp tz ta = 0 := iK_0 c_t4
    exact ret_i hx hb hr hlocks (w, pl, ld, nx, ta) ⟨(by first | (simp [kCode, hk]; done) | (simp [kCode, hk]; omega)), (by first | (simp [kW, hk]; done) | (simp [kW, hk]; omega)), (by first | (simp [kPl, hk]; done) | (simp [kPl, hk]; omega)), (by first | (simp [kLd, hk]; done) | (simp [kLd, hk]; omega)), (by first | (simp [kNx, hk]; done) | (simp [kNx, hk]; omega)), (by first | (simp [kTa, hk]; done) | (simp [kTa, hk]; omega))⟩ (hP.sub [0, 1, 2, 3, 5, 4] rfl) (hD.sub [0, 1, 2, 3, 5, 4] (by decide) rfl) hS dX2_takeItem_14
