theorem ldR_step {tp : Nat → Int32} {tz : Nat} (w : Nat → Int32) (nx pl ld : Nat) {ta : Nat} (h : ta ≤ tz) : ldR tp tz (tz - ta + 1) w nx pl ld ta = if kCode (iK tp tz ta) = -1 then ldR tp tz (tz - kTa tp tz ta + 1) (kW tp tz ta w pl) (kNx tp tz ta nx) (kPl tp tz ta pl) (kLd tp tz ta ld) (kTa tp tz ta) else (kW tp tz ta w pl, kNx tp tz ta nx, kPl tp tz ta pl, kLd tp tz ta ld, kTa tp tz ta, kCode (iK tp tz ta)) := by
  obtain ⟨a, b, d⟩ := kTa_in (tp := tp) h
  rw [ldR]
  by_cases q : kCode (iK tp tz ta) = -1
  · rw [if_pos q, if_pos q]
    have := d q
    exact ldR_fuel _ _ _ _ _ _ _ b (by omega) (by omega)
  · rw [if_neg q, if_neg q]
theorem kPl_lt {tp : Nat → Int32} {tz ta pl : Nat} (h : pl < 256) : kPl tp tz ta pl < 256 := by
  unfold kPl
  split
  · omega
  · split <;> omega
theorem ld_if {α : Type} {en : Int32} {x y : α} (h : en = -1) : (if en = -1 then x else y) = x := if_pos h
set_option maxHeartbeats 4000000 in
set_option maxRecDepth 100000 in
theorem kX2_takeTape (l : Launch) (D : va_G) (Z : SZ) (cB cI cJ cZ : ClassId) (ksz : Nat) (l0 : Nat) (h0 : Nat) (a1 : Nat) (a2 : Nat) (a3 : Nat) (a4 : Nat) (a5 : Nat) (a6 : Nat) (a7 : Nat) (a8 : Nat) (w : Nat → Int32) (mult : Int64) (nx : Nat) (ld : Nat) (pv : Int32) (en : Int32) (tp : Nat → Int32) (tz : Nat) (ta : Nat) (ht : ∀ k : Nat, iN (tp k) < 32) (hz : tz ≤ 1000) (ha0 : ta ≤ tz) : Met l yX2_takeTape wsX2_takeTape { frames := 3, cells := 0, slots := 0, locals := 70 } (PR D Z [(cB, .byte), (cI, .int), (cJ, .long), (cZ, .boolean)] [.ref l0, .ref h0] [(l0, .inr (2, [.int pv, .int en, .int (nI ld)])), (h0, .inr (3, [.ref a1, .ref a2, .ref a3, .ref a4, .ref a5, .long mult, .int (nI nx)])), (a1, .inr (5, [.ref a6, .ref a7])), (a6, .inl (cI, 256, .inl w)), (a3, .inr (7, [.ref a8, .int (nI tz), .int (nI ta)])), (a8, .inl (cB, 1000, .inl tp))] ksz) (QI D (fun (r : Int32) (u : (Nat → Int32) × Nat × Nat × Nat × Nat × Int32) => r = (nI (ldA tp tz w nx ta).2.2.2.1) ∧ u.1 = ((ldA tp tz w nx ta).1) ∧ u.2.1 = ((ldA tp tz w nx ta).2.1) ∧ u.2.2.1 = ((ldA tp tz w nx ta).2.2.1) ∧ u.2.2.2.1 = ((ldA tp tz w nx ta).2.2.2.1) ∧ u.2.2.2.2.1 = ((ldA tp tz w nx ta).2.2.2.2.1) ∧ u.2.2.2.2.2 = ((ldA tp tz w nx ta).2.2.2.2.2)) (fun (u : (Nat → Int32) × Nat × Nat × Nat × Nat × Int32) => [(l0, .inr (2, [.int (nI u.2.2.1), .int u.2.2.2.2.2, .int (nI u.2.2.2.1)])), (h0, .inr (3, [.ref a1, .ref a2, .ref a3, .ref a4, .ref a5, .long mult, .int (nI u.2.1)])), (a1, .inr (5, [.ref a6, .ref a7])), (a6, .inl (cI, 256, .inl u.1)), (a3, .inr (7, [.ref a8, .int (nI tz), .int (nI u.2.2.2.2.1)])), (a8, .inl (cB, 1000, .inl tp))]) (va_A [(l0, .inr (2, [.int pv, .int en, .int (nI ld)])), (h0, .inr (3, [.ref a1, .ref a2, .ref a3, .ref a4, .ref a5, .long mult, .int (nI nx)])), (a1, .inr (5, [.ref a6, .ref a7])), (a6, .inl (cI, 256, .inl w)), (a3, .inr (7, [.ref a8, .int (nI tz), .int (nI ta)])), (a8, .inl (cB, 1000, .inl tp))] ksz)) 0 0 (va_A [(l0, .inr (2, [.int pv, .int en, .int (nI ld)])), (h0, .inr (3, [.ref a1, .ref a2, .ref a3, .ref a4, .ref a5, .long mult, .int (nI nx)])), (a1, .inr (5, [.ref a6, .ref a7])), (a6, .inl (cI, 256, .inl w)), (a3, .inr (7, [.ref a8, .int (nI tz), .int (nI ta)])), (a8, .inl (cB, 1000, .inl tp))] ksz) := by
  refine met_g (QI D (fun (r : Int32) (u : (Nat → Int32) × Nat × Nat × Nat × Nat × Int32) => r = (nI (ldA tp tz w nx ta).2.2.2.1) ∧ u.1 = ((ldA tp tz w nx ta).1) ∧ u.2.1 = ((ldA tp tz w nx ta).2.1) ∧ u.2.2.1 = ((ldA tp tz w nx ta).2.2.1) ∧ u.2.2.2.1 = ((ldA tp tz w nx ta).2.2.2.1) ∧ u.2.2.2.2.1 = ((ldA tp tz w nx ta).2.2.2.2.1) ∧ u.2.2.2.2.2 = ((ldA tp tz w nx ta).2.2.2.2.2)) (fun (u : (Nat → Int32) × Nat × Nat × Nat × Nat × Int32) => [(l0, .inr (2, [.int (nI u.2.2.1), .int u.2.2.2.2.2, .int (nI u.2.2.2.1)])), (h0, .inr (3, [.ref a1, .ref a2, .ref a3, .ref a4, .ref a5, .long mult, .int (nI u.2.1)])), (a1, .inr (5, [.ref a6, .ref a7])), (a6, .inl (cI, 256, .inl u.1)), (a3, .inr (7, [.ref a8, .int (nI tz), .int (nI u.2.2.2.2.1)])), (a8, .inl (cB, 1000, .inl tp))])) cX2_takeTape 3 (some .int) (by decide) rfl (Nat.le_of_ble_eq_true rfl) ?_
  intro p e s m below meth c A ls hx hb hr hts hown hlocks hml hin hA hP hK hD hE hS hl hsz
  clear hsz
  have hl : lv_has ls 3 [(0, .ref l0), (1, .ref h0)] := hl
  have lp_38 : ∀ (n_38 : Nat) (i : Nat) (w1 : Nat → Int32) (nx1 : Nat) (pl1 : Nat) (ld1 : Nat) (ta1 : Nat) (en1 : Int32) (H : Heap) (locs : List Loc) (ls : Array Slot), (i ≤ 1001) → (en1 = -1 → i ≤ ta1) → (ta1 ≤ tz) → (pl1 < 256) → (ldA tp tz w nx ta = if en1 = -1 then ldR tp tz (tz - ta1 + 1) w1 nx1 pl1 ld1 ta1 else (w1, nx1, pl1, ld1, ta1, en1)) → (1001 - i) < n_38 → va_P D vwCl [(l0, .inr (2, [.int (nI pl1), .int en1, .int (nI ld1)])), (h0, .inr (3, [.ref a1, .ref a2, .ref a3, .ref a4, .ref a5, .long mult, .int (nI nx1)])), (a1, .inr (5, [.ref a6, .ref a7])), (a6, .inl (cI, 256, .inl w1)), (a3, .inr (7, [.ref a8, .int (nI tz), .int (nI ta1)])), (a8, .inl (cB, 1000, .inl tp))] H → va_D A [(l0, .inr (2, [.int (nI pl1), .int en1, .int (nI ld1)])), (h0, .inr (3, [.ref a1, .ref a2, .ref a3, .ref a4, .ref a5, .long mult, .int (nI nx1)])), (a1, .inr (5, [.ref a6, .ref a7])), (a6, .inl (cI, 256, .inl w1)), (a3, .inr (7, [.ref a8, .int (nI tz), .int (nI ta1)])), (a8, .inl (cB, 1000, .inl tp))] → va_S A s.heap H locs → lv_has ls 3 [(0, .ref l0), (1, .ref h0), (2, .int (nI i))] → W p l e { frames := 3, cells := 0, slots := 0, locals := 70 } s m ([.ref l0, .ref h0] : List Value).toArray below meth c H locs 0 0 (MQ below (QI D (fun (r : Int32) (u : (Nat → Int32) × Nat × Nat × Nat × Nat × Int32) => r = (nI (ldA tp tz w nx ta).2.2.2.1) ∧ u.1 = ((ldA tp tz w nx ta).1) ∧ u.2.1 = ((ldA tp tz w nx ta).2.1) ∧ u.2.2.1 = ((ldA tp tz w nx ta).2.2.1) ∧ u.2.2.2.1 = ((ldA tp tz w nx ta).2.2.2.1) ∧ u.2.2.2.2.1 = ((ldA tp tz w nx ta).2.2.2.2.1) ∧ u.2.2.2.2.2 = ((ldA tp tz w nx ta).2.2.2.2.2)) (fun (u : (Nat → Int32) × Nat × Nat × Nat × Nat × Int32) => [(l0, .inr (2, [.int (nI u.2.2.1), .int u.2.2.2.2.2, .int (nI u.2.2.2.1)])), (h0, .inr (3, [.ref a1, .ref a2, .ref a3, .ref a4, .ref a5, .long mult, .int (nI u.2.1)])), (a1, .inr (5, [.ref a6, .ref a7])), (a6, .inl (cI, 256, .inl u.1)), (a3, .inr (7, [.ref a8, .int (nI tz), .int (nI u.2.2.2.2.1)])), (a8, .inl (cB, 1000, .inl tp))]) A) ([.ref l0, .ref h0] : List Value).toArray s 0 0 A) (F0 m 38 ls []) := by
    intro n_38
    induction n_38 with
    | zero => intro i w1 nx1 pl1 ld1 ta1 en1 H locs ls h1 h2 ha hpl hR hm_38; exact absurd hm_38 (Nat.not_lt_zero _)
    | succ n_38 ih_38 =>
      intro i w1 nx1 pl1 ld1 ta1 en1 H locs ls h1 h2 ha hpl hR hm_38 hP hD hS hl
      rcases Decidable.em (en1 = -1) with rfl | hen
      · skip
        have hR := hR.trans ((if_pos rfl).trans (ldR_step w1 nx1 pl1 ld1 ha))
        refine lv_iload_n hx hb dX2_takeTape_38 rfl (lv_at hl 2 rfl) ?_
        refine lv_sipush (v := (nI 1000)) hx hb dX2_takeTape_39 (by decide) ?_
        refine lv_icmp_gt (tgt := 68) hx hb dX2_takeTape_42 (by decide) (fun c_42 => ?_) (fun c_42 => ?_)
        · skip
          have c_42 : 1000 < i := (nI_ltI (a := 1000) (b := i) (by omega) (by omega)).mp c_42
          exfalso
          have := h2 rfl; omega
        · skip
          have c_42 : ¬ 1000 < i := fun z => c_42 ((nI_ltI (a := 1000) (b := i) (by omega) (by omega)).mpr z)
          refine lv_aload_n hx hb dX2_takeTape_45 rfl (lv_at hl 0 rfl) ?_
          refine va_get (D := D) (ci := 2) (v := .int (-1)) (C := RX2) (T := TX2) (N := 3) hx hb hts (by decide +kernel) hown hK hP 0 rfl rfl 1 (by decide) (hts (.fieldLink RX2 15 "TapeEngine$Loader" "end" "I") (by decide +kernel)) (fun _ h9 => h9) rfl dX2_takeTape_46 ?_
          refine lv_iconst (v := (-1)) hx hb dX2_takeTape_49 (by decide) ?_
          refine lv_icmp_ne (tgt := 68) hx hb dX2_takeTape_50 (by decide) (fun c_50 => absurd (by decide) c_50) (fun _ => ?_)
          refine lv_aload_n hx hb dX2_takeTape_53 rfl (lv_at hl 0 rfl) ?_
          refine lv_aload_n hx hb dX2_takeTape_54 rfl (lv_at hl 0 rfl) ?_
          refine lv_aload_n hx hb dX2_takeTape_55 rfl (lv_at hl 1 rfl) ?_
          refine kV_i (As := [.ref h0]) (rest := [.ref l0]) (wr := []) ⟨hx, hb, hml, hown, hts⟩ (kX2_takeItem l D Z cB cI cJ cZ H.size l0 h0 a1 a2 a3 a4 a5 a6 a7 a8 w1 mult nx1 pl1 ld1 (-1) tp tz ta1 (by first | assumption | omega) (by first | assumption | omega) (by first | assumption | omega) (by first | assumption | omega)) (cwV 1 hts gX2_takeTape_X2_takeItem rfl rfl rfl (by decide +kernel) ⟨Nat.le_of_ble_eq_true rfl, Nat.le_of_ble_eq_true rfl⟩) hK hE hP hD hS hA 0 2 rfl rfl rfl [0, 1, 2, 3, 4, 5] [] rfl rfl rfl rfl rfl (by decide) hl.1 rfl rfl (Nat.le_of_ble_eq_true rfl) dX2_takeTape_56 ⟨Nat.le_of_ble_eq_true rfl, Nat.le_of_ble_eq_true rfl⟩ (fun r u H locs hp hP hD hS => ?_)
          obtain ⟨v_1, v_2, v_3, v_4, v_5⟩ := u
          try dsimp only at hp
          obtain ⟨hq_0, hq_1, hq_2, hq_3, hq_4, hq_5⟩ := hp
          have hq_0 := hq_0.symm
          subst hq_0
          have hq_1 := hq_1.symm
          subst hq_1
          have hq_2 := hq_2.symm
          subst hq_2
          have hq_3 := hq_3.symm
          subst hq_3
          have hq_4 := hq_4.symm
          subst hq_4
          have hq_5 := hq_5.symm
          subst hq_5
          have hP : va_P D vwCl [(l0, .inr (2, [.int (nI (kPl tp tz ta1 pl1)), .int (-1), .int (nI (kLd tp tz ta1 ld1))])), (h0, .inr (3, [.ref a1, .ref a2, .ref a3, .ref a4, .ref a5, .long mult, .int (nI (kNx tp tz ta1 nx1))])), (a1, .inr (5, [.ref a6, .ref a7])), (a6, .inl (cI, 256, .inl (kW tp tz ta1 w1 pl1))), (a3, .inr (7, [.ref a8, .int (nI tz), .int (nI (kTa tp tz ta1))])), (a8, .inl (cB, 1000, .inl tp))] H := hP
          have hD : va_D A [(l0, .inr (2, [.int (nI (kPl tp tz ta1 pl1)), .int (-1), .int (nI (kLd tp tz ta1 ld1))])), (h0, .inr (3, [.ref a1, .ref a2, .ref a3, .ref a4, .ref a5, .long mult, .int (nI (kNx tp tz ta1 nx1))])), (a1, .inr (5, [.ref a6, .ref a7])), (a6, .inl (cI, 256, .inl (kW tp tz ta1 w1 pl1))), (a3, .inr (7, [.ref a8, .int (nI tz), .int (nI (kTa tp tz ta1))])), (a8, .inl (cB, 1000, .inl tp))] := hD
          refine va_put (D := D) (ci := 2) (v := .int (kCode (iK tp tz ta1))) (ty := .int) (C := RX2) (T := TX2) (N := 3) hx hb hts (by decide +kernel) tyX2 tyX2_ok nmX2 hown hK hP hD hS 0 rfl rfl 1 (by decide) (hts (.fieldLink RX2 15 "TapeEngine$Loader" "end" "I") (by decide +kernel)) (fun _ h9 => h9) rfl (by decide +kernel) rfl rfl (Nat.le_of_ble_eq_true rfl) dX2_takeTape_59 (fun H locs hP hD hS => ?_)
          have hP : va_P D vwCl [(l0, .inr (2, [.int (nI (kPl tp tz ta1 pl1)), .int (kCode (iK tp tz ta1)), .int (nI (kLd tp tz ta1 ld1))])), (h0, .inr (3, [.ref a1, .ref a2, .ref a3, .ref a4, .ref a5, .long mult, .int (nI (kNx tp tz ta1 nx1))])), (a1, .inr (5, [.ref a6, .ref a7])), (a6, .inl (cI, 256, .inl (kW tp tz ta1 w1 pl1))), (a3, .inr (7, [.ref a8, .int (nI tz), .int (nI (kTa tp tz ta1))])), (a8, .inl (cB, 1000, .inl tp))] H := hP
          have hD : va_D A [(l0, .inr (2, [.int (nI (kPl tp tz ta1 pl1)), .int (kCode (iK tp tz ta1)), .int (nI (kLd tp tz ta1 ld1))])), (h0, .inr (3, [.ref a1, .ref a2, .ref a3, .ref a4, .ref a5, .long mult, .int (nI (kNx tp tz ta1 nx1))])), (a1, .inr (5, [.ref a6, .ref a7])), (a6, .inl (cI, 256, .inl (kW tp tz ta1 w1 pl1))), (a3, .inr (7, [.ref a8, .int (nI tz), .int (nI (kTa tp tz ta1))])), (a8, .inl (cB, 1000, .inl tp))] := hD
          refine lv_iinc (v := (nI (i + 1))) (lv' := [(2, .int (nI (i + 1))), (0, .ref l0), (1, .ref h0)]) hx hb dX2_takeTape_62 hl (k := 2) rfl (nI_1 _) (by decide) rfl (fun ls hl => ?_)
          refine lv_goto (tgt := 38) hx hb dX2_takeTape_65 (by decide) ?_
          exact ih_38 (i + 1) (kW tp tz ta1 w1 pl1) (kNx tp tz ta1 nx1) (kPl tp tz ta1 pl1) (kLd tp tz ta1 ld1) (kTa tp tz ta1) (kCode (iK tp tz ta1)) _ _ _ (by have := h2 rfl; omega) (fun z => by have := (kTa_in (tp := tp) ha).2.2 z; have := h2 rfl; omega) (kTa_in ha).2.1 (kPl_lt hpl) hR (by have := h2 rfl; omega) (hP.sub [0, 1, 2, 3, 4, 5] rfl) (hD.sub [0, 1, 2, 3, 4, 5] (by decide) rfl) hS (lv_sub hl [1, 2, 0] rfl)
      · skip
        have ldX := hR.trans (if_neg hen)
        refine lv_iload_n hx hb dX2_takeTape_38 rfl (lv_at hl 2 rfl) ?_
        refine lv_sipush (v := (nI 1000)) hx hb dX2_takeTape_39 (by decide) ?_
        refine lv_icmp_gt (tgt := 68) hx hb dX2_takeTape_42 (by decide) (fun c_42 => ?_) (fun c_42 => ?_)
        · skip
          have c_42 : 1000 < i := (nI_ltI (a := 1000) (b := i) (by omega) (by omega)).mp c_42
          refine lv_aload_n hx hb dX2_takeTape_68 rfl (lv_at hl 0 rfl) ?_
          refine va_get (D := D) (ci := 2) (v := .int (nI ld1)) (C := RX2) (T := TX2) (N := 3) hx hb hts (by decide +kernel) hown hK hP 0 rfl rfl 2 (by decide) (hts (.fieldLink RX2 18 "TapeEngine$Loader" "laid" "I") (by decide +kernel)) (fun _ h9 => h9) rfl dX2_takeTape_69 ?_
          exact ret_i hx hb hr hlocks (w1, nx1, pl1, ld1, ta1, en1) ⟨(by rw [ldX]), (by rw [ldX]), (by rw [ldX]), (by rw [ldX]), (by rw [ldX]), (by rw [ldX]), (by rw [ldX])⟩ (hP.sub [0, 1, 2, 3, 4, 5] rfl) (hD.sub [0, 1, 2, 3, 4, 5] (by decide) rfl) hS dX2_takeTape_72
        · skip
          have c_42 : ¬ 1000 < i := fun z => c_42 ((nI_ltI (a := 1000) (b := i) (by omega) (by omega)).mpr z)
          refine lv_aload_n hx hb dX2_takeTape_45 rfl (lv_at hl 0 rfl) ?_
          refine va_get (D := D) (ci := 2) (v := .int en1) (C := RX2) (T := TX2) (N := 3) hx hb hts (by decide +kernel) hown hK hP 0 rfl rfl 1 (by decide) (hts (.fieldLink RX2 15 "TapeEngine$Loader" "end" "I") (by decide +kernel)) (fun _ h9 => h9) rfl dX2_takeTape_46 ?_
          refine lv_iconst (v := (-1)) hx hb dX2_takeTape_49 (by decide) ?_
          refine lv_icmp_ne (tgt := 68) hx hb dX2_takeTape_50 (by decide) (fun c_50 => ?_) (fun c_50 => ?_)
          · skip
            refine lv_aload_n hx hb dX2_takeTape_68 rfl (lv_at hl 0 rfl) ?_
            refine va_get (D := D) (ci := 2) (v := .int (nI ld1)) (C := RX2) (T := TX2) (N := 3) hx hb hts (by decide +kernel) hown hK hP 0 rfl rfl 2 (by decide) (hts (.fieldLink RX2 18 "TapeEngine$Loader" "laid" "I") (by decide +kernel)) (fun _ h9 => h9) rfl dX2_takeTape_69 ?_
            exact ret_i hx hb hr hlocks (w1, nx1, pl1, ld1, ta1, en1) ⟨(by rw [ldX]), (by rw [ldX]), (by rw [ldX]), (by rw [ldX]), (by rw [ldX]), (by rw [ldX]), (by rw [ldX])⟩ (hP.sub [0, 1, 2, 3, 4, 5] rfl) (hD.sub [0, 1, 2, 3, 4, 5] (by decide) rfl) hS dX2_takeTape_72
          · skip
            exfalso
            exact hen c_50
  refine lv_aload_n hx hb dX2_takeTape_0 rfl (lv_at hl 0 rfl) ?_
  refine lv_bipush (v := (nI 64)) hx hb dX2_takeTape_1 (by decide) ?_
  refine va_put (D := D) (ci := 2) (v := .int (nI 64)) (ty := .int) (C := RX2) (T := TX2) (N := 3) hx hb hts (by decide +kernel) tyX2 tyX2_ok nmX2 hown hK hP hD hS 0 rfl rfl 0 (by decide) (hts (.fieldLink RX2 9 "TapeEngine$Loader" "place" "I") (by decide +kernel)) (fun _ h9 => h9) rfl (by decide +kernel) rfl rfl (Nat.le_of_ble_eq_true rfl) dX2_takeTape_3 (fun H locs hP hD hS => ?_)
  have hP : va_P D vwCl [(l0, .inr (2, [.int (nI 64), .int en, .int (nI ld)])), (h0, .inr (3, [.ref a1, .ref a2, .ref a3, .ref a4, .ref a5, .long mult, .int (nI nx)])), (a1, .inr (5, [.ref a6, .ref a7])), (a6, .inl (cI, 256, .inl w)), (a3, .inr (7, [.ref a8, .int (nI tz), .int (nI ta)])), (a8, .inl (cB, 1000, .inl tp))] H := hP
  have hD : va_D A [(l0, .inr (2, [.int (nI 64), .int en, .int (nI ld)])), (h0, .inr (3, [.ref a1, .ref a2, .ref a3, .ref a4, .ref a5, .long mult, .int (nI nx)])), (a1, .inr (5, [.ref a6, .ref a7])), (a6, .inl (cI, 256, .inl w)), (a3, .inr (7, [.ref a8, .int (nI tz), .int (nI ta)])), (a8, .inl (cB, 1000, .inl tp))] := hD
  refine lv_aload_n hx hb dX2_takeTape_6 rfl (lv_at hl 0 rfl) ?_
  refine lv_iconst (v := 0) hx hb dX2_takeTape_7 (by decide) ?_
  refine va_put (D := D) (ci := 2) (v := .int 0) (ty := .int) (C := RX2) (T := TX2) (N := 3) hx hb hts (by decide +kernel) tyX2 tyX2_ok nmX2 hown hK hP hD hS 0 rfl rfl 2 (by decide) (hts (.fieldLink RX2 18 "TapeEngine$Loader" "laid" "I") (by decide +kernel)) (fun _ h9 => h9) rfl (by decide +kernel) rfl rfl (Nat.le_of_ble_eq_true rfl) dX2_takeTape_8 (fun H locs hP hD hS => ?_)
  have hP : va_P D vwCl [(l0, .inr (2, [.int (nI 64), .int en, .int 0])), (h0, .inr (3, [.ref a1, .ref a2, .ref a3, .ref a4, .ref a5, .long mult, .int (nI nx)])), (a1, .inr (5, [.ref a6, .ref a7])), (a6, .inl (cI, 256, .inl w)), (a3, .inr (7, [.ref a8, .int (nI tz), .int (nI ta)])), (a8, .inl (cB, 1000, .inl tp))] H := hP
  have hD : va_D A [(l0, .inr (2, [.int (nI 64), .int en, .int 0])), (h0, .inr (3, [.ref a1, .ref a2, .ref a3, .ref a4, .ref a5, .long mult, .int (nI nx)])), (a1, .inr (5, [.ref a6, .ref a7])), (a6, .inl (cI, 256, .inl w)), (a3, .inr (7, [.ref a8, .int (nI tz), .int (nI ta)])), (a8, .inl (cB, 1000, .inl tp))] := hD
  refine lv_aload_n hx hb dX2_takeTape_11 rfl (lv_at hl 1 rfl) ?_
  refine va_getN (D := D) (ci := 3) (v := .ref a1) (C := RX3) (T := TX3) (N := 7) hx hb hts (by decide +kernel) hown hK hP 1 rfl rfl 0 (by decide) (va_Nw.use rfl (nf_X2_21 hE)) (fun _ h9 => h9) rfl dX2_takeTape_12 ?_
  refine lv_bipush (v := (nI 41)) hx hb dX2_takeTape_15 (by decide) ?_
  refine lv_iconst (v := 0) hx hb dX2_takeTape_17 (by decide) ?_
  refine kV_v (As := [.int (nI 41), .int 0]) (rest := []) (wr := [(l0, .inr (2, [.int (nI 64), .int en, .int 0])), (h0, .inr (3, [.ref a1, .ref a2, .ref a3, .ref a4, .ref a5, .long mult, .int (nI nx)])), (a3, .inr (7, [.ref a8, .int (nI tz), .int (nI ta)])), (a8, .inl (cB, 1000, .inl tp))]) ⟨hx, hb, hml, hown, hts⟩ (kX5_layShort l D Z cB cI cJ cZ H.size a1 a6 a7 w 41 0 (by first | assumption | omega)) (cwV 2 hts gX2_takeTape_X5_layShort rfl rfl rfl (by decide +kernel) ⟨Nat.le_of_ble_eq_true rfl, Nat.le_of_ble_eq_true rfl⟩) hK hE hP hD hS hA 0 5 rfl rfl rfl [2, 3] [0, 1, 4, 5] rfl rfl rfl rfl rfl (by decide) hl.1 rfl rfl (Nat.le_of_ble_eq_true rfl) dX2_takeTape_18 ⟨Nat.le_of_ble_eq_true rfl, Nat.le_of_ble_eq_true rfl⟩ (fun u H locs hp hP hD hS => ?_)
  obtain ⟨v_6, rfl⟩ : ∃ z, z = u := ⟨_, rfl⟩
  try dsimp only at hp
  have hq_0 := hp
  have hq_0 := hq_0.symm
  subst hq_0
  have hP : va_P D vwCl [(l0, .inr (2, [.int (nI 64), .int en, .int 0])), (h0, .inr (3, [.ref a1, .ref a2, .ref a3, .ref a4, .ref a5, .long mult, .int (nI nx)])), (a3, .inr (7, [.ref a8, .int (nI tz), .int (nI ta)])), (a8, .inl (cB, 1000, .inl tp)), (a1, .inr (5, [.ref a6, .ref a7])), (a6, .inl (cI, 256, .inl (upd w 41 ((0 : Int32) &&& 131071))))] H := hP
  have hD : va_D A [(l0, .inr (2, [.int (nI 64), .int en, .int 0])), (h0, .inr (3, [.ref a1, .ref a2, .ref a3, .ref a4, .ref a5, .long mult, .int (nI nx)])), (a3, .inr (7, [.ref a8, .int (nI tz), .int (nI ta)])), (a8, .inl (cB, 1000, .inl tp)), (a1, .inr (5, [.ref a6, .ref a7])), (a6, .inl (cI, 256, .inl (upd w 41 ((0 : Int32) &&& 131071))))] := hD
  refine lv_aload_n hx hb dX2_takeTape_21 rfl (lv_at hl 1 rfl) ?_
  refine va_getN (D := D) (ci := 3) (v := .ref a1) (C := RX3) (T := TX3) (N := 7) hx hb hts (by decide +kernel) hown hK hP 1 rfl rfl 0 (by decide) (va_Nw.use rfl (nf_X2_21 hE)) (fun _ h9 => h9) rfl dX2_takeTape_22 ?_
  refine lv_bipush (v := (nI 43)) hx hb dX2_takeTape_25 (by decide) ?_
  refine lv_iconst (v := 1) hx hb dX2_takeTape_27 (by decide) ?_
  refine kV_v (As := [.int (nI 43), .int 1]) (rest := []) (wr := [(l0, .inr (2, [.int (nI 64), .int en, .int 0])), (h0, .inr (3, [.ref a1, .ref a2, .ref a3, .ref a4, .ref a5, .long mult, .int (nI nx)])), (a3, .inr (7, [.ref a8, .int (nI tz), .int (nI ta)])), (a8, .inl (cB, 1000, .inl tp))]) ⟨hx, hb, hml, hown, hts⟩ (kX5_layShort l D Z cB cI cJ cZ H.size a1 a6 a7 (upd w 41 ((0 : Int32) &&& 131071)) 43 1 (by first | assumption | omega)) (cwV 2 hts gX2_takeTape_X5_layShort rfl rfl rfl (by decide +kernel) ⟨Nat.le_of_ble_eq_true rfl, Nat.le_of_ble_eq_true rfl⟩) hK hE hP hD hS hA 0 5 rfl rfl rfl [4, 5] [0, 1, 2, 3] rfl rfl rfl rfl rfl (by decide) hl.1 rfl rfl (Nat.le_of_ble_eq_true rfl) dX2_takeTape_28 ⟨Nat.le_of_ble_eq_true rfl, Nat.le_of_ble_eq_true rfl⟩ (fun u H locs hp hP hD hS => ?_)
  obtain ⟨v_7, rfl⟩ : ∃ z, z = u := ⟨_, rfl⟩
  try dsimp only at hp
  have hq_0 := hp
  have hq_0 := hq_0.symm
  subst hq_0
  have hP : va_P D vwCl [(l0, .inr (2, [.int (nI 64), .int en, .int 0])), (h0, .inr (3, [.ref a1, .ref a2, .ref a3, .ref a4, .ref a5, .long mult, .int (nI nx)])), (a3, .inr (7, [.ref a8, .int (nI tz), .int (nI ta)])), (a8, .inl (cB, 1000, .inl tp)), (a1, .inr (5, [.ref a6, .ref a7])), (a6, .inl (cI, 256, .inl (upd (upd w 41 ((0 : Int32) &&& 131071)) 43 ((1 : Int32) &&& 131071))))] H := hP
  have hD : va_D A [(l0, .inr (2, [.int (nI 64), .int en, .int 0])), (h0, .inr (3, [.ref a1, .ref a2, .ref a3, .ref a4, .ref a5, .long mult, .int (nI nx)])), (a3, .inr (7, [.ref a8, .int (nI tz), .int (nI ta)])), (a8, .inl (cB, 1000, .inl tp)), (a1, .inr (5, [.ref a6, .ref a7])), (a6, .inl (cI, 256, .inl (upd (upd w 41 ((0 : Int32) &&& 131071)) 43 ((1 : Int32) &&& 131071))))] := hD
  refine lv_aload_n hx hb dX2_takeTape_31 rfl (lv_at hl 0 rfl) ?_
  refine lv_iconst (v := (-1)) hx hb dX2_takeTape_32 (by decide) ?_
  refine va_put (D := D) (ci := 2) (v := .int (-1)) (ty := .int) (C := RX2) (T := TX2) (N := 3) hx hb hts (by decide +kernel) tyX2 tyX2_ok nmX2 hown hK hP hD hS 0 rfl rfl 1 (by decide) (hts (.fieldLink RX2 15 "TapeEngine$Loader" "end" "I") (by decide +kernel)) (fun _ h9 => h9) rfl (by decide +kernel) rfl rfl (Nat.le_of_ble_eq_true rfl) dX2_takeTape_33 (fun H locs hP hD hS => ?_)
  have hP : va_P D vwCl [(l0, .inr (2, [.int (nI 64), .int (-1), .int 0])), (h0, .inr (3, [.ref a1, .ref a2, .ref a3, .ref a4, .ref a5, .long mult, .int (nI nx)])), (a3, .inr (7, [.ref a8, .int (nI tz), .int (nI ta)])), (a8, .inl (cB, 1000, .inl tp)), (a1, .inr (5, [.ref a6, .ref a7])), (a6, .inl (cI, 256, .inl (upd (upd w 41 ((0 : Int32) &&& 131071)) 43 ((1 : Int32) &&& 131071))))] H := hP
  have hD : va_D A [(l0, .inr (2, [.int (nI 64), .int (-1), .int 0])), (h0, .inr (3, [.ref a1, .ref a2, .ref a3, .ref a4, .ref a5, .long mult, .int (nI nx)])), (a3, .inr (7, [.ref a8, .int (nI tz), .int (nI ta)])), (a8, .inl (cB, 1000, .inl tp)), (a1, .inr (5, [.ref a6, .ref a7])), (a6, .inl (cI, 256, .inl (upd (upd w 41 ((0 : Int32) &&& 131071)) 43 ((1 : Int32) &&& 131071))))] := hD
  refine lv_iconst (v := (nI 0)) hx hb dX2_takeTape_36 (by decide) ?_
  refine lv_istore_n (lv' := [(2, .int (nI 0)), (0, .ref l0), (1, .ref h0)]) hx hb dX2_takeTape_37 rfl hl (by decide) rfl (fun ls hl => ?_)
  exact lp_38 _ 0 (upd (upd w 41 ((0 : Int32) &&& 131071)) 43 ((1 : Int32) &&& 131071)) nx 64 0 ta (-1) _ _ _ (by first | assumption | omega) (fun _ => Nat.zero_le _) (by first | assumption | omega) (by first | assumption | omega) ((if_pos rfl).symm) (Nat.lt_succ_self _) (hP.sub [0, 1, 4, 5, 2, 3] rfl) (hD.sub [0, 1, 4, 5, 2, 3] (by decide) rfl) hS (lv_sub hl [1, 2, 0] rfl)
