set_option maxHeartbeats 4000000 in
set_option maxRecDepth 100000 in
theorem kX9_count (l : Launch) (D : va_G) (Z : SZ) (cB cI cJ cZ : ClassId) (ksz : Nat) (e0 : Nat) (h0 : Nat) (g0 : Nat) (t0 : Nat) (l0 : Nat) (k0 : Nat) (f0 : Nat) (hk : Bool) (re : Int32) (t1 : Nat) (t2 : Nat) (t3 : Nat) (t4 : Nat) (t5 : Nat) (t6 : Nat) (t7 : Nat) (t8 : Nat) (t9 : Nat) (t10 : Nat) (nw : Nat) (ts : Nat) (a1 : Nat) (a2 : Nat) (a3 : Nat) (a4 : Nat) (a5 : Nat) (a8 : Nat) (a9 : Nat) (mult : Int64) (tz : Nat) (ta : Nat) (xz : Nat) (fg : Bool) (la : Int32) (nx : Nat) (k1 : Nat) (mz : Nat) (pv : Int32) (en : Int32) (ld : Nat) (w9 : Int32)  : Met l yX9_count wsX9_count { frames := 0, cells := 0, slots := 0, locals := 0 } (PR D Z [(cB, .byte), (cI, .int), (cJ, .long), (cZ, .boolean)] [.ref e0, .int w9] [(e0, .inr (9, [.ref h0, .ref g0, .ref t0, .ref l0, .ref k0, .ref f0, .int (bI hk), .int re])), (h0, .inr (3, [.ref a1, .ref a2, .ref a3, .ref a4, .ref a5, .long mult, .int (nI nx)])), (a3, .inr (7, [.ref a8, .int (nI tz), .int (nI ta)])), (a4, .inr (6, [.ref a9, .int (nI xz), .int (bI fg), .int la])), (k0, .inr (4, [.ref k1, .int (nI mz)])), (t0, .inr (8, [.ref t1, .ref t2, .ref t3, .ref t4, .ref t5, .ref t6, .ref t7, .ref t8, .ref t9, .ref t10, .int (nI nw), .int (nI ts)])), (l0, .inr (2, [.int pv, .int en, .int (nI ld)]))] ksz) (QI D (fun (r : Int32) (_ : Unit) => r = (aC w9 nx tz ta xz fg la mz ts pv)) (fun (_ : Unit) => [(e0, .inr (9, [.ref h0, .ref g0, .ref t0, .ref l0, .ref k0, .ref f0, .int (bI hk), .int re])), (h0, .inr (3, [.ref a1, .ref a2, .ref a3, .ref a4, .ref a5, .long mult, .int (nI nx)])), (a3, .inr (7, [.ref a8, .int (nI tz), .int (nI ta)])), (a4, .inr (6, [.ref a9, .int (nI xz), .int (bI fg), .int la])), (k0, .inr (4, [.ref k1, .int (nI mz)])), (t0, .inr (8, [.ref t1, .ref t2, .ref t3, .ref t4, .ref t5, .ref t6, .ref t7, .ref t8, .ref t9, .ref t10, .int (nI nw), .int (nI ts)])), (l0, .inr (2, [.int pv, .int en, .int (nI ld)]))]) (va_A [(e0, .inr (9, [.ref h0, .ref g0, .ref t0, .ref l0, .ref k0, .ref f0, .int (bI hk), .int re])), (h0, .inr (3, [.ref a1, .ref a2, .ref a3, .ref a4, .ref a5, .long mult, .int (nI nx)])), (a3, .inr (7, [.ref a8, .int (nI tz), .int (nI ta)])), (a4, .inr (6, [.ref a9, .int (nI xz), .int (bI fg), .int la])), (k0, .inr (4, [.ref k1, .int (nI mz)])), (t0, .inr (8, [.ref t1, .ref t2, .ref t3, .ref t4, .ref t5, .ref t6, .ref t7, .ref t8, .ref t9, .ref t10, .int (nI nw), .int (nI ts)])), (l0, .inr (2, [.int pv, .int en, .int (nI ld)]))] ksz)) 0 0 (va_A [(e0, .inr (9, [.ref h0, .ref g0, .ref t0, .ref l0, .ref k0, .ref f0, .int (bI hk), .int re])), (h0, .inr (3, [.ref a1, .ref a2, .ref a3, .ref a4, .ref a5, .long mult, .int (nI nx)])), (a3, .inr (7, [.ref a8, .int (nI tz), .int (nI ta)])), (a4, .inr (6, [.ref a9, .int (nI xz), .int (bI fg), .int la])), (k0, .inr (4, [.ref k1, .int (nI mz)])), (t0, .inr (8, [.ref t1, .ref t2, .ref t3, .ref t4, .ref t5, .ref t6, .ref t7, .ref t8, .ref t9, .ref t10, .int (nI nw), .int (nI ts)])), (l0, .inr (2, [.int pv, .int en, .int (nI ld)]))] ksz) := by
  refine met_g (QI D (fun (r : Int32) (_ : Unit) => r = (aC w9 nx tz ta xz fg la mz ts pv)) (fun (_ : Unit) => [(e0, .inr (9, [.ref h0, .ref g0, .ref t0, .ref l0, .ref k0, .ref f0, .int (bI hk), .int re])), (h0, .inr (3, [.ref a1, .ref a2, .ref a3, .ref a4, .ref a5, .long mult, .int (nI nx)])), (a3, .inr (7, [.ref a8, .int (nI tz), .int (nI ta)])), (a4, .inr (6, [.ref a9, .int (nI xz), .int (bI fg), .int la])), (k0, .inr (4, [.ref k1, .int (nI mz)])), (t0, .inr (8, [.ref t1, .ref t2, .ref t3, .ref t4, .ref t5, .ref t6, .ref t7, .ref t8, .ref t9, .ref t10, .int (nI nw), .int (nI ts)])), (l0, .inr (2, [.int pv, .int en, .int (nI ld)]))])) cX9_count 2 (some .int) (by decide) rfl (Nat.le_of_ble_eq_true rfl) ?_
  intro p e s m below meth c A ls hx hb hr hts hown hlocks hml hin hA hP hK hD hE hS hl hsz
  clear hsz
  have hl : lv_has ls 2 [(0, .ref e0), (1, .int w9)] := hl
  refine lv_iload_n hx hb dX9_count_0 rfl (lv_at hl 1 rfl) ?_
  rcases em9 w9 with cv | cv | cv | cv | cv | cv | cv | cv | cv | cv
  · skip
    refine lv_tab (tgt := 52) hx hb dX9_count_1 (by rw [cv] <;> decide +kernel) (by decide) (by decide) ?_
    refine lv_aload_n hx hb dX9_count_52 rfl (lv_at hl 0 rfl) ?_
    refine va_get (D := D) (ci := 9) (v := .ref h0) (C := RX9) (T := TX9) (N := 8) hx hb hts (by decide +kernel) hown hK hP 0 rfl rfl 0 (by decide) (hts (.fieldLink RX9 10 "TapeEngine" "machine" "LTapeEngine$Machine;") (by decide +kernel)) (fun _ h9 => h9) rfl dX9_count_53 ?_
    refine va_getN (D := D) (ci := 3) (v := .int (nI nx)) (C := RX3) (T := TX3) (N := 7) hx hb hts (by decide +kernel) hown hK hP 1 rfl rfl 6 (by decide) (va_Nw.use rfl (nf_X9_155 hE)) (fun _ h9 => h9) rfl dX9_count_56 ?_
    exact ret_i hx hb hr hlocks () (by first | (rw [cv]; rfl) | (rw [cv, aC]; simp [c_103, bI]; done) | (simp [aC, cv]; done)) (hP.sub [0, 1, 2, 3, 4, 5, 6] rfl) (hD.sub [0, 1, 2, 3, 4, 5, 6] (by decide) rfl) hS dX9_count_59
  · skip
    refine lv_tab (tgt := 60) hx hb dX9_count_1 (by rw [cv] <;> decide +kernel) (by decide) (by decide) ?_
    refine lv_aload_n hx hb dX9_count_60 rfl (lv_at hl 0 rfl) ?_
    refine va_get (D := D) (ci := 9) (v := .ref h0) (C := RX9) (T := TX9) (N := 8) hx hb hts (by decide +kernel) hown hK hP 0 rfl rfl 0 (by decide) (hts (.fieldLink RX9 10 "TapeEngine" "machine" "LTapeEngine$Machine;") (by decide +kernel)) (fun _ h9 => h9) rfl dX9_count_61 ?_
    refine va_getN (D := D) (ci := 3) (v := .ref a3) (C := RX3) (T := TX3) (N := 7) hx hb hts (by decide +kernel) hown hK hP 1 rfl rfl 2 (by decide) (va_Nw.use rfl (nf_X9_122 hE)) (fun _ h9 => h9) rfl dX9_count_64 ?_
    refine va_getN (D := D) (ci := 7) (v := .int (nI tz)) (C := RX7) (T := TX7) (N := 3) hx hb hts (by decide +kernel) hown hK hP 2 rfl rfl 1 (by decide) (va_Nw.use rfl (nf_X9_126 hE)) (fun _ h9 => h9) rfl dX9_count_67 ?_
    exact ret_i hx hb hr hlocks () (by first | (rw [cv]; rfl) | (rw [cv, aC]; simp [c_103, bI]; done) | (simp [aC, cv]; done)) (hP.sub [0, 1, 2, 3, 4, 5, 6] rfl) (hD.sub [0, 1, 2, 3, 4, 5, 6] (by decide) rfl) hS dX9_count_70
  · skip
    refine lv_tab (tgt := 71) hx hb dX9_count_1 (by rw [cv] <;> decide +kernel) (by decide) (by decide) ?_
    refine lv_aload_n hx hb dX9_count_71 rfl (lv_at hl 0 rfl) ?_
    refine va_get (D := D) (ci := 9) (v := .ref h0) (C := RX9) (T := TX9) (N := 8) hx hb hts (by decide +kernel) hown hK hP 0 rfl rfl 0 (by decide) (hts (.fieldLink RX9 10 "TapeEngine" "machine" "LTapeEngine$Machine;") (by decide +kernel)) (fun _ h9 => h9) rfl dX9_count_72 ?_
    refine va_getN (D := D) (ci := 3) (v := .ref a3) (C := RX3) (T := TX3) (N := 7) hx hb hts (by decide +kernel) hown hK hP 1 rfl rfl 2 (by decide) (va_Nw.use rfl (nf_X9_122 hE)) (fun _ h9 => h9) rfl dX9_count_75 ?_
    refine va_getN (D := D) (ci := 7) (v := .int (nI ta)) (C := RX7) (T := TX7) (N := 3) hx hb hts (by decide +kernel) hown hK hP 2 rfl rfl 2 (by decide) (va_Nw.use rfl (nf_X9_135 hE)) (fun _ h9 => h9) rfl dX9_count_78 ?_
    exact ret_i hx hb hr hlocks () (by first | (rw [cv]; rfl) | (rw [cv, aC]; simp [c_103, bI]; done) | (simp [aC, cv]; done)) (hP.sub [0, 1, 2, 3, 4, 5, 6] rfl) (hD.sub [0, 1, 2, 3, 4, 5, 6] (by decide) rfl) hS dX9_count_81
  · skip
    refine lv_tab (tgt := 82) hx hb dX9_count_1 (by rw [cv] <;> decide +kernel) (by decide) (by decide) ?_
    refine lv_aload_n hx hb dX9_count_82 rfl (lv_at hl 0 rfl) ?_
    refine va_get (D := D) (ci := 9) (v := .ref h0) (C := RX9) (T := TX9) (N := 8) hx hb hts (by decide +kernel) hown hK hP 0 rfl rfl 0 (by decide) (hts (.fieldLink RX9 10 "TapeEngine" "machine" "LTapeEngine$Machine;") (by decide +kernel)) (fun _ h9 => h9) rfl dX9_count_83 ?_
    refine va_getN (D := D) (ci := 3) (v := .ref a4) (C := RX3) (T := TX3) (N := 7) hx hb hts (by decide +kernel) hown hK hP 1 rfl rfl 3 (by decide) (va_Nw.use rfl (nf_X9_138 hE)) (fun _ h9 => h9) rfl dX9_count_86 ?_
    refine va_getN (D := D) (ci := 6) (v := .int (nI xz)) (C := RX6) (T := TX6) (N := 4) hx hb hts (by decide +kernel) hown hK hP 3 rfl rfl 1 (by decide) (va_Nw.use rfl (nf_X9_142 hE)) (fun _ h9 => h9) rfl dX9_count_89 ?_
    exact ret_i hx hb hr hlocks () (by first | (rw [cv]; rfl) | (rw [cv, aC]; simp [c_103, bI]; done) | (simp [aC, cv]; done)) (hP.sub [0, 1, 2, 3, 4, 5, 6] rfl) (hD.sub [0, 1, 2, 3, 4, 5, 6] (by decide) rfl) hS dX9_count_92
  · skip
    refine lv_tab (tgt := 93) hx hb dX9_count_1 (by rw [cv] <;> decide +kernel) (by decide) (by decide) ?_
    refine lv_aload_n hx hb dX9_count_93 rfl (lv_at hl 0 rfl) ?_
    refine va_get (D := D) (ci := 9) (v := .ref h0) (C := RX9) (T := TX9) (N := 8) hx hb hts (by decide +kernel) hown hK hP 0 rfl rfl 0 (by decide) (hts (.fieldLink RX9 10 "TapeEngine" "machine" "LTapeEngine$Machine;") (by decide +kernel)) (fun _ h9 => h9) rfl dX9_count_94 ?_
    refine va_getN (D := D) (ci := 3) (v := .ref a4) (C := RX3) (T := TX3) (N := 7) hx hb hts (by decide +kernel) hown hK hP 1 rfl rfl 3 (by decide) (va_Nw.use rfl (nf_X9_138 hE)) (fun _ h9 => h9) rfl dX9_count_97 ?_
    refine va_getN (D := D) (ci := 6) (v := .int (bI fg)) (C := RX6) (T := TX6) (N := 4) hx hb hts (by decide +kernel) hown hK hP 3 rfl rfl 2 (by decide) (va_Nw.use rfl (nf_X9_201 hE)) (fun _ h9 => h9) rfl dX9_count_100 ?_
    refine lv_if_eq (tgt := 110) hx hb dX9_count_103 (by decide) (fun c_103 => ?_) (fun c_103 => ?_)
    · skip
      have c_103 := bI_f c_103
      refine lv_iconst (v := 0) hx hb dX9_count_110 (by decide) ?_
      exact ret_i hx hb hr hlocks () (by first | (rw [cv]; rfl) | (rw [cv, aC]; simp [c_103, bI]; done) | (simp [aC, cv]; done)) (hP.sub [0, 1, 2, 3, 4, 5, 6] rfl) (hD.sub [0, 1, 2, 3, 4, 5, 6] (by decide) rfl) hS dX9_count_111
    · skip
      have c_103 := bI_t c_103
      refine lv_iconst (v := 1) hx hb dX9_count_106 (by decide) ?_
      refine lv_goto (tgt := 111) hx hb dX9_count_107 (by decide) ?_
      exact ret_i hx hb hr hlocks () (by first | (rw [cv]; rfl) | (rw [cv, aC]; simp [c_103, bI]; done) | (simp [aC, cv]; done)) (hP.sub [0, 1, 2, 3, 4, 5, 6] rfl) (hD.sub [0, 1, 2, 3, 4, 5, 6] (by decide) rfl) hS dX9_count_111
  · skip
    refine lv_tab (tgt := 112) hx hb dX9_count_1 (by rw [cv] <;> decide +kernel) (by decide) (by decide) ?_
    refine lv_aload_n hx hb dX9_count_112 rfl (lv_at hl 0 rfl) ?_
    refine va_get (D := D) (ci := 9) (v := .ref h0) (C := RX9) (T := TX9) (N := 8) hx hb hts (by decide +kernel) hown hK hP 0 rfl rfl 0 (by decide) (hts (.fieldLink RX9 10 "TapeEngine" "machine" "LTapeEngine$Machine;") (by decide +kernel)) (fun _ h9 => h9) rfl dX9_count_113 ?_
    refine va_getN (D := D) (ci := 3) (v := .ref a4) (C := RX3) (T := TX3) (N := 7) hx hb hts (by decide +kernel) hown hK hP 1 rfl rfl 3 (by decide) (va_Nw.use rfl (nf_X9_138 hE)) (fun _ h9 => h9) rfl dX9_count_116 ?_
    refine va_getN (D := D) (ci := 6) (v := .int la) (C := RX6) (T := TX6) (N := 4) hx hb hts (by decide +kernel) hown hK hP 3 rfl rfl 3 (by decide) (va_Nw.use rfl (nf_X9_204 hE)) (fun _ h9 => h9) rfl dX9_count_119 ?_
    exact ret_i hx hb hr hlocks () (by first | (rw [cv]; rfl) | (rw [cv, aC]; simp [c_103, bI]; done) | (simp [aC, cv]; done)) (hP.sub [0, 1, 2, 3, 4, 5, 6] rfl) (hD.sub [0, 1, 2, 3, 4, 5, 6] (by decide) rfl) hS dX9_count_122
  · skip
    refine lv_tab (tgt := 123) hx hb dX9_count_1 (by rw [cv] <;> decide +kernel) (by decide) (by decide) ?_
    refine lv_aload_n hx hb dX9_count_123 rfl (lv_at hl 0 rfl) ?_
    refine va_get (D := D) (ci := 9) (v := .ref k0) (C := RX9) (T := TX9) (N := 8) hx hb hts (by decide +kernel) hown hK hP 0 rfl rfl 4 (by decide) (hts (.fieldLink RX9 36 "TapeEngine" "marks" "LTapeEngine$Marks;") (by decide +kernel)) (fun _ h9 => h9) rfl dX9_count_124 ?_
    refine va_getN (D := D) (ci := 4) (v := .int (nI mz)) (C := RX4) (T := TX4) (N := 2) hx hb hts (by decide +kernel) hown hK hP 4 rfl rfl 1 (by decide) (va_Nw.use rfl (nf_X9_172 hE)) (fun _ h9 => h9) rfl dX9_count_127 ?_
    exact ret_i hx hb hr hlocks () (by first | (rw [cv]; rfl) | (rw [cv, aC]; simp [c_103, bI]; done) | (simp [aC, cv]; done)) (hP.sub [0, 1, 2, 3, 4, 5, 6] rfl) (hD.sub [0, 1, 2, 3, 4, 5, 6] (by decide) rfl) hS dX9_count_130
  · skip
    refine lv_tab (tgt := 131) hx hb dX9_count_1 (by rw [cv] <;> decide +kernel) (by decide) (by decide) ?_
    refine lv_aload_n hx hb dX9_count_131 rfl (lv_at hl 0 rfl) ?_
    refine va_get (D := D) (ci := 9) (v := .ref t0) (C := RX9) (T := TX9) (N := 8) hx hb hts (by decide +kernel) hown hK hP 0 rfl rfl 2 (by decide) (hts (.fieldLink RX9 22 "TapeEngine" "trail" "LTapeEngine$Trail;") (by decide +kernel)) (fun _ h9 => h9) rfl dX9_count_132 ?_
    refine va_getN (D := D) (ci := 8) (v := .int (nI ts)) (C := RX8) (T := TX8) (N := 12) hx hb hts (by decide +kernel) hown hK hP 5 rfl rfl 11 (by decide) (va_Nw.use rfl (nf_X9_179 hE)) (fun _ h9 => h9) rfl dX9_count_135 ?_
    exact ret_i hx hb hr hlocks () (by first | (rw [cv]; rfl) | (rw [cv, aC]; simp [c_103, bI]; done) | (simp [aC, cv]; done)) (hP.sub [0, 1, 2, 3, 4, 5, 6] rfl) (hD.sub [0, 1, 2, 3, 4, 5, 6] (by decide) rfl) hS dX9_count_138
  · skip
    refine lv_tab (tgt := 139) hx hb dX9_count_1 (by rw [cv] <;> decide +kernel) (by decide) (by decide) ?_
    refine lv_aload_n hx hb dX9_count_139 rfl (lv_at hl 0 rfl) ?_
    refine va_get (D := D) (ci := 9) (v := .ref l0) (C := RX9) (T := TX9) (N := 8) hx hb hts (by decide +kernel) hown hK hP 0 rfl rfl 3 (by decide) (hts (.fieldLink RX9 29 "TapeEngine" "loader" "LTapeEngine$Loader;") (by decide +kernel)) (fun _ h9 => h9) rfl dX9_count_140 ?_
    refine va_getN (D := D) (ci := 2) (v := .int pv) (C := RX2) (T := TX2) (N := 3) hx hb hts (by decide +kernel) hown hK hP 6 rfl rfl 0 (by decide) (va_Nw.use rfl (nf_X9_207 hE)) (fun _ h9 => h9) rfl dX9_count_143 ?_
    exact ret_i hx hb hr hlocks () (by first | (rw [cv]; rfl) | (rw [cv, aC]; simp [c_103, bI]; done) | (simp [aC, cv]; done)) (hP.sub [0, 1, 2, 3, 4, 5, 6] rfl) (hD.sub [0, 1, 2, 3, 4, 5, 6] (by decide) rfl) hS dX9_count_146
  · skip
    refine lv_tab (tgt := 147) hx hb dX9_count_1 (tab9 cv) (by decide) (by decide) ?_
    refine lv_bipush (v := (-3)) hx hb dX9_count_147 (by decide) ?_
    exact ret_i hx hb hr hlocks () (by first | (rw [cv]; rfl) | (rw [cv, aC]; simp [c_103, bI]; done) | (simp [aC, cv]; done)) (hP.sub [0, 1, 2, 3, 4, 5, 6] rfl) (hD.sub [0, 1, 2, 3, 4, 5, 6] (by decide) rfl) hS dX9_count_149
