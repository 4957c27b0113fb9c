/-- what is come to: a boolean row -/
def RB (ct : Nat → Int32) : Prop := ∀ k : Nat, ct k = bI (tB (ct k))
def cn (ct : Nat → Int32) : Nat := fb_ct (fun k => tB (ct k)) 256
theorem RB_upd {ct : Nat → Int32} (h : RB ct) (j : Nat) (b : Bool) : RB (upd ct j (bI b)) := by
  intro k
  by_cases q : k = j
  · subst q
    rw [pk_us, tB_bI]
  · rw [pk_un q]
    exact h k
theorem RB_1 {ct : Nat → Int32} (h : RB ct) (j : Nat) : RB (upd ct j 1) := RB_upd h j true
theorem tB_1 (ct : Nat → Int32) (j k : Nat) : tB (upd ct j 1 k) = if k = j then true else tB (ct k) := by
  by_cases q : k = j
  · subst q
    rw [pk_us, if_pos rfl]; rfl
  · rw [pk_un q, if_neg q]
theorem cn_le (ct : Nat → Int32) : cn ct ≤ 256 := fb_ct_le _ _
theorem cn_lt {ct : Nat → Int32} {j : Nat} (h : tB (ct j) = false) (hj : j < 256) : cn ct < 256 := by
  rcases Nat.lt_or_eq_of_le (cn_le ct) with q | q
  · exact q
  · have := fb_ct_all.mp q j hj
    rw [h] at this
    cases this
def szF (ct : Nat → Int32) (sz j : Nat) : Nat := if tB (ct j) = true then sz else sz + 1
def fdF (ct fd : Nat → Int32) (sz j : Nat) : Nat → Int32 := if tB (ct j) = true then fd else upd fd sz (nI j)
theorem cn_1 (ct : Nat → Int32) {j : Nat} (hj : j < 256) : cn (upd ct j 1) = szF ct (cn ct) j := by
  have h := fb_ct_upd (fun k => tB (ct k)) true (i := j) (n := 256) hj
  have e : cn (upd ct j 1) = fb_ct (fun k => if k = j then true else tB (ct k)) 256 := fb_ct_cong (fun k _ => tB_1 ct j k)
  rw [e]
  unfold szF
  by_cases q : tB (ct j) = true
  · rw [if_pos q]
    simp only [q, if_true] at h
    show _ = fb_ct (fun k => tB (ct k)) 256
    omega
  · rw [if_neg q]
    simp only [q] at h
    simp at h
    show _ = fb_ct (fun k => tB (ct k)) 256 + 1
    simpa using h
def goB (o : Nat) : Bool := lgl (o / 4096) && !(o / 4096 == 13)
def jmpB (o : Nat) : Bool := o / 4096 == 3 || o / 4096 == 27
def ffC (o j : Nat) (ct : Nat → Int32) : Nat → Int32 := if goB o = true then (if jmpB o = true then upd (upd ct ((j + 1) % 256) 1) (o / 2 % 256) 1 else upd ct ((j + 1) % 256) 1) else ct
def ffS (o j : Nat) (ct : Nat → Int32) (sz : Nat) : Nat := if goB o = true then (if jmpB o = true then szF (upd ct ((j + 1) % 256) 1) (szF ct sz ((j + 1) % 256)) (o / 2 % 256) else szF ct sz ((j + 1) % 256)) else sz
def ffF (o j : Nat) (ct fd : Nat → Int32) (sz : Nat) : Nat → Int32 := if goB o = true then (if jmpB o = true then fdF (upd ct ((j + 1) % 256) 1) (fdF ct fd sz ((j + 1) % 256)) (szF ct sz ((j + 1) % 256)) (o / 2 % 256) else fdF ct fd sz ((j + 1) % 256)) else fd
theorem go_t {o : Nat} (h1 : ¬ o / 4096 = 13) (h2 : lgl (o / 4096) = true) : goB o = true := by simp [goB, h1, h2]
theorem go_f1 {o : Nat} (h1 : o / 4096 = 13) : ¬ goB o = true := by simp [goB, h1]
theorem go_f2 {o : Nat} (h1 : lgl (o / 4096) = false) : ¬ goB o = true := by simp [goB, h1]
theorem jm_t1 {o : Nat} (h1 : o / 4096 = 3) : jmpB o = true := by simp [jmpB, h1]
theorem jm_t2 {o : Nat} (h1 : o / 4096 = 27) : jmpB o = true := by simp [jmpB, h1]
theorem jm_f {o : Nat} (h1 : ¬ o / 4096 = 3) (h2 : ¬ o / 4096 = 27) : ¬ jmpB o = true := by simp [jmpB, h1, h2]
/-- it alters what is come to -/
def altB (o : Nat) (ct : Nat → Int32) : Bool := (o / 4096 == 5 || o / 4096 == 7 || o / 4096 == 8 || o / 4096 == 17) && (if o % 2 = 1 then tB (ct (o / 2 % 256 / 2 * 2)) || tB (ct (o / 2 % 256 / 2 * 2 + 1)) else tB (ct (o / 2 % 256)))
/-- the first place with a property -/
def frs (p : Nat → Bool) : Nat → Nat
  | 0 => 0
  | n + 1 => if frs p n < n then frs p n else if p n then n else n + 1
theorem frs_hit {p : Nat → Bool} {i : Nat} (h0 : ∀ k, k < i → ¬ p k = true) (h1 : p i = true) : ∀ n, i < n → frs p n = i := by
  have low : ∀ n, n ≤ i → frs p n = n := by
    intro n
    induction n with
    | zero => intro _; rfl
    | succ n ih =>
      intro hn
      have e := ih (by omega)
      simp only [frs, e, Nat.lt_irrefl, if_false]
      rw [if_neg (h0 n (by omega))]
  intro n
  induction n with
  | zero => intro h; omega
  | succ n ih =>
    intro hn
    by_cases q : i = n
    · subst q
      have e := low i (Nat.le_refl _)
      simp only [frs, e, Nat.lt_irrefl, if_false]
      rw [if_pos h1]
    · have e := ih (by omega)
      simp only [frs, e]
      rw [if_pos (by omega)]
theorem frs_no {p : Nat → Bool} {n : Nat} (h0 : ∀ k, k < n → ¬ p k = true) : frs p n = n := by
  induction n with
  | zero => rfl
  | succ n ih =>
    have e := ih (fun k hk => h0 k (by omega))
    simp only [frs, e, Nat.lt_irrefl, if_false]
    rw [if_neg (h0 n (by omega))]
def altP (w ct : Nat → Int32) (k : Nat) : Bool := tB (ct k) && altB (iN (w k)) ct
def altR (w ct : Nat → Int32) : Int32 := if frs (altP w ct) 256 < 256 then nI (frs (altP w ct) 256) else -1
theorem altR_hit {w ct : Nat → Int32} {i : Nat} (h0 : ∀ k, k < i → ¬ altP w ct k = true) (h1 : tB (ct i) = true) (h2 : altB (iN (w i)) ct = true) (hi : i < 256) : nI i = altR w ct := by
  rw [altR, frs_hit h0 (by simp [altP, h1, h2]) 256 hi, if_pos hi]
theorem altR_no {w ct : Nat → Int32} {i : Nat} (h0 : ∀ k, k < i → ¬ altP w ct k = true) (hi : 256 ≤ i) : -1 = altR w ct := by
  rw [altR, frs_no (fun k hk => h0 k (by omega)), if_neg (by omega)]
set_option maxHeartbeats 4000000 in
set_option maxRecDepth 100000 in
theorem kX1_isComeTo (l : Launch) (D : va_G) (Z : SZ) (cB cI cJ cZ : ClassId) (ksz : Nat) (f0 : Nat) (f1 : Nat) (f2 : Nat) (ct : Nat → Int32) (sz : Nat) (j : Nat) (hm : RB ct) (hj : j < 256) : Met l yX1_isComeTo wsX1_isComeTo { frames := 0, cells := 0, slots := 0, locals := 0 } (PR D Z [(cB, .byte), (cI, .int), (cJ, .long), (cZ, .boolean)] [.ref f0, .int (nI j)] [(f0, .inr (1, [.ref f1, .ref f2, .int (nI sz)])), (f1, .inl (cZ, 256, .inl ct))] ksz) (QI D (fun (r : Int32) (_ : Unit) => r = (bI (tB (ct j)))) (fun (_ : Unit) => [(f0, .inr (1, [.ref f1, .ref f2, .int (nI sz)])), (f1, .inl (cZ, 256, .inl ct))]) (va_A [(f0, .inr (1, [.ref f1, .ref f2, .int (nI sz)])), (f1, .inl (cZ, 256, .inl ct))] ksz)) 0 0 (va_A [(f0, .inr (1, [.ref f1, .ref f2, .int (nI sz)])), (f1, .inl (cZ, 256, .inl ct))] ksz) := by
  refine met_g (QI D (fun (r : Int32) (_ : Unit) => r = (bI (tB (ct j)))) (fun (_ : Unit) => [(f0, .inr (1, [.ref f1, .ref f2, .int (nI sz)])), (f1, .inl (cZ, 256, .inl ct))])) cX1_isComeTo 2 (some .boolean) (by decide) rfl (Nat.le_of_ble_eq_true rfl) ?_
  intro p e s m below meth c A ls hx hb hr hts hown hlocks hml hin hA hP hK hD hE hS hl hsz
  clear hsz
  have hl : lv_has ls 2 [(0, .ref f0), (1, .int (nI j))] := hl
  refine lv_aload_n hx hb dX1_isComeTo_0 rfl (lv_at hl 0 rfl) ?_
  refine va_get (D := D) (ci := 1) (v := .ref f1) (C := RX1) (T := TX1) (N := 3) hx hb hts (by decide +kernel) hown hK hP 0 rfl rfl 0 (by decide) (hts (.fieldLink RX1 9 "TapeEngine$Flow" "comeTo" "[Z") (by decide +kernel)) (fun _ h9 => h9) rfl dX1_isComeTo_1 ?_
  refine lv_iload_n hx hb dX1_isComeTo_4 rfl (lv_at hl 1 rfl) ?_
  refine lv_sipush (v := 255) hx hb dX1_isComeTo_5 (by decide) ?_
  refine lv_iand hx hb dX1_isComeTo_8 ?_
  refine set_i (y := nI j) (e_a255 hj) ?_
  refine xs_zald (k := j) hx hb hK hP 1 3 rfl rfl (by first | assumption | omega) (by decide) dX1_isComeTo_9 ?_
  refine set_i (y := bI (tB (ct j))) (hm j) ?_
  exact ret_z hx hb hr (bI_nar _) hlocks () (by rfl) (hP.sub [0, 1] rfl) (hD.sub [0, 1] (by decide) rfl) hS dX1_isComeTo_10

set_option maxHeartbeats 4000000 in
set_option maxRecDepth 100000 in
theorem kX1_find (l : Launch) (D : va_G) (Z : SZ) (cB cI cJ cZ : ClassId) (ksz : Nat) (f0 : Nat) (f1 : Nat) (f2 : Nat) (ct : Nat → Int32) (fd : Nat → Int32) (sz : Nat) (j : Nat) (hm : RB ct) (hj : j < 256) (hsz : sz = cn ct) : Met l yX1_find wsX1_find { frames := 1, cells := 0, slots := 0, locals := 21 } (PR D Z [(cB, .byte), (cI, .int), (cJ, .long), (cZ, .boolean)] [.ref f0, .int (nI j)] [(f0, .inr (1, [.ref f1, .ref f2, .int (nI sz)])), (f1, .inl (cZ, 256, .inl ct)), (f2, .inl (cI, 256, .inl fd))] ksz) (QV D (fun (u : (Nat → Int32) × (Nat → Int32) × Nat) => u.1 = (upd ct j 1) ∧ u.2.1 = (fdF ct fd sz j) ∧ u.2.2 = (szF ct sz j)) (fun (u : (Nat → Int32) × (Nat → Int32) × Nat) => [(f0, .inr (1, [.ref f1, .ref f2, .int (nI u.2.2)])), (f1, .inl (cZ, 256, .inl u.1)), (f2, .inl (cI, 256, .inl u.2.1))]) (va_A [(f0, .inr (1, [.ref f1, .ref f2, .int (nI sz)])), (f1, .inl (cZ, 256, .inl ct)), (f2, .inl (cI, 256, .inl fd))] ksz)) 0 0 (va_A [(f0, .inr (1, [.ref f1, .ref f2, .int (nI sz)])), (f1, .inl (cZ, 256, .inl ct)), (f2, .inl (cI, 256, .inl fd))] ksz) := by
  refine met_g (QV D (fun (u : (Nat → Int32) × (Nat → Int32) × Nat) => u.1 = (upd ct j 1) ∧ u.2.1 = (fdF ct fd sz j) ∧ u.2.2 = (szF ct sz j)) (fun (u : (Nat → Int32) × (Nat → Int32) × Nat) => [(f0, .inr (1, [.ref f1, .ref f2, .int (nI u.2.2)])), (f1, .inl (cZ, 256, .inl u.1)), (f2, .inl (cI, 256, .inl u.2.1))])) cX1_find 2 none (by decide) rfl (Nat.le_of_ble_eq_true rfl) ?_
  intro p e s m below meth c A ls hx hb hr hts hown hlocks hml hin hA hP hK hD hE hS hl hsz
  clear hsz
  have hl : lv_has ls 2 [(0, .ref f0), (1, .int (nI j))] := hl
  have hcl := cn_le ct
  refine lv_aload_n hx hb dX1_find_0 rfl (lv_at hl 0 rfl) ?_
  refine lv_iload_n hx hb dX1_find_1 rfl (lv_at hl 1 rfl) ?_
  refine kV_i (As := [.int (nI j)]) (rest := []) (wr := [(f2, .inl (cI, 256, .inl fd))]) ⟨hx, hb, hml, hown, hts⟩ (kX1_isComeTo l D Z cB cI cJ cZ s.heap.size f0 f1 f2 ct sz j (by first | assumption | omega) (by first | assumption | omega)) (cwV 1 hts gX1_find_X1_isComeTo rfl rfl rfl (by decide +kernel) ⟨Nat.le_of_ble_eq_true rfl, Nat.le_of_ble_eq_true rfl⟩) hK hE hP hD hS hA 0 1 rfl rfl rfl [0, 1] [2] rfl rfl rfl rfl rfl (by decide) hl.1 rfl rfl (Nat.le_of_ble_eq_true rfl) dX1_find_2 ⟨Nat.le_of_ble_eq_true rfl, Nat.le_of_ble_eq_true rfl⟩ (fun r u H locs hp hP hD hS => ?_)
  try dsimp only at hp
  have hq_0 := hp
  have hq_0 := hq_0.symm
  subst hq_0
  have hP : va_P D vwCl [(f2, .inl (cI, 256, .inl fd)), (f0, .inr (1, [.ref f1, .ref f2, .int (nI sz)])), (f1, .inl (cZ, 256, .inl ct))] H := hP
  have hD : va_D A [(f2, .inl (cI, 256, .inl fd)), (f0, .inr (1, [.ref f1, .ref f2, .int (nI sz)])), (f1, .inl (cZ, 256, .inl ct))] := hD
  refine lv_if_ne (tgt := 56) hx hb dX1_find_5 (by decide) (fun c_5 => ?_) (fun c_5 => ?_)
  · skip
    have c_5 := bI_t c_5
    exact ret_v hx hb hr hlocks (ct, fd, sz) ⟨(by first | with_reducible rfl | exact (upd_same ((hm j).trans (congrArg bI c_5))).symm), (by rw [fdF, c_5] <;> rfl), (by rw [szF, c_5] <;> rfl)⟩ (hP.sub [1, 2, 0] rfl) (hD.sub [1, 2, 0] (by decide) rfl) hS dX1_find_56
  · skip
    have c_5 := bI_f c_5
    refine lv_aload_n hx hb dX1_find_8 rfl (lv_at hl 0 rfl) ?_
    refine va_get (D := D) (ci := 1) (v := .int (nI sz)) (C := RX1) (T := TX1) (N := 3) hx hb hts (by decide +kernel) hown hK hP 1 rfl rfl 2 (by decide) (hts (.fieldLink RX1 19 "TapeEngine$Flow" "size" "I") (by decide +kernel)) (fun _ h9 => h9) rfl dX1_find_9 ?_
    refine lv_if_lt (tgt := 56) hx hb dX1_find_12 (by decide) (fun c_12 => ?_) (fun c_12 => ?_)
    · skip
      have c_12 : sz < 0 := (nI_ltI (a := sz) (b := 0) (by omega) (by omega)).mp c_12
      exact absurd c_12 (Nat.not_lt_zero _)
    · skip
      have c_12 : ¬ sz < 0 := fun z => c_12 ((nI_ltI (a := sz) (b := 0) (by omega) (by omega)).mpr z)
      refine lv_aload_n hx hb dX1_find_15 rfl (lv_at hl 0 rfl) ?_
      refine va_get (D := D) (ci := 1) (v := .int (nI sz)) (C := RX1) (T := TX1) (N := 3) hx hb hts (by decide +kernel) hown hK hP 1 rfl rfl 2 (by decide) (hts (.fieldLink RX1 19 "TapeEngine$Flow" "size" "I") (by decide +kernel)) (fun _ h9 => h9) rfl dX1_find_16 ?_
      refine lv_sipush (v := (nI 256)) hx hb dX1_find_19 (by decide) ?_
      refine lv_icmp_ge (tgt := 56) hx hb dX1_find_22 (by decide) (fun c_22 => ?_) (fun c_22 => ?_)
      · skip
        have c_22 : 256 ≤ sz := (nI_leI (a := 256) (b := sz) (by omega) (by omega)).mp c_22
        exfalso
        (have := cn_lt c_5 hj; omega)
      · skip
        have c_22 : ¬ 256 ≤ sz := fun z => c_22 ((nI_leI (a := 256) (b := sz) (by omega) (by omega)).mpr z)
        refine lv_aload_n hx hb dX1_find_25 rfl (lv_at hl 0 rfl) ?_
        refine va_get (D := D) (ci := 1) (v := .ref f1) (C := RX1) (T := TX1) (N := 3) hx hb hts (by decide +kernel) hown hK hP 1 rfl rfl 0 (by decide) (hts (.fieldLink RX1 9 "TapeEngine$Flow" "comeTo" "[Z") (by decide +kernel)) (fun _ h9 => h9) rfl dX1_find_26 ?_
        refine lv_iload_n hx hb dX1_find_29 rfl (lv_at hl 1 rfl) ?_
        refine lv_sipush (v := 255) hx hb dX1_find_30 (by decide) ?_
        refine lv_iand hx hb dX1_find_33 ?_
        refine set_i (y := nI j) (e_a255 hj) ?_
        refine lv_iconst (v := 1) hx hb dX1_find_34 (by decide) ?_
        refine xs_zast (k := j) hx hb hK hP hD hS 2 3 rfl rfl (by first | assumption | omega) (by decide) (by decide) dX1_find_35 (fun H locs hP hD hS => ?_)
        have hP : va_P D vwCl [(f2, .inl (cI, 256, .inl fd)), (f0, .inr (1, [.ref f1, .ref f2, .int (nI sz)])), (f1, .inl (cZ, 256, .inl (upd ct j 1)))] H := hP
        have hD : va_D A [(f2, .inl (cI, 256, .inl fd)), (f0, .inr (1, [.ref f1, .ref f2, .int (nI sz)])), (f1, .inl (cZ, 256, .inl (upd ct j 1)))] := hD
        refine lv_aload_n hx hb dX1_find_36 rfl (lv_at hl 0 rfl) ?_
        refine va_get (D := D) (ci := 1) (v := .ref f2) (C := RX1) (T := TX1) (N := 3) hx hb hts (by decide +kernel) hown hK hP 1 rfl rfl 1 (by decide) (hts (.fieldLink RX1 15 "TapeEngine$Flow" "found" "[I") (by decide +kernel)) (fun _ h9 => h9) rfl dX1_find_37 ?_
        refine lv_aload_n hx hb dX1_find_40 rfl (lv_at hl 0 rfl) ?_
        refine va_get (D := D) (ci := 1) (v := .int (nI sz)) (C := RX1) (T := TX1) (N := 3) hx hb hts (by decide +kernel) hown hK hP 1 rfl rfl 2 (by decide) (hts (.fieldLink RX1 19 "TapeEngine$Flow" "size" "I") (by decide +kernel)) (fun _ h9 => h9) rfl dX1_find_41 ?_
        refine lv_iload_n hx hb dX1_find_44 rfl (lv_at hl 1 rfl) ?_
        refine xs_iast (k := sz) hx hb hK hP hD hS 0 1 rfl rfl (by first | assumption | omega) (by decide) dX1_find_45 (fun H locs hP hD hS => ?_)
        have hP : va_P D vwCl [(f2, .inl (cI, 256, .inl (upd fd sz (nI j)))), (f0, .inr (1, [.ref f1, .ref f2, .int (nI sz)])), (f1, .inl (cZ, 256, .inl (upd ct j 1)))] H := hP
        have hD : va_D A [(f2, .inl (cI, 256, .inl (upd fd sz (nI j)))), (f0, .inr (1, [.ref f1, .ref f2, .int (nI sz)])), (f1, .inl (cZ, 256, .inl (upd ct j 1)))] := hD
        refine lv_aload_n hx hb dX1_find_46 rfl (lv_at hl 0 rfl) ?_
        refine lv_dup hx hb dX1_find_47 rfl ?_
        refine va_get (D := D) (ci := 1) (v := .int (nI sz)) (C := RX1) (T := TX1) (N := 3) hx hb hts (by decide +kernel) hown hK hP 1 rfl rfl 2 (by decide) (hts (.fieldLink RX1 19 "TapeEngine$Flow" "size" "I") (by decide +kernel)) (fun _ h9 => h9) rfl dX1_find_48 ?_
        refine lv_iconst (v := 1) hx hb dX1_find_51 (by decide) ?_
        refine lv_iadd hx hb dX1_find_52 ?_
        refine set_i (y := nI (sz + 1)) (nI_1 sz) ?_
        refine va_put (D := D) (ci := 1) (v := .int (nI (sz + 1))) (ty := .int) (C := RX1) (T := TX1) (N := 3) hx hb hts (by decide +kernel) tyX1 tyX1_ok nmX1 hown hK hP hD hS 1 rfl rfl 2 (by decide) (hts (.fieldLink RX1 19 "TapeEngine$Flow" "size" "I") (by decide +kernel)) (fun _ h9 => h9) rfl (by decide +kernel) rfl rfl (Nat.le_of_ble_eq_true rfl) dX1_find_53 (fun H locs hP hD hS => ?_)
        have hP : va_P D vwCl [(f2, .inl (cI, 256, .inl (upd fd sz (nI j)))), (f0, .inr (1, [.ref f1, .ref f2, .int (nI (sz + 1))])), (f1, .inl (cZ, 256, .inl (upd ct j 1)))] H := hP
        have hD : va_D A [(f2, .inl (cI, 256, .inl (upd fd sz (nI j)))), (f0, .inr (1, [.ref f1, .ref f2, .int (nI (sz + 1))])), (f1, .inl (cZ, 256, .inl (upd ct j 1)))] := hD
        exact ret_v hx hb hr hlocks ((upd ct j 1), (upd fd sz (nI j)), (sz + 1)) ⟨(by first | with_reducible rfl | exact (upd_same ((hm j).trans (congrArg bI c_5))).symm), (by rw [fdF, c_5] <;> rfl), (by rw [szF, c_5] <;> rfl)⟩ (hP.sub [1, 2, 0] rfl) (hD.sub [1, 2, 0] (by decide) rfl) hS dX1_find_56

set_option maxHeartbeats 4000000 in
set_option maxRecDepth 100000 in
theorem kX1_findFrom (l : Launch) (D : va_G) (Z : SZ) (cB cI cJ cZ : ClassId) (ksz : Nat) (f0 : Nat) (f1 : Nat) (f2 : Nat) (a1 : Nat) (a6 : Nat) (a7 : Nat) (ct : Nat → Int32) (fd : Nat → Int32) (w : Nat → Int32) (sz : Nat) (j : Nat) (hm : RB ct) (hj : j < 256) (hsz : sz = cn ct) (hw : ∀ k : Nat, iN (w k) < 131072) : Met l yX1_findFrom wsX1_findFrom { frames := 2, cells := 0, slots := 0, locals := 42 } (PR D Z [(cB, .byte), (cI, .int), (cJ, .long), (cZ, .boolean)] [.ref f0, .ref a1, .int (nI j)] [(f0, .inr (1, [.ref f1, .ref f2, .int (nI sz)])), (f1, .inl (cZ, 256, .inl ct)), (f2, .inl (cI, 256, .inl fd)), (a1, .inr (5, [.ref a6, .ref a7])), (a6, .inl (cI, 256, .inl w))] ksz) (QV D (fun (u : (Nat → Int32) × (Nat → Int32) × Nat) => u.1 = (ffC (iN (w j)) j ct) ∧ u.2.1 = (ffF (iN (w j)) j ct fd sz) ∧ u.2.2 = (ffS (iN (w j)) j ct sz)) (fun (u : (Nat → Int32) × (Nat → Int32) × Nat) => [(f0, .inr (1, [.ref f1, .ref f2, .int (nI u.2.2)])), (f1, .inl (cZ, 256, .inl u.1)), (f2, .inl (cI, 256, .inl u.2.1)), (a1, .inr (5, [.ref a6, .ref a7])), (a6, .inl (cI, 256, .inl w))]) (va_A [(f0, .inr (1, [.ref f1, .ref f2, .int (nI sz)])), (f1, .inl (cZ, 256, .inl ct)), (f2, .inl (cI, 256, .inl fd)), (a1, .inr (5, [.ref a6, .ref a7])), (a6, .inl (cI, 256, .inl w))] ksz)) 0 0 (va_A [(f0, .inr (1, [.ref f1, .ref f2, .int (nI sz)])), (f1, .inl (cZ, 256, .inl ct)), (f2, .inl (cI, 256, .inl fd)), (a1, .inr (5, [.ref a6, .ref a7])), (a6, .inl (cI, 256, .inl w))] ksz) := by
  refine met_g (QV D (fun (u : (Nat → Int32) × (Nat → Int32) × Nat) => u.1 = (ffC (iN (w j)) j ct) ∧ u.2.1 = (ffF (iN (w j)) j ct fd sz) ∧ u.2.2 = (ffS (iN (w j)) j ct sz)) (fun (u : (Nat → Int32) × (Nat → Int32) × Nat) => [(f0, .inr (1, [.ref f1, .ref f2, .int (nI u.2.2)])), (f1, .inl (cZ, 256, .inl u.1)), (f2, .inl (cI, 256, .inl u.2.1)), (a1, .inr (5, [.ref a6, .ref a7])), (a6, .inl (cI, 256, .inl w))])) cX1_findFrom 5 none (by decide) rfl (Nat.le_of_ble_eq_true rfl) ?_
  intro p e s m below meth c A ls hx hb hr hts hown hlocks hml hin hA hP hK hD hE hS hl hsz
  clear hsz
  have hl : lv_has ls 5 [(0, .ref f0), (1, .ref a1), (2, .int (nI j))] := hl
  have hwj := hw j
  refine lv_aload_n hx hb dX1_findFrom_0 rfl (lv_at hl 1 rfl) ?_
  refine lv_iload_n hx hb dX1_findFrom_1 rfl (lv_at hl 2 rfl) ?_
  refine kV_i (As := [.int (nI j)]) (rest := []) (wr := [(f0, .inr (1, [.ref f1, .ref f2, .int (nI sz)])), (f1, .inl (cZ, 256, .inl ct)), (f2, .inl (cI, 256, .inl fd))]) ⟨hx, hb, hml, hown, hts⟩ (kX5_shortAt l D Z cB cI cJ cZ s.heap.size a1 a6 a7 w j (by first | assumption | omega)) (cwV 1 hts gX1_findFrom_X5_shortAt rfl rfl rfl (by decide +kernel) ⟨Nat.le_of_ble_eq_true rfl, Nat.le_of_ble_eq_true rfl⟩) hK hE hP hD hS hA 0 5 rfl rfl rfl [3, 4] [0, 1, 2] rfl rfl rfl rfl rfl (by decide) hl.1 rfl rfl (Nat.le_of_ble_eq_true rfl) dX1_findFrom_2 ⟨Nat.le_of_ble_eq_true rfl, Nat.le_of_ble_eq_true rfl⟩ (fun r u H locs hp hP hD hS => ?_)
  try dsimp only at hp
  have hq_0 := hp
  have hq_0 := hq_0.symm
  subst hq_0
  have hP : va_P D vwCl [(f0, .inr (1, [.ref f1, .ref f2, .int (nI sz)])), (f1, .inl (cZ, 256, .inl ct)), (f2, .inl (cI, 256, .inl fd)), (a1, .inr (5, [.ref a6, .ref a7])), (a6, .inl (cI, 256, .inl w))] H := hP
  have hD : va_D A [(f0, .inr (1, [.ref f1, .ref f2, .int (nI sz)])), (f1, .inl (cZ, 256, .inl ct)), (f2, .inl (cI, 256, .inl fd)), (a1, .inr (5, [.ref a6, .ref a7])), (a6, .inl (cI, 256, .inl w))] := hD
  refine set_i (y := nI (iN (w j))) (nI_iN _).symm ?_
  refine lv_istore_n (lv' := [(3, .int (nI (iN (w j)))), (0, .ref f0), (1, .ref a1), (2, .int (nI j))]) hx hb dX1_findFrom_5 rfl hl (by decide) rfl (fun ls hl => ?_)
  refine lv_iload_n hx hb dX1_findFrom_6 rfl (lv_at hl 0 rfl) ?_
  refine pN_i (As := [.int (nI (iN (w j)))]) (rest := []) ⟨hx, hb, hml, hown, hts⟩ (kX9_functionOf l Z (iN (w j)) (by first | assumption | omega)) ⟨va_cnB 1 hts gX1_findFrom_X9_functionOf_n37 rfl rfl rfl (nm_X1_37 hE) (hts (.initialized RX9) (by decide +kernel)) (by decide +kernel) ⟨Nat.le_of_ble_eq_true rfl, Nat.le_of_ble_eq_true rfl⟩, (hts (.static yX9_functionOf) (by decide +kernel)), trivial⟩ hK hE hP hD hS hA hl.1 rfl rfl (Nat.le_of_ble_eq_true rfl) dX1_findFrom_7 ⟨Nat.le_of_ble_eq_true rfl, Nat.le_of_ble_eq_true rfl⟩ (fun H locs hP hS => ?_)
  refine lv_istore (lv' := [(4, .int (nI ((iN (w j)) / 4096))), (3, .int (nI (iN (w j)))), (0, .ref f0), (1, .ref a1), (2, .int (nI j))]) hx hb dX1_findFrom_10 hl (by decide) rfl (fun ls hl => ?_)
  refine lv_iload hx hb dX1_findFrom_12 (lv_at hl 0 rfl) ?_
  refine lv_bipush (v := (nI 13)) hx hb dX1_findFrom_14 (by decide) ?_
  refine lv_icmp_eq (tgt := 27) hx hb dX1_findFrom_16 (by decide) (fun c_16 => ?_) (fun c_16 => ?_)
  · skip
    have c_16 : ((iN (w j)) / 4096) = 13 := (nI_eq (a := ((iN (w j)) / 4096)) (b := 13) (by omega) (by omega)).mp c_16
    exact ret_v hx hb hr hlocks (ct, fd, sz) ⟨(by first | (rw [ffC, if_pos (go_t c_16 c_24), if_pos (jm_t1 c_39)]) | (rw [ffC, if_pos (go_t c_16 c_24), if_pos (jm_t2 c_46)]) | (rw [ffC, if_pos (go_t c_16 c_24), if_neg (jm_f c_39 c_46)]) | (rw [ffC, if_neg (go_f1 c_16)]) | (rw [ffC, if_neg (go_f2 c_24)])), (by first | (rw [ffF, if_pos (go_t c_16 c_24), if_pos (jm_t1 c_39)]) | (rw [ffF, if_pos (go_t c_16 c_24), if_pos (jm_t2 c_46)]) | (rw [ffF, if_pos (go_t c_16 c_24), if_neg (jm_f c_39 c_46)]) | (rw [ffF, if_neg (go_f1 c_16)]) | (rw [ffF, if_neg (go_f2 c_24)])), (by first | (rw [ffS, if_pos (go_t c_16 c_24), if_pos (jm_t1 c_39)]) | (rw [ffS, if_pos (go_t c_16 c_24), if_pos (jm_t2 c_46)]) | (rw [ffS, if_pos (go_t c_16 c_24), if_neg (jm_f c_39 c_46)]) | (rw [ffS, if_neg (go_f1 c_16)]) | (rw [ffS, if_neg (go_f2 c_24)]))⟩ (hP.sub [0, 1, 2, 3, 4] rfl) (hD.sub [0, 1, 2, 3, 4] (by decide) rfl) hS dX1_findFrom_27
  · skip
    have c_16 : ¬ ((iN (w j)) / 4096) = 13 := fun z => c_16 ((nI_eq (a := ((iN (w j)) / 4096)) (b := 13) (by omega) (by omega)).mpr z)
    refine lv_iload hx hb dX1_findFrom_19 (lv_at hl 0 rfl) ?_
    refine pN_i (As := [.int (nI ((iN (w j)) / 4096))]) (rest := []) ⟨hx, hb, hml, hown, hts⟩ (kX9_isLegal l Z ((iN (w j)) / 4096) (by have := hw j; omega)) ⟨va_cnB 1 hts gX1_findFrom_X9_isLegal_n40 rfl rfl rfl (nm_X1_40 hE) (hts (.initialized RX9) (by decide +kernel)) (by decide +kernel) ⟨Nat.le_of_ble_eq_true rfl, Nat.le_of_ble_eq_true rfl⟩, (hts (.static yX9_isLegal) (by decide +kernel)), trivial⟩ hK hE hP hD hS hA hl.1 rfl rfl (Nat.le_of_ble_eq_true rfl) dX1_findFrom_21 ⟨Nat.le_of_ble_eq_true rfl, Nat.le_of_ble_eq_true rfl⟩ (fun H locs hP hS => ?_)
    refine lv_if_ne (tgt := 28) hx hb dX1_findFrom_24 (by decide) (fun c_24 => ?_) (fun c_24 => ?_)
    · skip
      have c_24 := bI_t c_24
      refine lv_aload_n hx hb dX1_findFrom_28 rfl (lv_at hl 2 rfl) ?_
      refine lv_iload_n hx hb dX1_findFrom_29 rfl (lv_at hl 4 rfl) ?_
      refine pN_i (As := [.int (nI j)]) (rest := [.ref f0]) ⟨hx, hb, hml, hown, hts⟩ (kX9_behind l Z j (by first | assumption | omega)) ⟨va_cnB 1 hts gX1_findFrom_X9_behind_n44 rfl rfl rfl (nm_X1_44 hE) (hts (.initialized RX9) (by decide +kernel)) (by decide +kernel) ⟨Nat.le_of_ble_eq_true rfl, Nat.le_of_ble_eq_true rfl⟩, (hts (.static yX9_behind) (by decide +kernel)), trivial⟩ hK hE hP hD hS hA hl.1 rfl rfl (Nat.le_of_ble_eq_true rfl) dX1_findFrom_30 ⟨Nat.le_of_ble_eq_true rfl, Nat.le_of_ble_eq_true rfl⟩ (fun H locs hP hS => ?_)
      refine kV_v (As := [.int (nI ((j + 1) % 256))]) (rest := []) (wr := [(a1, .inr (5, [.ref a6, .ref a7])), (a6, .inl (cI, 256, .inl w))]) ⟨hx, hb, hml, hown, hts⟩ (kX1_find l D Z cB cI cJ cZ H.size f0 f1 f2 ct fd sz ((j + 1) % 256) (by first | assumption | omega) (by first | assumption | omega) (by first | assumption | omega)) (cwV 1 hts gX1_findFrom_X1_find rfl rfl rfl (by decide +kernel) ⟨Nat.le_of_ble_eq_true rfl, Nat.le_of_ble_eq_true rfl⟩) hK hE hP hD hS hA 0 1 rfl rfl rfl [0, 1, 2] [3, 4] rfl rfl rfl rfl rfl (by decide) hl.1 rfl rfl (Nat.le_of_ble_eq_true rfl) dX1_findFrom_33 ⟨Nat.le_of_ble_eq_true rfl, Nat.le_of_ble_eq_true rfl⟩ (fun u H locs hp hP hD hS => ?_)
      obtain ⟨v_1, v_2, v_3⟩ := u
      try dsimp only at hp
      obtain ⟨hq_0, hq_1, hq_2⟩ := hp
      have hq_0 := hq_0.symm
      subst hq_0
      have hq_1 := hq_1.symm
      subst hq_1
      have hq_2 := hq_2.symm
      subst hq_2
      have hP : va_P D vwCl [(a1, .inr (5, [.ref a6, .ref a7])), (a6, .inl (cI, 256, .inl w)), (f0, .inr (1, [.ref f1, .ref f2, .int (nI (szF ct sz ((j + 1) % 256)))])), (f1, .inl (cZ, 256, .inl (upd ct ((j + 1) % 256) 1))), (f2, .inl (cI, 256, .inl (fdF ct fd sz ((j + 1) % 256))))] H := hP
      have hD : va_D A [(a1, .inr (5, [.ref a6, .ref a7])), (a6, .inl (cI, 256, .inl w)), (f0, .inr (1, [.ref f1, .ref f2, .int (nI (szF ct sz ((j + 1) % 256)))])), (f1, .inl (cZ, 256, .inl (upd ct ((j + 1) % 256) 1))), (f2, .inl (cI, 256, .inl (fdF ct fd sz ((j + 1) % 256))))] := hD
      refine lv_iload hx hb dX1_findFrom_36 (lv_at hl 0 rfl) ?_
      refine lv_iconst (v := (nI 3)) hx hb dX1_findFrom_38 (by decide) ?_
      refine lv_icmp_eq (tgt := 49) hx hb dX1_findFrom_39 (by decide) (fun c_39 => ?_) (fun c_39 => ?_)
      · skip
        have c_39 : ((iN (w j)) / 4096) = 3 := (nI_eq (a := ((iN (w j)) / 4096)) (b := 3) (by omega) (by omega)).mp c_39
        refine lv_aload_n hx hb dX1_findFrom_49 rfl (lv_at hl 2 rfl) ?_
        refine lv_iload_n hx hb dX1_findFrom_50 rfl (lv_at hl 1 rfl) ?_
        refine pN_i (As := [.int (nI (iN (w j)))]) (rest := [.ref f0]) ⟨hx, hb, hml, hown, hts⟩ (kX9_addressOf l Z (iN (w j)) (hw _)) ⟨va_cnB 1 hts gX1_findFrom_X9_addressOf_n47 rfl rfl rfl (nm_X1_47 hE) (hts (.initialized RX9) (by decide +kernel)) (by decide +kernel) ⟨Nat.le_of_ble_eq_true rfl, Nat.le_of_ble_eq_true rfl⟩, (hts (.static yX9_addressOf) (by decide +kernel)), trivial⟩ hK hE hP hD hS hA hl.1 rfl rfl (Nat.le_of_ble_eq_true rfl) dX1_findFrom_51 ⟨Nat.le_of_ble_eq_true rfl, Nat.le_of_ble_eq_true rfl⟩ (fun H locs hP hS => ?_)
        refine kV_v (As := [.int (nI ((iN (w j)) / 2 % 256))]) (rest := []) (wr := [(a1, .inr (5, [.ref a6, .ref a7])), (a6, .inl (cI, 256, .inl w))]) ⟨hx, hb, hml, hown, hts⟩ (kX1_find l D Z cB cI cJ cZ H.size f0 f1 f2 (upd ct ((j + 1) % 256) 1) (fdF ct fd sz ((j + 1) % 256)) (szF ct sz ((j + 1) % 256)) ((iN (w j)) / 2 % 256) (RB_1 hm _) (by first | assumption | omega) (by rw [cn_1 ct (by omega), hsz])) (cwV 1 hts gX1_findFrom_X1_find rfl rfl rfl (by decide +kernel) ⟨Nat.le_of_ble_eq_true rfl, Nat.le_of_ble_eq_true rfl⟩) hK hE hP hD hS hA 0 1 rfl rfl rfl [2, 3, 4] [0, 1] rfl rfl rfl rfl rfl (by decide) hl.1 rfl rfl (Nat.le_of_ble_eq_true rfl) dX1_findFrom_54 ⟨Nat.le_of_ble_eq_true rfl, Nat.le_of_ble_eq_true rfl⟩ (fun u H locs hp hP hD hS => ?_)
        obtain ⟨v_4, v_5, v_6⟩ := u
        try dsimp only at hp
        obtain ⟨hq_0, hq_1, hq_2⟩ := hp
        have hq_0 := hq_0.symm
        subst hq_0
        have hq_1 := hq_1.symm
        subst hq_1
        have hq_2 := hq_2.symm
        subst hq_2
        have hP : va_P D vwCl [(a1, .inr (5, [.ref a6, .ref a7])), (a6, .inl (cI, 256, .inl w)), (f0, .inr (1, [.ref f1, .ref f2, .int (nI (szF (upd ct ((j + 1) % 256) 1) (szF ct sz ((j + 1) % 256)) ((iN (w j)) / 2 % 256)))])), (f1, .inl (cZ, 256, .inl (upd (upd ct ((j + 1) % 256) 1) ((iN (w j)) / 2 % 256) 1))), (f2, .inl (cI, 256, .inl (fdF (upd ct ((j + 1) % 256) 1) (fdF ct fd sz ((j + 1) % 256)) (szF ct sz ((j + 1) % 256)) ((iN (w j)) / 2 % 256))))] H := hP
        have hD : va_D A [(a1, .inr (5, [.ref a6, .ref a7])), (a6, .inl (cI, 256, .inl w)), (f0, .inr (1, [.ref f1, .ref f2, .int (nI (szF (upd ct ((j + 1) % 256) 1) (szF ct sz ((j + 1) % 256)) ((iN (w j)) / 2 % 256)))])), (f1, .inl (cZ, 256, .inl (upd (upd ct ((j + 1) % 256) 1) ((iN (w j)) / 2 % 256) 1))), (f2, .inl (cI, 256, .inl (fdF (upd ct ((j + 1) % 256) 1) (fdF ct fd sz ((j + 1) % 256)) (szF ct sz ((j + 1) % 256)) ((iN (w j)) / 2 % 256))))] := hD
        exact ret_v hx hb hr hlocks ((upd (upd ct ((j + 1) % 256) 1) ((iN (w j)) / 2 % 256) 1), (fdF (upd ct ((j + 1) % 256) 1) (fdF ct fd sz ((j + 1) % 256)) (szF ct sz ((j + 1) % 256)) ((iN (w j)) / 2 % 256)), (szF (upd ct ((j + 1) % 256) 1) (szF ct sz ((j + 1) % 256)) ((iN (w j)) / 2 % 256))) ⟨(by first | (rw [ffC, if_pos (go_t c_16 c_24), if_pos (jm_t1 c_39)]) | (rw [ffC, if_pos (go_t c_16 c_24), if_pos (jm_t2 c_46)]) | (rw [ffC, if_pos (go_t c_16 c_24), if_neg (jm_f c_39 c_46)]) | (rw [ffC, if_neg (go_f1 c_16)]) | (rw [ffC, if_neg (go_f2 c_24)])), (by first | (rw [ffF, if_pos (go_t c_16 c_24), if_pos (jm_t1 c_39)]) | (rw [ffF, if_pos (go_t c_16 c_24), if_pos (jm_t2 c_46)]) | (rw [ffF, if_pos (go_t c_16 c_24), if_neg (jm_f c_39 c_46)]) | (rw [ffF, if_neg (go_f1 c_16)]) | (rw [ffF, if_neg (go_f2 c_24)])), (by first | (rw [ffS, if_pos (go_t c_16 c_24), if_pos (jm_t1 c_39)]) | (rw [ffS, if_pos (go_t c_16 c_24), if_pos (jm_t2 c_46)]) | (rw [ffS, if_pos (go_t c_16 c_24), if_neg (jm_f c_39 c_46)]) | (rw [ffS, if_neg (go_f1 c_16)]) | (rw [ffS, if_neg (go_f2 c_24)]))⟩ (hP.sub [2, 3, 4, 0, 1] rfl) (hD.sub [2, 3, 4, 0, 1] (by decide) rfl) hS dX1_findFrom_57
      · skip
        have c_39 : ¬ ((iN (w j)) / 4096) = 3 := fun z => c_39 ((nI_eq (a := ((iN (w j)) / 4096)) (b := 3) (by omega) (by omega)).mpr z)
        refine lv_iload hx hb dX1_findFrom_42 (lv_at hl 0 rfl) ?_
        refine lv_bipush (v := (nI 27)) hx hb dX1_findFrom_44 (by decide) ?_
        refine lv_icmp_ne (tgt := 57) hx hb dX1_findFrom_46 (by decide) (fun c_46 => ?_) (fun c_46 => ?_)
        · skip
          have c_46 : ¬ ((iN (w j)) / 4096) = 27 := fun z => c_46 ((nI_eq (a := ((iN (w j)) / 4096)) (b := 27) (by omega) (by omega)).mpr z)
          exact ret_v hx hb hr hlocks ((upd ct ((j + 1) % 256) 1), (fdF ct fd sz ((j + 1) % 256)), (szF ct sz ((j + 1) % 256))) ⟨(by first | (rw [ffC, if_pos (go_t c_16 c_24), if_pos (jm_t1 c_39)]) | (rw [ffC, if_pos (go_t c_16 c_24), if_pos (jm_t2 c_46)]) | (rw [ffC, if_pos (go_t c_16 c_24), if_neg (jm_f c_39 c_46)]) | (rw [ffC, if_neg (go_f1 c_16)]) | (rw [ffC, if_neg (go_f2 c_24)])), (by first | (rw [ffF, if_pos (go_t c_16 c_24), if_pos (jm_t1 c_39)]) | (rw [ffF, if_pos (go_t c_16 c_24), if_pos (jm_t2 c_46)]) | (rw [ffF, if_pos (go_t c_16 c_24), if_neg (jm_f c_39 c_46)]) | (rw [ffF, if_neg (go_f1 c_16)]) | (rw [ffF, if_neg (go_f2 c_24)])), (by first | (rw [ffS, if_pos (go_t c_16 c_24), if_pos (jm_t1 c_39)]) | (rw [ffS, if_pos (go_t c_16 c_24), if_pos (jm_t2 c_46)]) | (rw [ffS, if_pos (go_t c_16 c_24), if_neg (jm_f c_39 c_46)]) | (rw [ffS, if_neg (go_f1 c_16)]) | (rw [ffS, if_neg (go_f2 c_24)]))⟩ (hP.sub [2, 3, 4, 0, 1] rfl) (hD.sub [2, 3, 4, 0, 1] (by decide) rfl) hS dX1_findFrom_57
        · skip
          have c_46 : ((iN (w j)) / 4096) = 27 := (nI_eq (a := ((iN (w j)) / 4096)) (b := 27) (by omega) (by omega)).mp c_46
          refine lv_aload_n hx hb dX1_findFrom_49 rfl (lv_at hl 2 rfl) ?_
          refine lv_iload_n hx hb dX1_findFrom_50 rfl (lv_at hl 1 rfl) ?_
          refine pN_i (As := [.int (nI (iN (w j)))]) (rest := [.ref f0]) ⟨hx, hb, hml, hown, hts⟩ (kX9_addressOf l Z (iN (w j)) (hw _)) ⟨va_cnB 1 hts gX1_findFrom_X9_addressOf_n47 rfl rfl rfl (nm_X1_47 hE) (hts (.initialized RX9) (by decide +kernel)) (by decide +kernel) ⟨Nat.le_of_ble_eq_true rfl, Nat.le_of_ble_eq_true rfl⟩, (hts (.static yX9_addressOf) (by decide +kernel)), trivial⟩ hK hE hP hD hS hA hl.1 rfl rfl (Nat.le_of_ble_eq_true rfl) dX1_findFrom_51 ⟨Nat.le_of_ble_eq_true rfl, Nat.le_of_ble_eq_true rfl⟩ (fun H locs hP hS => ?_)
          refine kV_v (As := [.int (nI ((iN (w j)) / 2 % 256))]) (rest := []) (wr := [(a1, .inr (5, [.ref a6, .ref a7])), (a6, .inl (cI, 256, .inl w))]) ⟨hx, hb, hml, hown, hts⟩ (kX1_find l D Z cB cI cJ cZ H.size f0 f1 f2 (upd ct ((j + 1) % 256) 1) (fdF ct fd sz ((j + 1) % 256)) (szF ct sz ((j + 1) % 256)) ((iN (w j)) / 2 % 256) (RB_1 hm _) (by first | assumption | omega) (by rw [cn_1 ct (by omega), hsz])) (cwV 1 hts gX1_findFrom_X1_find rfl rfl rfl (by decide +kernel) ⟨Nat.le_of_ble_eq_true rfl, Nat.le_of_ble_eq_true rfl⟩) hK hE hP hD hS hA 0 1 rfl rfl rfl [2, 3, 4] [0, 1] rfl rfl rfl rfl rfl (by decide) hl.1 rfl rfl (Nat.le_of_ble_eq_true rfl) dX1_findFrom_54 ⟨Nat.le_of_ble_eq_true rfl, Nat.le_of_ble_eq_true rfl⟩ (fun u H locs hp hP hD hS => ?_)
          obtain ⟨v_7, v_8, v_9⟩ := u
          try dsimp only at hp
          obtain ⟨hq_0, hq_1, hq_2⟩ := hp
          have hq_0 := hq_0.symm
          subst hq_0
          have hq_1 := hq_1.symm
          subst hq_1
          have hq_2 := hq_2.symm
          subst hq_2
          have hP : va_P D vwCl [(a1, .inr (5, [.ref a6, .ref a7])), (a6, .inl (cI, 256, .inl w)), (f0, .inr (1, [.ref f1, .ref f2, .int (nI (szF (upd ct ((j + 1) % 256) 1) (szF ct sz ((j + 1) % 256)) ((iN (w j)) / 2 % 256)))])), (f1, .inl (cZ, 256, .inl (upd (upd ct ((j + 1) % 256) 1) ((iN (w j)) / 2 % 256) 1))), (f2, .inl (cI, 256, .inl (fdF (upd ct ((j + 1) % 256) 1) (fdF ct fd sz ((j + 1) % 256)) (szF ct sz ((j + 1) % 256)) ((iN (w j)) / 2 % 256))))] H := hP
          have hD : va_D A [(a1, .inr (5, [.ref a6, .ref a7])), (a6, .inl (cI, 256, .inl w)), (f0, .inr (1, [.ref f1, .ref f2, .int (nI (szF (upd ct ((j + 1) % 256) 1) (szF ct sz ((j + 1) % 256)) ((iN (w j)) / 2 % 256)))])), (f1, .inl (cZ, 256, .inl (upd (upd ct ((j + 1) % 256) 1) ((iN (w j)) / 2 % 256) 1))), (f2, .inl (cI, 256, .inl (fdF (upd ct ((j + 1) % 256) 1) (fdF ct fd sz ((j + 1) % 256)) (szF ct sz ((j + 1) % 256)) ((iN (w j)) / 2 % 256))))] := hD
          exact ret_v hx hb hr hlocks ((upd (upd ct ((j + 1) % 256) 1) ((iN (w j)) / 2 % 256) 1), (fdF (upd ct ((j + 1) % 256) 1) (fdF ct fd sz ((j + 1) % 256)) (szF ct sz ((j + 1) % 256)) ((iN (w j)) / 2 % 256)), (szF (upd ct ((j + 1) % 256) 1) (szF ct sz ((j + 1) % 256)) ((iN (w j)) / 2 % 256))) ⟨(by first | (rw [ffC, if_pos (go_t c_16 c_24), if_pos (jm_t1 c_39)]) | (rw [ffC, if_pos (go_t c_16 c_24), if_pos (jm_t2 c_46)]) | (rw [ffC, if_pos (go_t c_16 c_24), if_neg (jm_f c_39 c_46)]) | (rw [ffC, if_neg (go_f1 c_16)]) | (rw [ffC, if_neg (go_f2 c_24)])), (by first | (rw [ffF, if_pos (go_t c_16 c_24), if_pos (jm_t1 c_39)]) | (rw [ffF, if_pos (go_t c_16 c_24), if_pos (jm_t2 c_46)]) | (rw [ffF, if_pos (go_t c_16 c_24), if_neg (jm_f c_39 c_46)]) | (rw [ffF, if_neg (go_f1 c_16)]) | (rw [ffF, if_neg (go_f2 c_24)])), (by first | (rw [ffS, if_pos (go_t c_16 c_24), if_pos (jm_t1 c_39)]) | (rw [ffS, if_pos (go_t c_16 c_24), if_pos (jm_t2 c_46)]) | (rw [ffS, if_pos (go_t c_16 c_24), if_neg (jm_f c_39 c_46)]) | (rw [ffS, if_neg (go_f1 c_16)]) | (rw [ffS, if_neg (go_f2 c_24)]))⟩ (hP.sub [2, 3, 4, 0, 1] rfl) (hD.sub [2, 3, 4, 0, 1] (by decide) rfl) hS dX1_findFrom_57
    · skip
      have c_24 := bI_f c_24
      exact ret_v hx hb hr hlocks (ct, fd, sz) ⟨(by first | (rw [ffC, if_pos (go_t c_16 c_24), if_pos (jm_t1 c_39)]) | (rw [ffC, if_pos (go_t c_16 c_24), if_pos (jm_t2 c_46)]) | (rw [ffC, if_pos (go_t c_16 c_24), if_neg (jm_f c_39 c_46)]) | (rw [ffC, if_neg (go_f1 c_16)]) | (rw [ffC, if_neg (go_f2 c_24)])), (by first | (rw [ffF, if_pos (go_t c_16 c_24), if_pos (jm_t1 c_39)]) | (rw [ffF, if_pos (go_t c_16 c_24), if_pos (jm_t2 c_46)]) | (rw [ffF, if_pos (go_t c_16 c_24), if_neg (jm_f c_39 c_46)]) | (rw [ffF, if_neg (go_f1 c_16)]) | (rw [ffF, if_neg (go_f2 c_24)])), (by first | (rw [ffS, if_pos (go_t c_16 c_24), if_pos (jm_t1 c_39)]) | (rw [ffS, if_pos (go_t c_16 c_24), if_pos (jm_t2 c_46)]) | (rw [ffS, if_pos (go_t c_16 c_24), if_neg (jm_f c_39 c_46)]) | (rw [ffS, if_neg (go_f1 c_16)]) | (rw [ffS, if_neg (go_f2 c_24)]))⟩ (hP.sub [0, 1, 2, 3, 4] rfl) (hD.sub [0, 1, 2, 3, 4] (by decide) rfl) hS dX1_findFrom_27

set_option maxHeartbeats 4000000 in
set_option maxRecDepth 100000 in
theorem kX1_altersWhatIsComeTo (l : Launch) (D : va_G) (Z : SZ) (cB cI cJ cZ : ClassId) (ksz : Nat) (f0 : Nat) (f1 : Nat) (f2 : Nat) (ct : Nat → Int32) (sz : Nat) (o : Nat) (hm : RB ct) (ho : o < 131072) : Met l yX1_altersWhatIsComeTo wsX1_altersWhatIsComeTo { frames := 1, cells := 0, slots := 0, locals := 21 } (PR D Z [(cB, .byte), (cI, .int), (cJ, .long), (cZ, .boolean)] [.ref f0, .int (nI o)] [(f0, .inr (1, [.ref f1, .ref f2, .int (nI sz)])), (f1, .inl (cZ, 256, .inl ct))] ksz) (QI D (fun (r : Int32) (_ : Unit) => r = (bI (altB o ct))) (fun (_ : Unit) => [(f0, .inr (1, [.ref f1, .ref f2, .int (nI sz)])), (f1, .inl (cZ, 256, .inl ct))]) (va_A [(f0, .inr (1, [.ref f1, .ref f2, .int (nI sz)])), (f1, .inl (cZ, 256, .inl ct))] ksz)) 0 0 (va_A [(f0, .inr (1, [.ref f1, .ref f2, .int (nI sz)])), (f1, .inl (cZ, 256, .inl ct))] ksz) := by
  refine met_g (QI D (fun (r : Int32) (_ : Unit) => r = (bI (altB o ct))) (fun (_ : Unit) => [(f0, .inr (1, [.ref f1, .ref f2, .int (nI sz)])), (f1, .inl (cZ, 256, .inl ct))])) cX1_altersWhatIsComeTo 3 (some .boolean) (by decide) rfl (Nat.le_of_ble_eq_true rfl) ?_
  intro p e s m below meth c A ls hx hb hr hts hown hlocks hml hin hA hP hK hD hE hS hl hsz
  clear hsz
  have hl : lv_has ls 3 [(0, .ref f0), (1, .int (nI o))] := hl
  refine lv_iload_n hx hb dX1_altersWhatIsComeTo_0 rfl (lv_at hl 1 rfl) ?_
  refine pN_i (As := [.int (nI o)]) (rest := []) ⟨hx, hb, hml, hown, hts⟩ (kX9_addressOf l Z o (by first | assumption | omega)) ⟨va_cnB 1 hts gX1_altersWhatIsComeTo_X9_addressOf_n47 rfl rfl rfl (nm_X1_47 hE) (hts (.initialized RX9) (by decide +kernel)) (by decide +kernel) ⟨Nat.le_of_ble_eq_true rfl, Nat.le_of_ble_eq_true rfl⟩, (hts (.static yX9_addressOf) (by decide +kernel)), trivial⟩ hK hE hP hD hS hA hl.1 rfl rfl (Nat.le_of_ble_eq_true rfl) dX1_altersWhatIsComeTo_1 ⟨Nat.le_of_ble_eq_true rfl, Nat.le_of_ble_eq_true rfl⟩ (fun H locs hP hS => ?_)
  refine lv_istore_n (lv' := [(2, .int (nI (o / 2 % 256))), (0, .ref f0), (1, .int (nI o))]) hx hb dX1_altersWhatIsComeTo_4 rfl hl (by decide) rfl (fun ls hl => ?_)
  refine lv_iload_n hx hb dX1_altersWhatIsComeTo_5 rfl (lv_at hl 2 rfl) ?_
  refine pN_i (As := [.int (nI o)]) (rest := []) ⟨hx, hb, hml, hown, hts⟩ (kX9_functionOf l Z o (by first | assumption | omega)) ⟨va_cnB 1 hts gX1_altersWhatIsComeTo_X9_functionOf_n37 rfl rfl rfl (nm_X1_37 hE) (hts (.initialized RX9) (by decide +kernel)) (by decide +kernel) ⟨Nat.le_of_ble_eq_true rfl, Nat.le_of_ble_eq_true rfl⟩, (hts (.static yX9_functionOf) (by decide +kernel)), trivial⟩ hK hE hP hD hS hA hl.1 rfl rfl (Nat.le_of_ble_eq_true rfl) dX1_altersWhatIsComeTo_6 ⟨Nat.le_of_ble_eq_true rfl, Nat.le_of_ble_eq_true rfl⟩ (fun H locs hP hS => ?_)
  have hv : o / 4096 = 5 ∨ o / 4096 = 7 ∨ o / 4096 = 8 ∨ o / 4096 = 17 ∨ (¬ o / 4096 = 5 ∧ ¬ o / 4096 = 7 ∧ ¬ o / 4096 = 8 ∧ ¬ o / 4096 = 17) := by omega
  rcases hv with cv | cv | cv | cv | cv
  · skip
    refine lv_lookup (tgt := 52) hx hb dX1_altersWhatIsComeTo_9 (by decide) (by rw [cv] <;> decide +kernel) (by decide) ?_
    refine lv_iload_n hx hb dX1_altersWhatIsComeTo_52 rfl (lv_at hl 2 rfl) ?_
    refine pN_i (As := [.int (nI o)]) (rest := []) ⟨hx, hb, hml, hown, hts⟩ (kX9_isLongOrder l Z o (by first | assumption | omega)) ⟨va_cnB 1 hts gX1_altersWhatIsComeTo_X9_isLongOrder_n56 rfl rfl rfl (nm_X1_56 hE) (hts (.initialized RX9) (by decide +kernel)) (by decide +kernel) ⟨Nat.le_of_ble_eq_true rfl, Nat.le_of_ble_eq_true rfl⟩, (hts (.static yX9_isLongOrder) (by decide +kernel)), trivial⟩ hK hE hP hD hS hA hl.1 rfl rfl (Nat.le_of_ble_eq_true rfl) dX1_altersWhatIsComeTo_53 ⟨Nat.le_of_ble_eq_true rfl, Nat.le_of_ble_eq_true rfl⟩ (fun H locs hP hS => ?_)
    refine lv_if_eq (tgt := 88) hx hb dX1_altersWhatIsComeTo_56 (by decide) (fun c_56 => ?_) (fun c_56 => ?_)
    · skip
      have c_56 := bI_f c_56
      have c_56 := of_decide_eq_false c_56
      refine lv_aload_n hx hb dX1_altersWhatIsComeTo_88 rfl (lv_at hl 1 rfl) ?_
      refine lv_iload_n hx hb dX1_altersWhatIsComeTo_89 rfl (lv_at hl 0 rfl) ?_
      refine kV_i (As := [.int (nI (o / 2 % 256))]) (rest := []) (wr := []) ⟨hx, hb, hml, hown, hts⟩ (kX1_isComeTo l D Z cB cI cJ cZ H.size f0 f1 f2 ct sz (o / 2 % 256) (by first | assumption | omega) (by first | assumption | omega)) (cwV 1 hts gX1_altersWhatIsComeTo_X1_isComeTo rfl rfl rfl (by decide +kernel) ⟨Nat.le_of_ble_eq_true rfl, Nat.le_of_ble_eq_true rfl⟩) hK hE hP hD hS hA 0 1 rfl rfl rfl [0, 1] [] rfl rfl rfl rfl rfl (by decide) hl.1 rfl rfl (Nat.le_of_ble_eq_true rfl) dX1_altersWhatIsComeTo_90 ⟨Nat.le_of_ble_eq_true rfl, Nat.le_of_ble_eq_true rfl⟩ (fun r u H locs hp hP hD hS => ?_)
      try dsimp only at hp
      have hq_0 := hp
      have hq_0 := hq_0.symm
      subst hq_0
      have hP : va_P D vwCl [(f0, .inr (1, [.ref f1, .ref f2, .int (nI sz)])), (f1, .inl (cZ, 256, .inl ct))] H := hP
      have hD : va_D A [(f0, .inr (1, [.ref f1, .ref f2, .int (nI sz)])), (f1, .inl (cZ, 256, .inl ct))] := hD
      exact ret_z hx hb hr (bI_nar _) hlocks () (by first | (rw [altB, cv]; simp only [c_56, c_67, c_77, if_true, if_false]; rfl) | (rw [altB, cv]; simp only [c_56, c_67, if_true]; rfl) | (rw [altB, cv]; simp only [c_56, if_false]; rfl) | (simp [altB, cv, bI]; done)) (hP.sub [0, 1] rfl) (hD.sub [0, 1] (by decide) rfl) hS dX1_altersWhatIsComeTo_93
    · skip
      have c_56 := bI_t c_56
      have c_56 := of_decide_eq_true c_56
      refine lv_aload_n hx hb dX1_altersWhatIsComeTo_59 rfl (lv_at hl 1 rfl) ?_
      refine lv_iload_n hx hb dX1_altersWhatIsComeTo_60 rfl (lv_at hl 0 rfl) ?_
      refine lv_bipush (v := (-2)) hx hb dX1_altersWhatIsComeTo_61 (by decide) ?_
      refine lv_iand hx hb dX1_altersWhatIsComeTo_63 ?_
      refine set_i (y := nI (o / 2 % 256 / 2 * 2)) (e_am2 _ (by omega)) ?_
      refine kV_i (As := [.int (nI (o / 2 % 256 / 2 * 2))]) (rest := []) (wr := []) ⟨hx, hb, hml, hown, hts⟩ (kX1_isComeTo l D Z cB cI cJ cZ H.size f0 f1 f2 ct sz (o / 2 % 256 / 2 * 2) (by first | assumption | omega) (by first | assumption | omega)) (cwV 1 hts gX1_altersWhatIsComeTo_X1_isComeTo rfl rfl rfl (by decide +kernel) ⟨Nat.le_of_ble_eq_true rfl, Nat.le_of_ble_eq_true rfl⟩) hK hE hP hD hS hA 0 1 rfl rfl rfl [0, 1] [] rfl rfl rfl rfl rfl (by decide) hl.1 rfl rfl (Nat.le_of_ble_eq_true rfl) dX1_altersWhatIsComeTo_64 ⟨Nat.le_of_ble_eq_true rfl, Nat.le_of_ble_eq_true rfl⟩ (fun r u H locs hp hP hD hS => ?_)
      try dsimp only at hp
      have hq_0 := hp
      have hq_0 := hq_0.symm
      subst hq_0
      have hP : va_P D vwCl [(f0, .inr (1, [.ref f1, .ref f2, .int (nI sz)])), (f1, .inl (cZ, 256, .inl ct))] H := hP
      have hD : va_D A [(f0, .inr (1, [.ref f1, .ref f2, .int (nI sz)])), (f1, .inl (cZ, 256, .inl ct))] := hD
      refine lv_if_ne (tgt := 80) hx hb dX1_altersWhatIsComeTo_67 (by decide) (fun c_67 => ?_) (fun c_67 => ?_)
      · skip
        have c_67 := bI_t c_67
        refine lv_iconst (v := 1) hx hb dX1_altersWhatIsComeTo_80 (by decide) ?_
        refine lv_goto (tgt := 93) hx hb dX1_altersWhatIsComeTo_81 (by decide) ?_
        exact ret_z hx hb hr rfl hlocks () (by first | (rw [altB, cv]; simp only [c_56, c_67, c_77, if_true, if_false]; rfl) | (rw [altB, cv]; simp only [c_56, c_67, if_true]; rfl) | (rw [altB, cv]; simp only [c_56, if_false]; rfl) | (simp [altB, cv, bI]; done)) (hP.sub [0, 1] rfl) (hD.sub [0, 1] (by decide) rfl) hS dX1_altersWhatIsComeTo_93
      · skip
        have c_67 := bI_f c_67
        refine lv_aload_n hx hb dX1_altersWhatIsComeTo_70 rfl (lv_at hl 1 rfl) ?_
        refine lv_iload_n hx hb dX1_altersWhatIsComeTo_71 rfl (lv_at hl 0 rfl) ?_
        refine lv_iconst (v := 1) hx hb dX1_altersWhatIsComeTo_72 (by decide) ?_
        refine lv_ior hx hb dX1_altersWhatIsComeTo_73 ?_
        refine set_i (y := nI (o / 2 % 256 / 2 * 2 + 1)) (e_or1 _ (by omega)) ?_
        refine kV_i (As := [.int (nI (o / 2 % 256 / 2 * 2 + 1))]) (rest := []) (wr := []) ⟨hx, hb, hml, hown, hts⟩ (kX1_isComeTo l D Z cB cI cJ cZ H.size f0 f1 f2 ct sz (o / 2 % 256 / 2 * 2 + 1) (by first | assumption | omega) (by first | assumption | omega)) (cwV 1 hts gX1_altersWhatIsComeTo_X1_isComeTo rfl rfl rfl (by decide +kernel) ⟨Nat.le_of_ble_eq_true rfl, Nat.le_of_ble_eq_true rfl⟩) hK hE hP hD hS hA 0 1 rfl rfl rfl [0, 1] [] rfl rfl rfl rfl rfl (by decide) hl.1 rfl rfl (Nat.le_of_ble_eq_true rfl) dX1_altersWhatIsComeTo_74 ⟨Nat.le_of_ble_eq_true rfl, Nat.le_of_ble_eq_true rfl⟩ (fun r u H locs hp hP hD hS => ?_)
        try dsimp only at hp
        have hq_0 := hp
        have hq_0 := hq_0.symm
        subst hq_0
        have hP : va_P D vwCl [(f0, .inr (1, [.ref f1, .ref f2, .int (nI sz)])), (f1, .inl (cZ, 256, .inl ct))] H := hP
        have hD : va_D A [(f0, .inr (1, [.ref f1, .ref f2, .int (nI sz)])), (f1, .inl (cZ, 256, .inl ct))] := hD
        refine lv_if_eq (tgt := 84) hx hb dX1_altersWhatIsComeTo_77 (by decide) (fun c_77 => ?_) (fun c_77 => ?_)
        · skip
          have c_77 := bI_f c_77
          refine lv_iconst (v := 0) hx hb dX1_altersWhatIsComeTo_84 (by decide) ?_
          refine lv_goto (tgt := 93) hx hb dX1_altersWhatIsComeTo_85 (by decide) ?_
          exact ret_z hx hb hr rfl hlocks () (by first | (rw [altB, cv]; simp only [c_56, c_67, c_77, if_true, if_false]; rfl) | (rw [altB, cv]; simp only [c_56, c_67, if_true]; rfl) | (rw [altB, cv]; simp only [c_56, if_false]; rfl) | (simp [altB, cv, bI]; done)) (hP.sub [0, 1] rfl) (hD.sub [0, 1] (by decide) rfl) hS dX1_altersWhatIsComeTo_93
        · skip
          have c_77 := bI_t c_77
          refine lv_iconst (v := 1) hx hb dX1_altersWhatIsComeTo_80 (by decide) ?_
          refine lv_goto (tgt := 93) hx hb dX1_altersWhatIsComeTo_81 (by decide) ?_
          exact ret_z hx hb hr rfl hlocks () (by first | (rw [altB, cv]; simp only [c_56, c_67, c_77, if_true, if_false]; rfl) | (rw [altB, cv]; simp only [c_56, c_67, if_true]; rfl) | (rw [altB, cv]; simp only [c_56, if_false]; rfl) | (simp [altB, cv, bI]; done)) (hP.sub [0, 1] rfl) (hD.sub [0, 1] (by decide) rfl) hS dX1_altersWhatIsComeTo_93
  · skip
    refine lv_lookup (tgt := 52) hx hb dX1_altersWhatIsComeTo_9 (by decide) (by rw [cv] <;> decide +kernel) (by decide) ?_
    refine lv_iload_n hx hb dX1_altersWhatIsComeTo_52 rfl (lv_at hl 2 rfl) ?_
    refine pN_i (As := [.int (nI o)]) (rest := []) ⟨hx, hb, hml, hown, hts⟩ (kX9_isLongOrder l Z o (by first | assumption | omega)) ⟨va_cnB 1 hts gX1_altersWhatIsComeTo_X9_isLongOrder_n56 rfl rfl rfl (nm_X1_56 hE) (hts (.initialized RX9) (by decide +kernel)) (by decide +kernel) ⟨Nat.le_of_ble_eq_true rfl, Nat.le_of_ble_eq_true rfl⟩, (hts (.static yX9_isLongOrder) (by decide +kernel)), trivial⟩ hK hE hP hD hS hA hl.1 rfl rfl (Nat.le_of_ble_eq_true rfl) dX1_altersWhatIsComeTo_53 ⟨Nat.le_of_ble_eq_true rfl, Nat.le_of_ble_eq_true rfl⟩ (fun H locs hP hS => ?_)
    refine lv_if_eq (tgt := 88) hx hb dX1_altersWhatIsComeTo_56 (by decide) (fun c_56 => ?_) (fun c_56 => ?_)
    · skip
      have c_56 := bI_f c_56
      have c_56 := of_decide_eq_false c_56
      refine lv_aload_n hx hb dX1_altersWhatIsComeTo_88 rfl (lv_at hl 1 rfl) ?_
      refine lv_iload_n hx hb dX1_altersWhatIsComeTo_89 rfl (lv_at hl 0 rfl) ?_
      refine kV_i (As := [.int (nI (o / 2 % 256))]) (rest := []) (wr := []) ⟨hx, hb, hml, hown, hts⟩ (kX1_isComeTo l D Z cB cI cJ cZ H.size f0 f1 f2 ct sz (o / 2 % 256) (by first | assumption | omega) (by first | assumption | omega)) (cwV 1 hts gX1_altersWhatIsComeTo_X1_isComeTo rfl rfl rfl (by decide +kernel) ⟨Nat.le_of_ble_eq_true rfl, Nat.le_of_ble_eq_true rfl⟩) hK hE hP hD hS hA 0 1 rfl rfl rfl [0, 1] [] rfl rfl rfl rfl rfl (by decide) hl.1 rfl rfl (Nat.le_of_ble_eq_true rfl) dX1_altersWhatIsComeTo_90 ⟨Nat.le_of_ble_eq_true rfl, Nat.le_of_ble_eq_true rfl⟩ (fun r u H locs hp hP hD hS => ?_)
      try dsimp only at hp
      have hq_0 := hp
      have hq_0 := hq_0.symm
      subst hq_0
      have hP : va_P D vwCl [(f0, .inr (1, [.ref f1, .ref f2, .int (nI sz)])), (f1, .inl (cZ, 256, .inl ct))] H := hP
      have hD : va_D A [(f0, .inr (1, [.ref f1, .ref f2, .int (nI sz)])), (f1, .inl (cZ, 256, .inl ct))] := hD
      exact ret_z hx hb hr (bI_nar _) hlocks () (by first | (rw [altB, cv]; simp only [c_56, c_67, c_77, if_true, if_false]; rfl) | (rw [altB, cv]; simp only [c_56, c_67, if_true]; rfl) | (rw [altB, cv]; simp only [c_56, if_false]; rfl) | (simp [altB, cv, bI]; done)) (hP.sub [0, 1] rfl) (hD.sub [0, 1] (by decide) rfl) hS dX1_altersWhatIsComeTo_93
    · skip
      have c_56 := bI_t c_56
      have c_56 := of_decide_eq_true c_56
      refine lv_aload_n hx hb dX1_altersWhatIsComeTo_59 rfl (lv_at hl 1 rfl) ?_
      refine lv_iload_n hx hb dX1_altersWhatIsComeTo_60 rfl (lv_at hl 0 rfl) ?_
      refine lv_bipush (v := (-2)) hx hb dX1_altersWhatIsComeTo_61 (by decide) ?_
      refine lv_iand hx hb dX1_altersWhatIsComeTo_63 ?_
      refine set_i (y := nI (o / 2 % 256 / 2 * 2)) (e_am2 _ (by omega)) ?_
      refine kV_i (As := [.int (nI (o / 2 % 256 / 2 * 2))]) (rest := []) (wr := []) ⟨hx, hb, hml, hown, hts⟩ (kX1_isComeTo l D Z cB cI cJ cZ H.size f0 f1 f2 ct sz (o / 2 % 256 / 2 * 2) (by first | assumption | omega) (by first | assumption | omega)) (cwV 1 hts gX1_altersWhatIsComeTo_X1_isComeTo rfl rfl rfl (by decide +kernel) ⟨Nat.le_of_ble_eq_true rfl, Nat.le_of_ble_eq_true rfl⟩) hK hE hP hD hS hA 0 1 rfl rfl rfl [0, 1] [] rfl rfl rfl rfl rfl (by decide) hl.1 rfl rfl (Nat.le_of_ble_eq_true rfl) dX1_altersWhatIsComeTo_64 ⟨Nat.le_of_ble_eq_true rfl, Nat.le_of_ble_eq_true rfl⟩ (fun r u H locs hp hP hD hS => ?_)
      try dsimp only at hp
      have hq_0 := hp
      have hq_0 := hq_0.symm
      subst hq_0
      have hP : va_P D vwCl [(f0, .inr (1, [.ref f1, .ref f2, .int (nI sz)])), (f1, .inl (cZ, 256, .inl ct))] H := hP
      have hD : va_D A [(f0, .inr (1, [.ref f1, .ref f2, .int (nI sz)])), (f1, .inl (cZ, 256, .inl ct))] := hD
      refine lv_if_ne (tgt := 80) hx hb dX1_altersWhatIsComeTo_67 (by decide) (fun c_67 => ?_) (fun c_67 => ?_)
      · skip
        have c_67 := bI_t c_67
        refine lv_iconst (v := 1) hx hb dX1_altersWhatIsComeTo_80 (by decide) ?_
        refine lv_goto (tgt := 93) hx hb dX1_altersWhatIsComeTo_81 (by decide) ?_
        exact ret_z hx hb hr rfl hlocks () (by first | (rw [altB, cv]; simp only [c_56, c_67, c_77, if_true, if_false]; rfl) | (rw [altB, cv]; simp only [c_56, c_67, if_true]; rfl) | (rw [altB, cv]; simp only [c_56, if_false]; rfl) | (simp [altB, cv, bI]; done)) (hP.sub [0, 1] rfl) (hD.sub [0, 1] (by decide) rfl) hS dX1_altersWhatIsComeTo_93
      · skip
        have c_67 := bI_f c_67
        refine lv_aload_n hx hb dX1_altersWhatIsComeTo_70 rfl (lv_at hl 1 rfl) ?_
        refine lv_iload_n hx hb dX1_altersWhatIsComeTo_71 rfl (lv_at hl 0 rfl) ?_
        refine lv_iconst (v := 1) hx hb dX1_altersWhatIsComeTo_72 (by decide) ?_
        refine lv_ior hx hb dX1_altersWhatIsComeTo_73 ?_
        refine set_i (y := nI (o / 2 % 256 / 2 * 2 + 1)) (e_or1 _ (by omega)) ?_
        refine kV_i (As := [.int (nI (o / 2 % 256 / 2 * 2 + 1))]) (rest := []) (wr := []) ⟨hx, hb, hml, hown, hts⟩ (kX1_isComeTo l D Z cB cI cJ cZ H.size f0 f1 f2 ct sz (o / 2 % 256 / 2 * 2 + 1) (by first | assumption | omega) (by first | assumption | omega)) (cwV 1 hts gX1_altersWhatIsComeTo_X1_isComeTo rfl rfl rfl (by decide +kernel) ⟨Nat.le_of_ble_eq_true rfl, Nat.le_of_ble_eq_true rfl⟩) hK hE hP hD hS hA 0 1 rfl rfl rfl [0, 1] [] rfl rfl rfl rfl rfl (by decide) hl.1 rfl rfl (Nat.le_of_ble_eq_true rfl) dX1_altersWhatIsComeTo_74 ⟨Nat.le_of_ble_eq_true rfl, Nat.le_of_ble_eq_true rfl⟩ (fun r u H locs hp hP hD hS => ?_)
        try dsimp only at hp
        have hq_0 := hp
        have hq_0 := hq_0.symm
        subst hq_0
        have hP : va_P D vwCl [(f0, .inr (1, [.ref f1, .ref f2, .int (nI sz)])), (f1, .inl (cZ, 256, .inl ct))] H := hP
        have hD : va_D A [(f0, .inr (1, [.ref f1, .ref f2, .int (nI sz)])), (f1, .inl (cZ, 256, .inl ct))] := hD
        refine lv_if_eq (tgt := 84) hx hb dX1_altersWhatIsComeTo_77 (by decide) (fun c_77 => ?_) (fun c_77 => ?_)
        · skip
          have c_77 := bI_f c_77
          refine lv_iconst (v := 0) hx hb dX1_altersWhatIsComeTo_84 (by decide) ?_
          refine lv_goto (tgt := 93) hx hb dX1_altersWhatIsComeTo_85 (by decide) ?_
          exact ret_z hx hb hr rfl hlocks () (by first | (rw [altB, cv]; simp only [c_56, c_67, c_77, if_true, if_false]; rfl) | (rw [altB, cv]; simp only [c_56, c_67, if_true]; rfl) | (rw [altB, cv]; simp only [c_56, if_false]; rfl) | (simp [altB, cv, bI]; done)) (hP.sub [0, 1] rfl) (hD.sub [0, 1] (by decide) rfl) hS dX1_altersWhatIsComeTo_93
        · skip
          have c_77 := bI_t c_77
          refine lv_iconst (v := 1) hx hb dX1_altersWhatIsComeTo_80 (by decide) ?_
          refine lv_goto (tgt := 93) hx hb dX1_altersWhatIsComeTo_81 (by decide) ?_
          exact ret_z hx hb hr rfl hlocks () (by first | (rw [altB, cv]; simp only [c_56, c_67, c_77, if_true, if_false]; rfl) | (rw [altB, cv]; simp only [c_56, c_67, if_true]; rfl) | (rw [altB, cv]; simp only [c_56, if_false]; rfl) | (simp [altB, cv, bI]; done)) (hP.sub [0, 1] rfl) (hD.sub [0, 1] (by decide) rfl) hS dX1_altersWhatIsComeTo_93
  · skip
    refine lv_lookup (tgt := 52) hx hb dX1_altersWhatIsComeTo_9 (by decide) (by rw [cv] <;> decide +kernel) (by decide) ?_
    refine lv_iload_n hx hb dX1_altersWhatIsComeTo_52 rfl (lv_at hl 2 rfl) ?_
    refine pN_i (As := [.int (nI o)]) (rest := []) ⟨hx, hb, hml, hown, hts⟩ (kX9_isLongOrder l Z o (by first | assumption | omega)) ⟨va_cnB 1 hts gX1_altersWhatIsComeTo_X9_isLongOrder_n56 rfl rfl rfl (nm_X1_56 hE) (hts (.initialized RX9) (by decide +kernel)) (by decide +kernel) ⟨Nat.le_of_ble_eq_true rfl, Nat.le_of_ble_eq_true rfl⟩, (hts (.static yX9_isLongOrder) (by decide +kernel)), trivial⟩ hK hE hP hD hS hA hl.1 rfl rfl (Nat.le_of_ble_eq_true rfl) dX1_altersWhatIsComeTo_53 ⟨Nat.le_of_ble_eq_true rfl, Nat.le_of_ble_eq_true rfl⟩ (fun H locs hP hS => ?_)
    refine lv_if_eq (tgt := 88) hx hb dX1_altersWhatIsComeTo_56 (by decide) (fun c_56 => ?_) (fun c_56 => ?_)
    · skip
      have c_56 := bI_f c_56
      have c_56 := of_decide_eq_false c_56
      refine lv_aload_n hx hb dX1_altersWhatIsComeTo_88 rfl (lv_at hl 1 rfl) ?_
      refine lv_iload_n hx hb dX1_altersWhatIsComeTo_89 rfl (lv_at hl 0 rfl) ?_
      refine kV_i (As := [.int (nI (o / 2 % 256))]) (rest := []) (wr := []) ⟨hx, hb, hml, hown, hts⟩ (kX1_isComeTo l D Z cB cI cJ cZ H.size f0 f1 f2 ct sz (o / 2 % 256) (by first | assumption | omega) (by first | assumption | omega)) (cwV 1 hts gX1_altersWhatIsComeTo_X1_isComeTo rfl rfl rfl (by decide +kernel) ⟨Nat.le_of_ble_eq_true rfl, Nat.le_of_ble_eq_true rfl⟩) hK hE hP hD hS hA 0 1 rfl rfl rfl [0, 1] [] rfl rfl rfl rfl rfl (by decide) hl.1 rfl rfl (Nat.le_of_ble_eq_true rfl) dX1_altersWhatIsComeTo_90 ⟨Nat.le_of_ble_eq_true rfl, Nat.le_of_ble_eq_true rfl⟩ (fun r u H locs hp hP hD hS => ?_)
      try dsimp only at hp
      have hq_0 := hp
      have hq_0 := hq_0.symm
      subst hq_0
      have hP : va_P D vwCl [(f0, .inr (1, [.ref f1, .ref f2, .int (nI sz)])), (f1, .inl (cZ, 256, .inl ct))] H := hP
      have hD : va_D A [(f0, .inr (1, [.ref f1, .ref f2, .int (nI sz)])), (f1, .inl (cZ, 256, .inl ct))] := hD
      exact ret_z hx hb hr (bI_nar _) hlocks () (by first | (rw [altB, cv]; simp only [c_56, c_67, c_77, if_true, if_false]; rfl) | (rw [altB, cv]; simp only [c_56, c_67, if_true]; rfl) | (rw [altB, cv]; simp only [c_56, if_false]; rfl) | (simp [altB, cv, bI]; done)) (hP.sub [0, 1] rfl) (hD.sub [0, 1] (by decide) rfl) hS dX1_altersWhatIsComeTo_93
    · skip
      have c_56 := bI_t c_56
      have c_56 := of_decide_eq_true c_56
      refine lv_aload_n hx hb dX1_altersWhatIsComeTo_59 rfl (lv_at hl 1 rfl) ?_
      refine lv_iload_n hx hb dX1_altersWhatIsComeTo_60 rfl (lv_at hl 0 rfl) ?_
      refine lv_bipush (v := (-2)) hx hb dX1_altersWhatIsComeTo_61 (by decide) ?_
      refine lv_iand hx hb dX1_altersWhatIsComeTo_63 ?_
      refine set_i (y := nI (o / 2 % 256 / 2 * 2)) (e_am2 _ (by omega)) ?_
      refine kV_i (As := [.int (nI (o / 2 % 256 / 2 * 2))]) (rest := []) (wr := []) ⟨hx, hb, hml, hown, hts⟩ (kX1_isComeTo l D Z cB cI cJ cZ H.size f0 f1 f2 ct sz (o / 2 % 256 / 2 * 2) (by first | assumption | omega) (by first | assumption | omega)) (cwV 1 hts gX1_altersWhatIsComeTo_X1_isComeTo rfl rfl rfl (by decide +kernel) ⟨Nat.le_of_ble_eq_true rfl, Nat.le_of_ble_eq_true rfl⟩) hK hE hP hD hS hA 0 1 rfl rfl rfl [0, 1] [] rfl rfl rfl rfl rfl (by decide) hl.1 rfl rfl (Nat.le_of_ble_eq_true rfl) dX1_altersWhatIsComeTo_64 ⟨Nat.le_of_ble_eq_true rfl, Nat.le_of_ble_eq_true rfl⟩ (fun r u H locs hp hP hD hS => ?_)
      try dsimp only at hp
      have hq_0 := hp
      have hq_0 := hq_0.symm
      subst hq_0
      have hP : va_P D vwCl [(f0, .inr (1, [.ref f1, .ref f2, .int (nI sz)])), (f1, .inl (cZ, 256, .inl ct))] H := hP
      have hD : va_D A [(f0, .inr (1, [.ref f1, .ref f2, .int (nI sz)])), (f1, .inl (cZ, 256, .inl ct))] := hD
      refine lv_if_ne (tgt := 80) hx hb dX1_altersWhatIsComeTo_67 (by decide) (fun c_67 => ?_) (fun c_67 => ?_)
      · skip
        have c_67 := bI_t c_67
        refine lv_iconst (v := 1) hx hb dX1_altersWhatIsComeTo_80 (by decide) ?_
        refine lv_goto (tgt := 93) hx hb dX1_altersWhatIsComeTo_81 (by decide) ?_
        exact ret_z hx hb hr rfl hlocks () (by first | (rw [altB, cv]; simp only [c_56, c_67, c_77, if_true, if_false]; rfl) | (rw [altB, cv]; simp only [c_56, c_67, if_true]; rfl) | (rw [altB, cv]; simp only [c_56, if_false]; rfl) | (simp [altB, cv, bI]; done)) (hP.sub [0, 1] rfl) (hD.sub [0, 1] (by decide) rfl) hS dX1_altersWhatIsComeTo_93
      · skip
        have c_67 := bI_f c_67
        refine lv_aload_n hx hb dX1_altersWhatIsComeTo_70 rfl (lv_at hl 1 rfl) ?_
        refine lv_iload_n hx hb dX1_altersWhatIsComeTo_71 rfl (lv_at hl 0 rfl) ?_
        refine lv_iconst (v := 1) hx hb dX1_altersWhatIsComeTo_72 (by decide) ?_
        refine lv_ior hx hb dX1_altersWhatIsComeTo_73 ?_
        refine set_i (y := nI (o / 2 % 256 / 2 * 2 + 1)) (e_or1 _ (by omega)) ?_
        refine kV_i (As := [.int (nI (o / 2 % 256 / 2 * 2 + 1))]) (rest := []) (wr := []) ⟨hx, hb, hml, hown, hts⟩ (kX1_isComeTo l D Z cB cI cJ cZ H.size f0 f1 f2 ct sz (o / 2 % 256 / 2 * 2 + 1) (by first | assumption | omega) (by first | assumption | omega)) (cwV 1 hts gX1_altersWhatIsComeTo_X1_isComeTo rfl rfl rfl (by decide +kernel) ⟨Nat.le_of_ble_eq_true rfl, Nat.le_of_ble_eq_true rfl⟩) hK hE hP hD hS hA 0 1 rfl rfl rfl [0, 1] [] rfl rfl rfl rfl rfl (by decide) hl.1 rfl rfl (Nat.le_of_ble_eq_true rfl) dX1_altersWhatIsComeTo_74 ⟨Nat.le_of_ble_eq_true rfl, Nat.le_of_ble_eq_true rfl⟩ (fun r u H locs hp hP hD hS => ?_)
        try dsimp only at hp
        have hq_0 := hp
        have hq_0 := hq_0.symm
        subst hq_0
        have hP : va_P D vwCl [(f0, .inr (1, [.ref f1, .ref f2, .int (nI sz)])), (f1, .inl (cZ, 256, .inl ct))] H := hP
        have hD : va_D A [(f0, .inr (1, [.ref f1, .ref f2, .int (nI sz)])), (f1, .inl (cZ, 256, .inl ct))] := hD
        refine lv_if_eq (tgt := 84) hx hb dX1_altersWhatIsComeTo_77 (by decide) (fun c_77 => ?_) (fun c_77 => ?_)
        · skip
          have c_77 := bI_f c_77
          refine lv_iconst (v := 0) hx hb dX1_altersWhatIsComeTo_84 (by decide) ?_
          refine lv_goto (tgt := 93) hx hb dX1_altersWhatIsComeTo_85 (by decide) ?_
          exact ret_z hx hb hr rfl hlocks () (by first | (rw [altB, cv]; simp only [c_56, c_67, c_77, if_true, if_false]; rfl) | (rw [altB, cv]; simp only [c_56, c_67, if_true]; rfl) | (rw [altB, cv]; simp only [c_56, if_false]; rfl) | (simp [altB, cv, bI]; done)) (hP.sub [0, 1] rfl) (hD.sub [0, 1] (by decide) rfl) hS dX1_altersWhatIsComeTo_93
        · skip
          have c_77 := bI_t c_77
          refine lv_iconst (v := 1) hx hb dX1_altersWhatIsComeTo_80 (by decide) ?_
          refine lv_goto (tgt := 93) hx hb dX1_altersWhatIsComeTo_81 (by decide) ?_
          exact ret_z hx hb hr rfl hlocks () (by first | (rw [altB, cv]; simp only [c_56, c_67, c_77, if_true, if_false]; rfl) | (rw [altB, cv]; simp only [c_56, c_67, if_true]; rfl) | (rw [altB, cv]; simp only [c_56, if_false]; rfl) | (simp [altB, cv, bI]; done)) (hP.sub [0, 1] rfl) (hD.sub [0, 1] (by decide) rfl) hS dX1_altersWhatIsComeTo_93
  · skip
    refine lv_lookup (tgt := 52) hx hb dX1_altersWhatIsComeTo_9 (by decide) (by rw [cv] <;> decide +kernel) (by decide) ?_
    refine lv_iload_n hx hb dX1_altersWhatIsComeTo_52 rfl (lv_at hl 2 rfl) ?_
    refine pN_i (As := [.int (nI o)]) (rest := []) ⟨hx, hb, hml, hown, hts⟩ (kX9_isLongOrder l Z o (by first | assumption | omega)) ⟨va_cnB 1 hts gX1_altersWhatIsComeTo_X9_isLongOrder_n56 rfl rfl rfl (nm_X1_56 hE) (hts (.initialized RX9) (by decide +kernel)) (by decide +kernel) ⟨Nat.le_of_ble_eq_true rfl, Nat.le_of_ble_eq_true rfl⟩, (hts (.static yX9_isLongOrder) (by decide +kernel)), trivial⟩ hK hE hP hD hS hA hl.1 rfl rfl (Nat.le_of_ble_eq_true rfl) dX1_altersWhatIsComeTo_53 ⟨Nat.le_of_ble_eq_true rfl, Nat.le_of_ble_eq_true rfl⟩ (fun H locs hP hS => ?_)
    refine lv_if_eq (tgt := 88) hx hb dX1_altersWhatIsComeTo_56 (by decide) (fun c_56 => ?_) (fun c_56 => ?_)
    · skip
      have c_56 := bI_f c_56
      have c_56 := of_decide_eq_false c_56
      refine lv_aload_n hx hb dX1_altersWhatIsComeTo_88 rfl (lv_at hl 1 rfl) ?_
      refine lv_iload_n hx hb dX1_altersWhatIsComeTo_89 rfl (lv_at hl 0 rfl) ?_
      refine kV_i (As := [.int (nI (o / 2 % 256))]) (rest := []) (wr := []) ⟨hx, hb, hml, hown, hts⟩ (kX1_isComeTo l D Z cB cI cJ cZ H.size f0 f1 f2 ct sz (o / 2 % 256) (by first | assumption | omega) (by first | assumption | omega)) (cwV 1 hts gX1_altersWhatIsComeTo_X1_isComeTo rfl rfl rfl (by decide +kernel) ⟨Nat.le_of_ble_eq_true rfl, Nat.le_of_ble_eq_true rfl⟩) hK hE hP hD hS hA 0 1 rfl rfl rfl [0, 1] [] rfl rfl rfl rfl rfl (by decide) hl.1 rfl rfl (Nat.le_of_ble_eq_true rfl) dX1_altersWhatIsComeTo_90 ⟨Nat.le_of_ble_eq_true rfl, Nat.le_of_ble_eq_true rfl⟩ (fun r u H locs hp hP hD hS => ?_)
      try dsimp only at hp
      have hq_0 := hp
      have hq_0 := hq_0.symm
      subst hq_0
      have hP : va_P D vwCl [(f0, .inr (1, [.ref f1, .ref f2, .int (nI sz)])), (f1, .inl (cZ, 256, .inl ct))] H := hP
      have hD : va_D A [(f0, .inr (1, [.ref f1, .ref f2, .int (nI sz)])), (f1, .inl (cZ, 256, .inl ct))] := hD
      exact ret_z hx hb hr (bI_nar _) hlocks () (by first | (rw [altB, cv]; simp only [c_56, c_67, c_77, if_true, if_false]; rfl) | (rw [altB, cv]; simp only [c_56, c_67, if_true]; rfl) | (rw [altB, cv]; simp only [c_56, if_false]; rfl) | (simp [altB, cv, bI]; done)) (hP.sub [0, 1] rfl) (hD.sub [0, 1] (by decide) rfl) hS dX1_altersWhatIsComeTo_93
    · skip
      have c_56 := bI_t c_56
      have c_56 := of_decide_eq_true c_56
      refine lv_aload_n hx hb dX1_altersWhatIsComeTo_59 rfl (lv_at hl 1 rfl) ?_
      refine lv_iload_n hx hb dX1_altersWhatIsComeTo_60 rfl (lv_at hl 0 rfl) ?_
      refine lv_bipush (v := (-2)) hx hb dX1_altersWhatIsComeTo_61 (by decide) ?_
      refine lv_iand hx hb dX1_altersWhatIsComeTo_63 ?_
      refine set_i (y := nI (o / 2 % 256 / 2 * 2)) (e_am2 _ (by omega)) ?_
      refine kV_i (As := [.int (nI (o / 2 % 256 / 2 * 2))]) (rest := []) (wr := []) ⟨hx, hb, hml, hown, hts⟩ (kX1_isComeTo l D Z cB cI cJ cZ H.size f0 f1 f2 ct sz (o / 2 % 256 / 2 * 2) (by first | assumption | omega) (by first | assumption | omega)) (cwV 1 hts gX1_altersWhatIsComeTo_X1_isComeTo rfl rfl rfl (by decide +kernel) ⟨Nat.le_of_ble_eq_true rfl, Nat.le_of_ble_eq_true rfl⟩) hK hE hP hD hS hA 0 1 rfl rfl rfl [0, 1] [] rfl rfl rfl rfl rfl (by decide) hl.1 rfl rfl (Nat.le_of_ble_eq_true rfl) dX1_altersWhatIsComeTo_64 ⟨Nat.le_of_ble_eq_true rfl, Nat.le_of_ble_eq_true rfl⟩ (fun r u H locs hp hP hD hS => ?_)
      try dsimp only at hp
      have hq_0 := hp
      have hq_0 := hq_0.symm
      subst hq_0
      have hP : va_P D vwCl [(f0, .inr (1, [.ref f1, .ref f2, .int (nI sz)])), (f1, .inl (cZ, 256, .inl ct))] H := hP
      have hD : va_D A [(f0, .inr (1, [.ref f1, .ref f2, .int (nI sz)])), (f1, .inl (cZ, 256, .inl ct))] := hD
      refine lv_if_ne (tgt := 80) hx hb dX1_altersWhatIsComeTo_67 (by decide) (fun c_67 => ?_) (fun c_67 => ?_)
      · skip
        have c_67 := bI_t c_67
        refine lv_iconst (v := 1) hx hb dX1_altersWhatIsComeTo_80 (by decide) ?_
        refine lv_goto (tgt := 93) hx hb dX1_altersWhatIsComeTo_81 (by decide) ?_
        exact ret_z hx hb hr rfl hlocks () (by first | (rw [altB, cv]; simp only [c_56, c_67, c_77, if_true, if_false]; rfl) | (rw [altB, cv]; simp only [c_56, c_67, if_true]; rfl) | (rw [altB, cv]; simp only [c_56, if_false]; rfl) | (simp [altB, cv, bI]; done)) (hP.sub [0, 1] rfl) (hD.sub [0, 1] (by decide) rfl) hS dX1_altersWhatIsComeTo_93
      · skip
        have c_67 := bI_f c_67
        refine lv_aload_n hx hb dX1_altersWhatIsComeTo_70 rfl (lv_at hl 1 rfl) ?_
        refine lv_iload_n hx hb dX1_altersWhatIsComeTo_71 rfl (lv_at hl 0 rfl) ?_
        refine lv_iconst (v := 1) hx hb dX1_altersWhatIsComeTo_72 (by decide) ?_
        refine lv_ior hx hb dX1_altersWhatIsComeTo_73 ?_
        refine set_i (y := nI (o / 2 % 256 / 2 * 2 + 1)) (e_or1 _ (by omega)) ?_
        refine kV_i (As := [.int (nI (o / 2 % 256 / 2 * 2 + 1))]) (rest := []) (wr := []) ⟨hx, hb, hml, hown, hts⟩ (kX1_isComeTo l D Z cB cI cJ cZ H.size f0 f1 f2 ct sz (o / 2 % 256 / 2 * 2 + 1) (by first | assumption | omega) (by first | assumption | omega)) (cwV 1 hts gX1_altersWhatIsComeTo_X1_isComeTo rfl rfl rfl (by decide +kernel) ⟨Nat.le_of_ble_eq_true rfl, Nat.le_of_ble_eq_true rfl⟩) hK hE hP hD hS hA 0 1 rfl rfl rfl [0, 1] [] rfl rfl rfl rfl rfl (by decide) hl.1 rfl rfl (Nat.le_of_ble_eq_true rfl) dX1_altersWhatIsComeTo_74 ⟨Nat.le_of_ble_eq_true rfl, Nat.le_of_ble_eq_true rfl⟩ (fun r u H locs hp hP hD hS => ?_)
        try dsimp only at hp
        have hq_0 := hp
        have hq_0 := hq_0.symm
        subst hq_0
        have hP : va_P D vwCl [(f0, .inr (1, [.ref f1, .ref f2, .int (nI sz)])), (f1, .inl (cZ, 256, .inl ct))] H := hP
        have hD : va_D A [(f0, .inr (1, [.ref f1, .ref f2, .int (nI sz)])), (f1, .inl (cZ, 256, .inl ct))] := hD
        refine lv_if_eq (tgt := 84) hx hb dX1_altersWhatIsComeTo_77 (by decide) (fun c_77 => ?_) (fun c_77 => ?_)
        · skip
          have c_77 := bI_f c_77
          refine lv_iconst (v := 0) hx hb dX1_altersWhatIsComeTo_84 (by decide) ?_
          refine lv_goto (tgt := 93) hx hb dX1_altersWhatIsComeTo_85 (by decide) ?_
          exact ret_z hx hb hr rfl hlocks () (by first | (rw [altB, cv]; simp only [c_56, c_67, c_77, if_true, if_false]; rfl) | (rw [altB, cv]; simp only [c_56, c_67, if_true]; rfl) | (rw [altB, cv]; simp only [c_56, if_false]; rfl) | (simp [altB, cv, bI]; done)) (hP.sub [0, 1] rfl) (hD.sub [0, 1] (by decide) rfl) hS dX1_altersWhatIsComeTo_93
        · skip
          have c_77 := bI_t c_77
          refine lv_iconst (v := 1) hx hb dX1_altersWhatIsComeTo_80 (by decide) ?_
          refine lv_goto (tgt := 93) hx hb dX1_altersWhatIsComeTo_81 (by decide) ?_
          exact ret_z hx hb hr rfl hlocks () (by first | (rw [altB, cv]; simp only [c_56, c_67, c_77, if_true, if_false]; rfl) | (rw [altB, cv]; simp only [c_56, c_67, if_true]; rfl) | (rw [altB, cv]; simp only [c_56, if_false]; rfl) | (simp [altB, cv, bI]; done)) (hP.sub [0, 1] rfl) (hD.sub [0, 1] (by decide) rfl) hS dX1_altersWhatIsComeTo_93
  · skip
    refine lv_lookup (tgt := 94) hx hb dX1_altersWhatIsComeTo_9 (by decide) (co_dec (N := 32) (P := fun v => (¬ v = 5 ∧ ¬ v = 7 ∧ ¬ v = 8 ∧ ¬ v = 17) → Op.lookupswitch.offset (#[(5, 43), (7, 43), (8, 43), (17, 43)] : Array (Int × Int)).toList 85 (nI v).toInt = 85) (by decide +kernel) (show o / 4096 < 32 by omega) cv) (by decide) ?_
    refine lv_iconst (v := 0) hx hb dX1_altersWhatIsComeTo_94 (by decide) ?_
    exact ret_z hx hb hr rfl hlocks () (by first | (rw [altB, cv]; simp only [c_56, c_67, c_77, if_true, if_false]; rfl) | (rw [altB, cv]; simp only [c_56, c_67, if_true]; rfl) | (rw [altB, cv]; simp only [c_56, if_false]; rfl) | (simp [altB, cv, bI]; done)) (hP.sub [0, 1] rfl) (hD.sub [0, 1] (by decide) rfl) hS dX1_altersWhatIsComeTo_95

set_option maxHeartbeats 4000000 in
set_option maxRecDepth 100000 in
theorem kX1_leastThatAlters (l : Launch) (D : va_G) (Z : SZ) (cB cI cJ cZ : ClassId) (ksz : Nat) (f0 : Nat) (f1 : Nat) (f2 : Nat) (a1 : Nat) (a6 : Nat) (a7 : Nat) (ct : Nat → Int32) (w : Nat → Int32) (sz : Nat) (hm : RB ct) (hw : ∀ k : Nat, iN (w k) < 131072) : Met l yX1_leastThatAlters wsX1_leastThatAlters { frames := 2, cells := 0, slots := 0, locals := 43 } (PR D Z [(cB, .byte), (cI, .int), (cJ, .long), (cZ, .boolean)] [.ref f0, .ref a1] [(f0, .inr (1, [.ref f1, .ref f2, .int (nI sz)])), (f1, .inl (cZ, 256, .inl ct)), (a1, .inr (5, [.ref a6, .ref a7])), (a6, .inl (cI, 256, .inl w))] ksz) (QI D (fun (r : Int32) (_ : Unit) => r = (altR w ct)) (fun (_ : Unit) => [(f0, .inr (1, [.ref f1, .ref f2, .int (nI sz)])), (f1, .inl (cZ, 256, .inl ct)), (a1, .inr (5, [.ref a6, .ref a7])), (a6, .inl (cI, 256, .inl w))]) (va_A [(f0, .inr (1, [.ref f1, .ref f2, .int (nI sz)])), (f1, .inl (cZ, 256, .inl ct)), (a1, .inr (5, [.ref a6, .ref a7])), (a6, .inl (cI, 256, .inl w))] ksz)) 0 0 (va_A [(f0, .inr (1, [.ref f1, .ref f2, .int (nI sz)])), (f1, .inl (cZ, 256, .inl ct)), (a1, .inr (5, [.ref a6, .ref a7])), (a6, .inl (cI, 256, .inl w))] ksz) := by
  refine met_g (QI D (fun (r : Int32) (_ : Unit) => r = (altR w ct)) (fun (_ : Unit) => [(f0, .inr (1, [.ref f1, .ref f2, .int (nI sz)])), (f1, .inl (cZ, 256, .inl ct)), (a1, .inr (5, [.ref a6, .ref a7])), (a6, .inl (cI, 256, .inl w))])) cX1_leastThatAlters 3 (some .int) (by decide) rfl (Nat.le_of_ble_eq_true rfl) ?_
  intro p e s m below meth c A ls hx hb hr hts hown hlocks hml hin hA hP hK hD hE hS hl hsz
  clear hsz
  have hl : lv_has ls 3 [(0, .ref f0), (1, .ref a1)] := hl
  have lp_2 : ∀ (n_2 : Nat) (i : Nat) (H : Heap) (locs : List Loc) (ls : Array Slot), (i ≤ 256) → (∀ k : Nat, k < i → ¬ altP w ct k = true) → (256 - i) < n_2 → va_P D vwCl [(f0, .inr (1, [.ref f1, .ref f2, .int (nI sz)])), (f1, .inl (cZ, 256, .inl ct)), (a1, .inr (5, [.ref a6, .ref a7])), (a6, .inl (cI, 256, .inl w))] H → va_D A [(f0, .inr (1, [.ref f1, .ref f2, .int (nI sz)])), (f1, .inl (cZ, 256, .inl ct)), (a1, .inr (5, [.ref a6, .ref a7])), (a6, .inl (cI, 256, .inl w))] → va_S A s.heap H locs → lv_has ls 3 [(0, .ref f0), (1, .ref a1), (2, .int (nI i))] → W p l e { frames := 2, cells := 0, slots := 0, locals := 43 } s m ([.ref f0, .ref a1] : List Value).toArray below meth c H locs 0 0 (MQ below (QI D (fun (r : Int32) (_ : Unit) => r = (altR w ct)) (fun (_ : Unit) => [(f0, .inr (1, [.ref f1, .ref f2, .int (nI sz)])), (f1, .inl (cZ, 256, .inl ct)), (a1, .inr (5, [.ref a6, .ref a7])), (a6, .inl (cI, 256, .inl w))]) A) ([.ref f0, .ref a1] : List Value).toArray s 0 0 A) (F0 m 2 ls []) := by
    intro n_2
    induction n_2 with
    | zero => intro i H locs ls h1 h2 hm_2; exact absurd hm_2 (Nat.not_lt_zero _)
    | succ n_2 ih_2 =>
      intro i H locs ls h1 h2 hm_2 hP hD hS hl
      refine lv_iload_n hx hb dX1_leastThatAlters_2 rfl (lv_at hl 2 rfl) ?_
      refine lv_sipush (v := (nI 256)) hx hb dX1_leastThatAlters_3 (by decide) ?_
      refine lv_icmp_ge (tgt := 38) hx hb dX1_leastThatAlters_6 (by decide) (fun c_6 => ?_) (fun c_6 => ?_)
      · skip
        have c_6 : 256 ≤ i := (nI_leI (a := 256) (b := i) (by omega) (by omega)).mp c_6
        refine lv_iconst (v := (-1)) hx hb dX1_leastThatAlters_38 (by decide) ?_
        exact ret_i hx hb hr hlocks () (by first | exact altR_hit h2 c_15 c_27 (by omega) | exact altR_no h2 (by omega)) (hP.sub [0, 1, 2, 3] rfl) (hD.sub [0, 1, 2, 3] (by decide) rfl) hS dX1_leastThatAlters_39
      · skip
        have c_6 : ¬ 256 ≤ i := fun z => c_6 ((nI_leI (a := 256) (b := i) (by omega) (by omega)).mpr z)
        refine lv_aload_n hx hb dX1_leastThatAlters_9 rfl (lv_at hl 0 rfl) ?_
        refine va_get (D := D) (ci := 1) (v := .ref f1) (C := RX1) (T := TX1) (N := 3) hx hb hts (by decide +kernel) hown hK hP 0 rfl rfl 0 (by decide) (hts (.fieldLink RX1 9 "TapeEngine$Flow" "comeTo" "[Z") (by decide +kernel)) (fun _ h9 => h9) rfl dX1_leastThatAlters_10 ?_
        refine lv_iload_n hx hb dX1_leastThatAlters_13 rfl (lv_at hl 2 rfl) ?_
        refine xs_zald (k := i) hx hb hK hP 1 3 rfl rfl (by first | assumption | omega) (by decide) dX1_leastThatAlters_14 ?_
        refine set_i (y := bI (tB (ct i))) (hm i) ?_
        refine lv_if_eq (tgt := 32) hx hb dX1_leastThatAlters_15 (by decide) (fun c_15 => ?_) (fun c_15 => ?_)
        · skip
          have c_15 := bI_f c_15
          refine lv_iinc (v := (nI (i + 1))) (lv' := [(2, .int (nI (i + 1))), (0, .ref f0), (1, .ref a1)]) hx hb dX1_leastThatAlters_32 hl (k := 2) rfl (nI_1 _) (by decide) rfl (fun ls hl => ?_)
          refine lv_goto (tgt := 2) hx hb dX1_leastThatAlters_35 (by decide) ?_
          exact ih_2 (i + 1) _ _ _ (by first | assumption | omega) (fun k hk => (Nat.lt_or_eq_of_le (Nat.le_of_lt_succ hk)).elim (h2 k) (fun q => by rw [q]; first | (simp [altP, c_15]; done) | (simp [altP, c_27]; done))) (by omega) (hP.sub [0, 1, 2, 3] rfl) (hD.sub [0, 1, 2, 3] (by decide) rfl) hS (lv_sub hl [1, 2, 0] rfl)
        · skip
          have c_15 := bI_t c_15
          refine lv_aload_n hx hb dX1_leastThatAlters_18 rfl (lv_at hl 0 rfl) ?_
          refine lv_aload_n hx hb dX1_leastThatAlters_19 rfl (lv_at hl 1 rfl) ?_
          refine lv_iload_n hx hb dX1_leastThatAlters_20 rfl (lv_at hl 2 rfl) ?_
          refine kV_i (As := [.int (nI i)]) (rest := [.ref f0]) (wr := [(f0, .inr (1, [.ref f1, .ref f2, .int (nI sz)])), (f1, .inl (cZ, 256, .inl ct))]) ⟨hx, hb, hml, hown, hts⟩ (kX5_shortAt l D Z cB cI cJ cZ H.size a1 a6 a7 w i (by first | assumption | omega)) (cwV 1 hts gX1_leastThatAlters_X5_shortAt rfl rfl rfl (by decide +kernel) ⟨Nat.le_of_ble_eq_true rfl, Nat.le_of_ble_eq_true rfl⟩) hK hE hP hD hS hA 0 5 rfl rfl rfl [2, 3] [0, 1] rfl rfl rfl rfl rfl (by decide) hl.1 rfl rfl (Nat.le_of_ble_eq_true rfl) dX1_leastThatAlters_21 ⟨Nat.le_of_ble_eq_true rfl, Nat.le_of_ble_eq_true rfl⟩ (fun r u H locs hp hP hD hS => ?_)
          try dsimp only at hp
          have hq_0 := hp
          have hq_0 := hq_0.symm
          subst hq_0
          have hP : va_P D vwCl [(f0, .inr (1, [.ref f1, .ref f2, .int (nI sz)])), (f1, .inl (cZ, 256, .inl ct)), (a1, .inr (5, [.ref a6, .ref a7])), (a6, .inl (cI, 256, .inl w))] H := hP
          have hD : va_D A [(f0, .inr (1, [.ref f1, .ref f2, .int (nI sz)])), (f1, .inl (cZ, 256, .inl ct)), (a1, .inr (5, [.ref a6, .ref a7])), (a6, .inl (cI, 256, .inl w))] := hD
          refine set_i (y := nI (iN (w i))) (nI_iN _).symm ?_
          refine kV_i (As := [.int (nI (iN (w i)))]) (rest := []) (wr := [(a1, .inr (5, [.ref a6, .ref a7])), (a6, .inl (cI, 256, .inl w))]) ⟨hx, hb, hml, hown, hts⟩ (kX1_altersWhatIsComeTo l D Z cB cI cJ cZ H.size f0 f1 f2 ct sz (iN (w i)) (by first | assumption | omega) (hw _)) (cwV 1 hts gX1_leastThatAlters_X1_altersWhatIsComeTo rfl rfl rfl (by decide +kernel) ⟨Nat.le_of_ble_eq_true rfl, Nat.le_of_ble_eq_true rfl⟩) hK hE hP hD hS hA 0 1 rfl rfl rfl [0, 1] [2, 3] rfl rfl rfl rfl rfl (by decide) hl.1 rfl rfl (Nat.le_of_ble_eq_true rfl) dX1_leastThatAlters_24 ⟨Nat.le_of_ble_eq_true rfl, Nat.le_of_ble_eq_true rfl⟩ (fun r u H locs hp hP hD hS => ?_)
          try dsimp only at hp
          have hq_0 := hp
          have hq_0 := hq_0.symm
          subst hq_0
          have hP : va_P D vwCl [(a1, .inr (5, [.ref a6, .ref a7])), (a6, .inl (cI, 256, .inl w)), (f0, .inr (1, [.ref f1, .ref f2, .int (nI sz)])), (f1, .inl (cZ, 256, .inl ct))] H := hP
          have hD : va_D A [(a1, .inr (5, [.ref a6, .ref a7])), (a6, .inl (cI, 256, .inl w)), (f0, .inr (1, [.ref f1, .ref f2, .int (nI sz)])), (f1, .inl (cZ, 256, .inl ct))] := hD
          refine lv_if_eq (tgt := 32) hx hb dX1_leastThatAlters_27 (by decide) (fun c_27 => ?_) (fun c_27 => ?_)
          · skip
            have c_27 := bI_f c_27
            refine lv_iinc (v := (nI (i + 1))) (lv' := [(2, .int (nI (i + 1))), (0, .ref f0), (1, .ref a1)]) hx hb dX1_leastThatAlters_32 hl (k := 2) rfl (nI_1 _) (by decide) rfl (fun ls hl => ?_)
            refine lv_goto (tgt := 2) hx hb dX1_leastThatAlters_35 (by decide) ?_
            exact ih_2 (i + 1) _ _ _ (by first | assumption | omega) (fun k hk => (Nat.lt_or_eq_of_le (Nat.le_of_lt_succ hk)).elim (h2 k) (fun q => by rw [q]; first | (simp [altP, c_15]; done) | (simp [altP, c_27]; done))) (by omega) (hP.sub [2, 3, 0, 1] rfl) (hD.sub [2, 3, 0, 1] (by decide) rfl) hS (lv_sub hl [1, 2, 0] rfl)
          · skip
            have c_27 := bI_t c_27
            refine lv_iload_n hx hb dX1_leastThatAlters_30 rfl (lv_at hl 2 rfl) ?_
            exact ret_i hx hb hr hlocks () (by first | exact altR_hit h2 c_15 c_27 (by omega) | exact altR_no h2 (by omega)) (hP.sub [2, 3, 0, 1] rfl) (hD.sub [2, 3, 0, 1] (by decide) rfl) hS dX1_leastThatAlters_31
  refine lv_iconst (v := (nI 0)) hx hb dX1_leastThatAlters_0 (by decide) ?_
  refine lv_istore_n (lv' := [(2, .int (nI 0)), (0, .ref f0), (1, .ref a1)]) hx hb dX1_leastThatAlters_1 rfl hl (by decide) rfl (fun ls hl => ?_)
  exact lp_2 _ 0 _ _ _ (by first | assumption | omega) (fun k hk => absurd hk (Nat.not_lt_zero _)) (Nat.lt_succ_self _) (hP.sub [0, 1, 2, 3] rfl) (hD.sub [0, 1, 2, 3] (by decide) rfl) hS (lv_sub hl [1, 2, 0] rfl)
