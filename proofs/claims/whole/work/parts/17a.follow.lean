def clo (w : Nat → Int32) (k : Nat) (X : Nat → Bool) : Prop := goB (iN (w k)) = true → X ((k + 1) % 256) = true ∧ (jmpB (iN (w k)) = true → X (iN (w k) / 2 % 256) = true)
def clos (w : Nat → Int32) (Y : Nat → Bool) : Prop := ∀ k, k < 256 → Y k = true → clo w k Y
/-- the least set that holds n and what follows -/
def LC (w : Nat → Int32) (n : Nat) (X : Nat → Bool) : Prop := X n = true ∧ clos w X ∧ ∀ Y : Nat → Bool, Y n = true → clos w Y → ∀ k, k < 256 → X k = true → Y k = true
def FB (w : Nat → Int32) (n : Nat) (ct fd : Nat → Int32) (sz : Nat) : Prop := RB ct ∧ sz = cn ct ∧ (∀ m, m < sz → iN (fd m) < 256 ∧ tB (ct (iN (fd m))) = true) ∧ (∀ k, k < 256 → tB (ct k) = true → ∃ m, m < sz ∧ iN (fd m) = k) ∧ tB (ct n) = true ∧ ∀ Y : Nat → Bool, Y n = true → clos w Y → ∀ k, k < 256 → tB (ct k) = true → Y k = true
def FI (w : Nat → Int32) (n i : Nat) (ct fd : Nat → Int32) (sz : Nat) : Prop := FB w n ct fd sz ∧ ∀ m, m < i → clo w (iN (fd m)) (fun k => tB (ct k))
theorem tB_mono {ct : Nat → Int32} {k : Nat} (j : Nat) (h : tB (ct k) = true) : tB (upd ct j 1 k) = true := by
  rw [tB_1]
  split
  · rfl
  · exact h
theorem tB_here (ct : Nat → Int32) (j : Nat) : tB (upd ct j 1 j) = true := by rw [pk_us]; rfl
theorem FB_find {w : Nat → Int32} {n : Nat} {ct fd : Nat → Int32} {sz j : Nat} (h : FB w n ct fd sz) (hj : j < 256) (hY : ∀ Y : Nat → Bool, Y n = true → clos w Y → Y j = true) : FB w n (upd ct j 1) (fdF ct fd sz j) (szF ct sz j) ∧ sz ≤ szF ct sz j ∧ ∀ m, m < sz → fdF ct fd sz j m = fd m := by
  obtain ⟨h1, h2, h3, h4, h5, h6⟩ := h
  by_cases q : tB (ct j) = true
  · have e1 : upd ct j 1 = ct := upd_same ((h1 j).trans (congrArg bI q))
    have e2 : fdF ct fd sz j = fd := if_pos q
    have e3 : szF ct sz j = sz := if_pos q
    rw [e1, e2, e3]
    exact ⟨⟨h1, h2, h3, h4, h5, h6⟩, Nat.le_refl _, fun _ _ => rfl⟩
  · have e2 : fdF ct fd sz j = upd fd sz (nI j) := if_neg q
    have e3 : szF ct sz j = sz + 1 := if_neg q
    have hc := cn_1 ct hj
    rw [← h2, e3] at hc
    rw [e2, e3]
    refine ⟨⟨RB_1 h1 j, hc.symm, fun m hm => ?_, fun k hk hkt => ?_, tB_mono j h5, fun Y hn hc2 k hk hkt => ?_⟩, by omega, fun m hm => pk_un (by omega)⟩
    · by_cases qm : m = sz
      · subst qm
        rw [pk_us, iN_nI (by omega), pk_us]
        exact ⟨hj, rfl⟩
      · rw [pk_un qm]
        obtain ⟨a, b⟩ := h3 m (by omega)
        exact ⟨a, tB_mono j b⟩
    · by_cases qk : k = j
      · subst qk
        exact ⟨sz, by omega, by rw [pk_us, iN_nI (by omega)]⟩
      · rw [pk_un qk] at hkt
        obtain ⟨m, a, b⟩ := h4 k hk hkt
        exact ⟨m, by omega, by rw [pk_un (by omega)]; exact b⟩
    · by_cases qk : k = j
      · subst qk
        exact hY Y hn hc2
      · rw [pk_un qk] at hkt
        exact h6 Y hn hc2 k hk hkt
theorem cn_0 {ct : Nat → Int32} (h : ∀ k, k < 256 → tB (ct k) = false) : cn ct = 0 := fb_ct_zero.mpr h
theorem FI_start {w ct fd : Nat → Int32} {n : Nat} (hn : n < 256) (h1 : RB ct) (h : ∀ k, k < 256 → tB (ct k) = false) : FI w n 0 (upd ct n 1) (fdF ct fd 0 n) (szF ct 0 n) := by
  have q : ¬ tB (ct n) = true := by rw [h n hn]; decide
  have e2 : fdF ct fd 0 n = upd fd 0 (nI n) := if_neg q
  have e3 : szF ct 0 n = 1 := if_neg q
  have hc := cn_1 ct hn
  rw [cn_0 h, e3] at hc
  rw [e2, e3]
  refine ⟨⟨RB_1 h1 n, hc.symm, fun m hm => ?_, fun k hk hkt => ?_, ?_, fun Y hy hc2 k hk hkt => ?_⟩, fun m hm => absurd hm (Nat.not_lt_zero _)⟩
  · have e : m = 0 := by omega
    subst e
    rw [pk_us, iN_nI (by omega), pk_us]
    exact ⟨hn, rfl⟩
  · by_cases qk : k = n
    · subst qk
      exact ⟨0, by omega, by rw [pk_us, iN_nI (by omega)]⟩
    · rw [pk_un qk, h k hk] at hkt
      cases hkt
  · rw [pk_us]; rfl
  · by_cases qk : k = n
    · subst qk
      exact hy
    · rw [pk_un qk, h k hk] at hkt
      cases hkt
theorem clo_mono {w : Nat → Int32} {k : Nat} {ct : Nat → Int32} (j : Nat) (h : clo w k (fun x => tB (ct x))) : clo w k (fun x => tB (upd ct j 1 x)) := fun g => ⟨tB_mono j (h g).1, fun q => tB_mono j ((h g).2 q)⟩
theorem FI_step {w ct fd : Nat → Int32} {n i sz : Nat} (h : FI w n i ct fd sz) (hi : i < sz) : FI w n (i + 1) (ffC (iN (w (iN (fd i)))) (iN (fd i)) ct) (ffF (iN (w (iN (fd i)))) (iN (fd i)) ct fd sz) (ffS (iN (w (iN (fd i)))) (iN (fd i)) ct sz) := by
  obtain ⟨hB, hC⟩ := h
  obtain ⟨hk, hkt⟩ := hB.2.2.1 i hi
  have hmin := hB.2.2.2.2.2
  generalize hke : iN (fd i) = k at *
  by_cases g : goB (iN (w k)) = true
  · have hYb : ∀ Y : Nat → Bool, Y n = true → clos w Y → Y ((k + 1) % 256) = true := fun Y hn hc => (hc k hk (hmin Y hn hc k hk hkt) g).1
    obtain ⟨B1, s1, f1⟩ := FB_find hB (j := (k + 1) % 256) (by omega) hYb
    by_cases q : jmpB (iN (w k)) = true
    · have hYa : ∀ Y : Nat → Bool, Y n = true → clos w Y → Y (iN (w k) / 2 % 256) = true := fun Y hn hc => (hc k hk (hmin Y hn hc k hk hkt) g).2 q
      obtain ⟨B2, s2, f2⟩ := FB_find B1 (j := iN (w k) / 2 % 256) (by omega) hYa
      rw [ffC, ffF, ffS, if_pos g, if_pos g, if_pos g, if_pos q, if_pos q, if_pos q]
      refine ⟨B2, fun m hm => ?_⟩
      rw [f2 m (by omega), f1 m (by omega)]
      by_cases qm : m = i
      · subst qm
        rw [hke]
        exact fun _ => ⟨tB_mono _ (tB_here _ _), fun _ => tB_here _ _⟩
      · exact clo_mono _ (clo_mono _ (hC m (by omega)))
    · rw [ffC, ffF, ffS, if_pos g, if_pos g, if_pos g, if_neg q, if_neg q, if_neg q]
      refine ⟨B1, fun m hm => ?_⟩
      rw [f1 m (by omega)]
      by_cases qm : m = i
      · subst qm
        rw [hke]
        exact fun _ => ⟨tB_here _ _, fun z => absurd z q⟩
      · exact clo_mono _ (hC m (by omega))
  · rw [ffC, ffF, ffS, if_neg g, if_neg g, if_neg g]
    refine ⟨hB, fun m hm => ?_⟩
    by_cases qm : m = i
    · subst qm
      rw [hke]
      exact fun z => absurd z g
    · exact hC m (by omega)
theorem FI_done {w ct fd : Nat → Int32} {n i sz : Nat} (h : FI w n i ct fd sz) (hi : sz ≤ i) : LC w n (fun k => tB (ct k)) := by
  obtain ⟨⟨h1, h2, h3, h4, h5, h6⟩, hC⟩ := h
  refine ⟨h5, fun k hk hkt => ?_, h6⟩
  obtain ⟨m, hm, e⟩ := h4 k hk hkt
  have := hC m (by omega)
  rw [e] at this
  exact this
theorem LC_one {w : Nat → Int32} {n : Nat} {X Y : Nat → Bool} (hX : LC w n X) (hY : LC w n Y) : ∀ k, k < 256 → X k = Y k := by
  intro k hk
  have a := hX.2.2 Y hY.1 hY.2.1 k hk
  have b := hY.2.2 X hX.1 hX.2.1 k hk
  cases hx : X k <;> cases hy : Y k
  · rfl
  · rw [hx] at b; exact absurd (b hy) (by decide)
  · rw [hy] at a; exact absurd (a hx) (by decide)
  · rfl
theorem szF_le (ct : Nat → Int32) (sz j : Nat) : sz ≤ szF ct sz j := by unfold szF; split <;> omega
theorem FS_le (o j : Nat) (ct : Nat → Int32) (sz : Nat) : sz ≤ ffS o j ct sz := by
  unfold ffS
  split
  · split
    · exact Nat.le_trans (szF_le _ _ _) (szF_le _ _ _)
    · exact szF_le _ _ _
  · exact Nat.le_refl _
set_option maxHeartbeats 4000000 in
set_option maxRecDepth 100000 in
theorem kX1_follow (l : Launch) (D : va_G) (Z : SZ) (cB cI cJ cZ : ClassId) (ksz : Nat) (f0 : Nat) (f1 : Nat) (f2 : Nat) (a1 : Nat) (a6 : Nat) (a7 : Nat) (ct : Nat → Int32) (fd : Nat → Int32) (w : Nat → Int32) (sz : Nat) (n : Nat) (hm : RB ct) (hn : n < 256) (hw : ∀ k : Nat, iN (w k) < 131072) : Met l yX1_follow wsX1_follow { frames := 3, cells := 0, slots := 0, locals := 66 } (PR D Z [(cB, .byte), (cI, .int), (cJ, .long), (cZ, .boolean)] [.ref f0, .ref a1, .int (nI n)] [(f0, .inr (1, [.ref f1, .ref f2, .int (nI sz)])), (f1, .inl (cZ, 256, .inl ct)), (f2, .inl (cI, 256, .inl fd)), (a1, .inr (5, [.ref a6, .ref a7])), (a6, .inl (cI, 256, .inl w))] ksz) (QI D (fun (r : Int32) (u : (Nat → Int32) × (Nat → Int32) × Nat) => r = nI u.2.2 ∧ RB u.1 ∧ u.2.2 = cn u.1 ∧ LC w n (fun k => tB (u.1 k))) (fun (u : (Nat → Int32) × (Nat → Int32) × Nat) => [(f0, .inr (1, [.ref f1, .ref f2, .int (nI u.2.2)])), (f1, .inl (cZ, 256, .inl u.1)), (f2, .inl (cI, 256, .inl u.2.1)), (a1, .inr (5, [.ref a6, .ref a7])), (a6, .inl (cI, 256, .inl w))]) (va_A [(f0, .inr (1, [.ref f1, .ref f2, .int (nI sz)])), (f1, .inl (cZ, 256, .inl ct)), (f2, .inl (cI, 256, .inl fd)), (a1, .inr (5, [.ref a6, .ref a7])), (a6, .inl (cI, 256, .inl w))] ksz)) 0 0 (va_A [(f0, .inr (1, [.ref f1, .ref f2, .int (nI sz)])), (f1, .inl (cZ, 256, .inl ct)), (f2, .inl (cI, 256, .inl fd)), (a1, .inr (5, [.ref a6, .ref a7])), (a6, .inl (cI, 256, .inl w))] ksz) := by
  refine met_g (QI D (fun (r : Int32) (u : (Nat → Int32) × (Nat → Int32) × Nat) => r = nI u.2.2 ∧ RB u.1 ∧ u.2.2 = cn u.1 ∧ LC w n (fun k => tB (u.1 k))) (fun (u : (Nat → Int32) × (Nat → Int32) × Nat) => [(f0, .inr (1, [.ref f1, .ref f2, .int (nI u.2.2)])), (f1, .inl (cZ, 256, .inl u.1)), (f2, .inl (cI, 256, .inl u.2.1)), (a1, .inr (5, [.ref a6, .ref a7])), (a6, .inl (cI, 256, .inl w))])) cX1_follow 4 (some .int) (by decide) rfl (Nat.le_of_ble_eq_true rfl) ?_
  intro p e s m below meth c A ls hx hb hr hts hown hlocks hml hin hA hP hK hD hE hS hl hsz
  clear hsz
  have hl : lv_has ls 4 [(0, .ref f0), (1, .ref a1), (2, .int (nI n))] := hl
  have lp_34 : ∀ (n_34 : Nat) (i : Nat) (ct : Nat → Int32) (fd : Nat → Int32) (sz : Nat) (H : Heap) (locs : List Loc) (ls : Array Slot), (i ≤ sz) → (FI w n i ct fd sz) → (256 - i) < n_34 → va_P D vwCl [(f0, .inr (1, [.ref f1, .ref f2, .int (nI sz)])), (f1, .inl (cZ, 256, .inl ct)), (f2, .inl (cI, 256, .inl fd)), (a1, .inr (5, [.ref a6, .ref a7])), (a6, .inl (cI, 256, .inl w))] H → va_D A [(f0, .inr (1, [.ref f1, .ref f2, .int (nI sz)])), (f1, .inl (cZ, 256, .inl ct)), (f2, .inl (cI, 256, .inl fd)), (a1, .inr (5, [.ref a6, .ref a7])), (a6, .inl (cI, 256, .inl w))] → va_S A s.heap H locs → lv_has ls 4 [(0, .ref f0), (1, .ref a1), (2, .int (nI n)), (3, .int (nI i))] → W p l e { frames := 3, cells := 0, slots := 0, locals := 66 } s m ([.ref f0, .ref a1, .int (nI n)] : List Value).toArray below meth c H locs 0 0 (MQ below (QI D (fun (r : Int32) (u : (Nat → Int32) × (Nat → Int32) × Nat) => r = nI u.2.2 ∧ RB u.1 ∧ u.2.2 = cn u.1 ∧ LC w n (fun k => tB (u.1 k))) (fun (u : (Nat → Int32) × (Nat → Int32) × Nat) => [(f0, .inr (1, [.ref f1, .ref f2, .int (nI u.2.2)])), (f1, .inl (cZ, 256, .inl u.1)), (f2, .inl (cI, 256, .inl u.2.1)), (a1, .inr (5, [.ref a6, .ref a7])), (a6, .inl (cI, 256, .inl w))]) A) ([.ref f0, .ref a1, .int (nI n)] : List Value).toArray s 0 0 A) (F0 m 34 ls []) := by
    intro n_34
    induction n_34 with
    | zero => intro i ct fd sz H locs ls h3 hI hm_34; exact absurd hm_34 (Nat.not_lt_zero _)
    | succ n_34 ih_34 =>
      intro i ct fd sz H locs ls h3 hI hm_34 hP hD hS hl
      have hsl : sz ≤ 256 := by rw [hI.1.2.1]; exact cn_le ct
      refine lv_iload_n hx hb dX1_follow_34 rfl (lv_at hl 3 rfl) ?_
      refine lv_aload_n hx hb dX1_follow_35 rfl (lv_at hl 0 rfl) ?_
      refine va_get (D := D) (ci := 1) (v := .int (nI sz)) (C := RX1) (T := TX1) (N := 3) hx hb hts (by decide +kernel) hown hK hP 0 rfl rfl 2 (by decide) (hts (.fieldLink RX1 19 "TapeEngine$Flow" "size" "I") (by decide +kernel)) (fun _ h9 => h9) rfl dX1_follow_36 ?_
      refine lv_icmp_ge (tgt := 66) hx hb dX1_follow_39 (by decide) (fun c_39 => ?_) (fun c_39 => ?_)
      · skip
        have c_39 : sz ≤ i := (nI_leI (a := sz) (b := i) (by omega) (by omega)).mp c_39
        refine lv_aload_n hx hb dX1_follow_66 rfl (lv_at hl 0 rfl) ?_
        refine va_get (D := D) (ci := 1) (v := .int (nI sz)) (C := RX1) (T := TX1) (N := 3) hx hb hts (by decide +kernel) hown hK hP 0 rfl rfl 2 (by decide) (hts (.fieldLink RX1 19 "TapeEngine$Flow" "size" "I") (by decide +kernel)) (fun _ h9 => h9) rfl dX1_follow_67 ?_
        exact ret_i hx hb hr hlocks (ct, fd, sz) ⟨rfl, hI.1.1, hI.1.2.1, FI_done hI (by omega)⟩ (hP.sub [0, 1, 2, 3, 4] rfl) (hD.sub [0, 1, 2, 3, 4] (by decide) rfl) hS dX1_follow_70
      · skip
        have c_39 : ¬ sz ≤ i := fun z => c_39 ((nI_leI (a := sz) (b := i) (by omega) (by omega)).mpr z)
        refine lv_iload_n hx hb dX1_follow_42 rfl (lv_at hl 3 rfl) ?_
        refine lv_sipush (v := (nI 256)) hx hb dX1_follow_43 (by decide) ?_
        refine lv_icmp_ge (tgt := 66) hx hb dX1_follow_46 (by decide) (fun c_46 => ?_) (fun c_46 => ?_)
        · skip
          have c_46 : 256 ≤ i := (nI_leI (a := 256) (b := i) (by omega) (by omega)).mp c_46
          refine lv_aload_n hx hb dX1_follow_66 rfl (lv_at hl 0 rfl) ?_
          refine va_get (D := D) (ci := 1) (v := .int (nI sz)) (C := RX1) (T := TX1) (N := 3) hx hb hts (by decide +kernel) hown hK hP 0 rfl rfl 2 (by decide) (hts (.fieldLink RX1 19 "TapeEngine$Flow" "size" "I") (by decide +kernel)) (fun _ h9 => h9) rfl dX1_follow_67 ?_
          exact ret_i hx hb hr hlocks (ct, fd, sz) ⟨rfl, hI.1.1, hI.1.2.1, FI_done hI (by omega)⟩ (hP.sub [0, 1, 2, 3, 4] rfl) (hD.sub [0, 1, 2, 3, 4] (by decide) rfl) hS dX1_follow_70
        · skip
          have c_46 : ¬ 256 ≤ i := fun z => c_46 ((nI_leI (a := 256) (b := i) (by omega) (by omega)).mpr z)
          refine lv_aload_n hx hb dX1_follow_49 rfl (lv_at hl 0 rfl) ?_
          refine lv_aload_n hx hb dX1_follow_50 rfl (lv_at hl 1 rfl) ?_
          refine lv_aload_n hx hb dX1_follow_51 rfl (lv_at hl 0 rfl) ?_
          refine va_get (D := D) (ci := 1) (v := .ref f2) (C := RX1) (T := TX1) (N := 3) hx hb hts (by decide +kernel) hown hK hP 0 rfl rfl 1 (by decide) (hts (.fieldLink RX1 15 "TapeEngine$Flow" "found" "[I") (by decide +kernel)) (fun _ h9 => h9) rfl dX1_follow_52 ?_
          refine lv_iload_n hx hb dX1_follow_55 rfl (lv_at hl 3 rfl) ?_
          refine xs_iald (k := i) hx hb hK hP 2 1 rfl rfl (by first | assumption | omega) (by decide) dX1_follow_56 ?_
          refine set_i (y := nI (iN (fd i))) (nI_iN _).symm ?_
          refine kV_v (As := [.ref a1, .int (nI (iN (fd i)))]) (rest := []) (wr := []) ⟨hx, hb, hml, hown, hts⟩ (kX1_findFrom l D Z cB cI cJ cZ H.size f0 f1 f2 a1 a6 a7 ct fd w sz (iN (fd i)) hI.1.1 (hI.1.2.2.1 i (by omega)).1 hI.1.2.1 (by first | assumption | omega)) (cwV 2 hts gX1_follow_X1_findFrom rfl rfl rfl (by decide +kernel) ⟨Nat.le_of_ble_eq_true rfl, Nat.le_of_ble_eq_true rfl⟩) hK hE hP hD hS hA 0 1 rfl rfl rfl [0, 1, 2, 3, 4] [] rfl rfl rfl rfl rfl (by decide) hl.1 rfl rfl (Nat.le_of_ble_eq_true rfl) dX1_follow_57 ⟨Nat.le_of_ble_eq_true rfl, Nat.le_of_ble_eq_true rfl⟩ (fun u H locs hp hP hD hS => ?_)
          obtain ⟨v_1, v_2, v_3⟩ := u
          try dsimp only at hp
          obtain ⟨hq_0, hq_1, hq_2⟩ := hp
          have hq_0 := hq_0.symm
          subst hq_0
          have hq_1 := hq_1.symm
          subst hq_1
          have hq_2 := hq_2.symm
          subst hq_2
          have hP : va_P D vwCl [(f0, .inr (1, [.ref f1, .ref f2, .int (nI (ffS (iN (w (iN (fd i)))) (iN (fd i)) ct sz))])), (f1, .inl (cZ, 256, .inl (ffC (iN (w (iN (fd i)))) (iN (fd i)) ct))), (f2, .inl (cI, 256, .inl (ffF (iN (w (iN (fd i)))) (iN (fd i)) ct fd sz))), (a1, .inr (5, [.ref a6, .ref a7])), (a6, .inl (cI, 256, .inl w))] H := hP
          have hD : va_D A [(f0, .inr (1, [.ref f1, .ref f2, .int (nI (ffS (iN (w (iN (fd i)))) (iN (fd i)) ct sz))])), (f1, .inl (cZ, 256, .inl (ffC (iN (w (iN (fd i)))) (iN (fd i)) ct))), (f2, .inl (cI, 256, .inl (ffF (iN (w (iN (fd i)))) (iN (fd i)) ct fd sz))), (a1, .inr (5, [.ref a6, .ref a7])), (a6, .inl (cI, 256, .inl w))] := hD
          refine lv_iinc (v := (nI (i + 1))) (lv' := [(3, .int (nI (i + 1))), (0, .ref f0), (1, .ref a1), (2, .int (nI n))]) hx hb dX1_follow_60 hl (k := 3) rfl (nI_1 _) (by decide) rfl (fun ls hl => ?_)
          refine lv_goto (tgt := 34) hx hb dX1_follow_63 (by decide) ?_
          exact ih_34 (i + 1) (ffC (iN (w (iN (fd i)))) (iN (fd i)) ct) (ffF (iN (w (iN (fd i)))) (iN (fd i)) ct fd sz) (ffS (iN (w (iN (fd i)))) (iN (fd i)) ct sz) _ _ _ (Nat.le_trans (by omega) (FS_le _ _ _ _)) (FI_step hI (by omega)) (by omega) (hP.sub [0, 1, 2, 3, 4] rfl) (hD.sub [0, 1, 2, 3, 4] (by decide) rfl) hS (lv_sub hl [1, 2, 3, 0] rfl)
  have lp_2 : ∀ (n_2 : Nat) (i : Nat) (ct : Nat → Int32) (H : Heap) (locs : List Loc) (ls : Array Slot), (i ≤ 256) → (RB ct) → (∀ k : Nat, k < i → tB (ct k) = false) → (256 - i) < n_2 → va_P D vwCl [(f0, .inr (1, [.ref f1, .ref f2, .int (nI sz)])), (f1, .inl (cZ, 256, .inl ct)), (f2, .inl (cI, 256, .inl fd)), (a1, .inr (5, [.ref a6, .ref a7])), (a6, .inl (cI, 256, .inl w))] H → va_D A [(f0, .inr (1, [.ref f1, .ref f2, .int (nI sz)])), (f1, .inl (cZ, 256, .inl ct)), (f2, .inl (cI, 256, .inl fd)), (a1, .inr (5, [.ref a6, .ref a7])), (a6, .inl (cI, 256, .inl w))] → va_S A s.heap H locs → lv_has ls 4 [(0, .ref f0), (1, .ref a1), (2, .int (nI n)), (3, .int (nI i))] → W p l e { frames := 3, cells := 0, slots := 0, locals := 66 } s m ([.ref f0, .ref a1, .int (nI n)] : List Value).toArray below meth c H locs 0 0 (MQ below (QI D (fun (r : Int32) (u : (Nat → Int32) × (Nat → Int32) × Nat) => r = nI u.2.2 ∧ RB u.1 ∧ u.2.2 = cn u.1 ∧ LC w n (fun k => tB (u.1 k))) (fun (u : (Nat → Int32) × (Nat → Int32) × Nat) => [(f0, .inr (1, [.ref f1, .ref f2, .int (nI u.2.2)])), (f1, .inl (cZ, 256, .inl u.1)), (f2, .inl (cI, 256, .inl u.2.1)), (a1, .inr (5, [.ref a6, .ref a7])), (a6, .inl (cI, 256, .inl w))]) A) ([.ref f0, .ref a1, .int (nI n)] : List Value).toArray s 0 0 A) (F0 m 2 ls []) := by
    intro n_2
    induction n_2 with
    | zero => intro i ct H locs ls h1 hm h2 hm_2; exact absurd hm_2 (Nat.not_lt_zero _)
    | succ n_2 ih_2 =>
      intro i ct H locs ls h1 hm h2 hm_2 hP hD hS hl
      refine lv_iload_n hx hb dX1_follow_2 rfl (lv_at hl 3 rfl) ?_
      refine lv_sipush (v := (nI 256)) hx hb dX1_follow_3 (by decide) ?_
      refine lv_icmp_ge (tgt := 22) hx hb dX1_follow_6 (by decide) (fun c_6 => ?_) (fun c_6 => ?_)
      · skip
        have c_6 : 256 ≤ i := (nI_leI (a := 256) (b := i) (by omega) (by omega)).mp c_6
        refine lv_aload_n hx hb dX1_follow_22 rfl (lv_at hl 0 rfl) ?_
        refine lv_iconst (v := 0) hx hb dX1_follow_23 (by decide) ?_
        refine va_put (D := D) (ci := 1) (v := .int 0) (ty := .int) (C := RX1) (T := TX1) (N := 3) hx hb hts (by decide +kernel) tyX1 tyX1_ok nmX1 hown hK hP hD hS 0 rfl rfl 2 (by decide) (hts (.fieldLink RX1 19 "TapeEngine$Flow" "size" "I") (by decide +kernel)) (fun _ h9 => h9) rfl (by decide +kernel) rfl rfl (Nat.le_of_ble_eq_true rfl) dX1_follow_24 (fun H locs hP hD hS => ?_)
        have hP : va_P D vwCl [(f0, .inr (1, [.ref f1, .ref f2, .int 0])), (f1, .inl (cZ, 256, .inl ct)), (f2, .inl (cI, 256, .inl fd)), (a1, .inr (5, [.ref a6, .ref a7])), (a6, .inl (cI, 256, .inl w))] H := hP
        have hD : va_D A [(f0, .inr (1, [.ref f1, .ref f2, .int 0])), (f1, .inl (cZ, 256, .inl ct)), (f2, .inl (cI, 256, .inl fd)), (a1, .inr (5, [.ref a6, .ref a7])), (a6, .inl (cI, 256, .inl w))] := hD
        refine lv_aload_n hx hb dX1_follow_27 rfl (lv_at hl 0 rfl) ?_
        refine lv_iload_n hx hb dX1_follow_28 rfl (lv_at hl 2 rfl) ?_
        refine kV_v (As := [.int (nI n)]) (rest := []) (wr := [(a1, .inr (5, [.ref a6, .ref a7])), (a6, .inl (cI, 256, .inl w))]) ⟨hx, hb, hml, hown, hts⟩ (kX1_find l D Z cB cI cJ cZ H.size f0 f1 f2 ct fd 0 n (by first | assumption | omega) (by first | assumption | omega) (cn_0 (fun k hk => h2 k (by omega))).symm) (cwV 1 hts gX1_follow_X1_find rfl rfl rfl (by decide +kernel) ⟨Nat.le_of_ble_eq_true rfl, Nat.le_of_ble_eq_true rfl⟩) hK hE hP hD hS hA 0 1 rfl rfl rfl [0, 1, 2] [3, 4] rfl rfl rfl rfl rfl (by decide) hl.1 rfl rfl (Nat.le_of_ble_eq_true rfl) dX1_follow_29 ⟨Nat.le_of_ble_eq_true rfl, Nat.le_of_ble_eq_true rfl⟩ (fun u H locs hp hP hD hS => ?_)
        obtain ⟨v_4, v_5, v_6⟩ := u
        try dsimp only at hp
        obtain ⟨hq_0, hq_1, hq_2⟩ := hp
        have hq_0 := hq_0.symm
        subst hq_0
        have hq_1 := hq_1.symm
        subst hq_1
        have hq_2 := hq_2.symm
        subst hq_2
        have hP : va_P D vwCl [(a1, .inr (5, [.ref a6, .ref a7])), (a6, .inl (cI, 256, .inl w)), (f0, .inr (1, [.ref f1, .ref f2, .int (nI (szF ct 0 n))])), (f1, .inl (cZ, 256, .inl (upd ct n 1))), (f2, .inl (cI, 256, .inl (fdF ct fd 0 n)))] H := hP
        have hD : va_D A [(a1, .inr (5, [.ref a6, .ref a7])), (a6, .inl (cI, 256, .inl w)), (f0, .inr (1, [.ref f1, .ref f2, .int (nI (szF ct 0 n))])), (f1, .inl (cZ, 256, .inl (upd ct n 1))), (f2, .inl (cI, 256, .inl (fdF ct fd 0 n)))] := hD
        refine lv_iconst (v := (nI 0)) hx hb dX1_follow_32 (by decide) ?_
        refine lv_istore_n (lv' := [(3, .int (nI 0)), (0, .ref f0), (1, .ref a1), (2, .int (nI n))]) hx hb dX1_follow_33 rfl hl (by decide) rfl (fun ls hl => ?_)
        exact lp_34 _ 0 (upd ct n 1) (fdF ct fd 0 n) (szF ct 0 n) _ _ _ (Nat.zero_le _) (FI_start hn hm (fun k hk => h2 k (by omega))) (Nat.lt_succ_self _) (hP.sub [2, 3, 4, 0, 1] rfl) (hD.sub [2, 3, 4, 0, 1] (by decide) rfl) hS (lv_sub hl [1, 2, 3, 0] rfl)
      · skip
        have c_6 : ¬ 256 ≤ i := fun z => c_6 ((nI_leI (a := 256) (b := i) (by omega) (by omega)).mpr z)
        refine lv_aload_n hx hb dX1_follow_9 rfl (lv_at hl 0 rfl) ?_
        refine va_get (D := D) (ci := 1) (v := .ref f1) (C := RX1) (T := TX1) (N := 3) hx hb hts (by decide +kernel) hown hK hP 0 rfl rfl 0 (by decide) (hts (.fieldLink RX1 9 "TapeEngine$Flow" "comeTo" "[Z") (by decide +kernel)) (fun _ h9 => h9) rfl dX1_follow_10 ?_
        refine lv_iload_n hx hb dX1_follow_13 rfl (lv_at hl 3 rfl) ?_
        refine lv_iconst (v := 0) hx hb dX1_follow_14 (by decide) ?_
        refine xs_zast (k := i) hx hb hK hP hD hS 1 3 rfl rfl (by first | assumption | omega) (by decide) (by decide) dX1_follow_15 (fun H locs hP hD hS => ?_)
        have hP : va_P D vwCl [(f0, .inr (1, [.ref f1, .ref f2, .int (nI sz)])), (f1, .inl (cZ, 256, .inl (upd ct i 0))), (f2, .inl (cI, 256, .inl fd)), (a1, .inr (5, [.ref a6, .ref a7])), (a6, .inl (cI, 256, .inl w))] H := hP
        have hD : va_D A [(f0, .inr (1, [.ref f1, .ref f2, .int (nI sz)])), (f1, .inl (cZ, 256, .inl (upd ct i 0))), (f2, .inl (cI, 256, .inl fd)), (a1, .inr (5, [.ref a6, .ref a7])), (a6, .inl (cI, 256, .inl w))] := hD
        refine lv_iinc (v := (nI (i + 1))) (lv' := [(3, .int (nI (i + 1))), (0, .ref f0), (1, .ref a1), (2, .int (nI n))]) hx hb dX1_follow_16 hl (k := 3) rfl (nI_1 _) (by decide) rfl (fun ls hl => ?_)
        refine lv_goto (tgt := 2) hx hb dX1_follow_19 (by decide) ?_
        exact ih_2 (i + 1) (upd ct i 0) _ _ _ (by first | assumption | omega) (RB_upd hm _ false) (fun k hk => (Nat.lt_or_eq_of_le (Nat.le_of_lt_succ hk)).elim (fun q => by rw [pk_un (by omega)]; exact h2 k q) (fun q => by rw [q, pk_us]; rfl)) (by omega) (hP.sub [0, 1, 2, 3, 4] rfl) (hD.sub [0, 1, 2, 3, 4] (by decide) rfl) hS (lv_sub hl [1, 2, 3, 0] rfl)
  refine lv_iconst (v := (nI 0)) hx hb dX1_follow_0 (by decide) ?_
  refine lv_istore_n (lv' := [(3, .int (nI 0)), (0, .ref f0), (1, .ref a1), (2, .int (nI n))]) hx hb dX1_follow_1 rfl hl (by decide) rfl (fun ls hl => ?_)
  exact lp_2 _ 0 ct _ _ _ (by first | assumption | omega) hm (fun k hk => absurd hk (Nat.not_lt_zero _)) (Nat.lt_succ_self _) (hP.sub [0, 1, 2, 3, 4] rfl) (hD.sub [0, 1, 2, 3, 4] (by decide) rfl) hS (lv_sub hl [1, 2, 3, 0] rfl)
