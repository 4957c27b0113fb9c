def alW (o : Nat) : Bool := o / 4096 == 5 || o / 4096 == 7 || o / 4096 == 8 || o / 4096 == 17
def alI (o : Nat) (ct : Nat → Int32) : Bool := if o % 2 = 1 then tB (ct (o / 2 % 256 / 2 * 2)) || tB (ct (o / 2 % 256 / 2 * 2 + 1)) else tB (ct (o / 2 % 256))
theorem al_def (o : Nat) (ct : Nat → Int32) : altB o ct = (alW o && alI o ct) := rfl
theorem alw_5 {o : Nat} (h : o / 4096 = 5) : true = alW o := by simp [alW, h]
theorem alw_7 {o : Nat} (h : o / 4096 = 7) : true = alW o := by simp [alW, h]
theorem alw_8 {o : Nat} (h : o / 4096 = 8) : true = alW o := by simp [alW, h]
theorem alw_17 {o : Nat} (h : o / 4096 = 17) : true = alW o := by simp [alW, h]
theorem alw_0 {o : Nat} (h5 : ¬ o / 4096 = 5) (h7 : ¬ o / 4096 = 7) (h8 : ¬ o / 4096 = 8) (h17 : ¬ o / 4096 = 17) : false = alW o := by simp [alW, h5, h7, h8, h17]
theorem ai_1 {o : Nat} {ct : Nat → Int32} (h : o % 2 = 1) (h1 : tB (ct (o / 2 % 256 / 2 * 2)) = true) : true = alI o ct := by rw [alI, if_pos h, h1]; rfl
theorem ai_2 {o : Nat} {ct : Nat → Int32} (h : o % 2 = 1) (h1 : tB (ct (o / 2 % 256 / 2 * 2 + 1)) = true) : true = alI o ct := by rw [alI, if_pos h, h1, Bool.or_true]
theorem ai_3 {o : Nat} {ct : Nat → Int32} (h : o % 2 = 1) (h1 : tB (ct (o / 2 % 256 / 2 * 2)) = false) (h2 : tB (ct (o / 2 % 256 / 2 * 2 + 1)) = false) : false = alI o ct := by rw [alI, if_pos h, h1, h2]; rfl
theorem ai_4 {o : Nat} {ct : Nat → Int32} (h : ¬ o % 2 = 1) : tB (ct (o / 2 % 256)) = alI o ct := by rw [alI, if_neg h]
theorem al_t {o : Nat} {ct : Nat → Int32} {a b : Bool} (h : a = alW o) (h2 : b = alI o ct) (ha : a = true) (hb : b = true) : altB o ct = true := by rw [al_def, ← h, ← h2, ha, hb]; rfl
theorem al_f1 {w ct : Nat → Int32} {k : Nat} (h : tB (ct k) = false) : ¬ altP w ct k = true := by rw [altP, h, Bool.false_and]; decide
theorem al_f2 {w ct : Nat → Int32} {k : Nat} {a : Bool} (h : a = alW (iN (w k))) (ha : a = false) : ¬ altP w ct k = true := by rw [altP, al_def, ← h, ha, Bool.false_and, Bool.and_false]; decide
theorem al_f3 {w ct : Nat → Int32} {k : Nat} {a : Bool} (h : a = alI (iN (w k)) ct) (ha : a = false) : ¬ altP w ct k = true := by rw [altP, al_def, ← h, ha, Bool.and_false, Bool.and_false]; decide
theorem rA_t {ct : Nat → Int32} {i n : Nat} (h2 : ∀ k : Nat, k < i → tB (ct k) = decide (k = n)) (c : i = n) : ∀ k : Nat, k < i + 1 → tB (upd ct i 1 k) = decide (k = n) := by
  intro k hk
  rw [tB_1]
  by_cases q : k = i
  · rw [if_pos q, decide_eq_true (q.trans c)]
  · rw [if_neg q]; exact h2 k (by omega)
theorem rA_f {ct : Nat → Int32} {i n : Nat} (h2 : ∀ k : Nat, k < i → tB (ct k) = decide (k = n)) (c : ¬ i = n) : ∀ k : Nat, k < i + 1 → tB (upd ct i 0 k) = decide (k = n) := by
  intro k hk
  by_cases q : k = i
  · rw [q, pk_us, decide_eq_false c]; rfl
  · rw [pk_un q]; exact h2 k (by omega)
def RI (w : Nat → Int32) (n : Nat) (ct : Nat → Int32) : Prop := RB ct ∧ tB (ct n) = true ∧ ∀ Y : Nat → Bool, Y n = true → clos w Y → ∀ k, k < 256 → tB (ct k) = true → Y k = true
theorem RI_start {w ct : Nat → Int32} {i n : Nat} (hn : n < 256) (hi : 256 ≤ i) (hm : RB ct) (h2 : ∀ k : Nat, k < i → tB (ct k) = decide (k = n)) : RI w n ct := by
  refine ⟨hm, by rw [h2 n (by omega)]; exact decide_eq_true rfl, fun Y hy _ k hk hkt => ?_⟩
  rw [h2 k (by omega)] at hkt
  rw [of_decide_eq_true hkt]
  exact hy
theorem RI_upd {w ct : Nat → Int32} {n j : Nat} (h : RI w n ct) (hY : ∀ Y : Nat → Bool, Y n = true → clos w Y → Y j = true) : RI w n (upd ct j 1) := by
  refine ⟨RB_1 h.1 j, tB_mono j h.2.1, fun Y hn hc k hk hkt => ?_⟩
  rw [tB_1] at hkt
  by_cases q : k = j
  · rw [q]; exact hY Y hn hc
  · rw [if_neg q] at hkt
    exact h.2.2 Y hn hc k hk hkt
theorem RI_step {w ct : Nat → Int32} {n i a b : Nat} (h : RI w n ct) (hi : i < 256) (hit : tB (ct i) = true) (hg : goB (iN (w i)) = true) (ha : a = (i + 1) % 256) (hb : b = if jmpB (iN (w i)) = true then iN (w i) / 2 % 256 else (i + 1) % 256) : RI w n (upd (upd ct a 1) b 1) := by
  have hYi : ∀ Y : Nat → Bool, Y n = true → clos w Y → clo w i Y := fun Y hn hc => hc i hi (h.2.2 Y hn hc i hi hit)
  refine RI_upd (RI_upd h fun Y hn hc => ?_) fun Y hn hc => ?_
  · rw [ha]; exact (hYi Y hn hc hg).1
  · by_cases q : jmpB (iN (w i)) = true
    · rw [hb, if_pos q]; exact (hYi Y hn hc hg).2 q
    · rw [hb, if_neg q]; exact (hYi Y hn hc hg).1
theorem cn_up (ct : Nat → Int32) {j : Nat} (hj : j < 256) : cn ct ≤ cn (upd ct j 1) := by rw [cn_1 ct hj]; exact szF_le _ _ _
theorem cn_up1 {ct : Nat → Int32} {j : Nat} (hj : j < 256) (h : tB (ct j) = false) : cn ct < cn (upd ct j 1) := by
  rw [cn_1 ct hj, szF, if_neg (by rw [h]; decide)]
  omega
theorem cn_up2 (ct : Nat → Int32) {a b : Nat} (ha : a < 256) (hb : b < 256) : cn ct ≤ cn (upd (upd ct a 1) b 1) := Nat.le_trans (cn_up ct ha) (cn_up _ hb)
theorem rc_lt {ct ct2 : Nat → Int32} {a b : Nat} {m2 : Bool} (ha : a < 256) (hb : b < 256) (hcn : cn ct ≤ cn ct2) (hlt : m2 = true → cn ct < cn ct2) (h : m2 = true ∨ tB (ct2 a) = false ∨ tB (ct2 b) = false) : cn ct < cn (upd (upd ct2 a 1) b 1) := by
  have h1 := cn_up ct2 ha
  have h2 := cn_up (upd ct2 a 1) hb
  by_cases qa : tB (ct2 a) = false
  · have := cn_up1 ha qa
    omega
  · rcases h with h | h | h
    · have := hlt h
      omega
    · exact absurd h qa
    · have e : tB (upd ct2 a 1 b) = false := by
        rw [tB_1, if_neg (fun (z : b = a) => qa (z ▸ h))]
        exact h
      have := cn_up1 hb e
      omega
theorem rc_cl {w ct2 : Nat → Int32} {i a b : Nat} {m2 : Bool} (hR : RB ct2) (hcl : m2 = false → ∀ k : Nat, k < i → tB (ct2 k) = true → clo w k (fun x => tB (ct2 x))) (ha : a = (i + 1) % 256) (hb : b = if jmpB (iN (w i)) = true then iN (w i) / 2 % 256 else (i + 1) % 256) (h : m2 = false ∧ tB (ct2 a) = true ∧ tB (ct2 b) = true) : ∀ k : Nat, k < i + 1 → tB (upd (upd ct2 a 1) b 1 k) = true → clo w k (fun x => tB (upd (upd ct2 a 1) b 1 x)) := by
  have ea : upd ct2 a 1 = ct2 := upd_same ((hR a).trans (congrArg bI h.2.1))
  have eb : upd ct2 b 1 = ct2 := upd_same ((hR b).trans (congrArg bI h.2.2))
  rw [ea, eb]
  intro k hk hkt
  by_cases q : k = i
  · subst q
    refine fun _ => ⟨by rw [← ha]; exact h.2.1, fun z => ?_⟩
    have := h.2.2
    rw [hb, if_pos z] at this
    exact this
  · exact hcl h.1 k (by omega) hkt
theorem rc_no {w ct2 : Nat → Int32} {i : Nat} {m2 : Bool} (hcl : m2 = false → ∀ k : Nat, k < i → tB (ct2 k) = true → clo w k (fun x => tB (ct2 x))) (h : tB (ct2 i) = false ∨ ¬ goB (iN (w i)) = true) : m2 = false → ∀ k : Nat, k < i + 1 → tB (ct2 k) = true → clo w k (fun x => tB (ct2 x)) := by
  intro hm k hk hkt
  by_cases q : k = i
  · subst q
    rcases h with h | h
    · rw [h] at hkt; cases hkt
    · exact fun z => absurd z h
  · exact hcl hm k (by omega) hkt
theorem ms_48 {a b n : Nat} {m2 : Bool} (hcn : a ≤ b) (hlt : m2 = true → a < b) (hb : b ≤ 256) (h : 2 * (256 - a) + 1 < n + 1) : 2 * (256 - b) + (if m2 = true then 1 else 0) < n := by
  cases m2
  · rw [if_neg (by decide)]; omega
  · have := hlt rfl
    rw [if_pos rfl]; omega
theorem fbs_t {ct : Nat → Int32} {i cc : Nat} (h : cc = fb_ct (fun k => tB (ct k)) i) (h2 : tB (ct i) = true) : cc + 1 = fb_ct (fun k => tB (ct k)) (i + 1) := by
  rw [fb_ct_succ, ← h]
  show cc + 1 = cc + (if tB (ct i) = true then 1 else 0)
  rw [if_pos h2]
theorem fbs_f {ct : Nat → Int32} {i cc : Nat} (h : cc = fb_ct (fun k => tB (ct k)) i) (h2 : tB (ct i) = false) : cc = fb_ct (fun k => tB (ct k)) (i + 1) := by
  rw [fb_ct_succ, ← h]
  show cc = cc + (if tB (ct i) = true then 1 else 0)
  rw [if_neg (by rw [h2]; decide)]
  rfl
set_option maxHeartbeats 4000000 in
set_option maxRecDepth 100000 in
theorem kX10_alters (l : Launch) (D : va_G) (Z : SZ) (cB cI cJ cZ : ClassId) (ksz : Nat) (m0 : Nat) (x0 : Nat) (x1 : Nat) (x8 : Nat) (x10 : Nat) (x13 : Nat) (x14 : Nat) (x21 : Nat) (x22 : Nat) (x23 : Nat) (x24 : Nat) (x25 : Nat) (x26 : Nat) (x27 : Nat) (x28 : Nat) (x29 : Nat) (x30 : Nat) (x31 : Nat) (x32 : Nat) (x33 : Nat) (x35 : Nat) (x37 : Nat) (x38 : Nat) (x45 : Nat) (x47 : Nat) (x50 : Nat) (hi : Int64) (lo : Int64) (mult : Int64) (nx : Nat) (tz : Nat) (ta : Nat) (xz : Nat) (fg : Bool) (la : Int32) (mz : Nat) (re : Int32) (en : Int32) (pv : Int32) (ts : Nat) (nw : Nat) (hr0 : Bool) (hk : Bool) (hi2 : Int64) (lo2 : Int64) (mult2 : Int64) (nx2 : Nat) (tz2 : Nat) (ta2 : Nat) (xz2 : Nat) (fg2 : Bool) (la2 : Int32) (w : Nat → Int32) (ct : Nat → Int32) (hct : RB ct) (hw : ∀ k : Nat, iN (w k) < 131072) : Met l yX10_alters wsX10_alters { frames := 0, cells := 0, slots := 0, locals := 0 } (PR D Z [(cB, .byte), (cI, .int), (cJ, .long), (cZ, .boolean)] [.ref m0] [(m0, .inr (10, [.ref x0, .ref x1, .long hi, .long lo, .long mult, .int (nI nx), .int (nI tz), .int (nI ta), .ref x8, .int (nI xz), .ref x10, .int (bI fg), .int la, .ref x13, .ref x14, .int (nI mz), .int re, .int en, .int pv, .int (nI ts), .int (nI nw), .ref x21, .ref x22, .ref x23, .ref x24, .ref x25, .ref x26, .ref x27, .ref x28, .ref x29, .ref x30, .ref x31, .ref x32, .ref x33, .int (bI hr0), .ref x35, .int (bI hk), .ref x37, .ref x38, .long hi2, .long lo2, .long mult2, .int (nI nx2), .int (nI tz2), .int (nI ta2), .ref x45, .int (nI xz2), .ref x47, .int (bI fg2), .int la2, .ref x50])), (x0, .inl (cI, 256, .inl w)), (x35, .inl (cZ, 256, .inl ct))] ksz) (QI D (fun (r : Int32) (_ : Unit) => r = (if hr0 = true then altR w ct else -1)) (fun (_ : Unit) => [(m0, .inr (10, [.ref x0, .ref x1, .long hi, .long lo, .long mult, .int (nI nx), .int (nI tz), .int (nI ta), .ref x8, .int (nI xz), .ref x10, .int (bI fg), .int la, .ref x13, .ref x14, .int (nI mz), .int re, .int en, .int pv, .int (nI ts), .int (nI nw), .ref x21, .ref x22, .ref x23, .ref x24, .ref x25, .ref x26, .ref x27, .ref x28, .ref x29, .ref x30, .ref x31, .ref x32, .ref x33, .int (bI hr0), .ref x35, .int (bI hk), .ref x37, .ref x38, .long hi2, .long lo2, .long mult2, .int (nI nx2), .int (nI tz2), .int (nI ta2), .ref x45, .int (nI xz2), .ref x47, .int (bI fg2), .int la2, .ref x50])), (x0, .inl (cI, 256, .inl w)), (x35, .inl (cZ, 256, .inl ct))]) (va_A [(m0, .inr (10, [.ref x0, .ref x1, .long hi, .long lo, .long mult, .int (nI nx), .int (nI tz), .int (nI ta), .ref x8, .int (nI xz), .ref x10, .int (bI fg), .int la, .ref x13, .ref x14, .int (nI mz), .int re, .int en, .int pv, .int (nI ts), .int (nI nw), .ref x21, .ref x22, .ref x23, .ref x24, .ref x25, .ref x26, .ref x27, .ref x28, .ref x29, .ref x30, .ref x31, .ref x32, .ref x33, .int (bI hr0), .ref x35, .int (bI hk), .ref x37, .ref x38, .long hi2, .long lo2, .long mult2, .int (nI nx2), .int (nI tz2), .int (nI ta2), .ref x45, .int (nI xz2), .ref x47, .int (bI fg2), .int la2, .ref x50])), (x0, .inl (cI, 256, .inl w)), (x35, .inl (cZ, 256, .inl ct))] ksz)) 0 0 (va_A [(m0, .inr (10, [.ref x0, .ref x1, .long hi, .long lo, .long mult, .int (nI nx), .int (nI tz), .int (nI ta), .ref x8, .int (nI xz), .ref x10, .int (bI fg), .int la, .ref x13, .ref x14, .int (nI mz), .int re, .int en, .int pv, .int (nI ts), .int (nI nw), .ref x21, .ref x22, .ref x23, .ref x24, .ref x25, .ref x26, .ref x27, .ref x28, .ref x29, .ref x30, .ref x31, .ref x32, .ref x33, .int (bI hr0), .ref x35, .int (bI hk), .ref x37, .ref x38, .long hi2, .long lo2, .long mult2, .int (nI nx2), .int (nI tz2), .int (nI ta2), .ref x45, .int (nI xz2), .ref x47, .int (bI fg2), .int la2, .ref x50])), (x0, .inl (cI, 256, .inl w)), (x35, .inl (cZ, 256, .inl ct))] ksz) := by
  refine met_g (l := l) (y := yX10_alters) (wsy := wsX10_alters) (av := [.ref m0]) (cells := [(m0, .inr (10, [.ref x0, .ref x1, .long hi, .long lo, .long mult, .int (nI nx), .int (nI tz), .int (nI ta), .ref x8, .int (nI xz), .ref x10, .int (bI fg), .int la, .ref x13, .ref x14, .int (nI mz), .int re, .int en, .int pv, .int (nI ts), .int (nI nw), .ref x21, .ref x22, .ref x23, .ref x24, .ref x25, .ref x26, .ref x27, .ref x28, .ref x29, .ref x30, .ref x31, .ref x32, .ref x33, .int (bI hr0), .ref x35, .int (bI hk), .ref x37, .ref x38, .long hi2, .long lo2, .long mult2, .int (nI nx2), .int (nI tz2), .int (nI ta2), .ref x45, .int (nI xz2), .ref x47, .int (bI fg2), .int la2, .ref x50])), (x0, .inl (cI, 256, .inl w)), (x35, .inl (cZ, 256, .inl ct))]) (sz := ksz) (QI D (fun (r : Int32) (_ : Unit) => r = (if hr0 = true then altR w ct else -1)) (fun (_ : Unit) => [(m0, .inr (10, [.ref x0, .ref x1, .long hi, .long lo, .long mult, .int (nI nx), .int (nI tz), .int (nI ta), .ref x8, .int (nI xz), .ref x10, .int (bI fg), .int la, .ref x13, .ref x14, .int (nI mz), .int re, .int en, .int pv, .int (nI ts), .int (nI nw), .ref x21, .ref x22, .ref x23, .ref x24, .ref x25, .ref x26, .ref x27, .ref x28, .ref x29, .ref x30, .ref x31, .ref x32, .ref x33, .int (bI hr0), .ref x35, .int (bI hk), .ref x37, .ref x38, .long hi2, .long lo2, .long mult2, .int (nI nx2), .int (nI tz2), .int (nI ta2), .ref x45, .int (nI xz2), .ref x47, .int (bI fg2), .int la2, .ref x50])), (x0, .inl (cI, 256, .inl w)), (x35, .inl (cZ, 256, .inl ct))])) cX10_alters 6 (some .int) (by decide) rfl (Nat.le_of_ble_eq_true rfl) ?_
  intro p e s m below meth c A ls hx hb hr hts hown hlocks hml hin hA hP hK hD hE hS hl hsz
  clear hsz
  have hl : lv_has ls 6 [(0, .ref m0)] := hl
  have lp_2 : ∀ (n_2 : Nat) (i : Nat) (H : Heap) (locs : List Loc) (ls : Array Slot), (i ≤ 256) → (∀ k : Nat, k < i → ¬ altP w ct k = true) → (256 - i) < n_2 → va_P D vwCl [(m0, .inr (10, [.ref x0, .ref x1, .long hi, .long lo, .long mult, .int (nI nx), .int (nI tz), .int (nI ta), .ref x8, .int (nI xz), .ref x10, .int (bI fg), .int la, .ref x13, .ref x14, .int (nI mz), .int re, .int en, .int pv, .int (nI ts), .int (nI nw), .ref x21, .ref x22, .ref x23, .ref x24, .ref x25, .ref x26, .ref x27, .ref x28, .ref x29, .ref x30, .ref x31, .ref x32, .ref x33, .int (bI hr0), .ref x35, .int (bI hk), .ref x37, .ref x38, .long hi2, .long lo2, .long mult2, .int (nI nx2), .int (nI tz2), .int (nI ta2), .ref x45, .int (nI xz2), .ref x47, .int (bI fg2), .int la2, .ref x50])), (x0, .inl (cI, 256, .inl w)), (x35, .inl (cZ, 256, .inl ct))] H → va_D A [(m0, .inr (10, [.ref x0, .ref x1, .long hi, .long lo, .long mult, .int (nI nx), .int (nI tz), .int (nI ta), .ref x8, .int (nI xz), .ref x10, .int (bI fg), .int la, .ref x13, .ref x14, .int (nI mz), .int re, .int en, .int pv, .int (nI ts), .int (nI nw), .ref x21, .ref x22, .ref x23, .ref x24, .ref x25, .ref x26, .ref x27, .ref x28, .ref x29, .ref x30, .ref x31, .ref x32, .ref x33, .int (bI hr0), .ref x35, .int (bI hk), .ref x37, .ref x38, .long hi2, .long lo2, .long mult2, .int (nI nx2), .int (nI tz2), .int (nI ta2), .ref x45, .int (nI xz2), .ref x47, .int (bI fg2), .int la2, .ref x50])), (x0, .inl (cI, 256, .inl w)), (x35, .inl (cZ, 256, .inl ct))] → va_S A s.heap H locs → lv_has ls 6 [(0, .ref m0), (1, .int (nI i))] → W p l e { frames := 0, cells := 0, slots := 0, locals := 0 } s m ([.ref m0] : List Value).toArray below meth c H locs 0 0 (MQ below (QI D (fun (r : Int32) (_ : Unit) => r = (if hr0 = true then altR w ct else -1)) (fun (_ : Unit) => [(m0, .inr (10, [.ref x0, .ref x1, .long hi, .long lo, .long mult, .int (nI nx), .int (nI tz), .int (nI ta), .ref x8, .int (nI xz), .ref x10, .int (bI fg), .int la, .ref x13, .ref x14, .int (nI mz), .int re, .int en, .int pv, .int (nI ts), .int (nI nw), .ref x21, .ref x22, .ref x23, .ref x24, .ref x25, .ref x26, .ref x27, .ref x28, .ref x29, .ref x30, .ref x31, .ref x32, .ref x33, .int (bI hr0), .ref x35, .int (bI hk), .ref x37, .ref x38, .long hi2, .long lo2, .long mult2, .int (nI nx2), .int (nI tz2), .int (nI ta2), .ref x45, .int (nI xz2), .ref x47, .int (bI fg2), .int la2, .ref x50])), (x0, .inl (cI, 256, .inl w)), (x35, .inl (cZ, 256, .inl ct))]) A) ([.ref m0] : List Value).toArray s 0 0 A) (F0 m 2 ls []) := by
    intro n_2
    induction n_2 with
    | zero => intro i H locs ls h1 h2 hm_2; exact absurd hm_2 (Nat.not_lt_zero _)
    | succ n_2 ih_2 =>
      intro i H locs ls h1 h2 hm_2 hP hD hS hl
      have hwi := hw i
      have lp_69 : ∀ (wr : Bool) (H : Heap) (locs : List Loc) (ls : Array Slot), (i < 256) → (hr0 = true) → (wr = alW (iN (w i))) → va_P D vwCl [(m0, .inr (10, [.ref x0, .ref x1, .long hi, .long lo, .long mult, .int (nI nx), .int (nI tz), .int (nI ta), .ref x8, .int (nI xz), .ref x10, .int (bI fg), .int la, .ref x13, .ref x14, .int (nI mz), .int re, .int en, .int pv, .int (nI ts), .int (nI nw), .ref x21, .ref x22, .ref x23, .ref x24, .ref x25, .ref x26, .ref x27, .ref x28, .ref x29, .ref x30, .ref x31, .ref x32, .ref x33, .int (bI hr0), .ref x35, .int (bI hk), .ref x37, .ref x38, .long hi2, .long lo2, .long mult2, .int (nI nx2), .int (nI tz2), .int (nI ta2), .ref x45, .int (nI xz2), .ref x47, .int (bI fg2), .int la2, .ref x50])), (x0, .inl (cI, 256, .inl w)), (x35, .inl (cZ, 256, .inl ct))] H → va_D A [(m0, .inr (10, [.ref x0, .ref x1, .long hi, .long lo, .long mult, .int (nI nx), .int (nI tz), .int (nI ta), .ref x8, .int (nI xz), .ref x10, .int (bI fg), .int la, .ref x13, .ref x14, .int (nI mz), .int re, .int en, .int pv, .int (nI ts), .int (nI nw), .ref x21, .ref x22, .ref x23, .ref x24, .ref x25, .ref x26, .ref x27, .ref x28, .ref x29, .ref x30, .ref x31, .ref x32, .ref x33, .int (bI hr0), .ref x35, .int (bI hk), .ref x37, .ref x38, .long hi2, .long lo2, .long mult2, .int (nI nx2), .int (nI tz2), .int (nI ta2), .ref x45, .int (nI xz2), .ref x47, .int (bI fg2), .int la2, .ref x50])), (x0, .inl (cI, 256, .inl w)), (x35, .inl (cZ, 256, .inl ct))] → va_S A s.heap H locs → lv_has ls 6 [(0, .ref m0), (1, .int (nI i)), (3, .int (nI (iN (w i) / 2 % 256))), (4, .int (bI wr))] → W p l e { frames := 0, cells := 0, slots := 0, locals := 0 } s m ([.ref m0] : List Value).toArray below meth c H locs 0 0 (MQ below (QI D (fun (r : Int32) (_ : Unit) => r = (if hr0 = true then altR w ct else -1)) (fun (_ : Unit) => [(m0, .inr (10, [.ref x0, .ref x1, .long hi, .long lo, .long mult, .int (nI nx), .int (nI tz), .int (nI ta), .ref x8, .int (nI xz), .ref x10, .int (bI fg), .int la, .ref x13, .ref x14, .int (nI mz), .int re, .int en, .int pv, .int (nI ts), .int (nI nw), .ref x21, .ref x22, .ref x23, .ref x24, .ref x25, .ref x26, .ref x27, .ref x28, .ref x29, .ref x30, .ref x31, .ref x32, .ref x33, .int (bI hr0), .ref x35, .int (bI hk), .ref x37, .ref x38, .long hi2, .long lo2, .long mult2, .int (nI nx2), .int (nI tz2), .int (nI ta2), .ref x45, .int (nI xz2), .ref x47, .int (bI fg2), .int la2, .ref x50])), (x0, .inl (cI, 256, .inl w)), (x35, .inl (cZ, 256, .inl ct))]) A) ([.ref m0] : List Value).toArray s 0 0 A) (F0 m 69 ls []) := by
        intro wr H locs ls hi9 hr9 hwr hP hD hS hl
        have lp_123 : ∀ (isv : Bool) (H : Heap) (locs : List Loc) (ls : Array Slot), (isv = alI (iN (w i)) ct) → va_P D vwCl [(m0, .inr (10, [.ref x0, .ref x1, .long hi, .long lo, .long mult, .int (nI nx), .int (nI tz), .int (nI ta), .ref x8, .int (nI xz), .ref x10, .int (bI fg), .int la, .ref x13, .ref x14, .int (nI mz), .int re, .int en, .int pv, .int (nI ts), .int (nI nw), .ref x21, .ref x22, .ref x23, .ref x24, .ref x25, .ref x26, .ref x27, .ref x28, .ref x29, .ref x30, .ref x31, .ref x32, .ref x33, .int (bI hr0), .ref x35, .int (bI hk), .ref x37, .ref x38, .long hi2, .long lo2, .long mult2, .int (nI nx2), .int (nI tz2), .int (nI ta2), .ref x45, .int (nI xz2), .ref x47, .int (bI fg2), .int la2, .ref x50])), (x0, .inl (cI, 256, .inl w)), (x35, .inl (cZ, 256, .inl ct))] H → va_D A [(m0, .inr (10, [.ref x0, .ref x1, .long hi, .long lo, .long mult, .int (nI nx), .int (nI tz), .int (nI ta), .ref x8, .int (nI xz), .ref x10, .int (bI fg), .int la, .ref x13, .ref x14, .int (nI mz), .int re, .int en, .int pv, .int (nI ts), .int (nI nw), .ref x21, .ref x22, .ref x23, .ref x24, .ref x25, .ref x26, .ref x27, .ref x28, .ref x29, .ref x30, .ref x31, .ref x32, .ref x33, .int (bI hr0), .ref x35, .int (bI hk), .ref x37, .ref x38, .long hi2, .long lo2, .long mult2, .int (nI nx2), .int (nI tz2), .int (nI ta2), .ref x45, .int (nI xz2), .ref x47, .int (bI fg2), .int la2, .ref x50])), (x0, .inl (cI, 256, .inl w)), (x35, .inl (cZ, 256, .inl ct))] → va_S A s.heap H locs → lv_has ls 6 [(0, .ref m0), (1, .int (nI i)), (4, .int (bI wr))] → W p l e { frames := 0, cells := 0, slots := 0, locals := 0 } s m ([.ref m0] : List Value).toArray below meth c H locs 0 0 (MQ below (QI D (fun (r : Int32) (_ : Unit) => r = (if hr0 = true then altR w ct else -1)) (fun (_ : Unit) => [(m0, .inr (10, [.ref x0, .ref x1, .long hi, .long lo, .long mult, .int (nI nx), .int (nI tz), .int (nI ta), .ref x8, .int (nI xz), .ref x10, .int (bI fg), .int la, .ref x13, .ref x14, .int (nI mz), .int re, .int en, .int pv, .int (nI ts), .int (nI nw), .ref x21, .ref x22, .ref x23, .ref x24, .ref x25, .ref x26, .ref x27, .ref x28, .ref x29, .ref x30, .ref x31, .ref x32, .ref x33, .int (bI hr0), .ref x35, .int (bI hk), .ref x37, .ref x38, .long hi2, .long lo2, .long mult2, .int (nI nx2), .int (nI tz2), .int (nI ta2), .ref x45, .int (nI xz2), .ref x47, .int (bI fg2), .int la2, .ref x50])), (x0, .inl (cI, 256, .inl w)), (x35, .inl (cZ, 256, .inl ct))]) A) ([.ref m0] : List Value).toArray s 0 0 A) (F0 m 123 ls [.int (bI isv)]) := by
          intro isv H locs ls his hP hD hS hl
          refine lv_istore (lv' := [(5, .int (bI isv)), (0, .ref m0), (1, .int (nI i)), (4, .int (bI wr))]) hx hb dX10_alters_123 hl (by decide) rfl (fun ls hl => ?_)
          refine lv_aload_n hx hb dX10_alters_125 rfl (lv_at hl 1 rfl) ?_
          refine va_get (D := D) (ci := 10) (v := .ref x35) (C := RX10) (T := TX10) (N := 51) hx hb hts (by decide +kernel) hown hK hP 0 rfl rfl 35 (by decide) (hts (.fieldLink RX10 82 "TapeEngineModel" "isReached" "[Z") (by decide +kernel)) (fun _ h9 => h9) rfl dX10_alters_126 ?_
          refine lv_iload_n hx hb dX10_alters_129 rfl (lv_at hl 2 rfl) ?_
          refine xs_zald (k := i) hx hb hK hP 2 3 rfl rfl (by first | assumption | omega) (by decide) dX10_alters_130 ?_
          refine set_i (y := bI (tB (ct i))) (hct i) ?_
          refine lv_if_eq (tgt := 146) hx hb dX10_alters_131 (by decide) (fun c_131 => ?_) (fun c_131 => ?_)
          · skip
            have c_131 := bI_f c_131
            refine lv_iinc (v := (nI (i + 1))) (lv' := [(1, .int (nI (i + 1))), (5, .int (bI isv)), (0, .ref m0), (4, .int (bI wr))]) hx hb dX10_alters_146 hl (k := 2) rfl (nI_1 _) (by decide) rfl (fun ls hl => ?_)
            refine lv_goto (tgt := 2) hx hb dX10_alters_149 (by decide) ?_
            exact ih_2 (i + 1) _ _ _ (by first | assumption | omega) (fun k hk => (Nat.lt_or_eq_of_le (Nat.le_of_lt_succ hk)).elim (h2 k) (fun q => by rw [q]; first | exact al_f1 c_131 | exact al_f2 hwr c_136 | exact al_f3 his c_141)) (by omega) (hP.sub [0, 1, 2] rfl) (hD.sub [0, 1, 2] (by decide) rfl) hS (lv_sub hl [2, 0] rfl)
          · skip
            have c_131 := bI_t c_131
            refine lv_iload hx hb dX10_alters_134 (lv_at hl 3 rfl) ?_
            refine lv_if_eq (tgt := 146) hx hb dX10_alters_136 (by decide) (fun c_136 => ?_) (fun c_136 => ?_)
            · skip
              have c_136 := bI_f c_136
              refine lv_iinc (v := (nI (i + 1))) (lv' := [(1, .int (nI (i + 1))), (5, .int (bI isv)), (0, .ref m0), (4, .int (bI wr))]) hx hb dX10_alters_146 hl (k := 2) rfl (nI_1 _) (by decide) rfl (fun ls hl => ?_)
              refine lv_goto (tgt := 2) hx hb dX10_alters_149 (by decide) ?_
              exact ih_2 (i + 1) _ _ _ (by first | assumption | omega) (fun k hk => (Nat.lt_or_eq_of_le (Nat.le_of_lt_succ hk)).elim (h2 k) (fun q => by rw [q]; first | exact al_f1 c_131 | exact al_f2 hwr c_136 | exact al_f3 his c_141)) (by omega) (hP.sub [0, 1, 2] rfl) (hD.sub [0, 1, 2] (by decide) rfl) hS (lv_sub hl [2, 0] rfl)
            · skip
              have c_136 := bI_t c_136
              refine lv_iload hx hb dX10_alters_139 (lv_at hl 0 rfl) ?_
              refine lv_if_eq (tgt := 146) hx hb dX10_alters_141 (by decide) (fun c_141 => ?_) (fun c_141 => ?_)
              · skip
                have c_141 := bI_f c_141
                refine lv_iinc (v := (nI (i + 1))) (lv' := [(1, .int (nI (i + 1))), (5, .int (bI isv)), (0, .ref m0), (4, .int (bI wr))]) hx hb dX10_alters_146 hl (k := 2) rfl (nI_1 _) (by decide) rfl (fun ls hl => ?_)
                refine lv_goto (tgt := 2) hx hb dX10_alters_149 (by decide) ?_
                exact ih_2 (i + 1) _ _ _ (by first | assumption | omega) (fun k hk => (Nat.lt_or_eq_of_le (Nat.le_of_lt_succ hk)).elim (h2 k) (fun q => by rw [q]; first | exact al_f1 c_131 | exact al_f2 hwr c_136 | exact al_f3 his c_141)) (by omega) (hP.sub [0, 1, 2] rfl) (hD.sub [0, 1, 2] (by decide) rfl) hS (lv_sub hl [2, 0] rfl)
              · skip
                have c_141 := bI_t c_141
                refine lv_iload_n hx hb dX10_alters_144 rfl (lv_at hl 2 rfl) ?_
                exact ret_i hx hb hr hlocks () (by first | exact (altR_hit h2 c_131 (al_t hwr his c_136 c_141) hi9).trans (if_pos hr9).symm | exact (if_neg (by rw [c_13]; decide)).symm | (by_cases q : hr0 = true; exact (altR_no h2 c_6).trans (if_pos q).symm; exact (if_neg q).symm)) (hP.sub [0, 1, 2] rfl) (hD.sub [0, 1, 2] (by decide) rfl) hS dX10_alters_145
        refine lv_aload_n hx hb dX10_alters_69 rfl (lv_at hl 0 rfl) ?_
        refine va_get (D := D) (ci := 10) (v := .ref x0) (C := RX10) (T := TX10) (N := 51) hx hb hts (by decide +kernel) hown hK hP 0 rfl rfl 0 (by decide) (hts (.fieldLink RX10 7 "TapeEngineModel" "word" "[I") (by decide +kernel)) (fun _ h9 => h9) rfl dX10_alters_70 ?_
        refine lv_iload_n hx hb dX10_alters_73 rfl (lv_at hl 1 rfl) ?_
        refine xs_iald (k := i) hx hb hK hP 1 1 rfl rfl (by first | assumption | omega) (by decide) dX10_alters_74 ?_
        refine set_i (y := nI (iN (w i))) (nI_iN _).symm ?_
        refine lv_iconst (v := 1) hx hb dX10_alters_75 (by decide) ?_
        refine lv_iand hx hb dX10_alters_76 ?_
        refine set_i (y := nI (iN (w i) % 2)) (e_odd hwi) ?_
        refine lv_iconst (v := (nI 1)) hx hb dX10_alters_77 (by decide) ?_
        refine lv_icmp_ne (tgt := 117) hx hb dX10_alters_78 (by decide) (fun c_78 => ?_) (fun c_78 => ?_)
        · skip
          have c_78 : ¬ (iN (w i) % 2) = 1 := fun z => c_78 ((nI_eq (a := (iN (w i) % 2)) (b := 1) (by omega) (by omega)).mpr z)
          refine lv_aload_n hx hb dX10_alters_117 rfl (lv_at hl 0 rfl) ?_
          refine va_get (D := D) (ci := 10) (v := .ref x35) (C := RX10) (T := TX10) (N := 51) hx hb hts (by decide +kernel) hown hK hP 0 rfl rfl 35 (by decide) (hts (.fieldLink RX10 82 "TapeEngineModel" "isReached" "[Z") (by decide +kernel)) (fun _ h9 => h9) rfl dX10_alters_118 ?_
          refine lv_iload_n hx hb dX10_alters_121 rfl (lv_at hl 2 rfl) ?_
          refine xs_zald (k := (iN (w i) / 2 % 256)) hx hb hK hP 2 3 rfl rfl (by first | assumption | omega) (by decide) dX10_alters_122 ?_
          refine set_i (y := bI (tB (ct (iN (w i) / 2 % 256)))) (hct _) ?_
          exact lp_123 (tB (ct (iN (w i) / 2 % 256))) _ _ _ (by first | exact ai_1 c_78 c_91 | exact ai_2 c_78 c_106 | exact ai_3 c_78 c_91 c_106 | exact ai_4 c_78) (hP.sub [0, 1, 2] rfl) (hD.sub [0, 1, 2] (by decide) rfl) hS (lv_sub hl [0, 1, 3] rfl)
        · skip
          have c_78 : (iN (w i) % 2) = 1 := (nI_eq (a := (iN (w i) % 2)) (b := 1) (by omega) (by omega)).mp c_78
          refine lv_aload_n hx hb dX10_alters_81 rfl (lv_at hl 0 rfl) ?_
          refine va_get (D := D) (ci := 10) (v := .ref x35) (C := RX10) (T := TX10) (N := 51) hx hb hts (by decide +kernel) hown hK hP 0 rfl rfl 35 (by decide) (hts (.fieldLink RX10 82 "TapeEngineModel" "isReached" "[Z") (by decide +kernel)) (fun _ h9 => h9) rfl dX10_alters_82 ?_
          refine lv_iload_n hx hb dX10_alters_85 rfl (lv_at hl 2 rfl) ?_
          refine lv_sipush (v := 254) hx hb dX10_alters_86 (by decide) ?_
          refine lv_iand hx hb dX10_alters_89 ?_
          refine set_i (y := nI (iN (w i) / 2 % 256 / 2 * 2)) (e_a254 _ (by omega)) ?_
          refine xs_zald (k := (iN (w i) / 2 % 256 / 2 * 2)) hx hb hK hP 2 3 rfl rfl (by first | assumption | omega) (by decide) dX10_alters_90 ?_
          refine set_i (y := bI (tB (ct (iN (w i) / 2 % 256 / 2 * 2)))) (hct _) ?_
          refine lv_if_ne (tgt := 109) hx hb dX10_alters_91 (by decide) (fun c_91 => ?_) (fun c_91 => ?_)
          · skip
            have c_91 := bI_t c_91
            refine lv_iconst (v := 1) hx hb dX10_alters_109 (by decide) ?_
            refine lv_goto (tgt := 123) hx hb dX10_alters_110 (by decide) ?_
            exact lp_123 true _ _ _ (by first | exact ai_1 c_78 c_91 | exact ai_2 c_78 c_106 | exact ai_3 c_78 c_91 c_106 | exact ai_4 c_78) (hP.sub [0, 1, 2] rfl) (hD.sub [0, 1, 2] (by decide) rfl) hS (lv_sub hl [0, 1, 3] rfl)
          · skip
            have c_91 := bI_f c_91
            refine lv_aload_n hx hb dX10_alters_94 rfl (lv_at hl 0 rfl) ?_
            refine va_get (D := D) (ci := 10) (v := .ref x35) (C := RX10) (T := TX10) (N := 51) hx hb hts (by decide +kernel) hown hK hP 0 rfl rfl 35 (by decide) (hts (.fieldLink RX10 82 "TapeEngineModel" "isReached" "[Z") (by decide +kernel)) (fun _ h9 => h9) rfl dX10_alters_95 ?_
            refine lv_iload_n hx hb dX10_alters_98 rfl (lv_at hl 2 rfl) ?_
            refine lv_sipush (v := 254) hx hb dX10_alters_99 (by decide) ?_
            refine lv_iand hx hb dX10_alters_102 ?_
            refine set_i (y := nI (iN (w i) / 2 % 256 / 2 * 2)) (e_a254 _ (by omega)) ?_
            refine lv_iconst (v := 1) hx hb dX10_alters_103 (by decide) ?_
            refine lv_iadd hx hb dX10_alters_104 ?_
            refine set_i (y := nI (iN (w i) / 2 % 256 / 2 * 2 + 1)) (nI_1 _) ?_
            refine xs_zald (k := (iN (w i) / 2 % 256 / 2 * 2 + 1)) hx hb hK hP 2 3 rfl rfl (by first | assumption | omega) (by decide) dX10_alters_105 ?_
            refine set_i (y := bI (tB (ct (iN (w i) / 2 % 256 / 2 * 2 + 1)))) (hct _) ?_
            refine lv_if_eq (tgt := 113) hx hb dX10_alters_106 (by decide) (fun c_106 => ?_) (fun c_106 => ?_)
            · skip
              have c_106 := bI_f c_106
              refine lv_iconst (v := 0) hx hb dX10_alters_113 (by decide) ?_
              refine lv_goto (tgt := 123) hx hb dX10_alters_114 (by decide) ?_
              exact lp_123 false _ _ _ (by first | exact ai_1 c_78 c_91 | exact ai_2 c_78 c_106 | exact ai_3 c_78 c_91 c_106 | exact ai_4 c_78) (hP.sub [0, 1, 2] rfl) (hD.sub [0, 1, 2] (by decide) rfl) hS (lv_sub hl [0, 1, 3] rfl)
            · skip
              have c_106 := bI_t c_106
              refine lv_iconst (v := 1) hx hb dX10_alters_109 (by decide) ?_
              refine lv_goto (tgt := 123) hx hb dX10_alters_110 (by decide) ?_
              exact lp_123 true _ _ _ (by first | exact ai_1 c_78 c_91 | exact ai_2 c_78 c_106 | exact ai_3 c_78 c_91 c_106 | exact ai_4 c_78) (hP.sub [0, 1, 2] rfl) (hD.sub [0, 1, 2] (by decide) rfl) hS (lv_sub hl [0, 1, 3] rfl)
      refine lv_iload_n hx hb dX10_alters_2 rfl (lv_at hl 1 rfl) ?_
      refine lv_sipush (v := (nI 256)) hx hb dX10_alters_3 (by decide) ?_
      refine lv_icmp_ge (tgt := 152) hx hb dX10_alters_6 (by decide) (fun c_6 => ?_) (fun c_6 => ?_)
      · skip
        have c_6 : 256 ≤ i := (nI_leI (a := 256) (b := i) (by omega) (by omega)).mp c_6
        refine lv_iconst (v := (-1)) hx hb dX10_alters_152 (by decide) ?_
        exact ret_i hx hb hr hlocks () (by first | exact (altR_hit h2 c_131 (al_t hwr his c_136 c_141) hi9).trans (if_pos hr9).symm | exact (if_neg (by rw [c_13]; decide)).symm | (by_cases q : hr0 = true; exact (altR_no h2 c_6).trans (if_pos q).symm; exact (if_neg q).symm)) (hP.sub [0, 1, 2] rfl) (hD.sub [0, 1, 2] (by decide) rfl) hS dX10_alters_153
      · skip
        have c_6 : ¬ 256 ≤ i := fun z => c_6 ((nI_leI (a := 256) (b := i) (by omega) (by omega)).mpr z)
        refine lv_aload_n hx hb dX10_alters_9 rfl (lv_at hl 0 rfl) ?_
        refine va_get (D := D) (ci := 10) (v := .int (bI hr0)) (C := RX10) (T := TX10) (N := 51) hx hb hts (by decide +kernel) hown hK hP 0 rfl rfl 34 (by decide) (hts (.fieldLink RX10 235 "TapeEngineModel" "hasReach" "Z") (by decide +kernel)) (fun _ h9 => h9) rfl dX10_alters_10 ?_
        refine lv_if_eq (tgt := 152) hx hb dX10_alters_13 (by decide) (fun c_13 => ?_) (fun c_13 => ?_)
        · skip
          have c_13 := bI_f c_13
          refine lv_iconst (v := (-1)) hx hb dX10_alters_152 (by decide) ?_
          exact ret_i hx hb hr hlocks () (by first | exact (altR_hit h2 c_131 (al_t hwr his c_136 c_141) hi9).trans (if_pos hr9).symm | exact (if_neg (by rw [c_13]; decide)).symm | (by_cases q : hr0 = true; exact (altR_no h2 c_6).trans (if_pos q).symm; exact (if_neg q).symm)) (hP.sub [0, 1, 2] rfl) (hD.sub [0, 1, 2] (by decide) rfl) hS dX10_alters_153
        · skip
          have c_13 := bI_t c_13
          refine lv_aload_n hx hb dX10_alters_16 rfl (lv_at hl 0 rfl) ?_
          refine va_get (D := D) (ci := 10) (v := .ref x0) (C := RX10) (T := TX10) (N := 51) hx hb hts (by decide +kernel) hown hK hP 0 rfl rfl 0 (by decide) (hts (.fieldLink RX10 7 "TapeEngineModel" "word" "[I") (by decide +kernel)) (fun _ h9 => h9) rfl dX10_alters_17 ?_
          refine lv_iload_n hx hb dX10_alters_20 rfl (lv_at hl 1 rfl) ?_
          refine xs_iald (k := i) hx hb hK hP 1 1 rfl rfl (by first | assumption | omega) (by decide) dX10_alters_21 ?_
          refine set_i (y := nI (iN (w i))) (nI_iN _).symm ?_
          refine lv_bipush (v := 12) hx hb dX10_alters_22 (by decide) ?_
          refine lv_ishr hx hb dX10_alters_24 ?_
          refine set_i (y := nI (iN (w i) / 4096)) (e_fun2 hwi) ?_
          refine lv_istore_n (lv' := [(2, .int (nI (iN (w i) / 4096))), (0, .ref m0), (1, .int (nI i))]) hx hb dX10_alters_25 rfl hl (by decide) rfl (fun ls hl => ?_)
          refine lv_aload_n hx hb dX10_alters_26 rfl (lv_at hl 1 rfl) ?_
          refine va_get (D := D) (ci := 10) (v := .ref x0) (C := RX10) (T := TX10) (N := 51) hx hb hts (by decide +kernel) hown hK hP 0 rfl rfl 0 (by decide) (hts (.fieldLink RX10 7 "TapeEngineModel" "word" "[I") (by decide +kernel)) (fun _ h9 => h9) rfl dX10_alters_27 ?_
          refine lv_iload_n hx hb dX10_alters_30 rfl (lv_at hl 2 rfl) ?_
          refine xs_iald (k := i) hx hb hK hP 1 1 rfl rfl (by first | assumption | omega) (by decide) dX10_alters_31 ?_
          refine set_i (y := nI (iN (w i))) (nI_iN _).symm ?_
          refine lv_iconst (v := 1) hx hb dX10_alters_32 (by decide) ?_
          refine lv_ishr hx hb dX10_alters_33 ?_
          refine lv_sipush (v := 255) hx hb dX10_alters_34 (by decide) ?_
          refine lv_iand hx hb dX10_alters_37 ?_
          refine set_i (y := nI (iN (w i) / 2 % 256)) (e_adr hwi) ?_
          refine lv_istore_n (lv' := [(3, .int (nI (iN (w i) / 2 % 256))), (2, .int (nI (iN (w i) / 4096))), (0, .ref m0), (1, .int (nI i))]) hx hb dX10_alters_38 rfl hl (by decide) rfl (fun ls hl => ?_)
          refine lv_iload_n hx hb dX10_alters_39 rfl (lv_at hl 1 rfl) ?_
          refine lv_iconst (v := (nI 5)) hx hb dX10_alters_40 (by decide) ?_
          refine lv_icmp_eq (tgt := 62) hx hb dX10_alters_41 (by decide) (fun c_41 => ?_) (fun c_41 => ?_)
          · skip
            have c_41 : (iN (w i) / 4096) = 5 := (nI_eq (a := (iN (w i) / 4096)) (b := 5) (by omega) (by omega)).mp c_41
            refine lv_iconst (v := 1) hx hb dX10_alters_62 (by decide) ?_
            refine lv_goto (tgt := 67) hx hb dX10_alters_63 (by decide) ?_
            refine lv_istore (lv' := [(4, .int 1), (3, .int (nI (iN (w i) / 2 % 256))), (2, .int (nI (iN (w i) / 4096))), (0, .ref m0), (1, .int (nI i))]) hx hb dX10_alters_67 hl (by decide) rfl (fun ls hl => ?_)
            exact lp_69 true _ _ _ (by first | assumption | omega) (by first | assumption | omega) (by first | exact alw_5 c_41 | exact alw_7 c_47 | exact alw_8 c_53 | exact alw_17 c_59 | exact alw_0 c_41 c_47 c_53 c_59) (hP.sub [0, 1, 2] rfl) (hD.sub [0, 1, 2] (by decide) rfl) hS (lv_sub hl [3, 4, 1, 0] rfl)
          · skip
            have c_41 : ¬ (iN (w i) / 4096) = 5 := fun z => c_41 ((nI_eq (a := (iN (w i) / 4096)) (b := 5) (by omega) (by omega)).mpr z)
            refine lv_iload_n hx hb dX10_alters_44 rfl (lv_at hl 1 rfl) ?_
            refine lv_bipush (v := (nI 7)) hx hb dX10_alters_45 (by decide) ?_
            refine lv_icmp_eq (tgt := 62) hx hb dX10_alters_47 (by decide) (fun c_47 => ?_) (fun c_47 => ?_)
            · skip
              have c_47 : (iN (w i) / 4096) = 7 := (nI_eq (a := (iN (w i) / 4096)) (b := 7) (by omega) (by omega)).mp c_47
              refine lv_iconst (v := 1) hx hb dX10_alters_62 (by decide) ?_
              refine lv_goto (tgt := 67) hx hb dX10_alters_63 (by decide) ?_
              refine lv_istore (lv' := [(4, .int 1), (3, .int (nI (iN (w i) / 2 % 256))), (2, .int (nI (iN (w i) / 4096))), (0, .ref m0), (1, .int (nI i))]) hx hb dX10_alters_67 hl (by decide) rfl (fun ls hl => ?_)
              exact lp_69 true _ _ _ (by first | assumption | omega) (by first | assumption | omega) (by first | exact alw_5 c_41 | exact alw_7 c_47 | exact alw_8 c_53 | exact alw_17 c_59 | exact alw_0 c_41 c_47 c_53 c_59) (hP.sub [0, 1, 2] rfl) (hD.sub [0, 1, 2] (by decide) rfl) hS (lv_sub hl [3, 4, 1, 0] rfl)
            · skip
              have c_47 : ¬ (iN (w i) / 4096) = 7 := fun z => c_47 ((nI_eq (a := (iN (w i) / 4096)) (b := 7) (by omega) (by omega)).mpr z)
              refine lv_iload_n hx hb dX10_alters_50 rfl (lv_at hl 1 rfl) ?_
              refine lv_bipush (v := (nI 8)) hx hb dX10_alters_51 (by decide) ?_
              refine lv_icmp_eq (tgt := 62) hx hb dX10_alters_53 (by decide) (fun c_53 => ?_) (fun c_53 => ?_)
              · skip
                have c_53 : (iN (w i) / 4096) = 8 := (nI_eq (a := (iN (w i) / 4096)) (b := 8) (by omega) (by omega)).mp c_53
                refine lv_iconst (v := 1) hx hb dX10_alters_62 (by decide) ?_
                refine lv_goto (tgt := 67) hx hb dX10_alters_63 (by decide) ?_
                refine lv_istore (lv' := [(4, .int 1), (3, .int (nI (iN (w i) / 2 % 256))), (2, .int (nI (iN (w i) / 4096))), (0, .ref m0), (1, .int (nI i))]) hx hb dX10_alters_67 hl (by decide) rfl (fun ls hl => ?_)
                exact lp_69 true _ _ _ (by first | assumption | omega) (by first | assumption | omega) (by first | exact alw_5 c_41 | exact alw_7 c_47 | exact alw_8 c_53 | exact alw_17 c_59 | exact alw_0 c_41 c_47 c_53 c_59) (hP.sub [0, 1, 2] rfl) (hD.sub [0, 1, 2] (by decide) rfl) hS (lv_sub hl [3, 4, 1, 0] rfl)
              · skip
                have c_53 : ¬ (iN (w i) / 4096) = 8 := fun z => c_53 ((nI_eq (a := (iN (w i) / 4096)) (b := 8) (by omega) (by omega)).mpr z)
                refine lv_iload_n hx hb dX10_alters_56 rfl (lv_at hl 1 rfl) ?_
                refine lv_bipush (v := (nI 17)) hx hb dX10_alters_57 (by decide) ?_
                refine lv_icmp_ne (tgt := 66) hx hb dX10_alters_59 (by decide) (fun c_59 => ?_) (fun c_59 => ?_)
                · skip
                  have c_59 : ¬ (iN (w i) / 4096) = 17 := fun z => c_59 ((nI_eq (a := (iN (w i) / 4096)) (b := 17) (by omega) (by omega)).mpr z)
                  refine lv_iconst (v := 0) hx hb dX10_alters_66 (by decide) ?_
                  refine lv_istore (lv' := [(4, .int 0), (3, .int (nI (iN (w i) / 2 % 256))), (2, .int (nI (iN (w i) / 4096))), (0, .ref m0), (1, .int (nI i))]) hx hb dX10_alters_67 hl (by decide) rfl (fun ls hl => ?_)
                  exact lp_69 false _ _ _ (by first | assumption | omega) (by first | assumption | omega) (by first | exact alw_5 c_41 | exact alw_7 c_47 | exact alw_8 c_53 | exact alw_17 c_59 | exact alw_0 c_41 c_47 c_53 c_59) (hP.sub [0, 1, 2] rfl) (hD.sub [0, 1, 2] (by decide) rfl) hS (lv_sub hl [3, 4, 1, 0] rfl)
                · skip
                  have c_59 : (iN (w i) / 4096) = 17 := (nI_eq (a := (iN (w i) / 4096)) (b := 17) (by omega) (by omega)).mp c_59
                  refine lv_iconst (v := 1) hx hb dX10_alters_62 (by decide) ?_
                  refine lv_goto (tgt := 67) hx hb dX10_alters_63 (by decide) ?_
                  refine lv_istore (lv' := [(4, .int 1), (3, .int (nI (iN (w i) / 2 % 256))), (2, .int (nI (iN (w i) / 4096))), (0, .ref m0), (1, .int (nI i))]) hx hb dX10_alters_67 hl (by decide) rfl (fun ls hl => ?_)
                  exact lp_69 true _ _ _ (by first | assumption | omega) (by first | assumption | omega) (by first | exact alw_5 c_41 | exact alw_7 c_47 | exact alw_8 c_53 | exact alw_17 c_59 | exact alw_0 c_41 c_47 c_53 c_59) (hP.sub [0, 1, 2] rfl) (hD.sub [0, 1, 2] (by decide) rfl) hS (lv_sub hl [3, 4, 1, 0] rfl)
  refine lv_iconst (v := (nI 0)) hx hb dX10_alters_0 (by decide) ?_
  refine lv_istore_n (lv' := [(1, .int (nI 0)), (0, .ref m0)]) hx hb dX10_alters_1 rfl hl (by decide) rfl (fun ls hl => ?_)
  exact lp_2 _ 0 _ _ _ (by first | assumption | omega) (fun k hk => absurd hk (Nat.not_lt_zero _)) (Nat.lt_succ_self _) (hP.sub [0, 1, 2] rfl) (hD.sub [0, 1, 2] (by decide) rfl) hS (lv_sub hl [1, 0] rfl)
