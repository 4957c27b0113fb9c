/-! the LONG word's pieces -/
theorem l_shr {n k : Nat} {s : Int64} (hn : n < 2 ^ 62) (hs : (s.toBitVec.smod 64).toNat = k) : lN n >>> s = lN (n / 2 ^ k) := by
  have h62 : (2 : Nat) ^ 62 < 2 ^ 63 := by decide
  apply Int64.toInt_inj.mp
  rw [z_shr k hs, pk_lT (by omega), pk_lT (Nat.lt_of_le_of_lt (Nat.div_le_self _ _) (by omega))]
  exact (Int.natCast_ediv _ _).symm
theorem l_shl {n k : Nat} {s : Int64} (hs : (s.toBitVec.smod 64).toNat = k) : lN n <<< s = lN (n * 2 ^ k) := by
  apply Int64.toBitVec_inj.mp
  rw [L_shl _ _ k hs]
  apply BitVec.eq_of_toNat_eq
  rw [BitVec.toNat_shiftLeft, Nat.shiftLeft_eq]
  show (n % 2 ^ 64) * 2 ^ k % 2 ^ 64 = (n * 2 ^ k) % 2 ^ 64
  rw [Nat.mod_mul_mod]
theorem l_or (a b : Nat) : lN a ||| lN b = lN (a ||| b) := by
  apply Int64.toBitVec_inj.mp
  show BitVec.ofNat 64 a ||| BitVec.ofNat 64 b = BitVec.ofNat 64 (a ||| b)
  apply BitVec.eq_of_toNat_eq
  rw [BitVec.toNat_or]
  show (a % 2 ^ 64) ||| (b % 2 ^ 64) = (a ||| b) % 2 ^ 64
  exact (Nat.or_mod_two_pow).symm
theorem lb_val {a b d : Nat} (ha : a < 131072) (hb : b < 2) (hd : d < 131072) : lbits (nI a) (nI b) (nI d) = lN (a * 262144 + b * 131072 + d) := by
  have h31 : (2 : Nat) ^ 31 = 2147483648 := by decide
  unfold lbits
  rw [nI_l (by omega), nI_l (by omega), nI_l (by omega), l_shl (k := 18) (by decide), l_shl (k := 17) (by decide), l_or, l_or]
  congr 1
  have e1 : a * 2 ^ 18 ||| b * 2 ^ 17 = a * 2 ^ 18 + b * 2 ^ 17 := by
    have := Nat.two_pow_add_eq_or_of_lt (i := 18) (b := b * 2 ^ 17) (by omega) a
    rw [Nat.mul_comm (2 ^ 18) a] at this
    exact this.symm
  rw [e1]
  have e2 := Nat.two_pow_add_eq_or_of_lt (i := 17) (b := d) (by omega) (2 * a + b)
  have e3 : a * 2 ^ 18 + b * 2 ^ 17 = 2 ^ 17 * (2 * a + b) := by omega
  rw [e3, ← e2]
theorem lb_hi {a b d : Int32} (ha : iN a < 131072) (hb : iN b < 2) (hd : iN d < 131072) : (lbits a b d >>> ((18 : Int32).toInt64 &&& 63)).toInt32 &&& 131071 = a := by
  have h62 : (2 : Nat) ^ 62 = 4611686018427387904 := by decide
  have h := lb_val ha hb hd
  rw [nI_iN, nI_iN, nI_iN] at h
  rw [h, l_shr (k := 18) (by omega) (by decide), lN_i, pk_andN (by omega) 17 (by decide)]
  rw [show (iN a * 262144 + iN b * 131072 + iN d) / 2 ^ 18 % 2 ^ 17 = iN a by omega]
  exact nI_iN a
theorem lb_mid {a b d : Int32} (ha : iN a < 131072) (hb : iN b < 2) (hd : iN d < 131072) : (lbits a b d >>> ((17 : Int32).toInt64 &&& 63)).toInt32 &&& 1 = b := by
  have h62 : (2 : Nat) ^ 62 = 4611686018427387904 := by decide
  have h := lb_val ha hb hd
  rw [nI_iN, nI_iN, nI_iN] at h
  rw [h, l_shr (k := 17) (by omega) (by decide), lN_i, pk_andN (by omega) 1 (by decide)]
  rw [show (iN a * 262144 + iN b * 131072 + iN d) / 2 ^ 17 % 2 ^ 1 = iN b by omega]
  exact nI_iN b
theorem nI_mod (n : Nat) : nI n = nI (n % 4294967296) := by
  apply Int32.toBitVec_inj.mp
  show BitVec.ofNat 32 n = BitVec.ofNat 32 (n % 4294967296)
  apply BitVec.eq_of_toNat_eq
  show n % 2 ^ 32 = n % 4294967296 % 2 ^ 32
  omega
theorem lb_lo {a b d : Int32} (ha : iN a < 131072) (hb : iN b < 2) (hd : iN d < 131072) : (lbits a b d).toInt32 &&& 131071 = d := by
  have h := lb_val ha hb hd
  rw [nI_iN, nI_iN, nI_iN] at h
  rw [h, lN_i, nI_mod, pk_andN (by omega) 17 (by decide)]
  rw [show (iN a * 262144 + iN b * 131072 + iN d) % 4294967296 % 2 ^ 17 = iN d by omega]
  exact nI_iN d
theorem upd_comm {f : Nat → Int32} {i j : Nat} {x y : Int32} (h : i ≠ j) : upd (upd f i x) j y = upd (upd f j y) i x := by
  funext k
  by_cases q : k = i
  · subst q
    rw [pk_un h, pk_us, pk_us]
  · rw [pk_un q]
    by_cases q2 : k = j
    · subst q2
      rw [pk_us, pk_us]
    · rw [pk_un q2, pk_un q2, pk_un q]
theorem ll_w {w : Nat → Int32} {j : Nat} {a b d : Int32} (ha : iN a < 131072) (hb : iN b < 2) (hd : iN d < 131072) : llW w j (lbits a b d) = upd (upd w (j / 2 * 2) d) (j / 2 * 2 + 1) a := by
  unfold llW
  rw [lb_hi ha hb hd, lb_lo ha hb hd, upd_comm (by omega)]
theorem ll_m {mid : Nat → Int32} {j : Nat} {a b d : Int32} (ha : iN a < 131072) (hb : iN b < 2) (hd : iN d < 131072) : llM mid j (lbits a b d) = upd mid (j / 2) b := by
  unfold llM
  rw [lb_mid ha hb hd]
/-! ranges -/
def RM (mid : Nat → Int32) : Prop := ∀ k : Nat, iN (mid k) < 2
def BT (tx : Nat → Int32) : Prop := ∀ k : Nat, iN (tx k) < 128
def T5 (tp : Nat → Int32) : Prop := ∀ k : Nat, iN (tp k) < 32
theorem fit_128 : ∀ v, v < 128 → fits .byte (.int (nI v)) = true := by decide +kernel
theorem BT_fit {tx : Nat → Int32} (h : BT tx) : ∀ j : Nat, fits .byte (.int (tx j)) = true := fun j => by
  have := fit_128 _ (h j)
  rw [nI_iN] at this
  exact this
theorem T5_BT {tp : Nat → Int32} (h : T5 tp) : BT tp := fun j => by
  have := h j
  omega
theorem all_upd {p : Int32 → Prop} {f : Nat → Int32} (h : ∀ k : Nat, p (f k)) (j : Nat) {x : Int32} (hx : p x) : ∀ k : Nat, p (upd f j x k) := by
  intro k
  by_cases q : k = j
  · subst q; rw [pk_us]; exact hx
  · rw [pk_un q]; exact h k
theorem all_updL {p : Int64 → Prop} {f : Nat → Int64} (h : ∀ k : Nat, p (f k)) (j : Nat) {x : Int64} (hx : p x) : ∀ k : Nat, p (vp_updL f j x k) := by
  intro k
  by_cases q : k = j
  · subst q; rw [pk_uLs]; exact hx
  · rw [pk_uLn q]; exact h k
theorem all_cpy {α : Type} {p : α → Prop} {f g : Nat → α} (h : ∀ k : Nat, p (f k)) (h2 : ∀ k : Nat, p (g k)) (n : Nat) : ∀ k : Nat, p (cpy n f g k) := by
  intro k
  unfold cpy
  split
  · exact h k
  · exact h2 k
theorem iN_m1 (x : Int32) : iN (x &&& 1) < 2 := by
  rw [pk_and _ 1 (by decide), iN_nI (by omega)]
  omega
theorem RM_sMid {o : Nat} {mid : Nat → Int32} {hi : Int64} {sym : Int32} (h : RM mid) : RM (sMid o mid hi sym) := by
  have hl : ∀ x, RM (lwM mid o x) := by
    intro x
    unfold lwM
    split
    · exact all_upd (p := fun y => iN y < 2) h _ (iN_m1 _)
    · exact h
  unfold sMid
  split
  · exact hl _
  · split
    · exact hl _
    · exact h
theorem pCh_lt (fg : Bool) {v : Nat} (hv : v < 32) : pCh fg v < 128 := by
  unfold pCh
  split
  · decide
  · split
    · decide
    · split
      · decide
      · cases fg
        · exact e_chb1 v hv
        · exact e_chb0 v hv
theorem BT_sTx {o : Nat} {w tx : Nat → Int32} {xz : Nat} {fg : Bool} (hw : RW w) (h : BT tx) : BT (sTx o w tx xz fg) := by
  unfold sTx
  split
  · unfold pTx
    split
    · have h1 := hw (hadr o)
      have h2 : sSy o w < 32 := by unfold sSy; omega
      have h3 := pCh_lt fg h2
      exact all_upd (p := fun y => iN y < 128) h _ (by rw [iN_nI (by omega)]; exact h3)
    · exact h
  · exact h
def LAok (la : Int32) : Prop := la = -1 ∨ iN la < 32
/-- one machine's ranges -/
def MI (w mid : Nat → Int32) (lo mult : Int64) (nx : Nat) (tp : Nat → Int32) (tz ta : Nat) (tx : Nat → Int32) (xz : Nat) (la : Int32) : Prop :=
  RW w ∧ RM mid ∧ R36 lo ∧ R35 mult ∧ nx < 256 ∧ T5 tp ∧ tz ≤ 1000 ∧ ta ≤ tz ∧ BT tx ∧ xz ≤ 400 ∧ LAok la
def SI (tp : Nat → Int32) (tz : Nat) (S : MT) : Prop := MI (mW S) (mMid S) (mLo S) (mMu S) (mNx S) tp tz (mTa S) (mTx S) (mXz S) (mLa S)
theorem SI_do {tp : Nat → Int32} {tz : Nat} {S : MT} (h : SI tp tz S) (hh : mH tz S = 0) : SI tp tz (mDo tp S) := by
  obtain ⟨h1, h2, h3, h4, h5, h6, h7, h8, h9, h10, h11⟩ := h
  exact ⟨RW_sW h1, RM_sMid h2, R36_sLo h3, R35_rMu h4, sNx_lt, h6, h7, sTa_le h8 (hlt_8 hh), BT_sTx h1 h9, sXz_le h10 (hlt_9 hh), sLa_ok h1 h11⟩
