abbrev MT : Type := (Nat → Int32) × (Nat → Int32) × Int64 × Int64 × Int64 × Nat × Nat × (Nat → Int32) × Nat × Bool × Int32 × (Nat → Int32)
def mW (S : MT) : Nat → Int32 := S.1
def mMid (S : MT) : Nat → Int32 := S.2.1
def mHi (S : MT) : Int64 := S.2.2.1
def mLo (S : MT) : Int64 := S.2.2.2.1
def mMu (S : MT) : Int64 := S.2.2.2.2.1
def mNx (S : MT) : Nat := S.2.2.2.2.2.1
def mTa (S : MT) : Nat := S.2.2.2.2.2.2.1
def mTx (S : MT) : Nat → Int32 := S.2.2.2.2.2.2.2.1
def mXz (S : MT) : Nat := S.2.2.2.2.2.2.2.2.1
def mFg (S : MT) : Bool := S.2.2.2.2.2.2.2.2.2.1
def mLa (S : MT) : Int32 := S.2.2.2.2.2.2.2.2.2.2.1
def mDn (S : MT) : Nat → Int32 := S.2.2.2.2.2.2.2.2.2.2.2
abbrev CT : Type := (Nat → Int32) × (Nat → Int32) × (Nat → Int64) × (Nat → Int64) × (Nat → Int64) × (Nat → Int64) × (Nat → Int32) × (Nat → Int32) × (Nat → Int32) × (Nat → Int32) × Nat × Nat
def mO (S : MT) : Nat := iN (mW S (mNx S))
/-- one ORDER done, as a whole -/
def mDo (tp : Nat → Int32) (S : MT) : MT := (sW (mO S) (mW S) (mHi S) (tp (mTa S)) (mLa S), sMid (mO S) (mMid S) (mHi S) (tp (mTa S)), sHi (mO S) (mW S) (mMid S) (mHi S) (mLo S) (mMu S), sLo (mO S) (mW S) (mMid S) (mHi S) (mLo S) (mMu S), rMu (mO S) (mW S) (mMid S) (mMu S), sNx (mO S) (mHi S) (mNx S), sTa (mO S) (mTa S), sTx (mO S) (mW S) (mTx S) (mXz S) (mFg S), sXz (mO S) (mW S) (mXz S), sFg (mO S) (mW S) (mFg S), sLa (mO S) (mW S) (mLa S), sDn (mO S) (mDn S))
def mH (tz : Nat) (S : MT) : Int32 := hltI (mO S / 4096) tz (mTa S) (mXz S)
/-- a run: what is noted of it is a parameter -/
def rnR {τ : Type} (nt : MT → τ → τ) (tp : Nat → Int32) (tz : Nat) (im : Nat → Int32) : Nat → Nat → MT → τ → Nat × MT × τ × Int32
  | 0, c, S, T => (c, S, T, 0)
  | k + 1, c, S, T => if 0 < c ∧ tB (im (mNx S)) = true then (c, S, T, 5) else if mH tz S = 0 then (if mO S / 4096 = 13 then (c + 1, mDo tp S, nt S T, 1) else rnR nt tp tz im k (c + 1) (mDo tp S) (nt S T)) else (c, S, T, mH tz S)
section RN
variable {τ : Type} {nt : MT → τ → τ} {tp : Nat → Int32} {tz : Nat} {im : Nat → Int32} {n c : Nat} {S : MT} {T : τ}
theorem rn_mark (h : c < n) (h2 : 0 < c ∧ tB (im (mNx S)) = true) : rnR nt tp tz im (n - c) c S T = (c, S, T, 5) := by
  rw [show n - c = (n - (c + 1)) + 1 by omega, rnR, if_pos h2]
theorem rn_halt (h : c < n) (h2 : ¬ (0 < c ∧ tB (im (mNx S)) = true)) (h3 : ¬ mH tz S = 0) : rnR nt tp tz im (n - c) c S T = (c, S, T, mH tz S) := by
  rw [show n - c = (n - (c + 1)) + 1 by omega, rnR, if_neg h2, if_neg h3]
theorem rn_go (h : c < n) (h2 : ¬ (0 < c ∧ tB (im (mNx S)) = true)) (h3 : mH tz S = 0) : rnR nt tp tz im (n - c) c S T = if (if mO S / 4096 = 13 then (1 : Int32) else 0) = 0 then rnR nt tp tz im (n - (c + 1)) (c + 1) (mDo tp S) (nt S T) else (c + 1, mDo tp S, nt S T, (if mO S / 4096 = 13 then (1 : Int32) else 0)) := by
  rw [show n - c = (n - (c + 1)) + 1 by omega, rnR, if_neg h2, if_pos h3]
  by_cases q : mO S / 4096 = 13
  · rw [if_pos q, if_pos q, if_neg (by decide)]
  · rw [if_neg q, if_neg q, if_pos rfl]
theorem rn_fin {x : Nat × MT × τ × Int32} {re : Int32} (h : x = if re = 0 then rnR nt tp tz im (n - c) c S T else (c, S, T, re)) (hd : n ≤ c ∨ ¬ re = 0) : x = (c, S, T, re) := by
  by_cases q : re = 0
  · rw [if_pos q] at h
    rcases hd with hd | hd
    · rw [show n - c = 0 by omega] at h
      rw [h, q]; rfl
    · exact absurd q hd
  · rw [if_neg q] at h
    exact h
end RN
def RW (w : Nat → Int32) : Prop := ∀ k : Nat, iN (w k) < 131072
theorem iN_m17 (x : Int32) : iN (x &&& 131071) < 131072 := by
  rw [pk_and _ 17 (by decide), iN_nI (by omega)]
  omega
theorem RW_upd {w : Nat → Int32} (h : RW w) (j : Nat) {x : Int32} (hx : iN x < 131072) : RW (upd w j x) := by
  intro k
  by_cases q : k = j
  · subst q
    rw [pk_us]
    exact hx
  · rw [pk_un q]
    exact h k
theorem RW_sW {o : Nat} {w : Nat → Int32} {hi : Int64} {sym la : Int32} (h : RW w) : RW (sW o w hi sym la) := by
  have hl : ∀ x, RW (lwW w o x) := by
    intro x
    unfold lwW
    split
    · unfold llW
      exact RW_upd (RW_upd h _ (iN_m17 _)) _ (iN_m17 _)
    · exact RW_upd h _ (iN_m17 _)
  unfold sW
  split
  · exact hl _
  · split
    · exact hl _
    · split
      · unfold lpW
        exact RW_upd h _ (iN_m17 _)
      · exact h
theorem sNx_lt {o nx : Nat} {hi : Int64} : sNx o hi nx < 256 := by
  unfold sNx
  split
  · split <;> omega
  · split
    · split <;> omega
    · omega
theorem hlt_8 {f tz ta xz : Nat} (h : hltI f tz ta xz = 0) (h8 : f = 8) : ta < tz := by
  rcases Nat.lt_or_ge ta tz with q | q
  · exact q
  · subst h8
    rw [hltI, if_neg (by decide), if_pos ⟨rfl, q⟩] at h
    exact absurd h (by decide)
theorem hlt_9 {f tz ta xz : Nat} (h : hltI f tz ta xz = 0) (h9 : f = 9) : xz < 400 := by
  rcases Nat.lt_or_ge xz 400 with q | q
  · exact q
  · subst h9
    rw [hltI, if_neg (by decide), if_neg (by omega), if_pos ⟨rfl, q⟩] at h
    exact absurd h (by decide)
theorem sTa_le {o ta tz : Nat} (h : ta ≤ tz) (h2 : o / 4096 = 8 → ta < tz) : sTa o ta ≤ tz := by
  unfold sTa
  split
  · rename_i q
    have := h2 q
    omega
  · exact h
theorem sXz_le {o xz : Nat} {w : Nat → Int32} (h : xz ≤ 400) (h2 : o / 4096 = 9 → xz < 400) : sXz o w xz ≤ 400 := by
  unfold sXz
  split
  · rename_i q
    have := h2 q
    unfold pXz
    split <;> omega
  · exact h
def cNote (S : MT) (T : CT) : CT := (upd (T.1) (nxt (T.2.2.2.2.2.2.2.2.2.2.1)) (nI (mNx S)), upd (T.2.1) (nxt (T.2.2.2.2.2.2.2.2.2.2.1)) (nI (mO S)), vp_updL (T.2.2.1) (nxt (T.2.2.2.2.2.2.2.2.2.2.1)) (lwd (mW S) (mMid S) (mO S / 2 % 256)), vp_updL (T.2.2.2.1) (nxt (T.2.2.2.2.2.2.2.2.2.2.1)) (mHi S), vp_updL (T.2.2.2.2.1) (nxt (T.2.2.2.2.2.2.2.2.2.2.1)) (mLo S), vp_updL (T.2.2.2.2.2.1) (nxt (T.2.2.2.2.2.2.2.2.2.2.1)) (mMu S), upd (T.2.2.2.2.2.2.1) (nxt (T.2.2.2.2.2.2.2.2.2.2.1)) (nI (mTa S)), upd (T.2.2.2.2.2.2.2.1) (nxt (T.2.2.2.2.2.2.2.2.2.2.1)) (nI (mXz S)), upd (T.2.2.2.2.2.2.2.2.1) (nxt (T.2.2.2.2.2.2.2.2.2.2.1)) (bI (mFg S)), upd (T.2.2.2.2.2.2.2.2.2.1) (nxt (T.2.2.2.2.2.2.2.2.2.2.1)) (mLa S), nxt (T.2.2.2.2.2.2.2.2.2.2.1), min (T.2.2.2.2.2.2.2.2.2.2.2 + 1) 100)
