def PV (l : Launch) (y : MethodName) (wsy : List Cond) (fr lo : Nat) (Z : SZ) (av : List Value) (_ : Unit) : Prop := ∀ (D : va_G) (ty : List (ClassId × FieldType)) (sz : Nat), Met l y wsy { frames := fr, cells := 0, slots := 0, locals := lo } (PR D Z ty av [] sz) (QV D (fun (_ : Unit) => True) (fun _ => []) (va_A [] sz)) 0 0 (va_A [] sz)
section KX
variable {p : Program} {l : Launch} {e : Env} {R : Room} {s : State} {m : MethodId} {args : Array Value} {below : List Frame} {meth : Method} {c : Code} {H : Heap} {locs : List Loc} {cells slots : Nat} {cc : ByteArray} {pc : Nat} {ls : Array Slot} {D : va_G} {Z : SZ} {A : Nat → Prop}
variable {Q : State → Prop} {y : MethodName} {bytes : ByteArray} {maxL nL mc ms n index : Nat} {ret : Option FieldType} {wsy : List Cond} {rm : Room} {Ts : List Cond} {own C host : String} {b : Addr} {As rest st0 : List Value} {ty : List (ClassId × FieldType)} {ws wc wr : va_W} {sz : Nat}
theorem pS_v {fr lo : Nat} (S0 : CallFix p m c cc nL s args Ts own) (hM : PV l y wsy fr lo Z As ()) (cw : CallB R s args own index y bytes maxL ret wsy { frames := fr, cells := 0, slots := 0, locals := lo } 0 0 n ∧ (Cond.static y).before args s = true) (hK : va_K D vwCl ty s) (hE : EN Z A s s.heap) (hP : va_P D vwCl ws H) (hD : va_D A ws) (hS : va_S A s.heap H locs) (hA : ∀ q : Nat, s.heap.size ≤ q → A q)
    (hls : ls.size = nL) (hn : As.length = n) (hst : st0 = As.reverse ++ rest) (hW : (rest.map fun v => v.category).sum ≤ 8) (hdg : decode cc pc = .ok (.invokestatic index, 3)) (hf : cells ≤ R.cells ∧ slots ≤ R.slots)
    (kk : ∀ (H1 : Heap) (locs1 : List Loc), va_P D vwCl ws H1 → va_S A s.heap H1 locs1 → W p l e R s m args below meth c H1 locs1 cells slots Q (F0 m (pc + 3) ls rest)) : W p l e R s m args below meth c H locs cells slots Q (F0 m pc ls st0) := by
  have hFc : ∀ q, va_A [] H.size q → A q := va_free (wc := []) hD hS hA [] rfl
  refine va_callv (va_runS S0 (hM D ty H.size) cw (kPre (wc := []) hK hE hP hD hS hA [] rfl rfl rfl _) rfl hn hls hst (lv_room hW) hdg hf) hS (fun q _ h => hFc q h) hFc (fun u t H1 locs1 ht hvm hp hB hz hk hS1 => ?_)
  refine kk H1 locs1 (hP.kept (fun k q hq => hk q.1 (hP k q hq).lt (fun h => ?_))) hS1
  rcases h with ⟨k2, e2, h⟩ | h
  · cases h
  · have := (hP k q hq).lt
    omega
end KX
theorem e_ch0 : ∀ k, k < 32 → ((((bytS.getD 0 []).getD k 0) &&& 255).toUInt32 % 65536).toInt32 = nI (figT.getD k 0) := by decide +kernel
theorem e_ch1 : ∀ k, k < 32 → ((((bytS.getD 1 []).getD k 0) &&& 255).toUInt32 % 65536).toInt32 = nI (letT.getD k 0) := by decide +kernel
theorem e_chb0 : ∀ k, k < 32 → figT.getD k 0 < 128 := by decide +kernel
theorem e_chb1 : ∀ k, k < 32 → letT.getD k 0 < 128 := by decide +kernel
