theorem z17 : iN 0 < 131072 := by decide
theorem z2 : iN 0 < 2 := by decide
theorem z5 : iN 0 < 32 := by decide
theorem z7 : iN 0 < 128 := by decide
theorem z8 : iN 0 < 256 := by decide
theorem z255 : iN 0 < 255 := by decide
theorem z400 : iN 0 ≤ 400 := by decide
theorem zt : tB 0 = false := by decide
theorem zb : (0 : Int32) = bI (tB 0) := by decide
theorem za : iN 0 = iN 0 / 4096 := by decide
theorem zc : iN 0 = iN 0 / 2 % 256 / 2 * 2 := by decide
theorem r36_0 : R36 0 := ⟨by decide, by decide⟩
theorem r35_0 : R35 0 := ⟨by decide, by decide⟩
theorem RB_0 : RB (fun _ => 0) := fun _ => zb
theorem lb_0 : lbits 0 0 0 = 0 := by decide +kernel
theorem LInv_0 : LInv (fun _ => 0) (fun _ => 0) 0 0 0 0 0 0 0 false (-1) (fun _ => 0) (fun _ => 0) (fun _ => 0) (fun _ => 0) (fun _ => 0) 0 0 0 0 0 0 0 false 0 (-1) (fun _ => 0) (fun _ => 0) (fun _ => 0) false (-1) (-1) (-1) 0 (fun _ => 0) 0 (fun _ => 0) (fun _ => 0) 0 (fun _ => 0) false (fun _ => 0) (fun _ => 0) (fun _ => 0) (fun _ => 0) (fun _ => 0) (fun _ => 0) (fun _ => 0) (fun _ => 0) (fun _ => 0) (fun _ => 0) 0 0 (fun _ => 0) (fun _ => 0) (fun _ => 0) (fun _ => 0) (fun _ => 0) (fun _ => 0) (fun _ => 0) (fun _ => 0) (fun _ => 0) (fun _ => 0) (fun _ => 0) (fun _ => 0) (fun _ => 0) := ⟨⟨fun _ => z17, fun _ => z2, ⟨by decide, by decide⟩, ⟨by decide, by decide⟩, by decide, fun _ => z5, by decide, Nat.le_refl 0, fun _ => z7, by decide, Or.inl rfl⟩, ⟨⟨fun _ => z17, fun _ => z2, ⟨by decide, by decide⟩, ⟨by decide, by decide⟩, by decide, fun _ => z5, by decide, Nat.le_refl 0, fun _ => z7, by decide, Or.inl rfl⟩, fun h => by cases h⟩, ⟨RB_0, by decide, (cn_0 (fun k _ => zt)).symm⟩, ⟨RB_0, RB_0, fun _ _ => rfl, fun _ _ _ => zt⟩,
  ⟨by decide, by decide, ⟨fun _ => z17, RB_0, fun _ => z8, fun _ => r36_0, fun _ => r35_0, fun _ => z400, fun _ => Or.inr z5⟩, ⟨fun _ => z5, fun _ => z255, RB_0, fun _ => z17, fun _ => z17, fun _ => z2⟩, fun j hj => absurd hj (Nat.not_lt_zero _), fun k hk => ⟨rfl, lb_0.symm, rfl, rfl, rfl, rfl, rfl, rfl, rfl, za, zc⟩⟩⟩
theorem arr_of {ty : FieldType} {args : Array Value} {s : State} (h : (Cond.arrayClass ty).before args s = true) (hra : ∀ x : ClassId, va_RA s x ty = (s.vm.findClass ("[" ++ ty.toString) = some x)) : ∃ cA : ClassId, ArrOfT s cA ty ∧ va_RA s cA ty := by
  obtain ⟨cA, kA, comp, h1, h2, h3⟩ := Cond.arrayClass_spec (o := none) (idx := []) (first := s) h
  exact ⟨cA, fun n z => ⟨fun k h => (by cases h), kA, h2, comp, h3⟩, by rw [hra]; exact h1⟩
def tmS (i : Nat) : Term := Term.string RX6 (if i = 0 then 30 else 38)
theorem s_ex : ∀ i : Nat, i < 2 → Cond.exactly (tmS i) "java/lang/String" ∈ flatC (Jvm.Cond.and given_1 narrow_1) := by decide +kernel
theorem s_co : ∀ i : Nat, i < 2 → Cond.eq (.field (tmS i) "java/lang/String" "coder" "B") (.int 0) ∈ flatC (Jvm.Cond.and given_1 narrow_1) := by decide +kernel
theorem s_ar : ∀ i : Nat, i < 2 → Cond.arrayOf (.field (tmS i) "java/lang/String" "value" "[B") .byte ∈ flatC (Jvm.Cond.and given_1 narrow_1) := by decide +kernel
theorem s_le : ∀ i : Nat, i < 2 → Cond.eq (.length (.field (tmS i) "java/lang/String" "value" "[B")) (.int (Int32.ofNat (lenS.getD i 0))) ∈ flatC (Jvm.Cond.and given_1 narrow_1) := by decide +kernel
theorem s_el : ∀ i : Nat, i < 2 → ∀ j : Nat, j < 32 → Cond.eq (.elem (.field (tmS i) "java/lang/String" "value" "[B") (.int (Int32.ofNat j))) (.int ((bytS.getD i []).getD j 0)) ∈ flatC (Jvm.Cond.and given_1 narrow_1) := by decide +kernel
theorem s_len : ∀ i : Nat, i < 2 → lenS.getD i 0 = 32 := by decide
theorem s_ne : Cond.not (Cond.eq (tmS 0) (tmS 1)) ∈ flatC (Jvm.Cond.and given_1 narrow_1) := by decide +kernel
set_option maxRecDepth 100000 in
theorem nwF_in : ∀ w ∈ nwF.map (fun q => Cond.fieldLinkNest q.1 q.2.1 q.2.2.1 q.2.2.2.1 q.2.2.2.2.1 q.2.2.2.2.2), w ∈ lw_tbl := mem_r _ [77, 78, 79, 81, 82, 83, 97, 99, 100, 117, 118, 120, 121, 123, 124, 125, 136, 137, 138, 140, 141, 143, 144, 145, 147, 148, 150, 151, 153, 154, 156, 157, 158, 192, 227, 229, 246] rfl
set_option maxRecDepth 100000 in
theorem nwM_in : ∀ w ∈ nwM.map (fun q => Cond.methodLinkNest q.1 q.2.1 q.2.2.1 q.2.2.2), w ∈ lw_tbl := mem_r _ [52, 58, 72, 91, 111, 176, 222, 240, 254, 421, 453, 456, 472, 480, 481, 486, 565, 570, 617, 643, 644, 645, 646, 664] rfl
set_option maxRecDepth 100000 in
theorem st_in : ∀ w ∈ [Cond.laysStatic "java/lang/String" "COMPACT_STRINGS" "Z", Cond.initialized "java/lang/String", Cond.laysStatic "jdk/internal/util/Preconditions" "SIOOBE_FORMATTER" "Ljava/util/function/BiFunction;", Cond.initialized "jdk/internal/util/Preconditions", Cond.stringRef RX6 30 figS, Cond.stringRef RX6 38 letS], w ∈ lw_tbl := mem_r _ [520, 37, 528, 39, 510, 551] rfl
theorem n_cs : Cond.eq (.static "java/lang/String" "COMPACT_STRINGS" "Z") (.int 1) ∈ flatC (Jvm.Cond.and given_1 narrow_1) := by decide +kernel
theorem n_si : Cond.isRef (.static "jdk/internal/util/Preconditions" "SIOOBE_FORMATTER" "Ljava/util/function/BiFunction;") ∈ flatC (Jvm.Cond.and given_1 narrow_1) := by decide +kernel
/-- what every method leans on, out of the Statement -/
theorem EN_0 {s : State} {b : Nat} (hts0 : ∀ w ∈ lw_tbl, w.before #[Value.ref b] s = true) (hgv : (Jvm.Cond.and given_1 narrow_1).before #[Value.ref b] s = true) : ∃ Z : SZ, EN Z (fun q : Nat => s.heap.size ≤ q) s s.heap := by
  have hs := flat_of_before _ hgv
  have hA : ∀ a : Nat, a < s.heap.size → ¬ (fun q : Nat => s.heap.size ≤ q) a := fun a h => Nat.not_le.mpr h
  obtain ⟨adK, adV, h1, h2⟩ := vk_Sof (args := #[Value.ref b]) (s := s) (N := 2) (tm := tmS) (len := lenS) (byt := bytS) (A := (fun q : Nat => s.heap.size ≤ q)) (fun i hi => by rw [s_len i hi]; decide) (fun i hi => hs _ (s_ex i hi)) (fun i hi => hs _ (s_co i hi)) (fun i hi => hs _ (s_ar i hi)) (fun i hi => hs _ (s_le i hi)) (fun i hi j hj => hs _ (s_el i hi j (by rw [s_len i hi] at hj; exact hj)))
    (fun i j hi hj hij => by
      rcases (show (i = 0 ∧ j = 1) ∨ (i = 1 ∧ j = 0) by omega) with ⟨rfl, rfl⟩ | ⟨rfl, rfl⟩
      · exact Or.inl (hs _ s_ne)
      · exact Or.inr (hs _ s_ne)) hA
  refine ⟨(adK, adV), ?_, ?_, ?_, ?_, h1, ?_, ?_⟩
  · exact fun q hq => va_Nw.of rfl (hts0 _ (nwF_in _ (List.mem_map.mpr ⟨q, hq, rfl⟩)))
  · exact fun q hq => va_Nw.of rfl (hts0 _ (nwM_in _ (List.mem_map.mpr ⟨q, hq, rfl⟩)))
  · exact va_Zof (hts0 _ (st_in _ (by simp))) (hts0 _ (st_in _ (by simp))) (va_eqi (hs _ n_cs)) hA
  · exact va_Zqof (hts0 _ (st_in _ (by simp))) (hts0 _ (st_in _ (by simp))) (hs _ n_si) hA
  · exact vk_R.of (hts0 _ (st_in _ (by simp))) (h2 0 (by decide))
  · exact vk_R.of (hts0 _ (st_in _ (by simp))) (h2 1 (by decide))
