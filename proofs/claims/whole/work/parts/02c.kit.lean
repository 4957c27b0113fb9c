/-- a method's start: its arguments, its cells, the classes, what it leans on -/
def PR (D : va_G) (Z : SZ) (ty : List (ClassId × FieldType)) (av : List Value) (ws : va_W) (sz : Nat) : Array Value → State → Prop := va_Pc av (fun U => U.heap.size = sz ∧ va_P D vwCl ws U.heap ∧ va_K D vwCl ty U ∧ va_D (fun _ => True) ws ∧ EN Z (va_A ws sz) U U.heap)
theorem PR.blind {D : va_G} {Z : SZ} {ty : List (ClassId × FieldType)} {av : List Value} {ws : va_W} {sz : Nat} : FrameBlind (PR D Z ty av ws sz) := fun a U g mk q => by
  obtain ⟨q0, q1, qP, qK, qD, qE⟩ := q
  exact ⟨q0, q1, qP, va_K.moved (u := U) (U := U.calling g mk a) (Vm.Alike.refl U.vm) qK, qD, EN.same rfl qE⟩
/-- a method's ends -/
def QI {S : Type} (D : va_G) (post : Int32 → S → Prop) (w1 : S → va_W) (A : Nat → Prop) : Array Value → State → Outcome → State → Prop := va_Qi post (fun u t => va_P D vwCl (w1 u) t.heap ∧ va_D A (w1 u)) A
def QL {S : Type} (D : va_G) (post : Int64 → S → Prop) (w1 : S → va_W) (A : Nat → Prop) : Array Value → State → Outcome → State → Prop := va_Ql post (fun u t => va_P D vwCl (w1 u) t.heap ∧ va_D A (w1 u)) A
def QV {S : Type} (D : va_G) (post : S → Prop) (w1 : S → va_W) (A : Nat → Prop) : Array Value → State → Outcome → State → Prop := va_Qv post (fun u t => va_P D vwCl (w1 u) t.heap ∧ va_D A (w1 u)) A
theorem met_g {l : Launch} {y : MethodName} {wsy ws' : List Cond} {rm : Room} {D : va_G} {Z : SZ} {ty : List (ClassId × FieldType)} {av : List Value} {cells : va_W} {sz : Nat} {mc ms : Nat} (Qf : (Nat → Prop) → Array Value → State → Outcome → State → Prop) (cc : ByteArray) (maxL : Nat) (ret : Option FieldType) (hy : plainName y.cls = true) (hw : wsy = Cond.code y cc maxL ret :: ws') (hlen : (lg_sl av).length ≤ maxL)
    (body : ∀ (p : Program) (e : Env) (s : State) (m : MethodId) (below : List Frame) (meth : Method) (c : Code) (A : Nat → Prop) (ls : Array Slot), p.tables.exec = Jvm.exec → c.code = cc → meth.sig.returnType = ret → (∀ w ∈ wsy, w.before av.toArray s = true) → s.vm.findClass y.cls = some m.cls → meth.locks = false → c.maxLocals = maxL → meth.name = y.name → (∀ q : Nat, s.heap.size ≤ q → A q) → va_P D vwCl cells s.heap → va_K D vwCl ty s → va_D A cells → EN Z A s s.heap → va_S A s.heap s.heap [] → lv_has ls maxL (lv_args 0 av) → sz = s.heap.size →
      W p l e rm s m av.toArray below meth c s.heap [] 0 0 (MQ below (Qf A) av.toArray s mc ms A) (F0 m 0 ls [])) : Met l y wsy rm (PR D Z ty av cells sz) (Qf (va_A cells sz)) mc ms (va_A cells sz) := by
  refine Met.ofW (cc := cc) (maxL := maxL) (ret := ret) hy hw ?_
  intro p e s m args below meth c s₁ B hml hv
  obtain ⟨rfl, hsz, hP, hK, hD0, hE⟩ := hv
  subst hsz
  rw [lg_entry_eq]
  exact body p e s m below meth c (va_A cells s.heap.size) _ B.exec B.bytes B.returns (atoms_spec (ws := wsy) B.pre) (findClass_of_methodNamed B.named) B.notSynchronized hml (name_of_methodNamed B.named B.method).1 (fun q h => Or.inr h) hP hK hD0.self hE va_S.rf (lv_entry av hlen) rfl
/-- a static method without cells: what it answers -/
def PI (l : Launch) (y : MethodName) (wsy : List Cond) (fr lo : Nat) (Z : SZ) (av : List Value) (x : Int32) : Prop := ∀ (D : va_G) (ty : List (ClassId × FieldType)) (sz : Nat), Met l y wsy { frames := fr, cells := 0, slots := 0, locals := lo } (PR D Z ty av [] sz) (QI D (fun r (_ : Unit) => r = x) (fun _ => []) (va_A [] sz)) 0 0 (va_A [] sz)
def PL (l : Launch) (y : MethodName) (wsy : List Cond) (fr lo : Nat) (Z : SZ) (av : List Value) (x : Int64) : Prop := ∀ (D : va_G) (ty : List (ClassId × FieldType)) (sz : Nat), Met l y wsy { frames := fr, cells := 0, slots := 0, locals := lo } (PR D Z ty av [] sz) (QL D (fun r (_ : Unit) => r = x) (fun _ => []) (va_A [] sz)) 0 0 (va_A [] sz)
