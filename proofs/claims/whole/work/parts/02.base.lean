/-! THE LIGHT JUDGEMENT: a method's walk over a list of cells, its answer a partial pure function's -/
def WS : List Cond := lw_tbl.filter goodWord
theorem ws_in {w : Cond} (h : w ∈ lw_tbl) (g : goodWord w = true) : w ∈ WS := List.mem_filter.mpr ⟨h, g⟩
theorem ws_of {w : Cond} (h : w ∈ WS) : w ∈ WS ∧ ((w.onTables && w.keeps) = true ∨ ∃ ty, w = .arrayClass ty) := ⟨h, good_of_word (List.mem_filter.mp h).2⟩
/-- the calls of a nest mate's private method: their words don't keep by themselves -/
def nwOf : Cond → Option (String × Nat × MethodName × String)
  | .methodLinkNest a i y h => some (a, i, y, h)
  | _ => none
def NWl : List (String × Nat × MethodName × String) := lw_tbl.filterMap nwOf
def Nst (U : State) : Prop := (∀ q ∈ NWl, va_Nw (.methodLinkNest q.1 q.2.1 q.2.2.1 q.2.2.2) U) ∧ va_AO "WorkflowEngine$Version" U ∧ va_AO "WorkflowEngine$Instance" U
theorem Nst.warm {s U : State} (hW : s.WarmedH U.vm) (h : Nst s) : Nst U := ⟨fun q hq => va_Nw.warmM hW (h.1 q hq), h.2.1.moved hW.alike, h.2.2.moved hW.alike⟩
theorem Nst.same {u U : State} (hv : u.vm = U.vm) (h : Nst u) : Nst U := ⟨fun q hq => va_Nw.same rfl hv (h.1 q hq), h.2.1.moved (hv ▸ Vm.Alike.refl _), h.2.2.moved (hv ▸ Vm.Alike.refl _)⟩
theorem ao_in : Cond.arrayOver (.object "WorkflowEngine$Version") ∈ lw_tbl ∧ Cond.arrayOver (.object "WorkflowEngine$Instance") ∈ lw_tbl := by decide +kernel
theorem va_AO.any {C : String} {A : Array Value} {U : State} (h : (Cond.arrayOver (.object C)).before A U = true) : va_AO C U := h
theorem Nst.of {A : Array Value} {U : State} (h : ∀ w ∈ lw_tbl, w.before A U = true) : Nst U := by
  refine ⟨fun q hq => ?_, va_AO.any (h _ ao_in.1), va_AO.any (h _ ao_in.2)⟩
  obtain ⟨w, hw, hq⟩ := List.mem_filterMap.mp hq
  unfold nwOf at hq
  split at hq
  · cases hq; exact va_Nw.of rfl (h _ hw)
  · cases hq
abbrev Ev : Type := va_G × (ClassId × ClassId × ClassId)
def tysE (E : Ev) : List (ClassId × FieldType) := [(E.2.1, .int), (E.2.2.1, .object "WorkflowEngine$Version"), (E.2.2.2, .object "WorkflowEngine$Instance")]
def Cx (E : Ev) (own : String) (cc : ByteArray) (nL : Nat) (ret : Option FieldType) (p : Program) (s : State) (m : MethodId) (args : Array Value) (meth : Method) (c : Code) : Prop :=
  p.tables.exec = Jvm.exec ∧ c.code = cc ∧ c.maxLocals = nL ∧ s.vm.findClass own = some m.cls ∧ (∀ w ∈ WS, w.before args s = true) ∧ va_K E.1 vwCl (tysE E) s ∧ Nst s ∧ meth.sig.returnType = ret ∧ meth.locks = false
abbrev rmd (d : Nat) : Room := { frames := d, cells := 0, slots := 0, locals := 40 * d }
/-- the addresses of a list of cells -/
def Ad (ws : va_W) : Nat → Prop := fun q => ∃ (k : Nat) (e : va_E), ws[k]? = some (q, e)
abbrev Rs : Type := Option Value × va_W
def QQ {α : Type} (E : Ev) (A : Nat → Prop) (X : Option α) (φ : α → Rs) : Array Value → State → Outcome → State → Prop := fun _ st oc t => (∃ a, X = some a ∧ oc = .returned (φ a).1 ∧ va_P E.1 vwCl (φ a).2 t.heap) ∧ va_F A st t
def Bd {α : Type} (l : Launch) (E : Ev) (A : Nat → Prop) (own : String) (cc : ByteArray) (nL : Nat) (ret : Option FieldType) (d : Nat) (φ : α → Rs) (pc : Nat) (L : List (Nat × Value)) (st : List Value) (ws : va_W) (X : Option α) : Prop :=
  X.isSome = true → ∀ (p : Program) (e : Env) (s : State) (m : MethodId) (args : Array Value) (below : List Frame) (meth : Method) (c : Code) (H : Heap) (locs : List Loc) (ls : Array Slot), Cx E own cc nL ret p s m args meth c → va_P E.1 vwCl ws H → va_D A ws → va_S A s.heap H locs → lv_has ls nL L → W p l e (rmd d) s m args below meth c H locs 0 0 (MQ below (QQ E A X φ) args s 0 0 A) (F0 m pc ls st)
def Pcd (E : Ev) (ws : va_W) (args : List Value) : Array Value → State → Prop := va_Pc args (fun U => va_P E.1 vwCl ws U.heap ∧ va_K E.1 vwCl (tysE E) U ∧ Nst U ∧ va_D (fun _ => True) ws)
def Ct {α : Type} (l : Launch) (y : MethodName) (cc : ByteArray) (nL : Nat) (ret : Option FieldType) (d : Nat) (E : Ev) (ws : va_W) (args : List Value) (φ : α → Rs) (X : Option α) : Prop :=
  X.isSome = true → Met l y (Cond.code y cc nL ret :: WS) (rmd d) (Pcd E ws args) (QQ E (Ad ws) X φ) 0 0 (Ad ws)
theorem Ct.of {α : Type} {l : Launch} {y : MethodName} {cc : ByteArray} {nL : Nat} {ret : Option FieldType} {d : Nat} {E : Ev} {ws : va_W} {args : List Value} {φ : α → Rs} {X : Option α} (L : List (Nat × Value)) (hy : plainName y.cls = true) (hlen : (lg_sl args).length ≤ nL) (hL : lv_args 0 args = L)
    (k : Bd l E (Ad ws) y.cls cc nL ret d φ 0 L [] ws X) : Ct l y cc nL ret d E ws args φ X := by
  intro hX
  subst hL
  refine Met.ofW (cc := cc) (maxL := nL) (ret := ret) hy rfl ?_
  intro p e s m args' below meth c s₁ B hml hv
  obtain ⟨rfl, hP, hK, hN, hD0⟩ := hv
  have hts := atoms_spec (ws := Cond.code y cc nL ret :: WS) B.pre
  rw [lg_entry_eq]
  exact k hX p e s m _ below meth c s.heap [] _ ⟨B.exec, B.bytes, hml, findClass_of_methodNamed B.named, fun w h => hts w (List.mem_cons_of_mem _ h), hK, hN, B.returns, B.notSynchronized⟩ hP ⟨hD0.1, fun k q h => ⟨k, q.2, h⟩⟩ va_S.rf (lv_entry args hlen)
theorem Ct.of2 {α : Type} {l : Launch} {y : MethodName} {own : String} {cc : ByteArray} {nL : Nat} {ret : Option FieldType} {d : Nat} {E : Ev} {ws : va_W} {args : List Value} {φ : α → Rs} {X : Option α} {L : List (Nat × Value)} (ho : y.cls = own) (hy : plainName y.cls = true) (hlen : (lg_sl args).length ≤ nL) (hL : lv_args 0 args = L)
    (k : Bd l E (Ad ws) own cc nL ret d φ 0 L [] ws X) : Ct l y cc nL ret d E ws args φ X := by
  subst ho
  exact Ct.of L hy hlen hL k
section B1
variable {α : Type} {l : Launch} {E : Ev} {A : Nat → Prop} {own : String} {cc : ByteArray} {nL : Nat} {ret : Option FieldType} {d : Nat} {φ : α → Rs} {pc n : Nat} {L : List (Nat × Value)} {st : List Value} {ws : va_W} {X : Option α}
theorem Bd.sub {L' : List (Nat × Value)} (ks : List Nat) (hl : lv_pick L ks = L') (k : Bd l E A own cc nL ret d φ pc L' st ws X) : Bd l E A own cc nL ret d φ pc L st ws X :=
  fun hX p e s m args below meth c H locs ls C hP hD hS hl' => k hX p e s m args below meth c H locs ls C hP hD hS (lv_sub hl' ks hl)
theorem b_iconst {i : Int} {v : Int32} (hdg : decode cc pc = .ok (.iconst i, 1)) (hn : pc + 1 = n) (hv : Int32.ofInt i = v) (k : Bd l E A own cc nL ret d φ n L (.int v :: st) ws X) : Bd l E A own cc nL ret d φ pc L st ws X :=
  fun hX p e s m args below meth c H locs ls C hP hD hS hl => lv_iconst C.1 C.2.1 hdg hv (hn ▸ k hX p e s m args below meth c H locs ls C hP hD hS hl)
theorem b_bipush {i : Int} {v : Int32} (hdg : decode cc pc = .ok (.bipush i, 2)) (hn : pc + 2 = n) (hv : (Int8.ofInt i).toInt32 = v) (k : Bd l E A own cc nL ret d φ n L (.int v :: st) ws X) : Bd l E A own cc nL ret d φ pc L st ws X :=
  fun hX p e s m args below meth c H locs ls C hP hD hS hl => lv_bipush C.1 C.2.1 hdg hv (hn ▸ k hX p e s m args below meth c H locs ls C hP hD hS hl)
theorem b_sipush {i : Int} {v : Int32} (hdg : decode cc pc = .ok (.sipush i, 3)) (hn : pc + 3 = n) (hv : (Int16.ofInt i).toInt32 = v) (k : Bd l E A own cc nL ret d φ n L (.int v :: st) ws X) : Bd l E A own cc nL ret d φ pc L st ws X :=
  fun hX p e s m args below meth c H locs ls C hP hD hS hl => lv_sipush C.1 C.2.1 hdg hv (hn ▸ k hX p e s m args below meth c H locs ls C hP hD hS hl)
theorem b_ldc {i : Nat} {v : Int32} (hw : Cond.constant own i v ∈ WS) (hdg : decode cc pc = .ok (.ldc i, 2)) (hn : pc + 2 = n) (k : Bd l E A own cc nL ret d φ n L (.int v :: st) ws X) : Bd l E A own cc nL ret d φ pc L st ws X :=
  fun hX p e s m args below meth c H locs ls C hP hD hS hl => lv_ldc C.1 C.2.1 C.2.2.2.1 (C.2.2.2.2.1 _ hw) hdg (hn ▸ k hX p e s m args below meth c H locs ls C hP hD hS hl)
theorem b_iload_n {k : Fin 4} {i : Nat} {x : Int32} (q : Nat) (hdg : decode cc pc = .ok (.iload_n k, 1)) (hn : pc + 1 = n) (hi : (k : Nat) = i) (hl : L[q]? = some (i, .int x)) (kk : Bd l E A own cc nL ret d φ n L (.int x :: st) ws X) : Bd l E A own cc nL ret d φ pc L st ws X :=
  fun hX p e s m args below meth c H locs ls C hP hD hS hl' => lv_iload_n C.1 C.2.1 hdg hi (lv_at hl' q hl) (hn ▸ kk hX p e s m args below meth c H locs ls C hP hD hS hl')
theorem b_iload {i : Nat} {x : Int32} (q : Nat) (hdg : decode cc pc = .ok (.iload i, 2)) (hn : pc + 2 = n) (hl : L[q]? = some (i, .int x)) (kk : Bd l E A own cc nL ret d φ n L (.int x :: st) ws X) : Bd l E A own cc nL ret d φ pc L st ws X :=
  fun hX p e s m args below meth c H locs ls C hP hD hS hl' => lv_iload C.1 C.2.1 hdg (lv_at hl' q hl) (hn ▸ kk hX p e s m args below meth c H locs ls C hP hD hS hl')
theorem b_aload_n {k : Fin 4} {i : Nat} {x : Nat} (q : Nat) (hdg : decode cc pc = .ok (.aload_n k, 1)) (hn : pc + 1 = n) (hi : (k : Nat) = i) (hl : L[q]? = some (i, .ref x)) (kk : Bd l E A own cc nL ret d φ n L (.ref x :: st) ws X) : Bd l E A own cc nL ret d φ pc L st ws X :=
  fun hX p e s m args below meth c H locs ls C hP hD hS hl' => lv_aload_n C.1 C.2.1 hdg hi (lv_at hl' q hl) (hn ▸ kk hX p e s m args below meth c H locs ls C hP hD hS hl')
theorem b_aload {i : Nat} {x : Nat} (q : Nat) (hdg : decode cc pc = .ok (.aload i, 2)) (hn : pc + 2 = n) (hl : L[q]? = some (i, .ref x)) (kk : Bd l E A own cc nL ret d φ n L (.ref x :: st) ws X) : Bd l E A own cc nL ret d φ pc L st ws X :=
  fun hX p e s m args below meth c H locs ls C hP hD hS hl' => lv_aload C.1 C.2.1 hdg (lv_at hl' q hl) (hn ▸ kk hX p e s m args below meth c H locs ls C hP hD hS hl')
theorem b_istore_n {k : Fin 4} {i : Nat} {x : Int32} {L' : List (Nat × Value)} (hdg : decode cc pc = .ok (.istore_n k, 1)) (hn : pc + 1 = n) (hi : (k : Nat) = i) (hm : i < nL) (hl : (i, Value.int x) :: L.filter (fun q => !(q.1 == i) && !(q.1 + 1 == i && q.2.category == 2)) = L') (kk : Bd l E A own cc nL ret d φ n L' st ws X) : Bd l E A own cc nL ret d φ pc L (.int x :: st) ws X :=
  fun hX p e s m args below meth c H locs ls C hP hD hS hl' => lv_istore_n C.1 C.2.1 hdg hi hl' hm hl (fun ls' h' => hn ▸ kk hX p e s m args below meth c H locs ls' C hP hD hS h')
theorem b_istore {i : Nat} {x : Int32} {L' : List (Nat × Value)} (hdg : decode cc pc = .ok (.istore i, 2)) (hn : pc + 2 = n) (hm : i < nL) (hl : (i, Value.int x) :: L.filter (fun q => !(q.1 == i) && !(q.1 + 1 == i && q.2.category == 2)) = L') (kk : Bd l E A own cc nL ret d φ n L' st ws X) : Bd l E A own cc nL ret d φ pc L (.int x :: st) ws X :=
  fun hX p e s m args below meth c H locs ls C hP hD hS hl' => lv_istore C.1 C.2.1 hdg hl' hm hl (fun ls' h' => hn ▸ kk hX p e s m args below meth c H locs ls' C hP hD hS h')
theorem b_astore_n {k : Fin 4} {i : Nat} {x : Nat} {L' : List (Nat × Value)} (hdg : decode cc pc = .ok (.astore_n k, 1)) (hn : pc + 1 = n) (hi : (k : Nat) = i) (hm : i < nL) (hl : (i, Value.ref x) :: L.filter (fun q => !(q.1 == i) && !(q.1 + 1 == i && q.2.category == 2)) = L') (kk : Bd l E A own cc nL ret d φ n L' st ws X) : Bd l E A own cc nL ret d φ pc L (.ref x :: st) ws X :=
  fun hX p e s m args below meth c H locs ls C hP hD hS hl' => lv_astore_n C.1 C.2.1 hdg hi hl' hm hl (fun ls' h' => hn ▸ kk hX p e s m args below meth c H locs ls' C hP hD hS h')
theorem b_astore {i : Nat} {x : Nat} {L' : List (Nat × Value)} (hdg : decode cc pc = .ok (.astore i, 2)) (hn : pc + 2 = n) (hm : i < nL) (hl : (i, Value.ref x) :: L.filter (fun q => !(q.1 == i) && !(q.1 + 1 == i && q.2.category == 2)) = L') (kk : Bd l E A own cc nL ret d φ n L' st ws X) : Bd l E A own cc nL ret d φ pc L (.ref x :: st) ws X :=
  fun hX p e s m args below meth c H locs ls C hP hD hS hl' => lv_astore C.1 C.2.1 hdg hl' hm hl (fun ls' h' => hn ▸ kk hX p e s m args below meth c H locs ls' C hP hD hS h')
theorem b_iinc {i : Nat} {j : Int} {x : Int32} {L' : List (Nat × Value)} (q : Nat) (w : Int32) (hdg : decode cc pc = .ok (.iinc i j, 3)) (hn : pc + 3 = n) (hq : L[q]? = some (i, .int x)) (hv : Int32.ofInt j = w) (hm : i < nL) (hl : (i, Value.int (x + w)) :: L.filter (fun q => !(q.1 == i) && !(q.1 + 1 == i && q.2.category == 2)) = L') (kk : Bd l E A own cc nL ret d φ n L' st ws X) : Bd l E A own cc nL ret d φ pc L st ws X :=
  fun hX p e s m args below meth c H locs ls C hP hD hS hl' => lv_iinc C.1 C.2.1 hdg hl' hq (by rw [hv]) hm hl (fun ls' h' => hn ▸ kk hX p e s m args below meth c H locs ls' C hP hD hS h')
theorem b_iadd {x y : Int32} (hdg : decode cc pc = .ok (.iadd, 1)) (hn : pc + 1 = n) (kk : Bd l E A own cc nL ret d φ n L (.int (x + y) :: st) ws X) : Bd l E A own cc nL ret d φ pc L (.int y :: .int x :: st) ws X :=
  fun hX p e s m args below meth c H locs ls C hP hD hS hl => lv_iadd C.1 C.2.1 hdg (hn ▸ kk hX p e s m args below meth c H locs ls C hP hD hS hl)
theorem b_isub {x y : Int32} (hdg : decode cc pc = .ok (.isub, 1)) (hn : pc + 1 = n) (kk : Bd l E A own cc nL ret d φ n L (.int (x - y) :: st) ws X) : Bd l E A own cc nL ret d φ pc L (.int y :: .int x :: st) ws X :=
  fun hX p e s m args below meth c H locs ls C hP hD hS hl => lv_isub C.1 C.2.1 hdg (hn ▸ kk hX p e s m args below meth c H locs ls C hP hD hS hl)
theorem b_imul {x y : Int32} (hdg : decode cc pc = .ok (.imul, 1)) (hn : pc + 1 = n) (kk : Bd l E A own cc nL ret d φ n L (.int (x * y) :: st) ws X) : Bd l E A own cc nL ret d φ pc L (.int y :: .int x :: st) ws X :=
  fun hX p e s m args below meth c H locs ls C hP hD hS hl => lv_imul C.1 C.2.1 hdg (hn ▸ kk hX p e s m args below meth c H locs ls C hP hD hS hl)
theorem b_ineg {x : Int32} (hdg : decode cc pc = .ok (.ineg, 1)) (hn : pc + 1 = n) (kk : Bd l E A own cc nL ret d φ n L (.int (-x) :: st) ws X) : Bd l E A own cc nL ret d φ pc L (.int x :: st) ws X :=
  fun hX p e s m args below meth c H locs ls C hP hD hS hl => lv_ineg C.1 C.2.1 hdg (hn ▸ kk hX p e s m args below meth c H locs ls C hP hD hS hl)
theorem b_ishl {x y : Int32} (hdg : decode cc pc = .ok (.ishl, 1)) (hn : pc + 1 = n) (kk : Bd l E A own cc nL ret d φ n L (.int (x <<< (y &&& 31)) :: st) ws X) : Bd l E A own cc nL ret d φ pc L (.int y :: .int x :: st) ws X :=
  fun hX p e s m args below meth c H locs ls C hP hD hS hl => lv_ishl C.1 C.2.1 hdg (hn ▸ kk hX p e s m args below meth c H locs ls C hP hD hS hl)
theorem b_ishr {x y : Int32} (hdg : decode cc pc = .ok (.ishr, 1)) (hn : pc + 1 = n) (kk : Bd l E A own cc nL ret d φ n L (.int (x >>> (y &&& 31)) :: st) ws X) : Bd l E A own cc nL ret d φ pc L (.int y :: .int x :: st) ws X :=
  fun hX p e s m args below meth c H locs ls C hP hD hS hl => lv_ishr C.1 C.2.1 hdg (hn ▸ kk hX p e s m args below meth c H locs ls C hP hD hS hl)
theorem b_iand {x y : Int32} (hdg : decode cc pc = .ok (.iand, 1)) (hn : pc + 1 = n) (kk : Bd l E A own cc nL ret d φ n L (.int (x &&& y) :: st) ws X) : Bd l E A own cc nL ret d φ pc L (.int y :: .int x :: st) ws X :=
  fun hX p e s m args below meth c H locs ls C hP hD hS hl => lv_iand C.1 C.2.1 hdg (hn ▸ kk hX p e s m args below meth c H locs ls C hP hD hS hl)
theorem b_ior {x y : Int32} (hdg : decode cc pc = .ok (.ior, 1)) (hn : pc + 1 = n) (kk : Bd l E A own cc nL ret d φ n L (.int (x ||| y) :: st) ws X) : Bd l E A own cc nL ret d φ pc L (.int y :: .int x :: st) ws X :=
  fun hX p e s m args below meth c H locs ls C hP hD hS hl => lv_ior C.1 C.2.1 hdg (hn ▸ kk hX p e s m args below meth c H locs ls C hP hD hS hl)
theorem b_dup {v : Value} (hdg : decode cc pc = .ok (.dup, 1)) (hn : pc + 1 = n) (hv : v.category = 1) (kk : Bd l E A own cc nL ret d φ n L (v :: v :: st) ws X) : Bd l E A own cc nL ret d φ pc L (v :: st) ws X :=
  fun hX p e s m args below meth c H locs ls C hP hD hS hl => lv_dup C.1 C.2.1 hdg hv (hn ▸ kk hX p e s m args below meth c H locs ls C hP hD hS hl)
theorem b_goto {off : Int} (hdg : decode cc pc = .ok (.goto off, 3)) (hn : (pc : Int) + off = (n : Int)) (kk : Bd l E A own cc nL ret d φ n L st ws X) : Bd l E A own cc nL ret d φ pc L st ws X :=
  fun hX p e s m args below meth c H locs ls C hP hD hS hl => lv_goto C.1 C.2.1 hdg hn (kk hX p e s m args below meth c H locs ls C hP hD hS hl)
theorem b_if {t : Prop} [hd : Decidable t] {X1 X2 : Option α} (k1 : t → Bd l E A own cc nL ret d φ pc L st ws X1) (k2 : ¬ t → Bd l E A own cc nL ret d φ pc L st ws X2) : Bd l E A own cc nL ret d φ pc L st ws (if t then X1 else X2) := by
  by_cases h : t
  · rw [if_pos h]; exact k1 h
  · rw [if_neg h]; exact k2 h
end B1
