/-! calls at large (any end, any room), and constructors: a judgement in which cells come -/
section GC
variable {α β : Type} {p : Program} {l : Launch} {e : Env} {R : Room} {s : State} {m : MethodId} {args : Array Value} {below : List Frame} {meth : Method} {c : Code} {H : Heap} {locs : List Loc} {cells slots : Nat} {Q : State → Prop} {E : Ev} {A : Nat → Prop} {pc n : Nat} {ls : Array Slot} {H0 : Heap} {own : String} {cc : ByteArray} {nL : Nat}
/-- what a frame's walk stands on -/
def Fx (E : Ev) (own : String) (cc : ByteArray) (nL : Nat) (p : Program) (s : State) (m : MethodId) (args : Array Value) (c : Code) : Prop :=
  p.tables.exec = Jvm.exec ∧ c.code = cc ∧ c.maxLocals = nL ∧ s.vm.findClass own = some m.cls ∧ (∀ w ∈ WS, w.before args s = true) ∧ va_K E.1 vwCl (tysE E) s ∧ Nst s
variable {idx na d' nL' : Nat} {y : MethodName} {cc' : ByteArray} {ret' : Option FieldType} {st rest As : List Value} {ws wc : va_W} {F : Option β} {ψ : β → Rs}
theorem pcd_fx {as : List Value} {s0 : State} (C : Fx E own cc nL p s m args c) (hP : va_P E.1 vwCl wc H) (hD : va_D A wc) (U : State) (hU : U.heap = H) (hW : s.WarmedH U.vm) : Pcd E wc as as.toArray U :=
  ⟨rfl, by rw [hU]; exact hP, va_K.moved hW.alike C.2.2.2.2.2.1, C.2.2.2.2.2.2.warm hW, hD.weaken (fun _ _ _ _ => trivial)⟩
theorem sub_of {is : List Nat} (hP : va_P E.1 vwCl ws H) (hD : va_D A ws) (hC : is.map (fun i => ws[i]?) = wc.map some) (hnd : is.Nodup) : va_P E.1 vwCl wc H ∧ va_D A wc := by
  have hat : ∀ (j : Nat) (q : Nat × va_E), wc[j]? = some q → ∃ i : Nat, is[j]? = some i ∧ ws[i]? = some q := by
    intro j q hj
    have g1 : (wc.map some)[j]? = some (some q) := by rw [List.getElem?_map, hj]; rfl
    rw [← hC, List.getElem?_map] at g1
    cases hi : is[j]? with
    | none => rw [hi] at g1; cases g1
    | some i => rw [hi] at g1; exact ⟨i, rfl, Option.some.inj g1⟩
  refine ⟨fun k q hq => ?_, fun i j p q hp hq hpq => ?_, fun k q hq => ?_⟩
  · obtain ⟨i, -, h⟩ := hat k q hq
    exact hP i q h
  · obtain ⟨i1, a1, a2⟩ := hat i p hp
    obtain ⟨j1, b1, b2⟩ := hat j q hq
    have := hD.1 i1 j1 p q a2 b2 hpq
    subst this
    obtain ⟨x1, x2⟩ := List.getElem?_eq_some_iff.mp a1
    obtain ⟨y1, y2⟩ := List.getElem?_eq_some_iff.mp b1
    exact (List.getElem_inj hnd).mp (x2.trans y2.symm)
  · obtain ⟨i1, a1, a2⟩ := hat k q hq
    exact hD.2 i1 q a2
theorem g_callV (q0 : Nat) (is : List Nat) {a ci : Nat} {fs : List Value} (C : Fx E own cc nL p s m args c) (hP : va_P E.1 vwCl ws H) (hD : va_D A ws) (hS : va_S A H0 H locs) (hls : ls.size = nL) (hlk : LkV own idx y cc' nL' ret' na) (hF : F.isSome = true) (hct : Ct l y cc' nL' ret' d' E wc (.ref a :: As) ψ F) (hd : d' + 1 ≤ R.frames ∧ 8 + (nL' + 11) + 40 * d' ≤ R.locals) (hcs : cells ≤ R.cells ∧ slots ≤ R.slots) (hC : is.map (fun i => ws[i]?) = wc.map some) (hnd : is.Nodup) (hfst : ∀ b, (ψ b).2.map Prod.fst = wc.map Prod.fst)
    (he : ws[q0]? = some (a, .inr (ci, fs))) (hci : (vwCl[ci]?).map (·.1) = some y.cls) (hna : As.length = na) (hst : As.reverse ++ .ref a :: rest = st) (hrest : (rest.map fun v => v.category).sum ≤ 8) (hdg : decode cc pc = .ok (.invokevirtual idx, 3)) (hn : pc + 3 = n)
    (kk : ∀ (b : β) (H1 : Heap) (locs1 : List Loc), F = some b → va_P E.1 vwCl (patch ws is (ψ b).2) H1 → va_D A (patch ws is (ψ b).2) → va_S A H0 H1 locs1 → W p l e R s m args below meth c H1 locs1 cells slots Q (F0 m n ls ((ψ b).1.toList ++ rest))) : W p l e R s m args below meth c H locs cells slots Q (F0 m pc ls st) := by
  obtain ⟨h1, h2, h3, h4, h5, h6, h7, h8⟩ := hlk
  have hwords : ∀ w ∈ wsV own idx y.cls y (Cond.code y cc' nL' ret' :: WS), w ∈ WS := by
    intro w hw
    unfold wsV at hw
    rcases List.mem_append.mp hw with h | h
    · simp only [List.mem_cons, List.not_mem_nil, or_false] at h
      rcases h with rfl | rfl | rfl | rfl
      · exact h1
      · exact h2
      · exact h3
      · exact h4
    · rcases List.mem_cons.mp h with rfl | h
      · exact h5
      · exact h
  obtain ⟨hPc, hDc⟩ := sub_of hP hD hC hnd
  have hA : ∀ q, Ad wc q → A q := fun q ⟨k, e, h⟩ => hDc.2 k _ h
  obtain ⟨q, hq1, hq2⟩ : ∃ q, vwCl[ci]? = some q ∧ q.1 = y.cls := by
    cases hq : vwCl[ci]? with
    | none => rw [hq] at hci; cases hci
    | some q => rw [hq] at hci; exact ⟨q, rfl, Option.some.inj hci⟩
  subst hst
  refine w_call (va_runV (C := y.cls) (As := As) (rest := rest) (n := na) (Ts := WS) ⟨C.1, C.2.1, C.2.2.1, C.2.2.2.1, C.2.2.2.2.1⟩ (hct hF) (cwV na C.2.2.2.2.1 (wsGood hwords rfl) rfl rfl rfl ⟨rfl, h6.1, h6.2, h7⟩ hd) ⟨QQ.blind, by rw [← hq2]; exact va_recv C.2.2.2.2.2.1 hP hq1 he, fun U hU hW => pcd_fx (s0 := s) C hPc hDc U hU hW⟩ rfl hna hls rfl (lv_room hrest) hdg ⟨hcs.1, hcs.2⟩) hS hA (fun b H1 locs1 hb hP1 hk hS1 => ?_)
  obtain ⟨g1, g2⟩ := va_P.patch hP hD hC hnd (hfst b) hP1 hk
  subst hb
  exact hn ▸ kk b H1 locs1 rfl g1 (hD.fst g2) hS1
end GC
/-- a constructor's end: some list of cells of the kind P stands -/
def QA (E : Ev) (A : Nat → Prop) (P : va_W → Prop) : Array Value → State → Outcome → State → Prop := fun _ st oc t => (∃ ws, P ws ∧ oc = .returned none ∧ va_P E.1 vwCl ws t.heap ∧ va_D A ws) ∧ va_F A st t
def Pca (E : Ev) (sz : Nat) (ws : va_W) (args : List Value) : Array Value → State → Prop := va_Pc args (fun U => U.heap.size = sz ∧ va_P E.1 vwCl ws U.heap ∧ va_K E.1 vwCl (tysE E) U ∧ Nst U ∧ va_D (fun _ => True) ws)
abbrev rma (d mc ms : Nat) : Room := { frames := d, cells := mc, slots := ms, locals := 40 * d }
def Ca (l : Launch) (y : MethodName) (cc : ByteArray) (nL : Nat) (d mc ms : Nat) (E : Ev) (ws : va_W) (args : List Value) (P : va_W → Prop) : Prop :=
  ∀ sz, Met l y (Cond.code y cc nL none :: WS) (rma d mc ms) (Pca E sz ws args) (QA E (va_A ws sz) P) mc ms (va_A ws sz)
def Ba (l : Launch) (E : Ev) (A : Nat → Prop) (sz : Nat) (own : String) (cc : ByteArray) (nL : Nat) (d mc ms : Nat) (P : va_W → Prop) (k n : Nat) (pc : Nat) (L : List (Nat × Value)) (st : List Value) (ws : va_W) : Prop :=
  ∀ (p : Program) (e : Env) (s : State) (m : MethodId) (args : Array Value) (below : List Frame) (meth : Method) (c : Code) (H : Heap) (locs : List Loc) (ls : Array Slot), Cx E own cc nL none p s m args meth c → meth.name = "<init>" → s.heap.size = sz → (∀ q, sz ≤ q → A q) → va_P E.1 vwCl ws H → va_D A ws → va_S A s.heap H locs → lv_has ls nL L → W p l e (rma d mc ms) s m args below meth c H locs k n (MQ below (QA E A P) args s mc ms A) (F0 m pc ls st)
theorem Ca.of {l : Launch} {y : MethodName} {own : String} {cc : ByteArray} {nL : Nat} {d mc ms : Nat} {E : Ev} {ws : va_W} {args : List Value} {P : va_W → Prop} (L : List (Nat × Value)) (ho : y.cls = own) (hy : plainName y.cls = true) (hi : y.name = "<init>") (hlen : (lg_sl args).length ≤ nL) (hL : lv_args 0 args = L)
    (k : ∀ sz, Ba l E (va_A ws sz) sz own cc nL d mc ms P 0 0 0 L [] ws) : Ca l y cc nL d mc ms E ws args P := by
  intro sz
  subst hL
  subst ho
  refine Met.ofW (cc := cc) (maxL := nL) (ret := none) hy rfl ?_
  intro p e s m args' below meth c s₁ B hml hv
  obtain ⟨rfl, hsz, hP, hK, hN, hD0⟩ := hv
  have hts := atoms_spec (ws := Cond.code y cc nL none :: WS) B.pre
  rw [lg_entry_eq]
  exact k sz p e s m _ below meth c s.heap [] _ ⟨B.exec, B.bytes, hml, findClass_of_methodNamed B.named, fun w h => hts w (List.mem_cons_of_mem _ h), hK, hN, B.returns, B.notSynchronized⟩ (by rw [(name_of_methodNamed B.named B.method).1, hi]) hsz (fun q h => Or.inr h) hP hD0.self va_S.rf (lv_entry args hlen)
theorem QA.blind {E : Ev} {sz : Nat} {ws : va_W} {args : List Value} : FrameBlind (Pca E sz ws args) := fun a U g mk q => by
  obtain ⟨q0, q1, qP, qK, qN, qD⟩ := q
  exact ⟨q0, q1, qP, va_K.moved (u := U) (U := U.calling g mk a) (Vm.Alike.refl U.vm) qK, Nst.same (U := U.calling g mk a) rfl qN, qD⟩
section A1
variable {l : Launch} {E : Ev} {A : Nat → Prop} {sz : Nat} {own : String} {cc : ByteArray} {nL d mc ms : Nat} {P : va_W → Prop} {k j : Nat} {pc n : Nat} {L : List (Nat × Value)} {st rest : List Value} {ws : va_W}
theorem a_iconst {i : Int} {v : Int32} (hdg : decode cc pc = .ok (.iconst i, 1)) (hn : pc + 1 = n) (hv : Int32.ofInt i = v) (kk : Ba l E A sz own cc nL d mc ms P k j n L (.int v :: st) ws) : Ba l E A sz own cc nL d mc ms P k j pc L st ws :=
  fun p e s m args below meth c H locs ls C hin hsz hA hP hD hS hl => lv_iconst C.1 C.2.1 hdg hv (hn ▸ kk p e s m args below meth c H locs ls C hin hsz hA hP hD hS hl)
theorem a_bipush {i : Int} {v : Int32} (hdg : decode cc pc = .ok (.bipush i, 2)) (hn : pc + 2 = n) (hv : (Int8.ofInt i).toInt32 = v) (kk : Ba l E A sz own cc nL d mc ms P k j n L (.int v :: st) ws) : Ba l E A sz own cc nL d mc ms P k j pc L st ws :=
  fun p e s m args below meth c H locs ls C hin hsz hA hP hD hS hl => lv_bipush C.1 C.2.1 hdg hv (hn ▸ kk p e s m args below meth c H locs ls C hin hsz hA hP hD hS hl)
theorem a_sipush {i : Int} {v : Int32} (hdg : decode cc pc = .ok (.sipush i, 3)) (hn : pc + 3 = n) (hv : (Int16.ofInt i).toInt32 = v) (kk : Ba l E A sz own cc nL d mc ms P k j n L (.int v :: st) ws) : Ba l E A sz own cc nL d mc ms P k j pc L st ws :=
  fun p e s m args below meth c H locs ls C hin hsz hA hP hD hS hl => lv_sipush C.1 C.2.1 hdg hv (hn ▸ kk p e s m args below meth c H locs ls C hin hsz hA hP hD hS hl)
theorem a_iload_n {t : Fin 4} {i : Nat} {x : Int32} (q : Nat) (hdg : decode cc pc = .ok (.iload_n t, 1)) (hn : pc + 1 = n) (hi : (t : Nat) = i) (hl : L[q]? = some (i, .int x)) (kk : Ba l E A sz own cc nL d mc ms P k j n L (.int x :: st) ws) : Ba l E A sz own cc nL d mc ms P k j pc L st ws :=
  fun p e s m args below meth c H locs ls C hin hsz hA hP hD hS hl' => lv_iload_n C.1 C.2.1 hdg hi (lv_at hl' q hl) (hn ▸ kk p e s m args below meth c H locs ls C hin hsz hA hP hD hS hl')
theorem a_iload {i : Nat} {x : Int32} (q : Nat) (hdg : decode cc pc = .ok (.iload i, 2)) (hn : pc + 2 = n) (hl : L[q]? = some (i, .int x)) (kk : Ba l E A sz own cc nL d mc ms P k j n L (.int x :: st) ws) : Ba l E A sz own cc nL d mc ms P k j pc L st ws :=
  fun p e s m args below meth c H locs ls C hin hsz hA hP hD hS hl' => lv_iload C.1 C.2.1 hdg (lv_at hl' q hl) (hn ▸ kk p e s m args below meth c H locs ls C hin hsz hA hP hD hS hl')
theorem a_aload_n {t : Fin 4} {i x : Nat} (q : Nat) (hdg : decode cc pc = .ok (.aload_n t, 1)) (hn : pc + 1 = n) (hi : (t : Nat) = i) (hl : L[q]? = some (i, .ref x)) (kk : Ba l E A sz own cc nL d mc ms P k j n L (.ref x :: st) ws) : Ba l E A sz own cc nL d mc ms P k j pc L st ws :=
  fun p e s m args below meth c H locs ls C hin hsz hA hP hD hS hl' => lv_aload_n C.1 C.2.1 hdg hi (lv_at hl' q hl) (hn ▸ kk p e s m args below meth c H locs ls C hin hsz hA hP hD hS hl')
theorem a_istore_n {t : Fin 4} {i : Nat} {x : Int32} {L' : List (Nat × Value)} (hdg : decode cc pc = .ok (.istore_n t, 1)) (hn : pc + 1 = n) (hi : (t : Nat) = i) (hm : i < nL) (hl : (i, Value.int x) :: L.filter (fun q => !(q.1 == i) && !(q.1 + 1 == i && q.2.category == 2)) = L') (kk : Ba l E A sz own cc nL d mc ms P k j n L' st ws) : Ba l E A sz own cc nL d mc ms P k j pc L (.int x :: st) ws :=
  fun p e s m args below meth c H locs ls C hin hsz hA hP hD hS hl' => lv_istore_n C.1 C.2.1 hdg hi hl' hm hl (fun ls' h' => hn ▸ kk p e s m args below meth c H locs ls' C hin hsz hA hP hD hS h')
theorem a_istore {i : Nat} {x : Int32} {L' : List (Nat × Value)} (hdg : decode cc pc = .ok (.istore i, 2)) (hn : pc + 2 = n) (hm : i < nL) (hl : (i, Value.int x) :: L.filter (fun q => !(q.1 == i) && !(q.1 + 1 == i && q.2.category == 2)) = L') (kk : Ba l E A sz own cc nL d mc ms P k j n L' st ws) : Ba l E A sz own cc nL d mc ms P k j pc L (.int x :: st) ws :=
  fun p e s m args below meth c H locs ls C hin hsz hA hP hD hS hl' => lv_istore C.1 C.2.1 hdg hl' hm hl (fun ls' h' => hn ▸ kk p e s m args below meth c H locs ls' C hin hsz hA hP hD hS h')
theorem a_astore_n {t : Fin 4} {i x : Nat} {L' : List (Nat × Value)} (hdg : decode cc pc = .ok (.astore_n t, 1)) (hn : pc + 1 = n) (hi : (t : Nat) = i) (hm : i < nL) (hl : (i, Value.ref x) :: L.filter (fun q => !(q.1 == i) && !(q.1 + 1 == i && q.2.category == 2)) = L') (kk : Ba l E A sz own cc nL d mc ms P k j n L' st ws) : Ba l E A sz own cc nL d mc ms P k j pc L (.ref x :: st) ws :=
  fun p e s m args below meth c H locs ls C hin hsz hA hP hD hS hl' => lv_astore_n C.1 C.2.1 hdg hi hl' hm hl (fun ls' h' => hn ▸ kk p e s m args below meth c H locs ls' C hin hsz hA hP hD hS h')
theorem a_iinc {i : Nat} {a : Int} {x y : Int32} {L' : List (Nat × Value)} (q : Nat) (hdg : decode cc pc = .ok (.iinc i a, 3)) (hn : pc + 3 = n) (hq : L[q]? = some (i, .int x)) (hv : x + Int32.ofInt a = y) (hm : i < nL) (hl : (i, Value.int y) :: L.filter (fun q => !(q.1 == i) && !(q.1 + 1 == i && q.2.category == 2)) = L') (kk : Ba l E A sz own cc nL d mc ms P k j n L' st ws) : Ba l E A sz own cc nL d mc ms P k j pc L st ws :=
  fun p e s m args below meth c H locs ls C hin hsz hA hP hD hS hl' => lv_iinc C.1 C.2.1 hdg hl' hq hv hm hl (fun ls' h' => hn ▸ kk p e s m args below meth c H locs ls' C hin hsz hA hP hD hS h')
theorem a_dup {v : Value} (hdg : decode cc pc = .ok (.dup, 1)) (hn : pc + 1 = n) (hv : v.category = 1) (kk : Ba l E A sz own cc nL d mc ms P k j n L (v :: v :: st) ws) : Ba l E A sz own cc nL d mc ms P k j pc L (v :: st) ws :=
  fun p e s m args below meth c H locs ls C hin hsz hA hP hD hS hl => lv_dup C.1 C.2.1 hdg hv (hn ▸ kk p e s m args below meth c H locs ls C hin hsz hA hP hD hS hl)
theorem a_iadd {x y z : Int32} (hdg : decode cc pc = .ok (.iadd, 1)) (hn : pc + 1 = n) (hz : x + y = z) (kk : Ba l E A sz own cc nL d mc ms P k j n L (.int z :: st) ws) : Ba l E A sz own cc nL d mc ms P k j pc L (.int y :: .int x :: st) ws :=
  fun p e s m args below meth c H locs ls C hin hsz hA hP hD hS hl => by subst hz; exact lv_iadd C.1 C.2.1 hdg (hn ▸ kk p e s m args below meth c H locs ls C hin hsz hA hP hD hS hl)
theorem a_idiv {x y z : Int32} (hdg : decode cc pc = .ok (.idiv, 1)) (hn : pc + 1 = n) (h0 : ¬ y = 0) (hz : x / y = z) (kk : Ba l E A sz own cc nL d mc ms P k j n L (.int z :: st) ws) : Ba l E A sz own cc nL d mc ms P k j pc L (.int y :: .int x :: st) ws :=
  fun p e s m args below meth c H locs ls C hin hsz hA hP hD hS hl => by subst hz; exact lv_idiv C.1 C.2.1 hdg h0 (hn ▸ kk p e s m args below meth c H locs ls C hin hsz hA hP hD hS hl)
theorem a_irem {x y z : Int32} (hdg : decode cc pc = .ok (.irem, 1)) (hn : pc + 1 = n) (h0 : ¬ y = 0) (hz : x - x / y * y = z) (kk : Ba l E A sz own cc nL d mc ms P k j n L (.int z :: st) ws) : Ba l E A sz own cc nL d mc ms P k j pc L (.int y :: .int x :: st) ws :=
  fun p e s m args below meth c H locs ls C hin hsz hA hP hD hS hl => by subst hz; exact lv_irem C.1 C.2.1 hdg h0 (hn ▸ kk p e s m args below meth c H locs ls C hin hsz hA hP hD hS hl)
theorem a_goto {off : Int} (hdg : decode cc pc = .ok (.goto off, 3)) (hn : (pc : Int) + off = (n : Int)) (kk : Ba l E A sz own cc nL d mc ms P k j n L st ws) : Ba l E A sz own cc nL d mc ms P k j pc L st ws :=
  fun p e s m args below meth c H locs ls C hin hsz hA hP hD hS hl => lv_goto C.1 C.2.1 hdg hn (kk p e s m args below meth c H locs ls C hin hsz hA hP hD hS hl)
theorem a_geF {x y : Int32} {off : Int} {tgt : Nat} (h : x < y) (hdg : decode cc pc = .ok (.if_icmp .ge off, 3)) (ht : (pc : Int) + off = (tgt : Int)) (hn : pc + 3 = n) (kk : Ba l E A sz own cc nL d mc ms P k j n L st ws) : Ba l E A sz own cc nL d mc ms P k j pc L (.int y :: .int x :: st) ws :=
  fun p e s m args below meth c H locs ls C hin hsz hA hP hD hS hl => lv_icmp_ge C.1 C.2.1 hdg ht (fun h' => absurd h (i32_le.mp h')) (fun _ => hn ▸ kk p e s m args below meth c H locs ls C hin hsz hA hP hD hS hl)
theorem a_geT {x y : Int32} {off : Int} (h : ¬ x < y) (hdg : decode cc pc = .ok (.if_icmp .ge off, 3)) (ht : (pc : Int) + off = (n : Int)) (kk : Ba l E A sz own cc nL d mc ms P k j n L st ws) : Ba l E A sz own cc nL d mc ms P k j pc L (.int y :: .int x :: st) ws :=
  fun p e s m args below meth c H locs ls C hin hsz hA hP hD hS hl => lv_icmp_ge C.1 C.2.1 hdg ht (fun _ => kk p e s m args below meth c H locs ls C hin hsz hA hP hD hS hl) (fun h' => absurd (i32_le.mpr h) h')
theorem a_get {idx ci i a : Nat} {fs : List Value} {v : Value} (q : Nat) (hf : FL own idx ci i) (hdg : decode cc pc = .ok (.getfield idx, 3)) (hn : pc + 3 = n) (he : ws[q]? = some (a, .inr (ci, fs))) (hv : fs[i]? = some v) (kk : Ba l E A sz own cc nL d mc ms P k j n L (v :: st) ws) : Ba l E A sz own cc nL d mc ms P k j pc L (.ref a :: st) ws :=
  fun p e s m args below meth c H locs ls C hin hsz hA hP hD hS hl => by
    obtain ⟨C0, T, N, h1, h2, h3, h4⟩ := hf
    exact va_get C.1 C.2.1 C.2.2.2.2.1 h3 C.2.2.2.1 C.2.2.2.2.2.1 hP q he h1 i h2 (C.2.2.2.2.1 _ h4) (fun _ h => h) hv hdg (hn ▸ kk p e s m args below meth c H locs ls C hin hsz hA hP hD hS hl)
def FLf (own : String) (idx ci k : Nat) (ty : FieldType) : Prop := ∃ (C : String) (T : u_T) (N : Nat) (ty0 : Nat → FieldType), vwCl[ci]? = some (C, T, N) ∧ k < N ∧ (∀ w ∈ u_ws C T N, w ∈ WS) ∧ Cond.fieldLink own idx (T k).1 (T k).2.1 (T k).2.2.1 ∈ WS ∧ (∀ k, k < N → parseFieldDescriptor (T k).2.2.1 = some (ty0 k)) ∧ (∀ a, a < N → ∀ b, b < N → a ≠ b → (T a).2.1 ≠ (T b).2.1) ∧ (T k).2.2.2 = true ∧ ty0 k = ty ∧ (T k).1 = own
theorem a_putF {idx ci i a : Nat} {fs : List Value} {v : Value} {ty : FieldType} {ws' : va_W} (q : Nat) (hf : FLf own idx ci i ty) (hdg : decode cc pc = .ok (.putfield idx, 3)) (hn : pc + 3 = n) (he : ws[q]? = some (a, .inr (ci, fs))) (hv : narrow ty v = v) (ht : fits ty v = true) (hk : i < fs.length) (hw : ws.set q (a, .inr (ci, fs.set i v)) = ws') (kk : Ba l E A sz own cc nL d mc ms P k j n L st ws') : Ba l E A sz own cc nL d mc ms P k j pc L (v :: .ref a :: st) ws :=
  fun p e s m args below meth c H locs ls C hin hsz hA hP hD hS hl => by
    obtain ⟨C0, T, N, ty0, h1, h2, h3, h4, h5, h6, h7, h8, h9⟩ := hf
    exact va_putF C.1 C.2.1 C.2.2.2.2.1 h3 ty0 h5 h6 C.2.2.2.1 C.2.2.2.2.2.1 hP hD hS q he h1 i h2 (C.2.2.2.2.1 _ h4) (fun _ h => h) h7 hin h9 (by rw [h5 i h2, h8]) hv ht hk hdg (fun H1 locs1 hP1 hD1 hS1 => hn ▸ kk p e s m args below meth c H1 locs1 ls C hin hsz hA (hw ▸ hP1) (hw ▸ hD1) hS1 hl)
theorem a_put {idx ci i a : Nat} {fs : List Value} {v : Value} {ty : FieldType} {ws' : va_W} (q : Nat) (hf : FLp own idx ci i ty) (hdg : decode cc pc = .ok (.putfield idx, 3)) (hn : pc + 3 = n) (he : ws[q]? = some (a, .inr (ci, fs))) (hv : narrow ty v = v) (ht : fits ty v = true) (hk : i < fs.length) (hw : ws.set q (a, .inr (ci, fs.set i v)) = ws') (kk : Ba l E A sz own cc nL d mc ms P k j n L st ws') : Ba l E A sz own cc nL d mc ms P k j pc L (v :: .ref a :: st) ws :=
  fun p e s m args below meth c H locs ls C hin hsz hA hP hD hS hl => by
    obtain ⟨C0, T, N, ty0, h1, h2, h3, h4, h5, h6, h7, h8⟩ := hf
    exact va_put C.1 C.2.1 C.2.2.2.2.1 h3 ty0 h5 h6 C.2.2.2.1 C.2.2.2.2.2.1 hP hD hS q he h1 i h2 (C.2.2.2.2.1 _ h4) (fun _ h => h) h7 (by rw [h5 i h2, h8]) hv ht hk hdg (fun H1 locs1 hP1 hD1 hS1 => hn ▸ kk p e s m args below meth c H1 locs1 ls C hin hsz hA (hw ▸ hP1) (hw ▸ hD1) hS1 hl)
theorem a_iast {a N : Nat} {f : Nat → Int32} {i x : Int32} {ws' : va_W} (q : Nat) (hi : 0 ≤ i.toInt ∧ i.toInt < (N : Int)) (hdg : decode cc pc = .ok (.iastore, 1)) (hn : pc + 1 = n) (he : ws[q]? = some (a, .inl (E.2.1, N, .inl f))) (hw : ws.set q (a, .inl (E.2.1, N, .inl (upd f i.toNatClampNeg x))) = ws') (kk : Ba l E A sz own cc nL d mc ms P k j n L st ws') : Ba l E A sz own cc nL d mc ms P k j pc L (.int x :: .int i :: .ref a :: st) ws :=
  fun p e s m args below meth c H locs ls C hin hsz hA hP hD hS hl => va_iast C.1 C.2.1 C.2.2.2.2.2.1 hP hD hS q 0 he rfl (inb_vp hi) hdg (fun H1 locs1 hP1 hD1 hS1 => hn ▸ kk p e s m args below meth c H1 locs1 ls C hin hsz hA (hw ▸ hP1) (hw ▸ hD1) hS1 hl)
theorem a_aast {a N v ci t0 qk : Nat} {cA : ClassId} {r : vw_C} {vs : List Value} {f : Nat → Option Nat} {i : Int32} {ws' : va_W} (q : Nat) (hi : 0 ≤ i.toInt ∧ i.toInt < (N : Int)) (ht : (tysE E)[t0]? = some (cA, .object r.1)) (hc : vwCl[ci]? = some r) (hv : ws[qk]? = some (v, .inr (ci, vs))) (hdg : decode cc pc = .ok (.aastore, 1)) (hn : pc + 1 = n) (he : ws[q]? = some (a, .inl (cA, N, .inr (.inr (.inr (.inr f)))))) (hw : ws.set q (a, .inl (cA, N, .inr (.inr (.inr (.inr (va_up f i.toNatClampNeg (some v))))))) = ws') (kk : Ba l E A sz own cc nL d mc ms P k j n L st ws') : Ba l E A sz own cc nL d mc ms P k j pc L (.ref v :: .int i :: .ref a :: st) ws :=
  fun p e s m args below meth c H locs ls C hin hsz hA hP hD hS hl => va_astq C.1 C.2.1 C.2.2.2.2.2.1 hP hD hS q t0 qk ci he ht hv hc (inb_vp hi) hdg (fun H1 locs1 hP1 hD1 hS1 => hn ▸ kk p e s m args below meth c H1 locs1 ls C hin hsz hA (hw ▸ hP1) (hw ▸ hD1) hS1 hl)
theorem a_new {idx ci N : Nat} {Cn : String} {T : u_T} {ty : Nat → FieldType} {fs : List Value} (hw : Cond.classLink own idx Cn ∈ WS ∧ Cond.instantiable Cn N ∈ WS ∧ Cond.initialized Cn ∈ WS) (hin2 : ∀ w ∈ u_ws Cn T N, w ∈ WS) (hty : ∀ k, k < N → parseFieldDescriptor (T k).2.2.1 = some (ty k)) (hc : vwCl[ci]? = some (Cn, T, N)) (hfs : ∀ i, i < N → defaultValue (ty i) = vp_V fs i) (hcells : k + 1 ≤ mc) (hslots : j + N ≤ ms) (hdg : decode cc pc = .ok (.new idx, 3)) (hn : pc + 3 = n)
    (kk : ∀ q, Ba l E A sz own cc nL d mc ms P (k + 1) (j + N) n L (.ref q :: st) (ws ++ [(q, .inr (ci, fs))])) : Ba l E A sz own cc nL d mc ms P k j pc L st ws :=
  fun p e s m args below meth c H locs ls C hin hsz hA hP hD hS hl => va_new C.1 C.2.1 C.2.2.2.2.1 hin2 ty hty C.2.2.2.1 (C.2.2.2.2.1 _ hw.1) (C.2.2.2.2.1 _ hw.2.1) (C.2.2.2.2.1 _ hw.2.2) C.2.2.2.2.2.1 hP hD hS (fun q h => hA q (hsz ▸ h)) hc hfs hcells hslots hdg (fun q H1 hP1 hD1 hS1 => hn ▸ kk q p e s m args below meth c H1 locs ls C hin hsz hA hP1 hD1 hS1 hl)
theorem a_newi {N : Nat} {i : Int32} (hw : Cond.arrayClass .int ∈ WS) (hi : ¬ i < 0) (hN : i.toNatClampNeg = N) (hb : N * 4 ≤ 536870912) (hcells : k + 1 ≤ mc) (hslots : j + N ≤ ms) (hdg : decode cc pc = .ok (.newarray .int, 2)) (hn : pc + 2 = n)
    (kk : ∀ q, Ba l E A sz own cc nL d mc ms P (k + 1) (j + N) n L (.ref q :: st) (ws ++ [(q, .inl (E.2.1, N, .inl (fun _ => 0)))])) : Ba l E A sz own cc nL d mc ms P k j pc L (.int i :: st) ws :=
  fun p e s m args below meth c H locs ls C hin hsz hA hP hD hS hl => va_newa (atype := .int) (a0 := (N, .inl (fun _ => 0))) C.1 C.2.1 (C.2.2.2.2.1 _ hw) rfl C.2.2.2.2.2.1 hP hD hS (fun q h => hA q (hsz ▸ h)) (fun cA => rfl) hi hN hb hcells hslots hdg (fun q cA H1 hK1 hP1 hD1 hS1 => by
    have e1 : cA = E.2.1 := by
      have h1 := (hK1.2 3 _ rfl).2
      have h2 := (C.2.2.2.2.2.1.2 0 _ rfl).2
      exact Option.some.inj (h1.symm.trans h2)
    subst e1
    exact hn ▸ kk q p e s m args below meth c H1 locs ls C hin hsz hA hP1 hD1 hS1 hl)
theorem a_newq {idx N t0 : Nat} {i : Int32} {Cn : String} {cA : ClassId} (hw : Cond.classLink own idx Cn ∈ WS) (hao : ∀ s : State, Nst s → va_AO Cn s) (ht : (tysE E)[t0]? = some (cA, .object Cn)) (hi : ¬ i < 0) (hN : i.toNatClampNeg = N) (hb : N * 4 ≤ 536870912) (hcells : k + 1 ≤ mc) (hslots : j + N ≤ ms) (hdg : decode cc pc = .ok (.anewarray idx, 3)) (hn : pc + 3 = n)
    (kk : ∀ q, Ba l E A sz own cc nL d mc ms P (k + 1) (j + N) n L (.ref q :: st) (ws ++ [(q, .inl (cA, N, .inr (.inr (.inr (.inr (fun _ => none))))))])) : Ba l E A sz own cc nL d mc ms P k j pc L (.int i :: st) ws :=
  fun p e s m args below meth c H locs ls C hin hsz hA hP hD hS hl => va_newq C.1 C.2.1 C.2.2.2.1 (C.2.2.2.2.1 _ hw) (hao s C.2.2.2.2.2.2.1) C.2.2.2.2.2.1 hP hD hS (fun q h => hA q (hsz ▸ h)) hi hN hb hcells hslots hdg (fun q cB H1 hK1 hP1 hD1 hS1 => by
    have e1 : cB = cA := by
      have h1 := (hK1.2 3 _ rfl).2
      have h2 := (C.2.2.2.2.2.1.2 t0 _ ht).2
      obtain ⟨_, _, _, _, _, h3⟩ := h1
      obtain ⟨_, _, _, _, _, h4⟩ := h2
      exact Option.some.inj (h3.symm.trans h4)
    subst e1
    exact hn ▸ kk q p e s m args below meth c H1 locs ls C hin hsz hA hP1 hD1 hS1 hl)
theorem a_obj {idx a : Nat} (hw : Cond.methodLink own idx objectInit ∈ WS ∧ Cond.instanceMethod objectInit ∈ WS ∧ Cond.code objectInit ⟨#[0xb1]⟩ 1 none ∈ WS) (hd : 1 ≤ d) (hrest : (rest.map fun v => v.category).sum ≤ 8) (hdg : decode cc pc = .ok (.invokespecial idx, 3)) (hn : pc + 3 = n) (kk : Ba l E A sz own cc nL d mc ms P k j n L rest ws) : Ba l E A sz own cc nL d mc ms P k j pc L (.ref a :: rest) ws :=
  fun p e s m args below meth c H locs ls C hin hsz hA hP hD hS hl => W.objInit C.1 C.2.1 C.2.2.2.1 (C.2.2.2.2.1 _ hw.1) (C.2.2.2.2.1 _ hw.2.1) (C.2.2.2.2.1 _ hw.2.2) rfl (by rw [C.2.2.1]; exact hl.1) rfl hdg hd (by show 2 * 0 + _ + 12 ≤ 40 * d; omega) (hn ▸ kk p e s m args below meth c H locs ls C hin hsz hA hP hD hS hl)
theorem a_ret (hk : k ≤ mc) (hj : j ≤ ms) (hPw : P ws) (hdg : decode cc pc = .ok (.return_, 1)) : Ba l E A sz own cc nL d mc ms P k j pc L [] ws :=
  fun p e s m args below meth c H locs ls C hin hsz hA hP hD hS hl => W.widen hk hj (W.vret C.1 C.2.1 C.2.2.2.2.2.2.2.1 (fun t ht hW => ⟨⟨ws, hPw, rfl, by rw [ht]; exact hP, hD⟩, hS.F ht⟩) hS.2.2 hdg C.2.2.2.2.2.2.2.2)
end A1
