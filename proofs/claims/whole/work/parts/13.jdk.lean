/-! the JDK's members that the class and the reference call -/
def yFill : MethodName := ⟨"java/util/Arrays", "fill", "([II)V"⟩
def yF2I : MethodName := ⟨"java/lang/Float", "floatToIntBits", "(F)I"⟩
def yNan : MethodName := ⟨"java/lang/Float", "isNaN", "(F)Z"⟩
abbrev cFill : ByteArray := prog_14_method_103_code
abbrev cF2I : ByteArray := prog_10_method_24_code
abbrev cNan : ByteArray := prog_10_method_6_code
theorem dFill_0 : decode cFill 0 = .ok (.iconst 0, 1) := by decide +kernel
theorem dFill_1 : decode cFill 1 = .ok (.istore_n 2, 1) := by decide +kernel
theorem dFill_2 : decode cFill 2 = .ok (.aload_n 0, 1) := by decide +kernel
theorem dFill_3 : decode cFill 3 = .ok (.arraylength, 1) := by decide +kernel
theorem dFill_4 : decode cFill 4 = .ok (.istore_n 3, 1) := by decide +kernel
theorem dFill_5 : decode cFill 5 = .ok (.iload_n 2, 1) := by decide +kernel
theorem dFill_6 : decode cFill 6 = .ok (.iload_n 3, 1) := by decide +kernel
theorem dFill_7 : decode cFill 7 = .ok (.if_icmp .ge 13, 3) := by decide +kernel
theorem dFill_10 : decode cFill 10 = .ok (.aload_n 0, 1) := by decide +kernel
theorem dFill_11 : decode cFill 11 = .ok (.iload_n 2, 1) := by decide +kernel
theorem dFill_12 : decode cFill 12 = .ok (.iload_n 1, 1) := by decide +kernel
theorem dFill_13 : decode cFill 13 = .ok (.iastore, 1) := by decide +kernel
theorem dFill_14 : decode cFill 14 = .ok (.iinc 2 1, 3) := by decide +kernel
theorem dFill_17 : decode cFill 17 = .ok (.goto (-12), 3) := by decide +kernel
theorem dFill_20 : decode cFill 20 = .ok (.return_, 1) := by decide +kernel
theorem dNan_0 : decode cNan 0 = .ok (.fload_n 0, 1) := by decide +kernel
theorem dNan_1 : decode cNan 1 = .ok (.fload_n 0, 1) := by decide +kernel
theorem dNan_2 : decode cNan 2 = .ok (.fcmp .l, 1) := by decide +kernel
theorem dNan_3 : decode cNan 3 = .ok (.ifCond .eq 7, 3) := by decide +kernel
theorem dNan_6 : decode cNan 6 = .ok (.iconst 1, 1) := by decide +kernel
theorem dNan_7 : decode cNan 7 = .ok (.goto 4, 3) := by decide +kernel
theorem dNan_10 : decode cNan 10 = .ok (.iconst 0, 1) := by decide +kernel
theorem dNan_11 : decode cNan 11 = .ok (.ireturn, 1) := by decide +kernel
theorem dF2I_0 : decode cF2I 0 = .ok (.fload_n 0, 1) := by decide +kernel
theorem dF2I_1 : decode cF2I 1 = .ok (.invokestatic 59, 3) := by decide +kernel
theorem dF2I_4 : decode cF2I 4 = .ok (.ifCond .ne 8, 3) := by decide +kernel
theorem dF2I_7 : decode cF2I 7 = .ok (.fload_n 0, 1) := by decide +kernel
theorem dF2I_8 : decode cF2I 8 = .ok (.invokestatic 74, 3) := by decide +kernel
theorem dF2I_11 : decode cF2I 11 = .ok (.ireturn, 1) := by decide +kernel
theorem mm_Fill : Cond.static yFill ∈ WS ∧ Cond.initialized (yFill).cls ∈ WS ∧ Cond.code yFill cFill 4 none ∈ WS ∧ ((yFill).cls ≠ "java/lang/invoke/MethodHandle" ∧ (yFill).cls ≠ "java/lang/invoke/VarHandle") ∧ (parseMethodDescriptor (yFill).desc).map (fun d => d.parameters.length) = some 2 ∧ 4 ≤ 20 := ⟨ws_in (List.mem_of_getElem? (i := 239) (by decide +kernel)) rfl, ws_in (List.mem_of_getElem? (i := 106) (by decide +kernel)) rfl, ws_in (List.mem_of_getElem? (i := 240) (by decide +kernel)) rfl, ⟨by decide +kernel, by decide +kernel⟩, by decide +kernel, by decide⟩
theorem mm_F2I : Cond.static yF2I ∈ WS ∧ Cond.initialized (yF2I).cls ∈ WS ∧ Cond.code yF2I cF2I 1 (some .int) ∈ WS ∧ ((yF2I).cls ≠ "java/lang/invoke/MethodHandle" ∧ (yF2I).cls ≠ "java/lang/invoke/VarHandle") ∧ (parseMethodDescriptor (yF2I).desc).map (fun d => d.parameters.length) = some 1 ∧ 1 ≤ 20 := ⟨ws_in (List.mem_of_getElem? (i := 1235) (by decide +kernel)) rfl, ws_in (List.mem_of_getElem? (i := 113) (by decide +kernel)) rfl, ws_in (List.mem_of_getElem? (i := 1236) (by decide +kernel)) rfl, ⟨by decide +kernel, by decide +kernel⟩, by decide +kernel, by decide⟩
theorem mm_Nan : Cond.static yNan ∈ WS ∧ Cond.initialized (yNan).cls ∈ WS ∧ Cond.code yNan cNan 1 (some .boolean) ∈ WS ∧ ((yNan).cls ≠ "java/lang/invoke/MethodHandle" ∧ (yNan).cls ≠ "java/lang/invoke/VarHandle") ∧ (parseMethodDescriptor (yNan).desc).map (fun d => d.parameters.length) = some 1 ∧ 1 ≤ 20 := ⟨ws_in (List.mem_of_getElem? (i := 1238) (by decide +kernel)) rfl, ws_in (List.mem_of_getElem? (i := 113) (by decide +kernel)) rfl, ws_in (List.mem_of_getElem? (i := 1239) (by decide +kernel)) rfl, ⟨by decide +kernel, by decide +kernel⟩, by decide +kernel, by decide⟩
theorem lk_Nan : LkS "java/lang/Float" 59 yNan cNan 1 (some .boolean) 1 := ⟨ws_in (List.mem_of_getElem? (i := 1237) (by decide +kernel)) rfl, mm_Nan⟩
theorem lk_X7_272 : LkS RX7 272 yF2I cF2I 1 (some .int) 1 := ⟨ws_in (List.mem_of_getElem? (i := 1234) (by decide +kernel)) rfl, mm_F2I⟩
theorem lk_X0_18 : LkS RX0 18 yFill cFill 4 none 2 := ⟨ws_in (List.mem_of_getElem? (i := 238) (by decide +kernel)) rfl, mm_Fill⟩
theorem lk_X2_91 : LkS RX2 91 yFill cFill 4 none 2 := ⟨ws_in (List.mem_of_getElem? (i := 533) (by decide +kernel)) rfl, mm_Fill⟩
theorem raw_w : Cond.methodLink "java/lang/Float" 74 ⟨"java/lang/Float", "floatToRawIntBits", "(F)I"⟩ ∈ WS ∧ Cond.native ⟨"java/lang/Float", "floatToRawIntBits", "(F)I"⟩ ∈ WS ∧ Cond.static ⟨"java/lang/Float", "floatToRawIntBits", "(F)I"⟩ ∈ WS ∧ Cond.initialized "java/lang/Float" ∈ WS := ⟨ws_in (List.mem_of_getElem? (i := 1240) (by decide +kernel)) rfl, ws_in (List.mem_of_getElem? (i := 1242) (by decide +kernel)) rfl, ws_in (List.mem_of_getElem? (i := 1241) (by decide +kernel)) rfl, ws_in (List.mem_of_getElem? (i := 113) (by decide +kernel)) rfl⟩
theorem ac_X6_244 : Cond.methodLink RX6 244 arraycopyName ∈ WS ∧ Cond.native arraycopyName ∈ WS ∧ Cond.static arraycopyName ∈ WS ∧ Cond.initialized "java/lang/System" ∈ WS := ⟨ws_in (List.mem_of_getElem? (i := 763) (by decide +kernel)) rfl, ws_in (List.mem_of_getElem? (i := 765) (by decide +kernel)) rfl, ws_in (List.mem_of_getElem? (i := 764) (by decide +kernel)) rfl, ws_in (List.mem_of_getElem? (i := 111) (by decide +kernel)) rfl⟩
theorem ac_X1_36 : Cond.methodLink RX1 36 arraycopyName ∈ WS ∧ Cond.native arraycopyName ∈ WS ∧ Cond.static arraycopyName ∈ WS ∧ Cond.initialized "java/lang/System" ∈ WS := ⟨ws_in (List.mem_of_getElem? (i := 776) (by decide +kernel)) rfl, ws_in (List.mem_of_getElem? (i := 765) (by decide +kernel)) rfl, ws_in (List.mem_of_getElem? (i := 764) (by decide +kernel)) rfl, ws_in (List.mem_of_getElem? (i := 111) (by decide +kernel)) rfl⟩
theorem mw_X6_239 : Cond.methodLink RX6 239 Lib.Math.min.name ∈ WS ∧ Cond.static Lib.Math.min.name ∈ WS ∧ Cond.initialized "java/lang/Math" ∈ WS ∧ Cond.code Lib.Math.min.name Lib.Math.min.code 2 (some .int) ∈ WS := ⟨ws_in (List.mem_of_getElem? (i := 762) (by decide +kernel)) rfl, ws_in (List.mem_of_getElem? (i := 420) (by decide +kernel)) rfl, ws_in (List.mem_of_getElem? (i := 109) (by decide +kernel)) rfl, ws_in (List.mem_of_getElem? (i := 421) (by decide +kernel)) rfl⟩
theorem mm_X6_copyRow : Cond.static yX6_copyRow ∈ WS ∧ Cond.initialized (yX6_copyRow).cls ∈ WS ∧ Cond.code yX6_copyRow cX6_copyRow 2 none ∈ WS ∧ ((yX6_copyRow).cls ≠ "java/lang/invoke/MethodHandle" ∧ (yX6_copyRow).cls ≠ "java/lang/invoke/VarHandle") ∧ (parseMethodDescriptor (yX6_copyRow).desc).map (fun d => d.parameters.length) = some 2 ∧ 2 ≤ 20 := ⟨ws_in (List.mem_of_getElem? (i := 760) (by decide +kernel)) rfl, ws_in (List.mem_of_getElem? (i := 101) (by decide +kernel)) rfl, ws_in (List.mem_of_getElem? (i := 761) (by decide +kernel)) rfl, ⟨by decide +kernel, by decide +kernel⟩, by decide +kernel, by decide⟩
theorem lk_X0_28 : LkN RX0 28 yX6_copyRow "WorkflowEngine" cX6_copyRow 2 none 2 := ⟨List.mem_filterMap.mpr ⟨_, List.mem_of_getElem? (i := 759) (by decide +kernel : lw_tbl[759]? = some (Cond.methodLinkNest RX0 28 yX6_copyRow "WorkflowEngine")), rfl⟩, mm_X6_copyRow⟩
theorem lk_X2_79 : LkN RX2 79 yX6_copyRow "WorkflowEngine" cX6_copyRow 2 none 2 := ⟨List.mem_filterMap.mpr ⟨_, List.mem_of_getElem? (i := 777) (by decide +kernel : lw_tbl[777]? = some (Cond.methodLinkNest RX2 79 yX6_copyRow "WorkflowEngine")), rfl⟩, mm_X6_copyRow⟩
theorem lk_X5_38 : LkN RX5 38 yX6_copyRow "WorkflowEngine" cX6_copyRow 2 none 2 := ⟨List.mem_filterMap.mpr ⟨_, List.mem_of_getElem? (i := 766) (by decide +kernel : lw_tbl[766]? = some (Cond.methodLinkNest RX5 38 yX6_copyRow "WorkflowEngine")), rfl⟩, mm_X6_copyRow⟩
theorem inb_nI {j n : Nat} (h : j < n) (hn : n < 2 ^ 31) : 0 ≤ (nI j).toInt ∧ (nI j).toInt < (n : Int) := by rw [nI_toInt (by omega)]; omega
theorem fill_upd (v : Int32) (f : Nat → Int32) (j : Nat) : upd (fun q => if q < j then v else f q) j v = fun q => if q < j + 1 then v else f q := by
  funext q
  unfold upd
  by_cases h1 : q = j
  · subst h1; rw [if_pos rfl, if_pos (Nat.lt_succ_self _)]
  · rw [if_neg h1]
    show (if q < j then v else f q) = if q < j + 1 then v else f q
    by_cases h2 : q < j
    · rw [if_pos h2, if_pos (by omega)]
    · rw [if_neg h2, if_neg (by omega)]
abbrev hF (E : Ev) (a n : Nat) (f : Nat → Int32) : va_W := [(a, .inl (E.2.1, n, .inl f))]
theorem fill_loop {l : Launch} {E : Ev} {A : Nat → Prop} {d a n : Nat} (hn : n < 2 ^ 31) {v : Int32} {f : Nat → Int32} : ∀ (k j : Nat), j + k = n → Bd l E A "java/util/Arrays" cFill 4 none d (fun _ : Unit => (none, hF E a n (fun q => if q < n then v else f q))) 5 [(0, .ref a), (1, .int v), (2, .int (nI j)), (3, .int (nI n))] [] (hF E a n (fun q => if q < j then v else f q)) (some ()) := by
  intro k
  induction k with
  | zero =>
    intro j hj
    have hj : j = n := by omega
    subst hj
    refine b_iload_n (n := 6) 2 dFill_5 rfl rfl rfl ?_
    refine b_iload_n (n := 7) 3 dFill_6 rfl rfl rfl ?_
    refine bX (Y := if nI j < nI j then some () else some ()) (by split <;> rfl) ?_
    refine b_cmp_ge (n := 10) (tgt := 20) dFill_7 (by decide) rfl (fun h => absurd h (nI_nlt (Nat.le_refl _) hn)) (fun _ => ?_)
    exact b_vret dFill_20 rfl rfl
  | succ k ih =>
    intro j hj
    refine b_iload_n (n := 6) 2 dFill_5 rfl rfl rfl ?_
    refine b_iload_n (n := 7) 3 dFill_6 rfl rfl rfl ?_
    refine bX (Y := if nI j < nI n then some () else some ()) (by split <;> rfl) ?_
    refine b_cmp_ge (n := 10) (tgt := 20) dFill_7 (by decide) rfl (fun _ => ?_) (fun h => absurd (nI_lt (by omega) hn) h)
    refine b_aload_n (n := 11) 0 dFill_10 rfl rfl rfl ?_
    refine b_iload_n (n := 12) 2 dFill_11 rfl rfl rfl ?_
    refine b_iload_n (n := 13) 1 dFill_12 rfl rfl rfl ?_
    refine bX (Y := ck n (nI j) (some ())) (by unfold ck; rw [if_pos (inb_nI (by omega) hn)]) ?_
    refine b_iast (n := 14) (ws' := hF E a n (fun q => if q < j + 1 then v else f q)) 0 dFill_13 rfl rfl (by rw [nI_clamp (by omega), fill_upd]; rfl) ?_
    refine b_iinc (n := 17) (L' := [(2, .int (nI j + 1)), (0, .ref a), (1, .int v), (3, .int (nI n))]) 2 1 dFill_14 rfl rfl (by decide) (Nat.le_of_ble_eq_true rfl) rfl ?_
    refine b_goto (n := 5) dFill_17 (by decide) ?_
    rw [nI_1]
    refine Bd.sub (L' := [(0, .ref a), (1, .int v), (2, .int (nI (j + 1))), (3, .int (nI n))]) [1, 2, 0, 3] rfl ?_
    exact ih (j + 1) (by omega)
theorem c_fill {l : Launch} {E : Ev} {d a n : Nat} (hd : 1 ≤ d) (hn : n < 2 ^ 31) {v : Int32} {f : Nat → Int32} : Ct l yFill cFill 4 none d E (hF E a n f) [.ref a, .int v] (fun _ : Unit => (none, hF E a n (fun q => if q < n then v else f q))) (some ()) := by
  refine Ct.of2 (own := "java/util/Arrays") (L := [(0, .ref a), (1, .int v)]) rfl (by decide +kernel) (Nat.le_of_ble_eq_true rfl) rfl ?_
  refine b_iconst (n := 1) (v := 0) dFill_0 rfl (by decide) ?_
  refine b_istore_n (n := 2) (L' := [(2, .int 0), (0, .ref a), (1, .int v)]) dFill_1 rfl rfl (Nat.le_of_ble_eq_true rfl) rfl ?_
  refine b_aload_n (n := 3) 1 dFill_2 rfl rfl rfl ?_
  refine b_alen (n := 4) (v := nI n) 0 dFill_3 rfl rfl rfl ?_
  refine b_istore_n (n := 5) (L' := [(3, .int (nI n)), (2, .int 0), (0, .ref a), (1, .int v)]) dFill_4 rfl rfl (Nat.le_of_ble_eq_true rfl) rfl ?_
  refine Bd.sub (L' := [(0, .ref a), (1, .int v), (2, .int (nI 0)), (3, .int (nI n))]) [2, 3, 1, 0] (by rw [nI_0]; rfl) ?_
  have h := fill_loop (l := l) (E := E) (A := Ad (hF E a n f)) (d := d) (a := a) hn (v := v) (f := f) n 0 (by omega)
  have e : (fun q => if q < 0 then v else f q) = f := by funext q; rw [if_neg (by omega)]
  rw [e] at h
  exact h
def cpR (n : Nat) (f g : Nat → Int32) : Nat → Int32 := fun k => if k < n then f k else g k
theorem cpy_eq (n : Nat) (f g : Nat → Int32) : va_cpy f g 0 0 n = cpR n f g := by
  funext k
  unfold va_cpy cpR
  by_cases h : k < n
  · rw [if_pos ⟨Nat.zero_le _, by omega⟩, if_pos h]; simp
  · rw [if_neg (by omega), if_neg h]
abbrev hF2 (E : Ev) (a b n : Nat) (f g : Nat → Int32) : va_W := [(a, .inl (E.2.1, n, .inl f)), (b, .inl (E.2.1, n, .inl g))]
theorem c_copyRow {l : Launch} {E : Ev} {d a b n : Nat} (hd : 2 ≤ d) (hn : n < 2 ^ 31) {f g : Nat → Int32} : Ct l yX6_copyRow cX6_copyRow 2 none d E (hF2 E a b n f g) [.ref a, .ref b] (fun _ : Unit => (none, hF2 E a b n f (cpR n f g))) (some ()) := by
  refine Ct.of2 (own := RX6) (L := [(0, .ref a), (1, .ref b)]) rfl (by decide +kernel) (Nat.le_of_ble_eq_true rfl) rfl ?_
  refine b_aload_n (n := 1) 0 dX6_copyRow_0 rfl rfl rfl ?_
  refine b_iconst (n := 2) (v := 0) dX6_copyRow_1 rfl (by decide) ?_
  refine b_aload_n (n := 3) 1 dX6_copyRow_2 rfl rfl rfl ?_
  refine b_iconst (n := 4) (v := 0) dX6_copyRow_3 rfl (by decide) ?_
  refine b_aload_n (n := 5) 0 dX6_copyRow_4 rfl rfl rfl ?_
  refine b_alen (n := 6) (v := nI n) 0 dX6_copyRow_5 rfl rfl rfl ?_
  refine b_aload_n (n := 7) 1 dX6_copyRow_6 rfl rfl rfl ?_
  refine b_alen (n := 8) (v := nI n) 1 dX6_copyRow_7 rfl rfl rfl ?_
  refine b_mmin (n := 11) mw_X6_239 (by omega) (Nat.le_of_ble_eq_true rfl) dX6_copyRow_8 rfl ?_
  rw [show (if nI n < nI n then nI n else nI n) = nI n from by split <;> rfl]
  refine b_acopy (n := 14) (ws' := hF2 E a b n f (cpR n f g)) 0 1 ac_X6_244 (by omega) (Nat.le_of_ble_eq_true rfl) dX6_copyRow_11 rfl rfl rfl (nI_pos hn) (by rw [nI_clamp hn]; exact Nat.le_refl _) (by rw [nI_clamp hn]; exact Nat.le_refl _) (by rw [nI_clamp hn, cpy_eq]; rfl) ?_
  exact b_vret dX6_copyRow_14 rfl rfl
theorem Ct.of3 {α : Type} {l : Launch} {y : MethodName} {own : String} {cc : ByteArray} {nL : Nat} {ret : Option FieldType} {d : Nat} {E : Ev} {ws : va_W} {args : List Value} {φ : α → Rs} {X : Option α} {L : List (Nat × Value)} (ho : y.cls = own) (hy : plainFor y = true) (hlen : (lg_sl args).length ≤ nL) (hL : lv_args 0 args = L)
    (k : Bd l E (Ad ws) own cc nL ret d φ 0 L [] ws X) : Ct l y cc nL ret d E ws args φ X := by
  subst ho
  intro hX
  subst hL
  refine va_MetF (cc := cc) (maxL := nL) (ret := ret) hy rfl ?_
  intro p e s m args' below meth c s₁ B hml hv
  obtain ⟨rfl, hP, hK, hN, hD0⟩ := hv
  have hts := atoms_spec (ws := Cond.code y cc nL ret :: WS) B.pre
  rw [lg_entry_eq]
  exact k hX p e s m _ below meth c s.heap [] _ ⟨B.exec, B.bytes, hml, findClass_of_methodNamed B.named, fun w h => hts w (List.mem_cons_of_mem _ h), hK, hN, B.returns, B.notSynchronized⟩ hP ⟨hD0.1, fun k q h => ⟨k, q.2, h⟩⟩ va_S.rf (lv_entry args hlen)
/-- Float.floatToIntBits of what compares with itself -/
def f2bits (x : UInt32) : Option Int32 := if Op.cmpValue (FP.fcmp x x) .l = 0 then some x.toInt32 else none
theorem c_nan {l : Launch} {E : Ev} {d : Nat} {x : UInt32} : Ct l yNan cNan 1 (some .boolean) d E [] [.float x] (fun b : Bool => (some (.int (b2i b)), [])) (if Op.cmpValue (FP.fcmp x x) .l = 0 then some false else some true) := by
  refine Ct.of3 (own := "java/lang/Float") (L := [(0, .float x)]) rfl (by decide +kernel) (Nat.le_of_ble_eq_true rfl) rfl ?_
  refine b_fload_n (n := 1) 0 dNan_0 rfl rfl rfl ?_
  refine b_fload_n (n := 2) 0 dNan_1 rfl rfl rfl ?_
  refine b_fcmp (n := 3) dNan_2 rfl ?_
  refine b_if_eq (n := 6) (tgt := 10) dNan_3 (by decide) rfl (fun _ => ?_) (fun _ => ?_)
  · refine b_iconst (n := 11) (v := 0) dNan_10 rfl (by decide) ?_
    exact b_zret (b := false) dNan_11 rfl rfl
  · refine b_iconst (n := 7) (v := 1) dNan_6 rfl (by decide) ?_
    refine b_goto (n := 11) dNan_7 (by decide) ?_
    exact b_zret (b := true) dNan_11 rfl rfl
theorem c_f2i {l : Launch} {E : Ev} {d : Nat} (hd : 2 ≤ d) {x : UInt32} : Ct l yF2I cF2I 1 (some .int) d E [] [.float x] (fun v : Int32 => (some (.int v), [])) (f2bits x) := by
  refine Ct.of3 (own := "java/lang/Float") (L := [(0, .float x)]) rfl (by decide +kernel) (Nat.le_of_ble_eq_true rfl) rfl ?_
  unfold f2bits
  refine b_fload_n (n := 1) 0 dF2I_0 rfl rfl rfl ?_
  refine bX (Y := (if Op.cmpValue (FP.fcmp x x) .l = 0 then some false else some true).bind fun b : Bool => if b = true then none else some x.toInt32) (by split <;> rfl) ?_
  refine bSb (n := 4) (As := [.float x]) (rest := []) lk_Nan (c_nan (d := 0)) (by omega) rfl rfl (Nat.le_of_ble_eq_true rfl) dF2I_1 rfl (fun b => ?_)
  refine b_bnz (n := 7) (tgt := 12) dF2I_4 (by decide) rfl (fun _ => b_none) (fun _ => ?_)
  refine b_fload_n (n := 8) 0 dF2I_7 rfl rfl rfl ?_
  refine b_f2i (n := 11) raw_w (by omega) (Nat.le_of_ble_eq_true rfl) dF2I_8 rfl ?_
  exact b_iret dF2I_11 rfl rfl
section BRow
variable {α : Type} {l : Launch} {E : Ev} {A : Nat → Prop} {own : String} {cc : ByteArray} {nL : Nat} {ret : Option FieldType} {d : Nat} {φ : α → Rs} {pc n : Nat} {L : List (Nat × Value)} {st rest : List Value} {ws ws' : va_W} {X : Option α} {idx : Nat} {host : String}
/-- a row copied, in the midst of a walk: the two arrays stand at q0, q1 -/
theorem bRowN {a b len : Nat} {f g : Nat → Int32} (q0 q1 : Nat) (hq : [q0, q1].Nodup) (hlen : len < 2 ^ 31) (hlk : LkN own idx yX6_copyRow host cX6_copyRow 2 none 2) (hd : 3 ≤ d) (he0 : ws[q0]? = some (a, .inl (E.2.1, len, .inl f))) (he1 : ws[q1]? = some (b, .inl (E.2.1, len, .inl g))) (hw : ws.set q1 (b, .inl (E.2.1, len, .inl (cpR len f g))) = ws') (hrest : (rest.map fun v => v.category).sum ≤ 8) (hdg : decode cc pc = .ok (.invokestatic idx, 3)) (hn : pc + 3 = n)
    (kk : Bd l E A own cc nL ret d φ n L rest ws' X) : Bd l E A own cc nL ret d φ pc L (.ref b :: .ref a :: rest) ws X := by
  refine bX (Y := (some ()).bind fun _ => X) rfl ?_
  refine b_callN (d' := 2) [q0, q1] hlk (c_copyRow (Nat.le_refl _) hlen (f := f) (g := g)) (by omega) (by simp [he0, he1]) hq (fun _ => rfl) rfl (rest := rest) rfl hrest hdg hn (fun _ _ => ?_)
  show Bd l E A own cc nL ret d φ n L rest ((ws.set q0 (a, .inl (E.2.1, len, .inl f))).set q1 (b, .inl (E.2.1, len, .inl (cpR len f g)))) X
  have e : ws.set q0 (a, .inl (E.2.1, len, .inl f)) = ws := by
    have := patch_self [q0] [(a, .inl (E.2.1, len, .inl f))] ws (by simp [he0])
    simpa [patch] using this
  rw [e, hw]; exact kk
/-- Arrays.fill -/
theorem bFill {a len : Nat} {f : Nat → Int32} {v : Int32} (q0 : Nat) (hlen : len < 2 ^ 31) (hlk : LkS own idx yFill cFill 4 none 2) (hd : 2 ≤ d) (he : ws[q0]? = some (a, .inl (E.2.1, len, .inl f))) (hw : ws.set q0 (a, .inl (E.2.1, len, .inl (fun q => if q < len then v else f q))) = ws') (hrest : (rest.map fun v => v.category).sum ≤ 8) (hdg : decode cc pc = .ok (.invokestatic idx, 3)) (hn : pc + 3 = n)
    (kk : Bd l E A own cc nL ret d φ n L rest ws' X) : Bd l E A own cc nL ret d φ pc L (.int v :: .ref a :: rest) ws X := by
  refine bX (Y := (some ()).bind fun _ => X) rfl ?_
  refine b_callS (d' := 1) [q0] hlk (c_fill (Nat.le_refl _) hlen (f := f) (v := v)) (by omega) (by simp [he]) (by simp) (fun _ => rfl) rfl (rest := rest) rfl hrest hdg hn (fun _ _ => ?_)
  show Bd l E A own cc nL ret d φ n L rest (ws.set q0 (a, .inl (E.2.1, len, .inl (fun q => if q < len then v else f q)))) X
  rw [hw]; exact kk
theorem bSwv {S : Type} {F : Option S} {K : S → Option α} {wc : va_W} {hh : S → va_W} {As : List Value} {y : MethodName} {cc' : ByteArray} {nL' na d' : Nat} {ret' : Option FieldType} (h2 : S → va_W) (is : List Nat) (hlk : LkS own idx y cc' nL' ret' na) (hct : Ct l y cc' nL' ret' d' E wc As (fun q : S => (none, hh q)) F) (hd : d' + 1 ≤ d) (hC : is.map (fun i => ws[i]?) = wc.map some) (hnd : is.Nodup) (hfst : ∀ q, (hh q).map Prod.fst = wc.map Prod.fst) (hp : ∀ q, patch ws is (hh q) = h2 q)
    (hna : As.length = na) (hst : As.reverse ++ rest = st) (hrest : (rest.map fun v => v.category).sum ≤ 8) (hdg : decode cc pc = .ok (.invokestatic idx, 3)) (hn : pc + 3 = n)
    (kk : ∀ q, Bd l E A own cc nL ret d φ n L rest (h2 q) (K q)) : Bd l E A own cc nL ret d φ pc L st ws (F.bind K) :=
  b_callS is hlk hct hd hC hnd hfst hna hst hrest hdg hn (fun b _ => by
    show Bd l E A own cc nL ret d φ n L rest (patch ws is (hh b)) (K b)
    rw [hp]; exact kk b)
end BRow
