/-! more rows: references, longs, floats, the JDK's members -/
section B5
variable {idx0 : Nat}
variable {α : Type} {l : Launch} {E : Ev} {A : Nat → Prop} {own : String} {cc : ByteArray} {nL : Nat} {ret : Option FieldType} {d : Nat} {φ : α → Rs} {pc n : Nat} {L : List (Nat × Value)} {st rest : List Value} {ws : va_W} {X : Option α}
def rx (n : Nat) (i : Int32) : Option Nat := if 0 ≤ i.toInt ∧ i.toInt < (n : Int) then some i.toNatClampNeg else none
def gd {α : Type} (P : Prop) [Decidable P] (K : Option α) : Option α := if P then K else none
theorem b_gd {P : Prop} [Decidable P] (k : P → Bd l E A own cc nL ret d φ pc L st ws X) : Bd l E A own cc nL ret d φ pc L st ws (gd P X) := by
  unfold gd
  by_cases h : P
  · rw [if_pos h]; exact k h
  · rw [if_neg h]; exact b_none
theorem inb_nat {i : Int32} {n : Nat} (h : 0 ≤ i.toInt ∧ i.toInt < (n : Int)) : i.toNatClampNeg < n := Nat.not_le.mp fun q => inb_vp h (Or.inr q)
/-- aaload of a reference that is there: t0 is the array's place among the kinds -/
theorem b_aald {a N : Nat} {f : Nat → Option Nat} {g : Nat → Nat} {i : Int32} {C : String} {cA : ClassId} {K : Nat → Option α} (q t0 : Nat) (hdg : decode cc pc = .ok (.aaload, 1)) (hn : pc + 1 = n) (ht : (tysE E)[t0]? = some (cA, .object C)) (he : ws[q]? = some (a, .inl (cA, N, .inr (.inr (.inr (.inr f)))))) (hf : ∀ j, f j = some (g j)) (kk : ∀ j, j < N → Bd l E A own cc nL ret d φ n L (.ref (g j) :: st) ws (K j)) : Bd l E A own cc nL ret d φ pc L (.int i :: .ref a :: st) ws ((rx N i).bind K) := by
  unfold rx
  by_cases h : 0 ≤ i.toInt ∧ i.toInt < (N : Int)
  · rw [if_pos h]
    intro hX p e s m args below meth c H locs ls C hP hD hS hl
    have h1 := kk i.toNatClampNeg (inb_nat h) hX p e s m args below meth c H locs ls C hP hD hS hl
    refine va_aldq C.1 C.2.1 C.2.2.2.2.2.1 hP q t0 he ht (inb_vp h) hdg ?_
    rw [hf]
    exact hn ▸ h1
  · rw [if_neg h]
    exact fun hX => by cases hX
theorem b_null (hdg : decode cc pc = .ok (.aconst_null, 1)) (hn : pc + 1 = n) (kk : Bd l E A own cc nL ret d φ n L (.null :: st) ws X) : Bd l E A own cc nL ret d φ pc L st ws X :=
  fun hX p e s m args below meth c H locs ls C hP hD hS hl => lv_null C.1 C.2.1 hdg (hn ▸ kk hX p e s m args below meth c H locs ls C hP hD hS hl)
theorem b_aload_nN {k : Fin 4} {i : Nat} (q : Nat) (hdg : decode cc pc = .ok (.aload_n k, 1)) (hn : pc + 1 = n) (hi : (k : Nat) = i) (hl : L[q]? = some (i, .null)) (kk : Bd l E A own cc nL ret d φ n L (.null :: st) ws X) : Bd l E A own cc nL ret d φ pc L st ws X :=
  fun hX p e s m args below meth c H locs ls C hP hD hS hl' => lv_aload_nN C.1 C.2.1 hdg hi (lv_at hl' q hl) (hn ▸ kk hX p e s m args below meth c H locs ls C hP hD hS hl')
theorem b_astore_nN {k : Fin 4} {i : Nat} {L' : List (Nat × Value)} (hdg : decode cc pc = .ok (.astore_n k, 1)) (hn : pc + 1 = n) (hi : (k : Nat) = i) (hm : i < nL) (hl : (i, Value.null) :: L.filter (fun q => !(q.1 == i) && !(q.1 + 1 == i && q.2.category == 2)) = L') (kk : Bd l E A own cc nL ret d φ n L' st ws X) : Bd l E A own cc nL ret d φ pc L (.null :: st) ws X :=
  fun hX p e s m args below meth c H locs ls C hP hD hS hl' => lv_astore_nN C.1 C.2.1 hdg hi hl' hm hl (fun ls' h' => hn ▸ kk hX p e s m args below meth c H locs ls' C hP hD hS h')
theorem b_ifnull {x : Nat} {off : Int} (hdg : decode cc pc = .ok (.ifnull off, 3)) (hn : pc + 3 = n) (kk : Bd l E A own cc nL ret d φ n L st ws X) : Bd l E A own cc nL ret d φ pc L (.ref x :: st) ws X :=
  fun hX p e s m args below meth c H locs ls C hP hD hS hl => lv_ifnull C.1 C.2.1 hdg (hn ▸ kk hX p e s m args below meth c H locs ls C hP hD hS hl)
theorem b_ifnullN {off : Int} (hdg : decode cc pc = .ok (.ifnull off, 3)) (ht : (pc : Int) + off = (n : Int)) (kk : Bd l E A own cc nL ret d φ n L st ws X) : Bd l E A own cc nL ret d φ pc L (.null :: st) ws X :=
  fun hX p e s m args below meth c H locs ls C hP hD hS hl => lv_ifnullN C.1 C.2.1 hdg ht (kk hX p e s m args below meth c H locs ls C hP hD hS hl)
theorem b_ifnonnull {x : Nat} {off : Int} (hdg : decode cc pc = .ok (.ifnonnull off, 3)) (ht : (pc : Int) + off = (n : Int)) (kk : Bd l E A own cc nL ret d φ n L st ws X) : Bd l E A own cc nL ret d φ pc L (.ref x :: st) ws X :=
  fun hX p e s m args below meth c H locs ls C hP hD hS hl => lv_ifnonnull C.1 C.2.1 hdg ht (kk hX p e s m args below meth c H locs ls C hP hD hS hl)
theorem b_ifnonnullN {off : Int} (hdg : decode cc pc = .ok (.ifnonnull off, 3)) (hn : pc + 3 = n) (kk : Bd l E A own cc nL ret d φ n L st ws X) : Bd l E A own cc nL ret d φ pc L (.null :: st) ws X :=
  fun hX p e s m args below meth c H locs ls C hP hD hS hl => lv_ifnonnullN C.1 C.2.1 hdg (hn ▸ kk hX p e s m args below meth c H locs ls C hP hD hS hl)
theorem b_aret {v : Value} {rt : FieldType} {a : α} (hdg : decode cc pc = .ok (.areturn, 1)) (hr : ret = some rt) (hrt : (∃ n, rt = .object n) ∨ ∃ t, rt = .array t) (hv : v = .null ∨ ∃ a, v = .ref a) (hφ : φ a = (some v, ws)) : Bd l E A own cc nL ret d φ pc L [v] ws (some a) :=
  fun _ p e s m args below meth c H locs ls C hP hD hS hl => W.aret C.1 C.2.1 (C.2.2.2.2.2.2.2.1.trans hr) hrt hv (fun t ht hW => ⟨⟨a, rfl, by rw [hφ], by rw [hφ, ht]; exact hP⟩, hS.F ht⟩) hS.2.2 hdg C.2.2.2.2.2.2.2.2
theorem b_idiv {x y : Int32} (h : ¬ y = 0) (hdg : decode cc pc = .ok (.idiv, 1)) (hn : pc + 1 = n) (kk : Bd l E A own cc nL ret d φ n L (.int (x / y) :: st) ws X) : Bd l E A own cc nL ret d φ pc L (.int y :: .int x :: st) ws X :=
  fun hX p e s m args below meth c H locs ls C hP hD hS hl => lv_idiv C.1 C.2.1 hdg h (hn ▸ kk hX p e s m args below meth c H locs ls C hP hD hS hl)
theorem b_irem {x y : Int32} (h : ¬ y = 0) (hdg : decode cc pc = .ok (.irem, 1)) (hn : pc + 1 = n) (kk : Bd l E A own cc nL ret d φ n L (.int (x - x / y * y) :: st) ws X) : Bd l E A own cc nL ret d φ pc L (.int y :: .int x :: st) ws X :=
  fun hX p e s m args below meth c H locs ls C hP hD hS hl => lv_irem C.1 C.2.1 hdg h (hn ▸ kk hX p e s m args below meth c H locs ls C hP hD hS hl)
theorem b_i2l {x : Int32} (hdg : decode cc pc = .ok (.i2l, 1)) (hn : pc + 1 = n) (kk : Bd l E A own cc nL ret d φ n L (.long x.toInt64 :: st) ws X) : Bd l E A own cc nL ret d φ pc L (.int x :: st) ws X :=
  fun hX p e s m args below meth c H locs ls C hP hD hS hl => lv_i2l C.1 C.2.1 hdg rfl (hn ▸ kk hX p e s m args below meth c H locs ls C hP hD hS hl)
theorem b_l2i {x : Int64} (hdg : decode cc pc = .ok (.l2i, 1)) (hn : pc + 1 = n) (kk : Bd l E A own cc nL ret d φ n L (.int x.toInt32 :: st) ws X) : Bd l E A own cc nL ret d φ pc L (.long x :: st) ws X :=
  fun hX p e s m args below meth c H locs ls C hP hD hS hl => lv_l2i C.1 C.2.1 hdg rfl (hn ▸ kk hX p e s m args below meth c H locs ls C hP hD hS hl)
theorem b_lconst {k : Fin 2} {v : Int64} (hdg : decode cc pc = .ok (.lconst k, 1)) (hn : pc + 1 = n) (hv : Int64.ofNat (k : Nat) = v) (kk : Bd l E A own cc nL ret d φ n L (.long v :: st) ws X) : Bd l E A own cc nL ret d φ pc L st ws X :=
  fun hX p e s m args below meth c H locs ls C hP hD hS hl => lv_lconst C.1 C.2.1 hdg hv (hn ▸ kk hX p e s m args below meth c H locs ls C hP hD hS hl)
theorem b_ldc2 {i : Nat} {v : Int64} (hw : Cond.constantLong own i v ∈ WS) (hdg : decode cc pc = .ok (.ldc2_w i, 3)) (hn : pc + 3 = n) (k : Bd l E A own cc nL ret d φ n L (.long v :: st) ws X) : Bd l E A own cc nL ret d φ pc L st ws X :=
  fun hX p e s m args below meth c H locs ls C hP hD hS hl => lv_ldc2 C.1 C.2.1 C.2.2.2.1 (C.2.2.2.2.1 _ hw) hdg (hn ▸ k hX p e s m args below meth c H locs ls C hP hD hS hl)
theorem b_lload_n {k : Fin 4} {i : Nat} {x : Int64} (q : Nat) (hdg : decode cc pc = .ok (.lload_n k, 1)) (hn : pc + 1 = n) (hi : (k : Nat) = i) (hl : L[q]? = some (i, .long x)) (kk : Bd l E A own cc nL ret d φ n L (.long x :: st) ws X) : Bd l E A own cc nL ret d φ pc L st ws X :=
  fun hX p e s m args below meth c H locs ls C hP hD hS hl' => lv_lload_n C.1 C.2.1 hdg hi (lv_at hl' q hl) (hn ▸ kk hX p e s m args below meth c H locs ls C hP hD hS hl')
theorem b_lload {i : Nat} {x : Int64} (q : Nat) (hdg : decode cc pc = .ok (.lload i, 2)) (hn : pc + 2 = n) (hl : L[q]? = some (i, .long x)) (kk : Bd l E A own cc nL ret d φ n L (.long x :: st) ws X) : Bd l E A own cc nL ret d φ pc L st ws X :=
  fun hX p e s m args below meth c H locs ls C hP hD hS hl' => lv_lload C.1 C.2.1 hdg (lv_at hl' q hl) (hn ▸ kk hX p e s m args below meth c H locs ls C hP hD hS hl')
theorem b_lstore_n {k : Fin 4} {i : Nat} {x : Int64} {L' : List (Nat × Value)} (hdg : decode cc pc = .ok (.lstore_n k, 1)) (hn : pc + 1 = n) (hi : (k : Nat) = i) (hm : i + 1 < nL) (hl : (i, Value.long x) :: L.filter (fun q => !(q.1 == i) && (!(q.1 == i + 1) && !(q.1 + 1 == i && q.2.category == 2))) = L') (kk : Bd l E A own cc nL ret d φ n L' st ws X) : Bd l E A own cc nL ret d φ pc L (.long x :: st) ws X :=
  fun hX p e s m args below meth c H locs ls C hP hD hS hl' => lv_lstore_n C.1 C.2.1 hdg hi hl' hm hl (fun ls' h' => hn ▸ kk hX p e s m args below meth c H locs ls' C hP hD hS h')
theorem b_lstore {i : Nat} {x : Int64} {L' : List (Nat × Value)} (hdg : decode cc pc = .ok (.lstore i, 2)) (hn : pc + 2 = n) (hm : i + 1 < nL) (hl : (i, Value.long x) :: L.filter (fun q => !(q.1 == i) && (!(q.1 == i + 1) && !(q.1 + 1 == i && q.2.category == 2))) = L') (kk : Bd l E A own cc nL ret d φ n L' st ws X) : Bd l E A own cc nL ret d φ pc L (.long x :: st) ws X :=
  fun hX p e s m args below meth c H locs ls C hP hD hS hl' => lv_lstore C.1 C.2.1 hdg hl' hm hl (fun ls' h' => hn ▸ kk hX p e s m args below meth c H locs ls' C hP hD hS h')
theorem b_ladd {x y : Int64} (hdg : decode cc pc = .ok (.ladd, 1)) (hn : pc + 1 = n) (kk : Bd l E A own cc nL ret d φ n L (.long (x + y) :: st) ws X) : Bd l E A own cc nL ret d φ pc L (.long y :: .long x :: st) ws X :=
  fun hX p e s m args below meth c H locs ls C hP hD hS hl => lv_ladd C.1 C.2.1 hdg (hn ▸ kk hX p e s m args below meth c H locs ls C hP hD hS hl)
theorem b_lmul {x y : Int64} (hdg : decode cc pc = .ok (.lmul, 1)) (hn : pc + 1 = n) (kk : Bd l E A own cc nL ret d φ n L (.long (x * y) :: st) ws X) : Bd l E A own cc nL ret d φ pc L (.long y :: .long x :: st) ws X :=
  fun hX p e s m args below meth c H locs ls C hP hD hS hl => lv_lmul C.1 C.2.1 hdg (hn ▸ kk hX p e s m args below meth c H locs ls C hP hD hS hl)
theorem b_ldiv {x y : Int64} (hdg : decode cc pc = .ok (.ldiv, 1)) (hn : pc + 1 = n) (kk : ¬ y = 0 → Bd l E A own cc nL ret d φ n L (.long (x / y) :: st) ws X) : Bd l E A own cc nL ret d φ pc L (.long y :: .long x :: st) ws (gd (¬ y = 0) X) := by
  unfold gd
  by_cases h : ¬ y = 0
  · rw [if_pos h]
    exact fun hX p e s m args below meth c H locs ls C hP hD hS hl => lv_ldiv C.1 C.2.1 hdg h (hn ▸ kk h hX p e s m args below meth c H locs ls C hP hD hS hl)
  · rw [if_neg h]; exact b_none
theorem b_lshl {x : Int64} {y : Int32} (hdg : decode cc pc = .ok (.lshl, 1)) (hn : pc + 1 = n) (kk : Bd l E A own cc nL ret d φ n L (.long (x <<< (y.toInt64 &&& 63)) :: st) ws X) : Bd l E A own cc nL ret d φ pc L (.int y :: .long x :: st) ws X :=
  fun hX p e s m args below meth c H locs ls C hP hD hS hl => lv_lshl C.1 C.2.1 hdg rfl (hn ▸ kk hX p e s m args below meth c H locs ls C hP hD hS hl)
theorem b_lcmp {x y : Int64} (hdg : decode cc pc = .ok (.lcmp, 1)) (hn : pc + 1 = n) (kk : Bd l E A own cc nL ret d φ n L (.int (lg_cmp x y) :: st) ws X) : Bd l E A own cc nL ret d φ pc L (.long y :: .long x :: st) ws X :=
  fun hX p e s m args below meth c H locs ls C hP hD hS hl => W.lcmp C.1 C.2.1 hdg (hn ▸ kk hX p e s m args below meth c H locs ls C hP hD hS hl)
theorem b_i2f {x : Int32} (hdg : decode cc pc = .ok (.i2f, 1)) (hn : pc + 1 = n) (kk : Bd l E A own cc nL ret d φ n L (.float (FP.i2f x) :: st) ws X) : Bd l E A own cc nL ret d φ pc L (.int x :: st) ws X :=
  fun hX p e s m args below meth c H locs ls C hP hD hS hl => lv_i2f C.1 C.2.1 hdg (hn ▸ kk hX p e s m args below meth c H locs ls C hP hD hS hl)
theorem b_fdiv {x y : UInt32} (hdg : decode cc pc = .ok (.fdiv, 1)) (hn : pc + 1 = n) (kk : FP.fdiv x y &&& 0x7fffffff ≤ 0x7f800000 → Bd l E A own cc nL ret d φ n L (.float (FP.fdiv x y) :: st) ws X) : Bd l E A own cc nL ret d φ pc L (.float y :: .float x :: st) ws (gd (FP.fdiv x y &&& 0x7fffffff ≤ 0x7f800000) X) := by
  unfold gd
  by_cases h : FP.fdiv x y &&& 0x7fffffff ≤ 0x7f800000
  · rw [if_pos h]
    exact fun hX p e s m args below meth c H locs ls C hP hD hS hl => lv_fdiv C.1 C.2.1 hdg h (hn ▸ kk h hX p e s m args below meth c H locs ls C hP hD hS hl)
  · rw [if_neg h]; exact b_none
theorem b_fload_n {k : Fin 4} {i : Nat} {x : UInt32} (q : Nat) (hdg : decode cc pc = .ok (.fload_n k, 1)) (hn : pc + 1 = n) (hi : (k : Nat) = i) (hl : L[q]? = some (i, .float x)) (kk : Bd l E A own cc nL ret d φ n L (.float x :: st) ws X) : Bd l E A own cc nL ret d φ pc L st ws X :=
  fun hX p e s m args below meth c H locs ls C hP hD hS hl' => lv_fload_n C.1 C.2.1 hdg hi (lv_at hl' q hl) (hn ▸ kk hX p e s m args below meth c H locs ls C hP hD hS hl')
theorem b_fcmp {x y : UInt32} {op : CmpOp} (hdg : decode cc pc = .ok (.fcmp op, 1)) (hn : pc + 1 = n) (kk : Bd l E A own cc nL ret d φ n L (.int (Op.cmpValue (FP.fcmp x y) op) :: st) ws X) : Bd l E A own cc nL ret d φ pc L (.float y :: .float x :: st) ws X :=
  fun hX p e s m args below meth c H locs ls C hP hD hS hl => lv_fcmp C.1 C.2.1 hdg (hn ▸ kk hX p e s m args below meth c H locs ls C hP hD hS hl)
theorem b_f2i {x : UInt32} (hw : Cond.methodLink own idx0 ⟨"java/lang/Float", "floatToRawIntBits", "(F)I"⟩ ∈ WS ∧ Cond.native ⟨"java/lang/Float", "floatToRawIntBits", "(F)I"⟩ ∈ WS ∧ Cond.static ⟨"java/lang/Float", "floatToRawIntBits", "(F)I"⟩ ∈ WS ∧ Cond.initialized "java/lang/Float" ∈ WS) (hd : 1 ≤ d) (hrest : (rest.map fun v => v.category).sum ≤ 8) (hdg : decode cc pc = .ok (.invokestatic idx0, 3)) (hn : pc + 3 = n)
    (kk : Bd l E A own cc nL ret d φ n L (.int x.toInt32 :: rest) ws X) : Bd l E A own cc nL ret d φ pc L (.float x :: rest) ws X :=
  fun hX p e s m args below meth c H locs ls C hP hD hS hl => vn_f2i C.1 C.2.1 (C.2.2.1.trans hl.1.symm) C.2.2.2.1 (C.2.2.2.2.1 _ hw.1) (C.2.2.2.2.1 _ hw.2.1) (C.2.2.2.2.1 _ hw.2.2.1) (C.2.2.2.2.1 _ hw.2.2.2) hd (by show _ + 15 ≤ 40 * d; omega) hdg (hn ▸ kk hX p e s m args below meth c H locs ls C hP hD hS hl)
/-- System.arraycopy of ints, from 0 to 0 -/
theorem b_acopy {a0 a n0 n1 : Nat} {f g : Nat → Int32} {k : Int32} {ws' : va_W} (q0 q1 : Nat) (hw : Cond.methodLink own idx0 arraycopyName ∈ WS ∧ Cond.native arraycopyName ∈ WS ∧ Cond.static arraycopyName ∈ WS ∧ Cond.initialized "java/lang/System" ∈ WS) (hd : 1 ≤ d) (hrest : (rest.map fun v => v.category).sum ≤ 8) (hdg : decode cc pc = .ok (.invokestatic idx0, 3)) (hn : pc + 3 = n)
    (he0 : ws[q0]? = some (a0, .inl (E.2.1, n0, .inl f))) (he1 : ws[q1]? = some (a, .inl (E.2.1, n1, .inl g))) (h3 : ¬ k < 0) (h4 : k.toNatClampNeg ≤ n0) (h5 : k.toNatClampNeg ≤ n1) (hw' : ws.set q1 (a, .inl (E.2.1, n1, .inl (va_cpy f g 0 0 k.toNatClampNeg))) = ws')
    (kk : Bd l E A own cc nL ret d φ n L rest ws' X) : Bd l E A own cc nL ret d φ pc L (.int k :: .int 0 :: .ref a :: .int 0 :: .ref a0 :: rest) ws X :=
  fun hX p e s m args below meth c H locs ls C hP hD hS hl => va_copyi C.1 C.2.1 (C.2.2.1.trans hl.1.symm) C.2.2.2.1 (C.2.2.2.2.1 _ hw.1) (C.2.2.2.2.1 _ hw.2.1) (C.2.2.2.2.1 _ hw.2.2.1) (C.2.2.2.2.1 _ hw.2.2.2) C.2.2.2.2.2.1 hP hD hS q0 q1 0 0 (ty := .int) he0 he1 rfl rfl rfl (sp := 0) (dp := 0) (by decide) (by decide) h3 (by show 0 + _ ≤ _; omega) (by show 0 + _ ≤ _; omega) (fun _ _ => rfl) hd (by have hw9 : nativeFrameWords "java/lang/System" "arraycopy" 5 ≤ 20 := (by decide); show _ + (_ + 11) ≤ 40 * d; omega) hdg (fun H1 locs1 hP1 hD1 hS1 => hn ▸ kk hX p e s m args below meth c H1 locs1 ls C (hw' ▸ hP1) (hw' ▸ hD1) hS1 hl)
end B5
