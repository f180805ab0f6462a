/-! reads and writes of arrays and fields, branches, ends -/
def rd (n : Nat) (f : Nat → Int32) (i : Int32) : Option Int32 := if 0 ≤ i.toInt ∧ i.toInt < (n : Int) then some (f i.toNatClampNeg) else none
def ck {α : Type} (n : Nat) (i : Int32) (K : Option α) : Option α := if 0 ≤ i.toInt ∧ i.toInt < (n : Int) then K else none
theorem inb_vp {i : Int32} {n : Nat} (h : 0 ≤ i.toInt ∧ i.toInt < (n : Int)) : vp_in i n := vp_in_iff.mpr h
/-- a field's place: the class's number, the slot's -/
def FL (own : String) (idx ci k : Nat) : Prop := ∃ (C : String) (T : u_T) (N : Nat), vwCl[ci]? = some (C, T, N) ∧ k < N ∧ (∀ w ∈ u_ws C T N, w ∈ WS) ∧ Cond.fieldLink own idx (T k).1 (T k).2.1 (T k).2.2.1 ∈ WS
def FLp (own : String) (idx ci k : Nat) (ty : FieldType) : Prop := ∃ (C : String) (T : u_T) (N : Nat) (ty0 : Nat → FieldType), vwCl[ci]? = some (C, T, N) ∧ k < N ∧ (∀ w ∈ u_ws C T N, w ∈ WS) ∧ Cond.fieldLink own idx (T k).1 (T k).2.1 (T k).2.2.1 ∈ WS ∧ (∀ k, k < N → parseFieldDescriptor (T k).2.2.1 = some (ty0 k)) ∧ (∀ a, a < N → ∀ b, b < N → a ≠ b → (T a).2.1 ≠ (T b).2.1) ∧ (T k).2.2.2 = false ∧ ty0 k = ty
def LkV (own : String) (idx : Nat) (y : MethodName) (cc : ByteArray) (nL : Nat) (ret : Option FieldType) (n : Nat) : Prop :=
  Cond.methodLink own idx y ∈ WS ∧ Cond.instanceMethod y ∈ WS ∧ Cond.selects y.cls y y ∈ WS ∧ Cond.initialized y.cls ∈ WS ∧ Cond.code y cc nL ret ∈ WS ∧ (y.cls ≠ "java/lang/invoke/MethodHandle" ∧ y.cls ≠ "java/lang/invoke/VarHandle") ∧ (parseMethodDescriptor y.desc).map (fun d => d.parameters.length) = some n ∧ nL ≤ 20
def LkS (own : String) (idx : Nat) (y : MethodName) (cc : ByteArray) (nL : Nat) (ret : Option FieldType) (n : Nat) : Prop :=
  Cond.methodLink own idx y ∈ WS ∧ Cond.static y ∈ WS ∧ Cond.initialized y.cls ∈ WS ∧ Cond.code y cc nL ret ∈ WS ∧ (y.cls ≠ "java/lang/invoke/MethodHandle" ∧ y.cls ≠ "java/lang/invoke/VarHandle") ∧ (parseMethodDescriptor y.desc).map (fun d => d.parameters.length) = some n ∧ nL ≤ 20
def LkN (own : String) (idx : Nat) (y : MethodName) (host : String) (cc : ByteArray) (nL : Nat) (ret : Option FieldType) (n : Nat) : Prop :=
  (own, idx, y, host) ∈ NWl ∧ Cond.static y ∈ WS ∧ Cond.initialized y.cls ∈ WS ∧ Cond.code y cc nL ret ∈ WS ∧ (y.cls ≠ "java/lang/invoke/MethodHandle" ∧ y.cls ≠ "java/lang/invoke/VarHandle") ∧ (parseMethodDescriptor y.desc).map (fun d => d.parameters.length) = some n ∧ nL ≤ 20
theorem va_D.fst {A : Nat → Prop} {ws w1 : va_W} (h : va_D A ws) (he : w1.map Prod.fst = ws.map Prod.fst) : va_D A w1 := by
  have key : ∀ (k : Nat) (q : Nat × va_E), w1[k]? = some q → ∃ q', ws[k]? = some q' ∧ q'.1 = q.1 := by
    intro k q hq
    have h1 : (w1.map Prod.fst)[k]? = some q.1 := by rw [List.getElem?_map, hq]; rfl
    rw [he, List.getElem?_map] at h1
    cases hw : ws[k]? with
    | none => rw [hw] at h1; cases h1
    | some q' => rw [hw] at h1; exact ⟨q', rfl, Option.some.inj h1⟩
  refine ⟨fun i j p q hp hq hpq => ?_, fun k q hq => ?_⟩
  · obtain ⟨p', h1, h2⟩ := key i p hp
    obtain ⟨q', h3, h4⟩ := key j q hq
    exact h.1 i j p' q' h1 h3 (by rw [h2, h4]; exact hpq)
  · obtain ⟨q', h3, h4⟩ := key k q hq
    rw [← h4]; exact h.2 k q' h3
def patch : va_W → List Nat → va_W → va_W
  | ws, i :: is, c :: w => patch (ws.set i c) is w
  | ws, _, _ => ws
theorem patch_at : ∀ (is : List Nat) (w ws : va_W) (k : Nat) (q : Nat × va_E), is.Nodup → is.length = w.length → (patch ws is w)[k]? = some q → (∃ j : Nat, is[j]? = some k ∧ w[j]? = some q) ∨ (k ∉ is ∧ ws[k]? = some q)
  | [], [], ws, k, q, _, _, h => Or.inr ⟨List.not_mem_nil, h⟩
  | i :: is, c :: w, ws, k, q, hn, hl, h => by
    have hn' := List.nodup_cons.mp hn
    rcases patch_at is w (ws.set i c) k q hn'.2 (by simpa using hl) h with ⟨j, h1, h2⟩ | ⟨h1, h2⟩
    · exact Or.inl ⟨j + 1, h1, h2⟩
    · by_cases hik : i = k
      · subst hik
        rw [List.getElem?_set_self'] at h2
        cases hw : ws[i]? with
        | none => rw [hw] at h2; cases h2
        | some x => rw [hw] at h2; exact Or.inl ⟨0, rfl, h2⟩
      · rw [List.getElem?_set_ne hik] at h2
        exact Or.inr ⟨fun hm => by rcases List.mem_cons.mp hm with e | e; exact hik e.symm; exact h1 e, h2⟩
theorem patch_fst : ∀ (is : List Nat) (w ws : va_W), (∀ (j i : Nat) (q : Nat × va_E), is[j]? = some i → w[j]? = some q → ∃ q', ws[i]? = some q' ∧ q'.1 = q.1) → (patch ws is w).map Prod.fst = ws.map Prod.fst
  | [], w, ws, _ => by simp [patch]
  | i :: is, [], ws, _ => by simp [patch]
  | i :: is, c :: w, ws, h => by
    have e : (ws.set i c).map Prod.fst = ws.map Prod.fst := by
      obtain ⟨q', h1, h2⟩ := h 0 i c rfl rfl
      rw [List.map_set, ← h2]
      apply List.ext_getElem?
      intro n
      by_cases hn : i = n
      · subst hn
        rw [List.getElem?_set_self', List.getElem?_map, h1]
        rfl
      · rw [List.getElem?_set_ne hn]
    show (patch (ws.set i c) is w).map Prod.fst = _
    rw [patch_fst is w (ws.set i c) ?_, e]
    intro j i' q h1 h2
    obtain ⟨q', h3, h4⟩ := h (j + 1) i' q h1 h2
    have h5 : ((ws.set i c).map Prod.fst)[i']? = some q.1 := by rw [e, List.getElem?_map, h3]; exact congrArg some h4
    rw [List.getElem?_map] at h5
    cases hw : (ws.set i c)[i']? with
    | none => rw [hw] at h5; cases h5
    | some q2 => rw [hw] at h5; exact ⟨q2, rfl, Option.some.inj h5⟩
section B2
variable {α : Type} {l : Launch} {E : Ev} {A : Nat → Prop} {own : String} {cc : ByteArray} {nL : Nat} {ret : Option FieldType} {d : Nat} {φ : α → Rs} {pc n : Nat} {L : List (Nat × Value)} {st : List Value} {ws : va_W} {X : Option α}
theorem b_get {idx ci k a : Nat} {fs : List Value} {v : Value} (q : Nat) (hf : FL own idx ci k) (hdg : decode cc pc = .ok (.getfield idx, 3)) (hn : pc + 3 = n) (he : ws[q]? = some (a, .inr (ci, fs))) (hv : fs[k]? = some v) (kk : Bd l E A own cc nL ret d φ n L (v :: st) ws X) : Bd l E A own cc nL ret d φ pc L (.ref a :: st) ws X :=
  fun hX p e s m args below meth c H locs ls C hP hD hS hl => by
    obtain ⟨C0, T, N, h1, h2, h3, h4⟩ := hf
    exact va_get C.1 C.2.1 C.2.2.2.2.1 h3 C.2.2.2.1 C.2.2.2.2.2.1 hP q he h1 k h2 (C.2.2.2.2.1 _ h4) (fun _ h => h) hv hdg (hn ▸ kk hX p e s m args below meth c H locs ls C hP hD hS hl)
theorem b_put {idx ci k a : Nat} {fs : List Value} {v : Value} {ty : FieldType} {ws' : va_W} (q : Nat) (hf : FLp own idx ci k ty) (hdg : decode cc pc = .ok (.putfield idx, 3)) (hn : pc + 3 = n) (he : ws[q]? = some (a, .inr (ci, fs))) (hv : narrow ty v = v) (ht : fits ty v = true) (hk : k < fs.length) (hw : ws.set q (a, .inr (ci, fs.set k v)) = ws') (kk : Bd l E A own cc nL ret d φ n L st ws' X) : Bd l E A own cc nL ret d φ pc L (v :: .ref a :: st) ws X :=
  fun hX p e s m args below meth c H locs ls C hP hD hS hl => by
    obtain ⟨C0, T, N, ty0, h1, h2, h3, h4, h5, h6, h7, h8⟩ := hf
    exact va_put C.1 C.2.1 C.2.2.2.2.1 h3 ty0 h5 h6 C.2.2.2.1 C.2.2.2.2.2.1 hP hD hS q he h1 k h2 (C.2.2.2.2.1 _ h4) (fun _ h => h) h7 (by rw [h5 k h2, h8]) hv ht hk hdg (fun H1 locs1 hP1 hD1 hS1 => hn ▸ kk hX p e s m args below meth c H1 locs1 ls C (hw ▸ hP1) (hw ▸ hD1) hS1 hl)
theorem b_iald {a N : Nat} {f : Nat → Int32} {i : Int32} {K : Int32 → Option α} (q : Nat) (hdg : decode cc pc = .ok (.iaload, 1)) (hn : pc + 1 = n) (he : ws[q]? = some (a, .inl (E.2.1, N, .inl f))) (kk : ∀ v, Bd l E A own cc nL ret d φ n L (.int v :: st) ws (K v)) : Bd l E A own cc nL ret d φ pc L (.int i :: .ref a :: st) ws ((rd N f i).bind K) := by
  unfold rd
  by_cases h : 0 ≤ i.toInt ∧ i.toInt < (N : Int)
  · rw [if_pos h]
    exact fun hX p e s m args below meth c H locs ls C hP hD hS hl => va_iald C.1 C.2.1 C.2.2.2.2.2.1 hP q 0 he rfl (inb_vp h) hdg (hn ▸ kk (f i.toNatClampNeg) hX p e s m args below meth c H locs ls C hP hD hS hl)
  · rw [if_neg h]
    exact fun hX => by cases hX
theorem b_iast {a N : Nat} {f : Nat → Int32} {i x : Int32} {ws' : va_W} (q : Nat) (hdg : decode cc pc = .ok (.iastore, 1)) (hn : pc + 1 = n) (he : ws[q]? = some (a, .inl (E.2.1, N, .inl f))) (hw : ws.set q (a, .inl (E.2.1, N, .inl (upd f i.toNatClampNeg x))) = ws') (kk : Bd l E A own cc nL ret d φ n L st ws' X) : Bd l E A own cc nL ret d φ pc L (.int x :: .int i :: .ref a :: st) ws (ck N i X) := by
  unfold ck
  by_cases h : 0 ≤ i.toInt ∧ i.toInt < (N : Int)
  · rw [if_pos h]
    exact fun hX p e s m args below meth c H locs ls C hP hD hS hl => va_iast C.1 C.2.1 C.2.2.2.2.2.1 hP hD hS q 0 he rfl (inb_vp h) hdg (fun H1 locs1 hP1 hD1 hS1 => hn ▸ kk hX p e s m args below meth c H1 locs1 ls C (hw ▸ hP1) (hw ▸ hD1) hS1 hl)
  · rw [if_neg h]
    exact fun hX => by cases hX
theorem b_alen {a : Nat} {x : vp_A} {v : Int32} (q : Nat) (hdg : decode cc pc = .ok (.arraylength, 1)) (hn : pc + 1 = n) (he : ws[q]? = some (a, .inl (E.2.1, x))) (hv : Int32.ofNat x.1 = v) (kk : Bd l E A own cc nL ret d φ n L (.int v :: st) ws X) : Bd l E A own cc nL ret d φ pc L (.ref a :: st) ws X :=
  fun hX p e s m args below meth c H locs ls C hP hD hS hl => va_alen C.1 C.2.1 C.2.2.2.2.2.1 hP q 0 he rfl hv hdg (hn ▸ kk hX p e s m args below meth c H locs ls C hP hD hS hl)
theorem b_dup2 {v w : Value} (hdg : decode cc pc = .ok (.dup2, 1)) (hn : pc + 1 = n) (hv : v.category = 1) (hw : w.category = 1) (kk : Bd l E A own cc nL ret d φ n L (v :: w :: v :: w :: st) ws X) : Bd l E A own cc nL ret d φ pc L (v :: w :: st) ws X :=
  fun hX p e s m args below meth c H locs ls C hP hD hS hl => lv_dup2_11 C.1 C.2.1 hdg hv hw (hn ▸ kk hX p e s m args below meth c H locs ls C hP hD hS hl)
theorem i32_le {x y : Int32} : y ≤ x ↔ ¬ x < y := by
  rw [Int32.le_iff_toInt_le, Int32.lt_iff_toInt_lt]; omega
theorem bX {X Y : Option α} (e : X = Y) (k : Bd l E A own cc nL ret d φ pc L st ws Y) : Bd l E A own cc nL ret d φ pc L st ws X := e ▸ k
section BR
variable {x y : Int32} {off : Int} {tgt : Nat} {Y : Option α}
theorem b_cmp_lt (hdg : decode cc pc = .ok (.if_icmp .lt off, 3)) (ht : (pc : Int) + off = (tgt : Int)) (hn : pc + 3 = n) (k1 : x < y → Bd l E A own cc nL ret d φ tgt L st ws X) (k2 : ¬ x < y → Bd l E A own cc nL ret d φ n L st ws Y) : Bd l E A own cc nL ret d φ pc L (.int y :: .int x :: st) ws (if x < y then X else Y) :=
  b_if (fun h hX p e s m args below meth c H locs ls C hP hD hS hl => lv_icmp_lt C.1 C.2.1 hdg ht (fun _ => k1 h hX p e s m args below meth c H locs ls C hP hD hS hl) (fun h' => absurd h h'))
    (fun h hX p e s m args below meth c H locs ls C hP hD hS hl => lv_icmp_lt C.1 C.2.1 hdg ht (fun h' => absurd h' h) (fun _ => hn ▸ k2 h hX p e s m args below meth c H locs ls C hP hD hS hl))
theorem b_cmp_ge (hdg : decode cc pc = .ok (.if_icmp .ge off, 3)) (ht : (pc : Int) + off = (tgt : Int)) (hn : pc + 3 = n) (k1 : x < y → Bd l E A own cc nL ret d φ n L st ws X) (k2 : ¬ x < y → Bd l E A own cc nL ret d φ tgt L st ws Y) : Bd l E A own cc nL ret d φ pc L (.int y :: .int x :: st) ws (if x < y then X else Y) :=
  b_if (fun h hX p e s m args below meth c H locs ls C hP hD hS hl => lv_icmp_ge C.1 C.2.1 hdg ht (fun h' => absurd h (i32_le.mp h')) (fun _ => hn ▸ k1 h hX p e s m args below meth c H locs ls C hP hD hS hl))
    (fun h hX p e s m args below meth c H locs ls C hP hD hS hl => lv_icmp_ge C.1 C.2.1 hdg ht (fun _ => k2 h hX p e s m args below meth c H locs ls C hP hD hS hl) (fun h' => absurd (i32_le.mpr h) h'))
theorem b_cmp_gt (hdg : decode cc pc = .ok (.if_icmp .gt off, 3)) (ht : (pc : Int) + off = (tgt : Int)) (hn : pc + 3 = n) (k1 : y < x → Bd l E A own cc nL ret d φ tgt L st ws X) (k2 : ¬ y < x → Bd l E A own cc nL ret d φ n L st ws Y) : Bd l E A own cc nL ret d φ pc L (.int y :: .int x :: st) ws (if y < x then X else Y) :=
  b_if (fun h hX p e s m args below meth c H locs ls C hP hD hS hl => lv_icmp_gt C.1 C.2.1 hdg ht (fun _ => k1 h hX p e s m args below meth c H locs ls C hP hD hS hl) (fun h' => absurd h h'))
    (fun h hX p e s m args below meth c H locs ls C hP hD hS hl => lv_icmp_gt C.1 C.2.1 hdg ht (fun h' => absurd h' h) (fun _ => hn ▸ k2 h hX p e s m args below meth c H locs ls C hP hD hS hl))
theorem b_cmp_le (hdg : decode cc pc = .ok (.if_icmp .le off, 3)) (ht : (pc : Int) + off = (tgt : Int)) (hn : pc + 3 = n) (k1 : y < x → Bd l E A own cc nL ret d φ n L st ws X) (k2 : ¬ y < x → Bd l E A own cc nL ret d φ tgt L st ws Y) : Bd l E A own cc nL ret d φ pc L (.int y :: .int x :: st) ws (if y < x then X else Y) :=
  b_if (fun h hX p e s m args below meth c H locs ls C hP hD hS hl => lv_icmp_le C.1 C.2.1 hdg ht (fun h' => absurd h (i32_le.mp h')) (fun _ => hn ▸ k1 h hX p e s m args below meth c H locs ls C hP hD hS hl))
    (fun h hX p e s m args below meth c H locs ls C hP hD hS hl => lv_icmp_le C.1 C.2.1 hdg ht (fun _ => k2 h hX p e s m args below meth c H locs ls C hP hD hS hl) (fun h' => absurd (i32_le.mpr h) h'))
theorem b_cmp_eq (hdg : decode cc pc = .ok (.if_icmp .eq off, 3)) (ht : (pc : Int) + off = (tgt : Int)) (hn : pc + 3 = n) (k1 : x = y → Bd l E A own cc nL ret d φ tgt L st ws X) (k2 : ¬ x = y → Bd l E A own cc nL ret d φ n L st ws Y) : Bd l E A own cc nL ret d φ pc L (.int y :: .int x :: st) ws (if x = y then X else Y) :=
  b_if (fun h hX p e s m args below meth c H locs ls C hP hD hS hl => lv_icmp_eq C.1 C.2.1 hdg ht (fun _ => k1 h hX p e s m args below meth c H locs ls C hP hD hS hl) (fun h' => absurd h h'))
    (fun h hX p e s m args below meth c H locs ls C hP hD hS hl => lv_icmp_eq C.1 C.2.1 hdg ht (fun h' => absurd h' h) (fun _ => hn ▸ k2 h hX p e s m args below meth c H locs ls C hP hD hS hl))
theorem b_cmp_ne (hdg : decode cc pc = .ok (.if_icmp .ne off, 3)) (ht : (pc : Int) + off = (tgt : Int)) (hn : pc + 3 = n) (k1 : x = y → Bd l E A own cc nL ret d φ n L st ws X) (k2 : ¬ x = y → Bd l E A own cc nL ret d φ tgt L st ws Y) : Bd l E A own cc nL ret d φ pc L (.int y :: .int x :: st) ws (if x = y then X else Y) :=
  b_if (fun h hX p e s m args below meth c H locs ls C hP hD hS hl => lv_icmp_ne C.1 C.2.1 hdg ht (fun h' => absurd h h') (fun _ => hn ▸ k1 h hX p e s m args below meth c H locs ls C hP hD hS hl))
    (fun h hX p e s m args below meth c H locs ls C hP hD hS hl => lv_icmp_ne C.1 C.2.1 hdg ht (fun _ => k2 h hX p e s m args below meth c H locs ls C hP hD hS hl) (fun h' => absurd h' h))
theorem b_if_lt (hdg : decode cc pc = .ok (.ifCond .lt off, 3)) (ht : (pc : Int) + off = (tgt : Int)) (hn : pc + 3 = n) (k1 : x < 0 → Bd l E A own cc nL ret d φ tgt L st ws X) (k2 : ¬ x < 0 → Bd l E A own cc nL ret d φ n L st ws Y) : Bd l E A own cc nL ret d φ pc L (.int x :: st) ws (if x < 0 then X else Y) :=
  b_if (fun h hX p e s m args below meth c H locs ls C hP hD hS hl => lv_if_lt C.1 C.2.1 hdg ht (fun _ => k1 h hX p e s m args below meth c H locs ls C hP hD hS hl) (fun h' => absurd h h'))
    (fun h hX p e s m args below meth c H locs ls C hP hD hS hl => lv_if_lt C.1 C.2.1 hdg ht (fun h' => absurd h' h) (fun _ => hn ▸ k2 h hX p e s m args below meth c H locs ls C hP hD hS hl))
theorem b_if_ge (hdg : decode cc pc = .ok (.ifCond .ge off, 3)) (ht : (pc : Int) + off = (tgt : Int)) (hn : pc + 3 = n) (k1 : x < 0 → Bd l E A own cc nL ret d φ n L st ws X) (k2 : ¬ x < 0 → Bd l E A own cc nL ret d φ tgt L st ws Y) : Bd l E A own cc nL ret d φ pc L (.int x :: st) ws (if x < 0 then X else Y) :=
  b_if (fun h hX p e s m args below meth c H locs ls C hP hD hS hl => lv_if_ge C.1 C.2.1 hdg ht (fun h' => absurd h (i32_le.mp h')) (fun _ => hn ▸ k1 h hX p e s m args below meth c H locs ls C hP hD hS hl))
    (fun h hX p e s m args below meth c H locs ls C hP hD hS hl => lv_if_ge C.1 C.2.1 hdg ht (fun _ => k2 h hX p e s m args below meth c H locs ls C hP hD hS hl) (fun h' => absurd (i32_le.mpr h) h'))
theorem b_if_gt (hdg : decode cc pc = .ok (.ifCond .gt off, 3)) (ht : (pc : Int) + off = (tgt : Int)) (hn : pc + 3 = n) (k1 : 0 < x → Bd l E A own cc nL ret d φ tgt L st ws X) (k2 : ¬ 0 < x → Bd l E A own cc nL ret d φ n L st ws Y) : Bd l E A own cc nL ret d φ pc L (.int x :: st) ws (if 0 < x then X else Y) :=
  b_if (fun h hX p e s m args below meth c H locs ls C hP hD hS hl => lv_if_gt C.1 C.2.1 hdg ht (fun _ => k1 h hX p e s m args below meth c H locs ls C hP hD hS hl) (fun h' => absurd h h'))
    (fun h hX p e s m args below meth c H locs ls C hP hD hS hl => lv_if_gt C.1 C.2.1 hdg ht (fun h' => absurd h' h) (fun _ => hn ▸ k2 h hX p e s m args below meth c H locs ls C hP hD hS hl))
theorem b_if_le (hdg : decode cc pc = .ok (.ifCond .le off, 3)) (ht : (pc : Int) + off = (tgt : Int)) (hn : pc + 3 = n) (k1 : 0 < x → Bd l E A own cc nL ret d φ n L st ws X) (k2 : ¬ 0 < x → Bd l E A own cc nL ret d φ tgt L st ws Y) : Bd l E A own cc nL ret d φ pc L (.int x :: st) ws (if 0 < x then X else Y) :=
  b_if (fun h hX p e s m args below meth c H locs ls C hP hD hS hl => lv_if_le C.1 C.2.1 hdg ht (fun h' => absurd h (i32_le.mp h')) (fun _ => hn ▸ k1 h hX p e s m args below meth c H locs ls C hP hD hS hl))
    (fun h hX p e s m args below meth c H locs ls C hP hD hS hl => lv_if_le C.1 C.2.1 hdg ht (fun _ => k2 h hX p e s m args below meth c H locs ls C hP hD hS hl) (fun h' => absurd (i32_le.mpr h) h'))
theorem b_if_eq (hdg : decode cc pc = .ok (.ifCond .eq off, 3)) (ht : (pc : Int) + off = (tgt : Int)) (hn : pc + 3 = n) (k1 : x = 0 → Bd l E A own cc nL ret d φ tgt L st ws X) (k2 : ¬ x = 0 → Bd l E A own cc nL ret d φ n L st ws Y) : Bd l E A own cc nL ret d φ pc L (.int x :: st) ws (if x = 0 then X else Y) :=
  b_if (fun h hX p e s m args below meth c H locs ls C hP hD hS hl => lv_if_eq C.1 C.2.1 hdg ht (fun _ => k1 h hX p e s m args below meth c H locs ls C hP hD hS hl) (fun h' => absurd h h'))
    (fun h hX p e s m args below meth c H locs ls C hP hD hS hl => lv_if_eq C.1 C.2.1 hdg ht (fun h' => absurd h' h) (fun _ => hn ▸ k2 h hX p e s m args below meth c H locs ls C hP hD hS hl))
theorem b_if_ne (hdg : decode cc pc = .ok (.ifCond .ne off, 3)) (ht : (pc : Int) + off = (tgt : Int)) (hn : pc + 3 = n) (k1 : x = 0 → Bd l E A own cc nL ret d φ n L st ws X) (k2 : ¬ x = 0 → Bd l E A own cc nL ret d φ tgt L st ws Y) : Bd l E A own cc nL ret d φ pc L (.int x :: st) ws (if x = 0 then X else Y) :=
  b_if (fun h hX p e s m args below meth c H locs ls C hP hD hS hl => lv_if_ne C.1 C.2.1 hdg ht (fun h' => absurd h h') (fun _ => hn ▸ k1 h hX p e s m args below meth c H locs ls C hP hD hS hl))
    (fun h hX p e s m args below meth c H locs ls C hP hD hS hl => lv_if_ne C.1 C.2.1 hdg ht (fun _ => k2 h hX p e s m args below meth c H locs ls C hP hD hS hl) (fun h' => absurd h' h))
def b2i (b : Bool) : Int32 := if b then 1 else 0
/-- a truth value on the stack: ifeq jumps where it is false -/
theorem b_bz {b : Bool} (hdg : decode cc pc = .ok (.ifCond .eq off, 3)) (ht : (pc : Int) + off = (tgt : Int)) (hn : pc + 3 = n) (k1 : b = true → Bd l E A own cc nL ret d φ n L st ws X) (k2 : ¬ b = true → Bd l E A own cc nL ret d φ tgt L st ws Y) : Bd l E A own cc nL ret d φ pc L (.int (b2i b) :: st) ws (if b = true then X else Y) :=
  b_if (fun h hX p e s m args below meth c H locs ls C hP hD hS hl => lv_if_eq C.1 C.2.1 hdg ht (fun h' => by subst h; exact absurd h' (by decide)) (fun _ => hn ▸ k1 h hX p e s m args below meth c H locs ls C hP hD hS hl))
    (fun h hX p e s m args below meth c H locs ls C hP hD hS hl => lv_if_eq C.1 C.2.1 hdg ht (fun _ => k2 h hX p e s m args below meth c H locs ls C hP hD hS hl) (fun h' => by rw [Bool.not_eq_true] at h; subst h; exact absurd rfl h'))
theorem b_bnz {b : Bool} (hdg : decode cc pc = .ok (.ifCond .ne off, 3)) (ht : (pc : Int) + off = (tgt : Int)) (hn : pc + 3 = n) (k1 : b = true → Bd l E A own cc nL ret d φ tgt L st ws X) (k2 : ¬ b = true → Bd l E A own cc nL ret d φ n L st ws Y) : Bd l E A own cc nL ret d φ pc L (.int (b2i b) :: st) ws (if b = true then X else Y) :=
  b_if (fun h hX p e s m args below meth c H locs ls C hP hD hS hl => lv_if_ne C.1 C.2.1 hdg ht (fun _ => k1 h hX p e s m args below meth c H locs ls C hP hD hS hl) (fun h' => by subst h; exact absurd h' (by decide)))
    (fun h hX p e s m args below meth c H locs ls C hP hD hS hl => lv_if_ne C.1 C.2.1 hdg ht (fun h' => by rw [Bool.not_eq_true] at h; subst h; exact absurd rfl h') (fun _ => hn ▸ k2 h hX p e s m args below meth c H locs ls C hP hD hS hl))
end BR
theorem b_iret {v : Int32} {a : α} (hdg : decode cc pc = .ok (.ireturn, 1)) (hr : ret = some .int) (hφ : φ a = (some (.int v), ws)) : Bd l E A own cc nL ret d φ pc L [.int v] ws (some a) :=
  fun _ p e s m args below meth c H locs ls C hP hD hS hl => W.iret C.1 C.2.1 (C.2.2.2.2.2.2.2.1.trans hr) (fun t ht hW => ⟨⟨a, rfl, by rw [hφ], by rw [hφ, ht]; exact hP⟩, hS.F ht⟩) hS.2.2 hdg C.2.2.2.2.2.2.2.2
theorem b_zret {b : Bool} {a : α} (hdg : decode cc pc = .ok (.ireturn, 1)) (hr : ret = some .boolean) (hφ : φ a = (some (.int (b2i b)), ws)) : Bd l E A own cc nL ret d φ pc L [.int (b2i b)] ws (some a) :=
  fun _ p e s m args below meth c H locs ls C hP hD hS hl => W.zret C.1 C.2.1 (C.2.2.2.2.2.2.2.1.trans hr) (by cases b <;> decide) (fun t ht hW => ⟨⟨a, rfl, by rw [hφ], by rw [hφ, ht]; exact hP⟩, hS.F ht⟩) hS.2.2 hdg C.2.2.2.2.2.2.2.2
theorem b_vret {a : α} (hdg : decode cc pc = .ok (.return_, 1)) (hr : ret = none) (hφ : φ a = (none, ws)) : Bd l E A own cc nL ret d φ pc L [] ws (some a) :=
  fun _ p e s m args below meth c H locs ls C hP hD hS hl => W.vret C.1 C.2.1 (C.2.2.2.2.2.2.2.1.trans hr) (fun t ht hW => ⟨⟨a, rfl, by rw [hφ], by rw [hφ, ht]; exact hP⟩, hS.F ht⟩) hS.2.2 hdg C.2.2.2.2.2.2.2.2
end B2
