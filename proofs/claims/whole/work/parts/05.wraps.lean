/-! calls by what they answer: i an int, b a truth value, v nothing; r they change no cell, w they do; 0 the whole list of cells, else a part of it -/
theorem patch_self : ∀ (is : List Nat) (w ws : va_W), is.map (fun i => ws[i]?) = w.map some → patch ws is w = ws
  | [], w, ws, _ => by simp [patch]
  | i :: is, [], ws, _ => by simp [patch]
  | i :: is, c :: w, ws, h => by
    simp only [List.map_cons, List.cons.injEq] at h
    have e : ws.set i c = ws := by
      apply List.ext_getElem?
      intro n
      by_cases hn : i = n
      · subst hn
        rw [List.getElem?_set_self', h.1]; rfl
      · rw [List.getElem?_set_ne hn]
    show patch (ws.set i c) is w = ws
    rw [e]
    exact patch_self is w ws h.2
theorem patch_all : ∀ (suf pre w : va_W), w.length = suf.length → patch (pre ++ suf) (List.range' pre.length suf.length) w = pre ++ w
  | [], pre, w, h => by
    cases w with
    | nil => rfl
    | cons => cases h
  | x :: suf, pre, [], h => by cases h
  | x :: suf, pre, c :: w, h => by
    show patch ((pre ++ x :: suf).set pre.length c) (List.range' (pre.length + 1) suf.length) w = _
    have e : (pre ++ x :: suf).set pre.length c = (pre ++ [c]) ++ suf := by simp
    have := patch_all suf (pre ++ [c]) w (by simpa using h)
    rw [e]
    simp only [List.length_append, List.length_singleton] at this
    rw [this]; simp
theorem range_at (ws : va_W) : (List.range ws.length).map (fun i => ws[i]?) = ws.map some := by
  apply List.ext_getElem?
  intro n
  by_cases hn : n < ws.length
  · rw [List.getElem?_map, List.getElem?_range hn, List.getElem?_map, List.getElem?_eq_getElem hn]; simp [hn]
  · rw [List.getElem?_eq_none (by simpa using hn), List.getElem?_eq_none (by simpa using hn)]
section C3
variable {α : Type} {l : Launch} {E : Ev} {A : Nat → Prop} {own : String} {cc : ByteArray} {nL : Nat} {ret : Option FieldType} {d : Nat} {φ : α → Rs} {pc n : Nat} {L : List (Nat × Value)} {st rest As : List Value} {ws wc : va_W}
variable {idx na d' nL' : Nat} {y : MethodName} {cc' : ByteArray} {ret' : Option FieldType} {host : String} {a ci : Nat} {fs : List Value} {S : Type} {hh : S → va_W}
theorem bVi {F : Option Int32} {K : Int32 → Option α} (q0 : Nat) (is : List Nat) (hlk : LkV own idx y cc' nL' ret' na) (hct : Ct l y cc' nL' ret' d' E wc (.ref a :: As) (fun v : Int32 => (some (.int v), wc)) F) (hd : d' + 1 ≤ d) (hC : is.map (fun i => ws[i]?) = wc.map some) (hnd : is.Nodup)
    (he : ws[q0]? = some (a, .inr (ci, fs))) (hci : (vwCl[ci]?).map (·.1) = some y.cls) (hna : As.length = na) (hst : As.reverse ++ .ref a :: rest = st) (hrest : (rest.map fun v => v.category).sum ≤ 8) (hdg : decode cc pc = .ok (.invokevirtual idx, 3)) (hn : pc + 3 = n)
    (kk : ∀ v, Bd l E A own cc nL ret d φ n L (.int v :: rest) ws (K v)) : Bd l E A own cc nL ret d φ pc L st ws (F.bind K) :=
  b_callV q0 is hlk hct hd hC hnd (fun _ => rfl) he hci hna hst hrest hdg hn (fun b _ => by
    show Bd l E A own cc nL ret d φ n L (.int b :: rest) (patch ws is wc) (K b)
    rw [patch_self is wc ws hC]; exact kk b)
theorem bVb {F : Option Bool} {K : Bool → Option α} (q0 : Nat) (is : List Nat) (hlk : LkV own idx y cc' nL' ret' na) (hct : Ct l y cc' nL' ret' d' E wc (.ref a :: As) (fun v : Bool => (some (.int (b2i v)), wc)) F) (hd : d' + 1 ≤ d) (hC : is.map (fun i => ws[i]?) = wc.map some) (hnd : is.Nodup)
    (he : ws[q0]? = some (a, .inr (ci, fs))) (hci : (vwCl[ci]?).map (·.1) = some y.cls) (hna : As.length = na) (hst : As.reverse ++ .ref a :: rest = st) (hrest : (rest.map fun v => v.category).sum ≤ 8) (hdg : decode cc pc = .ok (.invokevirtual idx, 3)) (hn : pc + 3 = n)
    (kk : ∀ v, Bd l E A own cc nL ret d φ n L (.int (b2i v) :: rest) ws (K v)) : Bd l E A own cc nL ret d φ pc L st ws (F.bind K) :=
  b_callV q0 is hlk hct hd hC hnd (fun _ => rfl) he hci hna hst hrest hdg hn (fun b _ => by
    show Bd l E A own cc nL ret d φ n L (.int (b2i b) :: rest) (patch ws is wc) (K b)
    rw [patch_self is wc ws hC]; exact kk b)
theorem bV0i {F : Option Int32} {K : Int32 → Option α} (q0 : Nat) (hlk : LkV own idx y cc' nL' ret' na) (hct : Ct l y cc' nL' ret' d' E ws (.ref a :: As) (fun v : Int32 => (some (.int v), ws)) F) (hd : d' + 1 ≤ d)
    (he : ws[q0]? = some (a, .inr (ci, fs))) (hci : (vwCl[ci]?).map (·.1) = some y.cls) (hna : As.length = na) (hst : As.reverse ++ .ref a :: rest = st) (hrest : (rest.map fun v => v.category).sum ≤ 8) (hdg : decode cc pc = .ok (.invokevirtual idx, 3)) (hn : pc + 3 = n)
    (kk : ∀ v, Bd l E A own cc nL ret d φ n L (.int v :: rest) ws (K v)) : Bd l E A own cc nL ret d φ pc L st ws (F.bind K) :=
  bVi q0 (List.range ws.length) hlk hct hd (range_at ws) List.nodup_range he hci hna hst hrest hdg hn kk
theorem bV0b {F : Option Bool} {K : Bool → Option α} (q0 : Nat) (hlk : LkV own idx y cc' nL' ret' na) (hct : Ct l y cc' nL' ret' d' E ws (.ref a :: As) (fun v : Bool => (some (.int (b2i v)), ws)) F) (hd : d' + 1 ≤ d)
    (he : ws[q0]? = some (a, .inr (ci, fs))) (hci : (vwCl[ci]?).map (·.1) = some y.cls) (hna : As.length = na) (hst : As.reverse ++ .ref a :: rest = st) (hrest : (rest.map fun v => v.category).sum ≤ 8) (hdg : decode cc pc = .ok (.invokevirtual idx, 3)) (hn : pc + 3 = n)
    (kk : ∀ v, Bd l E A own cc nL ret d φ n L (.int (b2i v) :: rest) ws (K v)) : Bd l E A own cc nL ret d φ pc L st ws (F.bind K) :=
  bVb q0 (List.range ws.length) hlk hct hd (range_at ws) List.nodup_range he hci hna hst hrest hdg hn kk
theorem patch_range {w ws : va_W} (h : w.map Prod.fst = ws.map Prod.fst) : patch ws (List.range ws.length) w = w := by
  have := patch_all ws [] w (by have := congrArg List.length h; simpa using this)
  simpa [List.range_eq_range'] using this
theorem bV0wv {F : Option S} {K : S → Option α} (q0 : Nat) (hlk : LkV own idx y cc' nL' ret' na) (hct : Ct l y cc' nL' ret' d' E ws (.ref a :: As) (fun q : S => (none, hh q)) F) (hd : d' + 1 ≤ d) (hfst : ∀ q, (hh q).map Prod.fst = ws.map Prod.fst)
    (he : ws[q0]? = some (a, .inr (ci, fs))) (hci : (vwCl[ci]?).map (·.1) = some y.cls) (hna : As.length = na) (hst : As.reverse ++ .ref a :: rest = st) (hrest : (rest.map fun v => v.category).sum ≤ 8) (hdg : decode cc pc = .ok (.invokevirtual idx, 3)) (hn : pc + 3 = n)
    (kk : ∀ q, Bd l E A own cc nL ret d φ n L rest (hh q) (K q)) : Bd l E A own cc nL ret d φ pc L st ws (F.bind K) :=
  b_callV q0 (List.range ws.length) hlk hct hd (range_at ws) List.nodup_range hfst he hci hna hst hrest hdg hn (fun b _ => by
    show Bd l E A own cc nL ret d φ n L rest (patch ws (List.range ws.length) (hh b)) (K b)
    rw [patch_range (hfst b)]; exact kk b)
theorem bV0wi {F : Option (Int32 × S)} {K : Int32 × S → Option α} (q0 : Nat) (hlk : LkV own idx y cc' nL' ret' na) (hct : Ct l y cc' nL' ret' d' E ws (.ref a :: As) (fun q : Int32 × S => (some (.int q.1), hh q.2)) F) (hd : d' + 1 ≤ d) (hfst : ∀ q, (hh q).map Prod.fst = ws.map Prod.fst)
    (he : ws[q0]? = some (a, .inr (ci, fs))) (hci : (vwCl[ci]?).map (·.1) = some y.cls) (hna : As.length = na) (hst : As.reverse ++ .ref a :: rest = st) (hrest : (rest.map fun v => v.category).sum ≤ 8) (hdg : decode cc pc = .ok (.invokevirtual idx, 3)) (hn : pc + 3 = n)
    (kk : ∀ v q, Bd l E A own cc nL ret d φ n L (.int v :: rest) (hh q) (K (v, q))) : Bd l E A own cc nL ret d φ pc L st ws (F.bind K) :=
  b_callV q0 (List.range ws.length) hlk hct hd (range_at ws) List.nodup_range (fun b => hfst b.2) he hci hna hst hrest hdg hn (fun b _ => by
    show Bd l E A own cc nL ret d φ n L (.int b.1 :: rest) (patch ws (List.range ws.length) (hh b.2)) (K (b.1, b.2))
    rw [patch_range (hfst b.2)]; exact kk b.1 b.2)
theorem bV0wb {F : Option (Bool × S)} {K : Bool × S → Option α} (q0 : Nat) (hlk : LkV own idx y cc' nL' ret' na) (hct : Ct l y cc' nL' ret' d' E ws (.ref a :: As) (fun q : Bool × S => (some (.int (b2i q.1)), hh q.2)) F) (hd : d' + 1 ≤ d) (hfst : ∀ q, (hh q).map Prod.fst = ws.map Prod.fst)
    (he : ws[q0]? = some (a, .inr (ci, fs))) (hci : (vwCl[ci]?).map (·.1) = some y.cls) (hna : As.length = na) (hst : As.reverse ++ .ref a :: rest = st) (hrest : (rest.map fun v => v.category).sum ≤ 8) (hdg : decode cc pc = .ok (.invokevirtual idx, 3)) (hn : pc + 3 = n)
    (kk : ∀ v q, Bd l E A own cc nL ret d φ n L (.int (b2i v) :: rest) (hh q) (K (v, q))) : Bd l E A own cc nL ret d φ pc L st ws (F.bind K) :=
  b_callV q0 (List.range ws.length) hlk hct hd (range_at ws) List.nodup_range (fun b => hfst b.2) he hci hna hst hrest hdg hn (fun b _ => by
    show Bd l E A own cc nL ret d φ n L (.int (b2i b.1) :: rest) (patch ws (List.range ws.length) (hh b.2)) (K (b.1, b.2))
    rw [patch_range (hfst b.2)]; exact kk b.1 b.2)
/-- a part of the cells is changed: h2 says what the whole list is then -/
theorem bVwv {F : Option S} {K : S → Option α} (h2 : S → va_W) (q0 : Nat) (is : List Nat) (hlk : LkV own idx y cc' nL' ret' na) (hct : Ct l y cc' nL' ret' d' E wc (.ref a :: As) (fun q : S => (none, hh q)) F) (hd : d' + 1 ≤ d) (hC : is.map (fun i => ws[i]?) = wc.map some) (hnd : is.Nodup) (hfst : ∀ q, (hh q).map Prod.fst = wc.map Prod.fst) (hp : ∀ q, patch ws is (hh q) = h2 q)
    (he : ws[q0]? = some (a, .inr (ci, fs))) (hci : (vwCl[ci]?).map (·.1) = some y.cls) (hna : As.length = na) (hst : As.reverse ++ .ref a :: rest = st) (hrest : (rest.map fun v => v.category).sum ≤ 8) (hdg : decode cc pc = .ok (.invokevirtual idx, 3)) (hn : pc + 3 = n)
    (kk : ∀ q, Bd l E A own cc nL ret d φ n L rest (h2 q) (K q)) : Bd l E A own cc nL ret d φ pc L st ws (F.bind K) :=
  b_callV q0 is hlk hct hd hC hnd hfst he hci hna hst hrest hdg hn (fun b _ => by
    show Bd l E A own cc nL ret d φ n L rest (patch ws is (hh b)) (K b)
    rw [hp]; exact kk b)
theorem bVwi {F : Option (Int32 × S)} {K : Int32 × S → Option α} (h2 : S → va_W) (q0 : Nat) (is : List Nat) (hlk : LkV own idx y cc' nL' ret' na) (hct : Ct l y cc' nL' ret' d' E wc (.ref a :: As) (fun q : Int32 × S => (some (.int q.1), hh q.2)) F) (hd : d' + 1 ≤ d) (hC : is.map (fun i => ws[i]?) = wc.map some) (hnd : is.Nodup) (hfst : ∀ q, (hh q).map Prod.fst = wc.map Prod.fst) (hp : ∀ q, patch ws is (hh q) = h2 q)
    (he : ws[q0]? = some (a, .inr (ci, fs))) (hci : (vwCl[ci]?).map (·.1) = some y.cls) (hna : As.length = na) (hst : As.reverse ++ .ref a :: rest = st) (hrest : (rest.map fun v => v.category).sum ≤ 8) (hdg : decode cc pc = .ok (.invokevirtual idx, 3)) (hn : pc + 3 = n)
    (kk : ∀ v q, Bd l E A own cc nL ret d φ n L (.int v :: rest) (h2 q) (K (v, q))) : Bd l E A own cc nL ret d φ pc L st ws (F.bind K) :=
  b_callV q0 is hlk hct hd hC hnd (fun b => hfst b.2) he hci hna hst hrest hdg hn (fun b _ => by
    show Bd l E A own cc nL ret d φ n L (.int b.1 :: rest) (patch ws is (hh b.2)) (K (b.1, b.2))
    rw [hp]; exact kk b.1 b.2)
theorem bVwb {F : Option (Bool × S)} {K : Bool × S → Option α} (h2 : S → va_W) (q0 : Nat) (is : List Nat) (hlk : LkV own idx y cc' nL' ret' na) (hct : Ct l y cc' nL' ret' d' E wc (.ref a :: As) (fun q : Bool × S => (some (.int (b2i q.1)), hh q.2)) F) (hd : d' + 1 ≤ d) (hC : is.map (fun i => ws[i]?) = wc.map some) (hnd : is.Nodup) (hfst : ∀ q, (hh q).map Prod.fst = wc.map Prod.fst) (hp : ∀ q, patch ws is (hh q) = h2 q)
    (he : ws[q0]? = some (a, .inr (ci, fs))) (hci : (vwCl[ci]?).map (·.1) = some y.cls) (hna : As.length = na) (hst : As.reverse ++ .ref a :: rest = st) (hrest : (rest.map fun v => v.category).sum ≤ 8) (hdg : decode cc pc = .ok (.invokevirtual idx, 3)) (hn : pc + 3 = n)
    (kk : ∀ v q, Bd l E A own cc nL ret d φ n L (.int (b2i v) :: rest) (h2 q) (K (v, q))) : Bd l E A own cc nL ret d φ pc L st ws (F.bind K) :=
  b_callV q0 is hlk hct hd hC hnd (fun b => hfst b.2) he hci hna hst hrest hdg hn (fun b _ => by
    show Bd l E A own cc nL ret d φ n L (.int (b2i b.1) :: rest) (patch ws is (hh b.2)) (K (b.1, b.2))
    rw [hp]; exact kk b.1 b.2)
theorem bSi {F : Option Int32} {K : Int32 → Option α} (hlk : LkS own idx y cc' nL' ret' na) (hct : Ct l y cc' nL' ret' d' E [] As (fun v : Int32 => (some (.int v), [])) F) (hd : d' + 1 ≤ d)
    (hna : As.length = na) (hst : As.reverse ++ rest = st) (hrest : (rest.map fun v => v.category).sum ≤ 8) (hdg : decode cc pc = .ok (.invokestatic idx, 3)) (hn : pc + 3 = n)
    (kk : ∀ v, Bd l E A own cc nL ret d φ n L (.int v :: rest) ws (K v)) : Bd l E A own cc nL ret d φ pc L st ws (F.bind K) :=
  b_callS [] hlk hct hd rfl List.nodup_nil (fun _ => rfl) hna hst hrest hdg hn (fun b _ => kk b)
theorem bSb {F : Option Bool} {K : Bool → Option α} (hlk : LkS own idx y cc' nL' ret' na) (hct : Ct l y cc' nL' ret' d' E [] As (fun v : Bool => (some (.int (b2i v)), [])) F) (hd : d' + 1 ≤ d)
    (hna : As.length = na) (hst : As.reverse ++ rest = st) (hrest : (rest.map fun v => v.category).sum ≤ 8) (hdg : decode cc pc = .ok (.invokestatic idx, 3)) (hn : pc + 3 = n)
    (kk : ∀ v, Bd l E A own cc nL ret d φ n L (.int (b2i v) :: rest) ws (K v)) : Bd l E A own cc nL ret d φ pc L st ws (F.bind K) :=
  b_callS [] hlk hct hd rfl List.nodup_nil (fun _ => rfl) hna hst hrest hdg hn (fun b _ => kk b)
theorem bNb {F : Option Bool} {K : Bool → Option α} (hlk : LkN own idx y host cc' nL' ret' na) (hct : Ct l y cc' nL' ret' d' E [] As (fun v : Bool => (some (.int (b2i v)), [])) F) (hd : d' + 1 ≤ d)
    (hna : As.length = na) (hst : As.reverse ++ rest = st) (hrest : (rest.map fun v => v.category).sum ≤ 8) (hdg : decode cc pc = .ok (.invokestatic idx, 3)) (hn : pc + 3 = n)
    (kk : ∀ v, Bd l E A own cc nL ret d φ n L (.int (b2i v) :: rest) ws (K v)) : Bd l E A own cc nL ret d φ pc L st ws (F.bind K) :=
  b_callN [] hlk hct hd rfl List.nodup_nil (fun _ => rfl) hna hst hrest hdg hn (fun b _ => kk b)
theorem b_mmax {x y0 : Int32} {X : Option α} (hw : Cond.methodLink own idx Lib.Math.max.name ∈ WS ∧ Cond.static Lib.Math.max.name ∈ WS ∧ Cond.initialized "java/lang/Math" ∈ WS ∧ Cond.code Lib.Math.max.name Lib.Math.max.code 2 (some .int) ∈ WS) (hd : 1 ≤ d) (hrest : (rest.map fun v => v.category).sum ≤ 8) (hdg : decode cc pc = .ok (.invokestatic idx, 3)) (hn : pc + 3 = n)
    (kk : Bd l E A own cc nL ret d φ n L (.int (if x < y0 then y0 else x) :: rest) ws X) : Bd l E A own cc nL ret d φ pc L (.int y0 :: .int x :: rest) ws X :=
  fun hX p e s m args below meth c H locs ls C hP hD hS hl => va_mmax C.1 C.2.1 (C.2.2.1.trans hl.1.symm) C.2.2.2.1 (C.2.2.2.2.1 _ hw.1) (C.2.2.2.2.1 _ hw.2.1) (C.2.2.2.2.1 _ hw.2.2.1) (C.2.2.2.2.1 _ hw.2.2.2) hd (by show _ + 13 ≤ 40 * d; omega) (Nat.zero_le _) (Nat.zero_le _) hdg (hn ▸ kk hX p e s m args below meth c H locs ls C hP hD hS hl)
theorem b_mmin {x y0 : Int32} {X : Option α} (hw : Cond.methodLink own idx Lib.Math.min.name ∈ WS ∧ Cond.static Lib.Math.min.name ∈ WS ∧ Cond.initialized "java/lang/Math" ∈ WS ∧ Cond.code Lib.Math.min.name Lib.Math.min.code 2 (some .int) ∈ WS) (hd : 1 ≤ d) (hrest : (rest.map fun v => v.category).sum ≤ 8) (hdg : decode cc pc = .ok (.invokestatic idx, 3)) (hn : pc + 3 = n)
    (kk : Bd l E A own cc nL ret d φ n L (.int (if y0 < x then y0 else x) :: rest) ws X) : Bd l E A own cc nL ret d φ pc L (.int y0 :: .int x :: rest) ws X :=
  fun hX p e s m args below meth c H locs ls C hP hD hS hl => va_mmin C.1 C.2.1 (C.2.2.1.trans hl.1.symm) C.2.2.2.1 (C.2.2.2.2.1 _ hw.1) (C.2.2.2.2.1 _ hw.2.1) (C.2.2.2.2.1 _ hw.2.2.1) (C.2.2.2.2.1 _ hw.2.2.2) hd (by show _ + 13 ≤ 40 * d; omega) (Nat.zero_le _) (Nat.zero_le _) hdg (hn ▸ kk hX p e s m args below meth c H locs ls C hP hD hS hl)
end C3
section B4
variable {α : Type} {l : Launch} {E : Ev} {A : Nat → Prop} {own : String} {cc : ByteArray} {nL : Nat} {ret : Option FieldType} {d : Nat} {φ : α → Rs} {pc n : Nat} {L : List (Nat × Value)} {st : List Value} {ws : va_W} {X : Option α}
/-- a test whose operand is written there -/
theorem b_eqT {x : Int32} {off : Int} (h : x = 0) (hdg : decode cc pc = .ok (.ifCond .eq off, 3)) (ht : (pc : Int) + off = (n : Int)) (k : Bd l E A own cc nL ret d φ n L st ws X) : Bd l E A own cc nL ret d φ pc L (.int x :: st) ws X :=
  fun hX p e s m args below meth c H locs ls C hP hD hS hl => lv_if_eq C.1 C.2.1 hdg ht (fun _ => k hX p e s m args below meth c H locs ls C hP hD hS hl) (fun h' => absurd h h')
theorem b_eqF {x : Int32} {off : Int} {tgt : Nat} (h : ¬ x = 0) (hdg : decode cc pc = .ok (.ifCond .eq off, 3)) (ht : (pc : Int) + off = (tgt : Int)) (hn : pc + 3 = n) (k : Bd l E A own cc nL ret d φ n L st ws X) : Bd l E A own cc nL ret d φ pc L (.int x :: st) ws X :=
  fun hX p e s m args below meth c H locs ls C hP hD hS hl => lv_if_eq C.1 C.2.1 hdg ht (fun h' => absurd h' h) (fun _ => hn ▸ k hX p e s m args below meth c H locs ls C hP hD hS hl)
theorem b_neT {x : Int32} {off : Int} (h : ¬ x = 0) (hdg : decode cc pc = .ok (.ifCond .ne off, 3)) (ht : (pc : Int) + off = (n : Int)) (k : Bd l E A own cc nL ret d φ n L st ws X) : Bd l E A own cc nL ret d φ pc L (.int x :: st) ws X :=
  fun hX p e s m args below meth c H locs ls C hP hD hS hl => lv_if_ne C.1 C.2.1 hdg ht (fun _ => k hX p e s m args below meth c H locs ls C hP hD hS hl) (fun h' => absurd h' h)
theorem b_neF {x : Int32} {off : Int} {tgt : Nat} (h : x = 0) (hdg : decode cc pc = .ok (.ifCond .ne off, 3)) (ht : (pc : Int) + off = (tgt : Int)) (hn : pc + 3 = n) (k : Bd l E A own cc nL ret d φ n L st ws X) : Bd l E A own cc nL ret d φ pc L (.int x :: st) ws X :=
  fun hX p e s m args below meth c H locs ls C hP hD hS hl => lv_if_ne C.1 C.2.1 hdg ht (fun h' => absurd h h') (fun _ => hn ▸ k hX p e s m args below meth c H locs ls C hP hD hS hl)
/-- a switch, where the number is known -/
theorem b_tsIn {dflt lo hi off : Int} {offs : Array Int} {len : Nat} {x w : Int32} (hx : x = w) (hdg : decode cc pc = .ok (.tableswitch dflt lo hi offs, len)) (h1 : ¬ w.toInt < lo) (h2 : ¬ hi < w.toInt) (ho : offs[(w.toInt - lo).toNat]? = some off) (ht : (pc : Int) + off = (n : Int)) (k : Bd l E A own cc nL ret d φ n L st ws X) : Bd l E A own cc nL ret d φ pc L (.int x :: st) ws X :=
  fun hX p e s m args below meth c H locs ls C hP hD hS hl => by subst hx; exact lv_tableIn C.1 C.2.1 hdg h1 h2 ho ht (k hX p e s m args below meth c H locs ls C hP hD hS hl)
theorem b_tsOut {dflt lo hi : Int} {offs : Array Int} {len : Nat} {x : Int32} (hdg : decode cc pc = .ok (.tableswitch dflt lo hi offs, len)) (h : x.toInt < lo ∨ hi < x.toInt) (ht : (pc : Int) + dflt = (n : Int)) (k : Bd l E A own cc nL ret d φ n L st ws X) : Bd l E A own cc nL ret d φ pc L (.int x :: st) ws X :=
  fun hX p e s m args below meth c H locs ls C hP hD hS hl => lv_tableOut C.1 C.2.1 hdg h ht (k hX p e s m args below meth c H locs ls C hP hD hS hl)
theorem b_lsw {dflt off : Int} {ps : Array (Int × Int)} {len : Nat} {x : Int32} (hdg : decode cc pc = .ok (.lookupswitch dflt ps, len)) (hp : (ps.toList.zip (ps.toList.drop 1)).all (fun (a, next) => a.1 < next.1) = true) (ho : Op.lookupswitch.offset ps.toList dflt x.toInt = off) (ht : (pc : Int) + off = (n : Int)) (k : Bd l E A own cc nL ret d φ n L st ws X) : Bd l E A own cc nL ret d φ pc L (.int x :: st) ws X :=
  fun hX p e s m args below meth c H locs ls C hP hD hS hl => lv_lookup C.1 C.2.1 hdg hp ho ht (k hX p e s m args below meth c H locs ls C hP hD hS hl)
theorem i32_ne {x w : Int32} {k : Int} (h : ¬ x = w) (hk : w.toInt = k) : x.toInt ≠ k := fun e => h (Int32.toInt_inj.mp (e.trans hk.symm))
theorem b_none : Bd l E A own cc nL ret d φ pc L st ws (none : Option α) := fun h => by cases h
end B4
/-! memories: cells of ints by number and place -/
abbrev Mem : Type := Nat → Nat → Int32
def up (m : Mem) (c i : Nat) (v : Int32) : Mem := fun c' => cond (Nat.beq c' c) (upd (m c) i v) (m c')
/-- a whole array put in place of another -/
def upA (m : Mem) (c : Nat) (f : Nat → Int32) : Mem := fun c' => cond (Nat.beq c' c) f (m c')
