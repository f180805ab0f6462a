/-! calls of constructors, and other shapes of one world -/
section GI
variable {p : Program} {l : Launch} {e : Env} {R : Room} {s : State} {m : MethodId} {args : Array Value} {below : List Frame} {meth : Method} {c : Code} {H : Heap} {locs : List Loc} {cells slots : Nat} {Q : State → Prop} {E : Ev} {A : Nat → Prop} {pc n : Nat} {ls : Array Slot} {H0 : Heap} {own : String} {cc : ByteArray} {nL : Nat}
variable {idx na d' nL' mc' ms' : Nat} {y : MethodName} {cc' : ByteArray} {rest As : List Value} {pre : va_W} {P' : va_W → Prop}
def LkI (own : String) (idx : Nat) (y : MethodName) (cc : ByteArray) (nL n : Nat) : Prop :=
  Cond.methodLink own idx y ∈ WS ∧ Cond.instanceMethod y ∈ WS ∧ Cond.initialized y.cls ∈ WS ∧ Cond.code y cc nL none ∈ WS ∧ y.name = "<init>" ∧ (y.cls ≠ "java/lang/invoke/MethodHandle" ∧ y.cls ≠ "java/lang/invoke/VarHandle") ∧ (parseMethodDescriptor y.desc).map (fun d => d.parameters.length) = some n ∧ nL ≤ 20
def LkJ (own : String) (idx : Nat) (y : MethodName) (host : String) (cc : ByteArray) (nL n : Nat) : Prop :=
  (own, idx, y, host) ∈ NWl ∧ Cond.instanceMethod y ∈ WS ∧ Cond.initialized y.cls ∈ WS ∧ Cond.code y cc nL none ∈ WS ∧ y.name = "<init>" ∧ (y.cls ≠ "java/lang/invoke/MethodHandle" ∧ y.cls ≠ "java/lang/invoke/VarHandle") ∧ (parseMethodDescriptor y.desc).map (fun d => d.parameters.length) = some n ∧ nL ≤ 20
theorem pca_fx {as : List Value} {wc : va_W} (C : Fx E own cc nL p s m args c) (hP : va_P E.1 vwCl wc H) (hD : va_D A wc) (U : State) (hU : U.heap = H) (hW : s.WarmedH U.vm) : Pca E H.size wc as as.toArray U :=
  ⟨rfl, by rw [hU], by rw [hU]; exact hP, va_K.moved hW.alike C.2.2.2.2.2.1, C.2.2.2.2.2.2.warm hW, hD.weaken (fun _ _ _ _ => trivial)⟩
/-- behind a constructor's call on the cell that came last -/
theorem w_init {q : Nat} {o : va_E} {a : Array Value} {mc ms : Nat} {g : JFrame} (hr : va_Run p l e R s m args below meth c H locs cells slots mc ms g rest (QA E (va_A [(q, o)] H.size) P' a) (va_A [(q, o)] H.size)) (hg : g = F0 m pc ls (g.stack)) (hP : va_P E.1 vwCl (pre ++ [(q, o)]) H) (hD : va_D A (pre ++ [(q, o)])) (hS : va_S A H0 H locs) (hA : ∀ z, H0.size ≤ z → A z)
    (kk : ∀ (w1 : va_W) (H1 : Heap) (locs1 : List Loc), P' w1 → va_P E.1 vwCl (pre ++ w1) H1 → va_D A (pre ++ w1) → va_S A H0 H1 locs1 → W p l e R s m args below meth c H1 locs1 (cells + mc) (slots + ms) Q (F0 m (pc + 3) ls rest)) : W p l e R s m args below meth c H locs cells slots Q g := by
  have hq : (pre ++ [(q, o)])[pre.length]? = some (q, o) := by simp
  have hAq : A q := hD.2 _ _ hq
  have hF : ∀ z, va_A [(q, o)] H.size z → A z := by
    intro z hz
    rcases hz with ⟨k, e', hk⟩ | hz
    · match k, hk with
      | 0, hk => cases hk; exact hAq
    · exact hA z (Nat.le_trans hS.1 hz)
  intro T hT X
  obtain ⟨v, st₀, t, T', L, h0, X', hL, e1, e2, ⟨⟨w1, hw, hv, hP1, hD1⟩, hz, hk⟩, st⟩ := hr T hT X
  cases hv
  rw [h0] at hz hk
  have hapart : ∀ (i : Nat) (x : Nat × va_E), pre[i]? = some x → x.1 < H.size ∧ ¬ va_A [(q, o)] H.size x.1 := by
    intro i x hx
    have hi : i < pre.length := (List.getElem?_eq_some_iff.mp hx).1
    have hx' : (pre ++ [(q, o)])[i]? = some x := by rw [List.getElem?_append_left hi]; exact hx
    have hlt := (hP i x hx').lt
    refine ⟨hlt, fun h => ?_⟩
    rcases h with ⟨k, e', hk⟩ | h
    · match k, hk with
      | 0, hk =>
        have e3 : q = x.1 := congrArg Prod.fst (Option.some.inj hk)
        have := hD.1 i pre.length x (q, o) hx' hq e3.symm
        omega
    · omega
  have hPre : va_P E.1 vwCl pre T'.heap := by
    intro i x hx
    have hi : i < pre.length := (List.getElem?_eq_some_iff.mp hx).1
    obtain ⟨g1, g2⟩ := hapart i x hx
    have := hP i x (by rw [List.getElem?_append_left hi]; exact hx)
    exact this.kept (by rw [e1]; exact hk x.1 g1 g2)
  have hDpre : va_D A pre := by
    refine ⟨fun i j x y hx hy hxy => ?_, fun i x hx => ?_⟩
    · have hi : i < pre.length := (List.getElem?_eq_some_iff.mp hx).1
      have hj : j < pre.length := (List.getElem?_eq_some_iff.mp hy).1
      exact hD.1 i j x y (by rw [List.getElem?_append_left hi]; exact hx) (by rw [List.getElem?_append_left hj]; exact hy) hxy
    · have hi : i < pre.length := (List.getElem?_eq_some_iff.mp hx).1
      exact hD.2 i x (by rw [List.getElem?_append_left hi]; exact hx)
  have hDa : va_D A (pre ++ w1) := va_D.app hDpre (hD1.weaken (fun k z _ h => hF z.1 h)) (fun i j x y hx hy hxy => (hapart i x hx).2 (by rw [hxy]; exact hD1.2 j y hy))
  obtain ⟨t2, a1, b1⟩ := kk w1 T'.heap (locs ++ L) hw (va_P.app hPre (by rw [e1]; exact hP1)) hDa
    ⟨Nat.le_trans hS.1 (by rw [e1]; exact hz), fun z h1 h2 => by rw [e1, hk z (Nat.lt_of_lt_of_le h1 hS.1) (fun h => h2 (hF z h))]; exact hS.2.1 z h1 h2, fun z hz => by
      rcases List.mem_append.mp hz with h | h
      · exact hS.2.2 z h
      · exact hF _ (hL z h)⟩ T' rfl X'
  have st2 := st t2
  rw [hg] at st2 ⊢
  exact ⟨t2, st2 a1, b1⟩
theorem g_init {q : Nat} {o : va_E} (C : Fx E own cc nL p s m args c) (hP : va_P E.1 vwCl (pre ++ [(q, o)]) H) (hD : va_D A (pre ++ [(q, o)])) (hS : va_S A H0 H locs) (hA : ∀ z, H0.size ≤ z → A z) (hls : ls.size = nL) (hlk : LkI own idx y cc' nL' na) (hct : Ca l y cc' nL' d' mc' ms' E [(q, o)] (.ref q :: As) P') (hd : d' + 1 ≤ R.frames ∧ 8 + (nL' + 11) + 40 * d' ≤ R.locals) (hcs : cells + mc' ≤ R.cells ∧ slots + ms' ≤ R.slots) (hna : As.length = na) (hrest : (rest.map fun v => v.category).sum ≤ 8) (hdg : decode cc pc = .ok (.invokespecial idx, 3))
    (kk : ∀ (w1 : va_W) (H1 : Heap) (locs1 : List Loc), P' w1 → va_P E.1 vwCl (pre ++ w1) H1 → va_D A (pre ++ w1) → va_S A H0 H1 locs1 → W p l e R s m args below meth c H1 locs1 (cells + mc') (slots + ms') Q (F0 m (pc + 3) ls rest)) : W p l e R s m args below meth c H locs cells slots Q (F0 m pc ls (As.reverse ++ .ref q :: rest)) := by
  obtain ⟨h1, h2, h4, h5, h6, h7, h8, h9⟩ := hlk
  have hw : ∀ w ∈ (Cond.code y cc' nL' none :: WS), w ∈ WS := by
    intro w hw
    rcases List.mem_cons.mp hw with rfl | h
    · exact h5
    · exact h
  have hC1 : [pre.length].map (fun i => (pre ++ [(q, o)])[i]?) = [(q, o)].map some := by simp
  obtain ⟨hPc, hDc⟩ := sub_of hP hD hC1 (by simp)
  exact w_init (va_runI (As := As) (rest := rest) (n := na) (Ts := WS) ⟨C.1, C.2.1, C.2.2.1, C.2.2.2.1, C.2.2.2.2.1⟩ (hct H.size) (cwI na C.2.2.2.2.1 (wsGood hw rfl) rfl rfl rfl (C.2.2.2.2.1 _ h4) (C.2.2.2.2.1 _ h1) (C.2.2.2.2.1 _ h2) h6 ⟨h7.1, h7.2, h8⟩ hd) ⟨QA.blind, fun U hU hW => pca_fx C hPc hDc U hU hW⟩ rfl hna hls rfl (lv_room hrest) hdg hcs) rfl hP hD hS hA kk
theorem g_initN {q : Nat} {o : va_E} {host : String} (C : Fx E own cc nL p s m args c) (hP : va_P E.1 vwCl (pre ++ [(q, o)]) H) (hD : va_D A (pre ++ [(q, o)])) (hS : va_S A H0 H locs) (hA : ∀ z, H0.size ≤ z → A z) (hls : ls.size = nL) (hlk : LkJ own idx y host cc' nL' na) (hct : Ca l y cc' nL' d' mc' ms' E [(q, o)] (.ref q :: As) P') (hd : d' + 1 ≤ R.frames ∧ 8 + (nL' + 11) + 40 * d' ≤ R.locals) (hcs : cells + mc' ≤ R.cells ∧ slots + ms' ≤ R.slots) (hna : As.length = na) (hrest : (rest.map fun v => v.category).sum ≤ 8) (hdg : decode cc pc = .ok (.invokespecial idx, 3))
    (kk : ∀ (w1 : va_W) (H1 : Heap) (locs1 : List Loc), P' w1 → va_P E.1 vwCl (pre ++ w1) H1 → va_D A (pre ++ w1) → va_S A H0 H1 locs1 → W p l e R s m args below meth c H1 locs1 (cells + mc') (slots + ms') Q (F0 m (pc + 3) ls rest)) : W p l e R s m args below meth c H locs cells slots Q (F0 m pc ls (As.reverse ++ .ref q :: rest)) := by
  obtain ⟨h1, h2, h4, h5, h6, h7, h8, h9⟩ := hlk
  have hw : ∀ w ∈ (Cond.code y cc' nL' none :: WS), w ∈ WS := by
    intro w hw
    rcases List.mem_cons.mp hw with rfl | h
    · exact h5
    · exact h
  have hC1 : [pre.length].map (fun i => (pre ++ [(q, o)])[i]?) = [(q, o)].map some := by simp
  obtain ⟨hPc, hDc⟩ := sub_of hP hD hC1 (by simp)
  exact w_init (va_runIN (host := host) (As := As) (rest := rest) (n := na) (Ts := WS) ⟨C.1, C.2.1, C.2.2.1, C.2.2.2.1, C.2.2.2.2.1⟩ (hct H.size) ⟨va_cnB na C.2.2.2.2.1 (wsGood hw rfl) rfl rfl rfl (C.2.2.2.2.2.2.1 _ h1) (C.2.2.2.2.1 _ h4) ⟨h7.1, h7.2, h8⟩ hd, h6, C.2.2.2.2.1 _ h2⟩ ⟨QA.blind, fun U hU hW => pca_fx C hPc hDc U hU hW⟩ rfl hna hls rfl (lv_room hrest) hdg hcs) rfl hP hD hS hA kk
end GI
section A2
variable {l : Launch} {E : Ev} {A : Nat → Prop} {sz : Nat} {own : String} {cc : ByteArray} {nL d mc ms : Nat} {P : va_W → Prop} {k j : Nat} {pc n : Nat} {L : List (Nat × Value)} {st rest As : List Value} {ws pre : va_W}
variable {idx na d' nL' mc' ms' : Nat} {y : MethodName} {cc' : ByteArray} {P' : va_W → Prop}
theorem fx_of {p : Program} {s : State} {m : MethodId} {args : Array Value} {meth : Method} {c : Code} {ret : Option FieldType} (C : Cx E own cc nL ret p s m args meth c) : Fx E own cc nL p s m args c := ⟨C.1, C.2.1, C.2.2.1, C.2.2.2.1, C.2.2.2.2.1, C.2.2.2.2.2.1, C.2.2.2.2.2.2.1⟩
theorem a_init {q : Nat} {o : va_E} (hlk : LkI own idx y cc' nL' na) (hct : Ca l y cc' nL' d' mc' ms' E [(q, o)] (.ref q :: As) P') (hd : d' + 1 ≤ d) (hcs : k + mc' ≤ mc ∧ j + ms' ≤ ms) (hna : As.length = na) (hst : As.reverse ++ .ref q :: rest = st) (hrest : (rest.map fun v => v.category).sum ≤ 8) (hdg : decode cc pc = .ok (.invokespecial idx, 3)) (hn : pc + 3 = n) (hws : pre ++ [(q, o)] = ws)
    (kk : ∀ w1, P' w1 → Ba l E A sz own cc nL d mc ms P (k + mc') (j + ms') n L rest (pre ++ w1)) : Ba l E A sz own cc nL d mc ms P k j pc L st ws := by
  subst hst; subst hws; subst hn
  have h9 : nL' ≤ 20 := hlk.2.2.2.2.2.2.2
  exact fun p e s m args below meth c H locs ls C hin hsz hA hP hD hS hl => g_init (fx_of C) hP hD hS (fun z h => hA z (hsz ▸ h)) hl.1 hlk hct ⟨hd, by show 8 + (nL' + 11) + 40 * d' ≤ 40 * d; omega⟩ hcs hna hrest hdg (fun w1 H1 locs1 hw hP1 hD1 hS1 => kk w1 hw p e s m args below meth c H1 locs1 ls C hin hsz hA hP1 hD1 hS1 hl)
theorem a_initN {q : Nat} {o : va_E} {host : String} (hlk : LkJ own idx y host cc' nL' na) (hct : Ca l y cc' nL' d' mc' ms' E [(q, o)] (.ref q :: As) P') (hd : d' + 1 ≤ d) (hcs : k + mc' ≤ mc ∧ j + ms' ≤ ms) (hna : As.length = na) (hst : As.reverse ++ .ref q :: rest = st) (hrest : (rest.map fun v => v.category).sum ≤ 8) (hdg : decode cc pc = .ok (.invokespecial idx, 3)) (hn : pc + 3 = n) (hws : pre ++ [(q, o)] = ws)
    (kk : ∀ w1, P' w1 → Ba l E A sz own cc nL d mc ms P (k + mc') (j + ms') n L rest (pre ++ w1)) : Ba l E A sz own cc nL d mc ms P k j pc L st ws := by
  subst hst; subst hws; subst hn
  have h9 : nL' ≤ 20 := hlk.2.2.2.2.2.2.2
  exact fun p e s m args below meth c H locs ls C hin hsz hA hP hD hS hl => g_initN (fx_of C) hP hD hS (fun z h => hA z (hsz ▸ h)) hl.1 hlk hct ⟨hd, by show 8 + (nL' + 11) + 40 * d' ≤ 40 * d; omega⟩ hcs hna hrest hdg (fun w1 H1 locs1 hw hP1 hD1 hS1 => kk w1 hw p e s m args below meth c H1 locs1 ls C hin hsz hA hP1 hD1 hS1 hl)
theorem a_mmax {x y0 z : Int32} (hw : Cond.methodLink own idx Lib.Math.max.name ∈ WS ∧ Cond.static Lib.Math.max.name ∈ WS ∧ Cond.initialized "java/lang/Math" ∈ WS ∧ Cond.code Lib.Math.max.name Lib.Math.max.code 2 (some .int) ∈ WS) (hd : 1 ≤ d) (hk : k ≤ mc ∧ j ≤ ms) (hrest : (rest.map fun v => v.category).sum ≤ 8) (hdg : decode cc pc = .ok (.invokestatic idx, 3)) (hn : pc + 3 = n) (hz : (if x < y0 then y0 else x) = z)
    (kk : Ba l E A sz own cc nL d mc ms P k j n L (.int z :: rest) ws) : Ba l E A sz own cc nL d mc ms P k j pc L (.int y0 :: .int x :: rest) ws :=
  fun p e s m args below meth c H locs ls C hin hsz hA hP hD hS hl => va_mmax C.1 C.2.1 (C.2.2.1.trans hl.1.symm) C.2.2.2.1 (C.2.2.2.2.1 _ hw.1) (C.2.2.2.2.1 _ hw.2.1) (C.2.2.2.2.1 _ hw.2.2.1) (C.2.2.2.2.1 _ hw.2.2.2) hd (by show _ + 13 ≤ 40 * d; omega) hk.1 hk.2 hdg (by rw [hz]; exact hn ▸ kk p e s m args below meth c H locs ls C hin hsz hA hP hD hS hl)
theorem a_fill {a len : Nat} {f : Nat → Int32} {v : Int32} {ws' : va_W} (q0 : Nat) (hlen : len < 2 ^ 31) (hlk : LkS own idx yFill cFill 4 none 2) (hd : 2 ≤ d) (hk : k ≤ mc ∧ j ≤ ms) (he : ws[q0]? = some (a, .inl (E.2.1, len, .inl f))) (hw : ws.set q0 (a, .inl (E.2.1, len, .inl (fun q => if q < len then v else f q))) = ws') (hrest : (rest.map fun v => v.category).sum ≤ 8) (hdg : decode cc pc = .ok (.invokestatic idx, 3)) (hn : pc + 3 = n)
    (kk : Ba l E A sz own cc nL d mc ms P k j n L rest ws') : Ba l E A sz own cc nL d mc ms P k j pc L (.int v :: .ref a :: rest) ws := by
  intro p e s m args below meth c H locs ls C hin hsz hA hP hD hS hl
  obtain ⟨h1, h2, h4, h5, h6, h7, h8⟩ := hlk
  have hwords : ∀ w ∈ (Cond.code yFill cFill 4 none :: WS), w ∈ WS := by
    intro w hw
    rcases List.mem_cons.mp hw with rfl | h
    · exact h5
    · exact h
  have hC1 : [q0].map (fun i => ws[i]?) = (hF E a len f).map some := by simp [he]
  obtain ⟨hPc, hDc⟩ := sub_of hP hD hC1 (by simp)
  have hA2 : ∀ q, Ad (hF E a len f) q → A q := fun q ⟨k, e, h⟩ => hDc.2 k _ h
  refine w_call (F := some ()) (va_runS (As := [.ref a, .int v]) (rest := rest) (n := 2) (Ts := WS) ⟨C.1, C.2.1, C.2.2.1, C.2.2.2.1, C.2.2.2.2.1⟩ (c_fill (d := 1) (Nat.le_refl _) hlen (f := f) (v := v) rfl) ⟨callB_of 2 C.2.2.2.2.1 (wsGood hwords rfl) rfl rfl rfl (C.2.2.2.2.1 _ h4) (C.2.2.2.2.1 _ h1) ⟨h6.1, h6.2, h7⟩ ⟨by show 1 + 1 ≤ d; omega, by show 8 + (4 + 11) + 40 * 1 ≤ 40 * d; omega⟩, C.2.2.2.2.1 _ h2⟩ ⟨QQ.blind, fun U hU hW => pcd_fx (s0 := s) (fx_of C) hPc hDc U hU hW⟩ rfl rfl hl.1 rfl (lv_room hrest) hdg hk) hS hA2 (fun b H1 locs1 hb hP1 hk1 hS1 => ?_)
  have hP9 : va_P E.1 vwCl (hF E a len (fun q => if q < len then v else f q)) H1 := hP1
  obtain ⟨g1, g2⟩ := va_P.patch hP hD hC1 (by simp) (by rfl) hP9 hk1
  have e9 : patch ws [q0] (hF E a len (fun q => if q < len then v else f q)) = ws' := hw
  rw [e9] at g1 g2
  exact hn ▸ kk p e s m args below meth c H1 locs1 ls C hin hsz hA g1 (hD.fst g2) hS1 hl
/-- another writing of the same cells -/
theorem a_conv {ws' : va_W} (h1 : ∀ H, va_P E.1 vwCl ws H → va_P E.1 vwCl ws' H) (h2 : ws'.map Prod.fst = ws.map Prod.fst) (kk : Ba l E A sz own cc nL d mc ms P k j pc L st ws') : Ba l E A sz own cc nL d mc ms P k j pc L st ws :=
  fun p e s m args below meth c H locs ls C hin hsz hA hP hD hS hl => kk p e s m args below meth c H locs ls C hin hsz hA (h1 H hP) (hD.fst h2) hS hl
end A2
