/-! calls -/
theorem QQ.blind {E : Ev} {ws : va_W} {args : List Value} : FrameBlind (Pcd E ws args) := fun a U g mk q => by
  obtain ⟨q0, qP, qK, qN, qD⟩ := q
  exact ⟨q0, qP, va_K.moved (u := U) (U := U.calling g mk a) (Vm.Alike.refl U.vm) qK, Nst.same (U := U.calling g mk a) rfl qN, qD⟩
theorem wsGood {Ts ws : List Cond} (h : ∀ w ∈ ws, w ∈ WS) (hT : Ts = WS) : GoodIn Ts ws := fun w hw => by
  subst hT; exact ws_of (h w hw)
section C1
variable {α β : Type} {p : Program} {l : Launch} {e : Env} {R : Room} {s : State} {m : MethodId} {args : Array Value} {below : List Frame} {meth : Method} {c : Code} {H : Heap} {locs : List Loc} {Q : State → Prop} {E : Ev} {A A1 : Nat → Prop} {pc : Nat} {ls : Array Slot} {rest st0 : List Value} {a : Array Value} {H0 : Heap}
theorem w_call {cells slots : Nat} {F : Option β} {ψ : β → Rs} (hr : va_Run p l e R s m args below meth c H locs cells slots 0 0 (F0 m pc ls st0) rest (QQ E A1 F ψ a) A1) (hS : va_S A H0 H locs) (hA : ∀ q, A1 q → A q)
    (kk : ∀ (b : β) (H1 : Heap) (locs1 : List Loc), F = some b → va_P E.1 vwCl (ψ b).2 H1 → (∀ q : Nat, q < H.size → ¬ A1 q → H1[q]? = H[q]?) → va_S A H0 H1 locs1 → W p l e R s m args below meth c H1 locs1 cells slots Q (F0 m (pc + 3) ls ((ψ b).1.toList ++ rest))) : W p l e R s m args below meth c H locs cells slots Q (F0 m pc ls st0) := by
  intro T hT X
  obtain ⟨v, st₀, t, T', L, h0, X', hL, e1, e2, ⟨⟨b, hF, hv, hP⟩, hz, hk⟩, st⟩ := hr T hT X
  cases hv
  rw [h0] at hz hk
  obtain ⟨t2, a1, b1⟩ := kk b T'.heap (locs ++ L) hF (by rw [e1]; exact hP) (fun q h1 h2 => by rw [e1]; exact hk q h1 h2)
    ⟨Nat.le_trans hS.1 (by rw [e1]; exact hz), fun q h1 h2 => by rw [e1, hk q (Nat.lt_of_lt_of_le h1 hS.1) (fun z => h2 (hA q z))]; exact hS.2.1 q h1 h2, fun q hq => by
      rcases List.mem_append.mp hq with h | h
      · exact hS.2.2 q h
      · exact hA _ (hL q h)⟩ T' rfl X'
  exact ⟨t2, st t2 a1, b1⟩
/-- behind a call on a part of the cells: the rest stands as it was -/
theorem va_P.patch {ws wc w1 : va_W} {H H1 : Heap} {is : List Nat} (hP : va_P E.1 vwCl ws H) (hD : va_D A ws) (hC : is.map (fun i => ws[i]?) = wc.map some) (hnd : is.Nodup) (hfst : w1.map Prod.fst = wc.map Prod.fst) (hP1 : va_P E.1 vwCl w1 H1) (hk : ∀ q : Nat, q < H.size → ¬ Ad wc q → H1[q]? = H[q]?) : va_P E.1 vwCl (patch ws is w1) H1 ∧ (patch ws is w1).map Prod.fst = ws.map Prod.fst := by
  have hlen1 : is.length = wc.length := by have := congrArg List.length hC; simpa using this
  have hlen2 : w1.length = wc.length := by have := congrArg List.length hfst; simpa using this
  have hat : ∀ (j i : Nat), is[j]? = some i → ∃ q, wc[j]? = some q ∧ ws[i]? = some q := by
    intro j i hj
    have h1 : (is.map (fun i => ws[i]?))[j]? = some (ws[i]?) := by rw [List.getElem?_map, hj]; rfl
    rw [hC, List.getElem?_map] at h1
    cases hw : wc[j]? with
    | none => rw [hw] at h1; cases h1
    | some q => rw [hw] at h1; exact ⟨q, rfl, (Option.some.inj h1).symm⟩
  refine ⟨fun k q hq => ?_, patch_fst is w1 ws fun j i q h1 h2 => ?_⟩
  · rcases patch_at is w1 ws k q hnd (hlen1.trans hlen2.symm) hq with ⟨j, -, h2⟩ | ⟨h1, h2⟩
    · exact hP1 j q h2
    · refine (hP k q h2).kept (hk q.1 (hP k q h2).lt fun ⟨j, e, hj⟩ => ?_)
      have hjl : j < is.length := by rw [hlen1]; exact (List.getElem?_eq_some_iff.mp hj).1
      obtain ⟨q', h3, h4⟩ := hat j is[j] (List.getElem?_eq_getElem hjl)
      have h5 : q' = (q.1, e) := Option.some.inj (h3.symm.trans hj)
      subst h5
      have h6 := hD.1 k is[j] q (q.1, e) h2 h4 rfl
      exact h1 (h6 ▸ List.getElem_mem hjl)
  · obtain ⟨q', h3, h4⟩ := hat j i h1
    have h5 : (w1.map Prod.fst)[j]? = some q.1 := by rw [List.getElem?_map, h2]; rfl
    rw [hfst, List.getElem?_map, h3] at h5
    exact ⟨q', h4, Option.some.inj h5⟩
end C1
section C2
variable {α β : Type} {l : Launch} {E : Ev} {A : Nat → Prop} {own : String} {cc : ByteArray} {nL : Nat} {ret : Option FieldType} {d : Nat} {φ : α → Rs} {pc n : Nat} {L : List (Nat × Value)} {st rest As : List Value} {ws wc : va_W} {K : β → Option α} {F : Option β} {ψ : β → Rs}
variable {idx na d' nL' : Nat} {y : MethodName} {cc' : ByteArray} {ret' : Option FieldType} {host : String}
theorem pcd_of {p : Program} {s : State} {m : MethodId} {args : Array Value} {meth : Method} {c : Code} {H : Heap} {as : List Value} (C : Cx E own cc nL ret p s m args meth c) (hP : va_P E.1 vwCl wc H) (hD : va_D A wc) (U : State) (hU : U.heap = H) (hW : s.WarmedH U.vm) : Pcd E wc as as.toArray U :=
  ⟨rfl, by rw [hU]; exact hP, va_K.moved hW.alike C.2.2.2.2.2.1, C.2.2.2.2.2.2.1.warm hW, hD.weaken (fun _ _ _ _ => trivial)⟩
/-- a call of an instance's method, on a part wc of the cells, at the places 'is' -/
theorem b_callV (q0 : Nat) (is : List Nat) {a ci : Nat} {fs : List Value} (hlk : LkV own idx y cc' nL' ret' na) (hct : Ct l y cc' nL' ret' d' E wc (.ref a :: As) ψ F) (hd : d' + 1 ≤ d) (hC : is.map (fun i => ws[i]?) = wc.map some) (hnd : is.Nodup) (hfst : ∀ b, (ψ b).2.map Prod.fst = wc.map Prod.fst)
    (he : ws[q0]? = some (a, .inr (ci, fs))) (hci : (vwCl[ci]?).map (·.1) = some y.cls) (hna : As.length = na) (hst : As.reverse ++ .ref a :: rest = st) (hrest : (rest.map fun v => v.category).sum ≤ 8) (hdg : decode cc pc = .ok (.invokevirtual idx, 3)) (hn : pc + 3 = n)
    (kk : ∀ b, F = some b → Bd l E A own cc nL ret d φ n L ((ψ b).1.toList ++ rest) (patch ws is (ψ b).2) (K b)) : Bd l E A own cc nL ret d φ pc L st ws (F.bind K) := by
  intro hX p e s m args below meth c H locs ls C hP hD hS hl
  have hF : F.isSome = true := by cases F with | none => cases hX | some b => rfl
  obtain ⟨h1, h2, h3, h4, h5, h6, h7, h8⟩ := hlk
  have hwords : ∀ w ∈ wsV own idx y.cls y (Cond.code y cc' nL' ret' :: WS), w ∈ WS := by
    intro w hw
    unfold wsV at hw
    rcases List.mem_append.mp hw with h | h
    · simp only [List.mem_cons, List.not_mem_nil, or_false] at h
      rcases h with rfl | rfl | rfl | rfl
      · exact h1
      · exact h2
      · exact h3
      · exact h4
    · rcases List.mem_cons.mp h with rfl | h
      · exact h5
      · exact h
  have hPc : va_P E.1 vwCl wc H := hP.sub is (by rw [show is.filterMap (fun i => ws[i]?) = wc from by
    have h9 : (is.map (fun i => ws[i]?)).filterMap id = (wc.map some).filterMap id := by rw [hC]
    simpa [List.filterMap_map] using h9])
  have hat : ∀ (j : Nat) (q : Nat × va_E), wc[j]? = some q → ∃ i, is[j]? = some i ∧ ws[i]? = some q := by
    intro j q hj
    have g1 : (wc.map some)[j]? = some (some q) := by rw [List.getElem?_map, hj]; rfl
    rw [← hC, List.getElem?_map] at g1
    cases hi : is[j]? with
    | none => rw [hi] at g1; cases g1
    | some i => rw [hi] at g1; exact ⟨i, rfl, Option.some.inj g1⟩
  have hDc : va_D A wc := by
    refine ⟨fun i j p q hp hq hpq => ?_, fun k q hq => ?_⟩
    · obtain ⟨i1, a1, a2⟩ := hat i p hp
      obtain ⟨j1, b1, b2⟩ := hat j q hq
      have := hD.1 i1 j1 p q a2 b2 hpq
      subst this
      obtain ⟨x1, x2⟩ := List.getElem?_eq_some_iff.mp a1
      obtain ⟨y1, y2⟩ := List.getElem?_eq_some_iff.mp b1
      exact (List.getElem_inj hnd).mp (x2.trans y2.symm)
    · obtain ⟨i1, a1, a2⟩ := hat k q hq
      exact hD.2 i1 q a2
  have hA : ∀ q, Ad wc q → A q := fun q ⟨k, e, h⟩ => hDc.2 k _ h
  obtain ⟨q, hq1, hq2⟩ : ∃ q, vwCl[ci]? = some q ∧ q.1 = y.cls := by
    cases hq : vwCl[ci]? with
    | none => rw [hq] at hci; cases hci
    | some q => rw [hq] at hci; exact ⟨q, rfl, Option.some.inj hci⟩
  subst hst
  refine w_call (va_runV (C := y.cls) (As := As) (rest := rest) (n := na) (Ts := WS) ⟨C.1, C.2.1, C.2.2.1, C.2.2.2.1, C.2.2.2.2.1⟩ (hct hF) (cwV na C.2.2.2.2.1 (wsGood hwords rfl) rfl rfl rfl ⟨rfl, h6.1, h6.2, h7⟩ ⟨hd, by show 8 + (nL' + 11) + 40 * d' ≤ 40 * d; omega⟩) ⟨QQ.blind, by rw [← hq2]; exact va_recv C.2.2.2.2.2.1 hP hq1 he, fun U hU hW => pcd_of C hPc hDc U hU hW⟩ rfl hna hl.1 rfl (lv_room hrest) hdg ⟨Nat.zero_le _, Nat.zero_le _⟩) hS hA (fun b H1 locs1 hb hP1 hk hS1 => ?_)
  obtain ⟨g1, g2⟩ := va_P.patch hP hD hC hnd (hfst b) hP1 hk
  subst hb
  exact hn ▸ kk b rfl hX p e s m args below meth c H1 locs1 ls C g1 (hD.fst g2) hS1 hl
theorem b_callS (is : List Nat) (hlk : LkS own idx y cc' nL' ret' na) (hct : Ct l y cc' nL' ret' d' E wc As ψ F) (hd : d' + 1 ≤ d) (hC : is.map (fun i => ws[i]?) = wc.map some) (hnd : is.Nodup) (hfst : ∀ b, (ψ b).2.map Prod.fst = wc.map Prod.fst)
    (hna : As.length = na) (hst : As.reverse ++ rest = st) (hrest : (rest.map fun v => v.category).sum ≤ 8) (hdg : decode cc pc = .ok (.invokestatic idx, 3)) (hn : pc + 3 = n)
    (kk : ∀ b, F = some b → Bd l E A own cc nL ret d φ n L ((ψ b).1.toList ++ rest) (patch ws is (ψ b).2) (K b)) : Bd l E A own cc nL ret d φ pc L st ws (F.bind K) := by
  intro hX p e s m args below meth c H locs ls C hP hD hS hl
  have hF : F.isSome = true := by cases F with | none => cases hX | some b => rfl
  obtain ⟨h1, h2, h4, h5, h6, h7, h8⟩ := hlk
  have hPc : va_P E.1 vwCl wc H := hP.sub is (by rw [show is.filterMap (fun i => ws[i]?) = wc from by
    have h9 : (is.map (fun i => ws[i]?)).filterMap id = (wc.map some).filterMap id := by rw [hC]
    simpa [List.filterMap_map] using h9])
  have hat : ∀ (j : Nat) (q : Nat × va_E), wc[j]? = some q → ∃ i, is[j]? = some i ∧ ws[i]? = some q := by
    intro j q hj
    have g1 : (wc.map some)[j]? = some (some q) := by rw [List.getElem?_map, hj]; rfl
    rw [← hC, List.getElem?_map] at g1
    cases hi : is[j]? with
    | none => rw [hi] at g1; cases g1
    | some i => rw [hi] at g1; exact ⟨i, rfl, Option.some.inj g1⟩
  have hDc : va_D A wc := by
    refine ⟨fun i j p q hp hq hpq => ?_, fun k q hq => ?_⟩
    · obtain ⟨i1, a1, a2⟩ := hat i p hp
      obtain ⟨j1, b1, b2⟩ := hat j q hq
      have := hD.1 i1 j1 p q a2 b2 hpq
      subst this
      obtain ⟨x1, x2⟩ := List.getElem?_eq_some_iff.mp a1
      obtain ⟨y1, y2⟩ := List.getElem?_eq_some_iff.mp b1
      exact (List.getElem_inj hnd).mp (x2.trans y2.symm)
    · obtain ⟨i1, a1, a2⟩ := hat k q hq
      exact hD.2 i1 q a2
  have hA : ∀ q, Ad wc q → A q := fun q ⟨k, e, h⟩ => hDc.2 k _ h
  have hwords : ∀ w ∈ (Cond.code y cc' nL' ret' :: WS), w ∈ WS := by
    intro w hw
    rcases List.mem_cons.mp hw with rfl | h
    · exact h5
    · exact h
  subst hst
  refine w_call (va_runS (As := As) (rest := rest) (n := na) (Ts := WS) ⟨C.1, C.2.1, C.2.2.1, C.2.2.2.1, C.2.2.2.2.1⟩ (hct hF) ⟨callB_of na C.2.2.2.2.1 (wsGood hwords rfl) rfl rfl rfl (C.2.2.2.2.1 _ h4) (C.2.2.2.2.1 _ h1) ⟨h6.1, h6.2, h7⟩ ⟨hd, by show 8 + (nL' + 11) + 40 * d' ≤ 40 * d; omega⟩, C.2.2.2.2.1 _ h2⟩ ⟨QQ.blind, fun U hU hW => pcd_of C hPc hDc U hU hW⟩ rfl hna hl.1 rfl (lv_room hrest) hdg ⟨Nat.zero_le _, Nat.zero_le _⟩) hS hA (fun b H1 locs1 hb hP1 hk hS1 => ?_)
  obtain ⟨g1, g2⟩ := va_P.patch hP hD hC hnd (hfst b) hP1 hk
  subst hb
  exact hn ▸ kk b rfl hX p e s m args below meth c H1 locs1 ls C g1 (hD.fst g2) hS1 hl
theorem b_callN (is : List Nat) (hlk : LkN own idx y host cc' nL' ret' na) (hct : Ct l y cc' nL' ret' d' E wc As ψ F) (hd : d' + 1 ≤ d) (hC : is.map (fun i => ws[i]?) = wc.map some) (hnd : is.Nodup) (hfst : ∀ b, (ψ b).2.map Prod.fst = wc.map Prod.fst)
    (hna : As.length = na) (hst : As.reverse ++ rest = st) (hrest : (rest.map fun v => v.category).sum ≤ 8) (hdg : decode cc pc = .ok (.invokestatic idx, 3)) (hn : pc + 3 = n)
    (kk : ∀ b, F = some b → Bd l E A own cc nL ret d φ n L ((ψ b).1.toList ++ rest) (patch ws is (ψ b).2) (K b)) : Bd l E A own cc nL ret d φ pc L st ws (F.bind K) := by
  intro hX p e s m args below meth c H locs ls C hP hD hS hl
  have hF : F.isSome = true := by cases F with | none => cases hX | some b => rfl
  obtain ⟨h1, h2, h4, h5, h6, h7, h8⟩ := hlk
  have hPc : va_P E.1 vwCl wc H := hP.sub is (by rw [show is.filterMap (fun i => ws[i]?) = wc from by
    have h9 : (is.map (fun i => ws[i]?)).filterMap id = (wc.map some).filterMap id := by rw [hC]
    simpa [List.filterMap_map] using h9])
  have hat : ∀ (j : Nat) (q : Nat × va_E), wc[j]? = some q → ∃ i, is[j]? = some i ∧ ws[i]? = some q := by
    intro j q hj
    have g1 : (wc.map some)[j]? = some (some q) := by rw [List.getElem?_map, hj]; rfl
    rw [← hC, List.getElem?_map] at g1
    cases hi : is[j]? with
    | none => rw [hi] at g1; cases g1
    | some i => rw [hi] at g1; exact ⟨i, rfl, Option.some.inj g1⟩
  have hDc : va_D A wc := by
    refine ⟨fun i j p q hp hq hpq => ?_, fun k q hq => ?_⟩
    · obtain ⟨i1, a1, a2⟩ := hat i p hp
      obtain ⟨j1, b1, b2⟩ := hat j q hq
      have := hD.1 i1 j1 p q a2 b2 hpq
      subst this
      obtain ⟨x1, x2⟩ := List.getElem?_eq_some_iff.mp a1
      obtain ⟨y1, y2⟩ := List.getElem?_eq_some_iff.mp b1
      exact (List.getElem_inj hnd).mp (x2.trans y2.symm)
    · obtain ⟨i1, a1, a2⟩ := hat k q hq
      exact hD.2 i1 q a2
  have hA : ∀ q, Ad wc q → A q := fun q ⟨k, e, h⟩ => hDc.2 k _ h
  have hwords : ∀ w ∈ (Cond.code y cc' nL' ret' :: WS), w ∈ WS := by
    intro w hw
    rcases List.mem_cons.mp hw with rfl | h
    · exact h5
    · exact h
  subst hst
  refine w_call (va_runSN (host := host) (As := As) (rest := rest) (n := na) (Ts := WS) ⟨C.1, C.2.1, C.2.2.1, C.2.2.2.1, C.2.2.2.2.1⟩ (hct hF) ⟨va_cnB na C.2.2.2.2.1 (wsGood hwords rfl) rfl rfl rfl (C.2.2.2.2.2.2.1.1 _ h1) (C.2.2.2.2.1 _ h4) ⟨h6.1, h6.2, h7⟩ ⟨hd, by show 8 + (nL' + 11) + 40 * d' ≤ 40 * d; omega⟩, C.2.2.2.2.1 _ h2, trivial⟩ ⟨QQ.blind, fun U hU hW => pcd_of C hPc hDc U hU hW⟩ rfl hna hl.1 rfl (lv_room hrest) hdg ⟨Nat.zero_le _, Nat.zero_le _⟩) hS hA (fun b H1 locs1 hb hP1 hk hS1 => ?_)
  obtain ⟨g1, g2⟩ := va_P.patch hP hD hC hnd (hfst b) hP1 hk
  subst hb
  exact hn ▸ kk b rfl hX p e s m args below meth c H1 locs1 ls C g1 (hD.fst g2) hS1 hl
end C2
