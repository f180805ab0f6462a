/-! the constructors of the engine and of the model -/
section PD
variable {l : Launch} {E : Ev} {A : Nat → Prop} {sz : Nat} {own : String} {cc : ByteArray} {nL d mc ms : Nat} {P : va_W → Prop} {k j : Nat} {pc n : Nat} {L : List (Nat × Value)} {st : List Value} {ws : va_W}
theorem vaD_iff {A : Nat → Prop} {ws : va_W} : va_D A ws ↔ (ws.map Prod.fst).Nodup ∧ ∀ x ∈ ws, A x.1 := by
  constructor
  · rintro ⟨h1, h2⟩
    refine ⟨List.pairwise_iff_getElem.mpr fun i j hi hj hij e => ?_, fun x hx => ?_⟩
    · have hi' : i < ws.length := by simpa using hi
      have hj' : j < ws.length := by simpa using hj
      have := h1 i j ws[i] ws[j] (List.getElem?_eq_getElem hi') (List.getElem?_eq_getElem hj') (by simpa using e)
      omega
    · obtain ⟨k, hk⟩ := List.getElem?_of_mem hx
      exact h2 k x hk
  · rintro ⟨h1, h2⟩
    refine ⟨fun i j x y hx hy e => ?_, fun k x hk => h2 x (List.mem_of_getElem? hk)⟩
    obtain ⟨hi, ex⟩ := List.getElem?_eq_some_iff.mp hx
    obtain ⟨hj, ey⟩ := List.getElem?_eq_some_iff.mp hy
    have hN := List.pairwise_iff_getElem.mp h1
    rcases Nat.lt_trichotomy i j with h | h | h
    · have hne := hN i j (by simpa using hi) (by simpa using hj) h
      exact absurd (by rw [List.getElem_map, List.getElem_map, ex, ey, e]) hne
    · exact h
    · have hne := hN j i (by simpa using hj) (by simpa using hi) h
      exact absurd (by rw [List.getElem_map, List.getElem_map, ex, ey, e]) hne
theorem vaP_iff {D : va_G} {cl : List vw_C} {H : Heap} {ws : va_W} : va_P D cl ws H ↔ ∀ x ∈ ws, va_at D cl x H :=
  ⟨fun h x hx => let ⟨k, hk⟩ := List.getElem?_of_mem hx; h k x hk, fun h _ q hk => h q (List.mem_of_getElem? hk)⟩
/-- the same cells in another order, or fewer -/
theorem a_perm {ws' ex : va_W} (h : ws.Perm (ws' ++ ex)) (kk : Ba l E A sz own cc nL d mc ms P k j pc L st ws') : Ba l E A sz own cc nL d mc ms P k j pc L st ws := by
  intro p e s m args below meth c H locs ls C hin hsz hA hP hD hS hl
  refine kk p e s m args below meth c H locs ls C hin hsz hA (vaP_iff.mpr fun x hx => vaP_iff.mp hP x (h.mem_iff.mpr (List.mem_append_left _ hx))) ?_ hS hl
  obtain ⟨h1, h2⟩ := vaD_iff.mp hD
  refine vaD_iff.mpr ⟨?_, fun x hx => h2 x (h.mem_iff.mpr (List.mem_append_left _ hx))⟩
  have h3 := (h.map Prod.fst).nodup_iff.mp h1
  rw [List.map_append] at h3
  exact (List.nodup_append.mp h3).1
theorem a_rot {X Y : va_W} {c : Nat × va_E} (kk : Ba l E A sz own cc nL d mc ms P k j pc L st ((X ++ Y) ++ [c])) : Ba l E A sz own cc nL d mc ms P k j pc L st ((X ++ [c]) ++ Y) :=
  a_perm (ex := []) (by rw [List.append_nil, List.append_assoc, List.append_assoc]; exact List.Perm.append_left X List.perm_append_comm) kk
theorem perm_mid (A B C : va_W) : (A ++ (B ++ C)).Perm (B ++ (A ++ C)) := by
  rw [← List.append_assoc A, ← List.append_assoc B]
  exact List.Perm.append_right _ List.perm_append_comm
theorem eng_perm {X N VV T e0 W0 e1 W1 e2 W2 B0 B1 B2 : va_W} (hX : X.Perm (N ++ (VV ++ T))) (h0 : (e0 ++ W0).Perm B0) (h1 : (e1 ++ W1).Perm B1) (h2 : (e2 ++ W2).Perm B2) : ((((((X ++ e0) ++ W0) ++ e1) ++ W1) ++ e2) ++ W2).Perm ((N ++ (B0 ++ (VV ++ (B1 ++ B2)))) ++ T) := by
  have hL : (((((X ++ e0) ++ W0) ++ e1) ++ W1) ++ e2) ++ W2 = X ++ ((e0 ++ W0) ++ ((e1 ++ W1) ++ (e2 ++ W2))) := by simp only [List.append_assoc]
  rw [hL]
  refine (List.Perm.append hX (List.Perm.append h0 (List.Perm.append h1 h2))).trans ?_
  have e1 : (N ++ (VV ++ T)) ++ (B0 ++ (B1 ++ B2)) = N ++ (VV ++ (T ++ (B0 ++ (B1 ++ B2)))) := by simp only [List.append_assoc]
  have e2 : (N ++ (B0 ++ (VV ++ (B1 ++ B2)))) ++ T = N ++ (B0 ++ (VV ++ ((B1 ++ B2) ++ T))) := by simp only [List.append_assoc]
  rw [e1, e2]
  refine List.Perm.append_left N ?_
  refine (List.Perm.append_left VV (perm_mid T B0 (B1 ++ B2))).trans ?_
  refine (perm_mid VV B0 _).trans ?_
  exact List.Perm.append_left B0 (List.Perm.append_left VV List.perm_append_comm)
theorem six_perm {a b c d t v : Nat × va_E} {VV : va_W} : ([a, b, c, d, t, v] ++ VV).Perm ([a, b, c, d, v] ++ (VV ++ [t])) := by
  have h : ([t] ++ ([v] ++ VV)).Perm (([v] ++ VV) ++ [t]) := List.perm_append_comm
  exact List.Perm.append_left [a, b, c, d] h
theorem vaP_app {D : va_G} {cl : List vw_C} {H : Heap} {w1 w2 : va_W} : va_P D cl (w1 ++ w2) H ↔ va_P D cl w1 H ∧ va_P D cl w2 H := by
  rw [vaP_iff, vaP_iff, vaP_iff]
  exact ⟨fun h => ⟨fun x hx => h x (List.mem_append_left _ hx), fun x hx => h x (List.mem_append_right _ hx)⟩, fun h x hx => (List.mem_append.mp hx).elim (h.1 x) (h.2 x)⟩
theorem eng_conv {X e0 W0 e1 W1 e2 W2 V0 V1 V2 : va_W} (h0 : (∀ H, va_P E.1 vwCl W0 H → va_P E.1 vwCl V0 H) ∧ V0.map Prod.fst = W0.map Prod.fst) (h1 : (∀ H, va_P E.1 vwCl W1 H → va_P E.1 vwCl V1 H) ∧ V1.map Prod.fst = W1.map Prod.fst) (h2 : (∀ H, va_P E.1 vwCl W2 H → va_P E.1 vwCl V2 H) ∧ V2.map Prod.fst = W2.map Prod.fst)
    (kk : Ba l E A sz own cc nL d mc ms P k j pc L st (((((((X ++ e0) ++ V0) ++ e1) ++ V1) ++ e2) ++ V2))) : Ba l E A sz own cc nL d mc ms P k j pc L st ((((((X ++ e0) ++ W0) ++ e1) ++ W1) ++ e2) ++ W2) := by
  refine a_conv (fun H hP => ?_) ?_ kk
  · rw [vaP_app, vaP_app, vaP_app, vaP_app, vaP_app, vaP_app] at hP ⊢
    exact ⟨⟨⟨⟨⟨hP.1.1.1.1.1, h0.1 H hP.1.1.1.1.2⟩, hP.1.1.1.2⟩, h1.1 H hP.1.1.2⟩, hP.1.2⟩, h2.1 H hP.2⟩
  · simp only [List.map_append, h0.2, h1.2, h2.2]
/-- another writing of an array of references -/
theorem a_arr {a N : Nat} {cA : ClassId} {f g : Nat → Option Nat} {ws' : va_W} (q : Nat) (he : ws[q]? = some (a, .inl (cA, N, .inr (.inr (.inr (.inr f)))))) (hg : ∀ i, i < N → f i = g i) (hw : ws.set q (a, .inl (cA, N, .inr (.inr (.inr (.inr g))))) = ws') (kk : Ba l E A sz own cc nL d mc ms P k j pc L st ws') : Ba l E A sz own cc nL d mc ms P k j pc L st ws := by
  subst hw
  refine a_conv (fun H hP => ?_) ?_ kk
  · intro i x hx
    by_cases hi : i = q
    · subst hi
      have hl : i < ws.length := (List.getElem?_eq_some_iff.mp he).1
      rw [List.getElem?_set_self hl] at hx
      cases hx
      have := hP i _ he
      show H[a]? = _
      have h2 : H[a]? = some (vp_cell cA (N, .inr (.inr (.inr (.inr f))))) := this
      rw [h2]
      show some (arrV cA N (fun j => va_rf (f j))) = some (arrV cA N (fun j => va_rf (g j)))
      have h3 : (fun j : Fin N => va_rf (f j.val)) = fun j => va_rf (g j.val) := funext fun j => by rw [hg j.val j.isLt]
      unfold arrV
      rw [h3]
    · rw [List.getElem?_set_ne (Ne.symm hi)] at hx
      exact hP i x hx
  · apply List.ext_getElem?
    intro i
    rw [List.getElem?_map, List.getElem?_map]
    by_cases hi : i = q
    · subst hi
      have hl : i < ws.length := (List.getElem?_eq_some_iff.mp he).1
      rw [List.getElem?_set_self hl, he]; rfl
    · rw [List.getElem?_set_ne (Ne.symm hi)]
end PD
theorem gL {α : Type} {X B : List α} {q : Nat} {x : α} (h : X[q]? = some x) : (X ++ B)[q]? = some x := by
  rw [List.getElem?_append_left (List.getElem?_eq_some_iff.mp h).1]; exact h
theorem gR {α : Type} {X B : List α} {m : Nat} {x : α} (h : X.length = m) (hB : B[0]? = some x) : (X ++ B)[m]? = some x := by
  subst h; rw [List.getElem?_append_right (Nat.le_refl _), Nat.sub_self]; exact hB
theorem sL {α : Type} {X B X' : List α} {q : Nat} {c : α} (h : q < X.length ∧ X.set q c = X') : q < (X ++ B).length ∧ (X ++ B).set q c = X' ++ B :=
  ⟨by rw [List.length_append]; omega, by rw [List.set_append_left _ _ h.1, h.2]⟩
def vaC (g : Nat → Nat) : Nat → Nat → Option Nat
  | 0 => fun _ => none
  | n + 1 => va_up (vaC g n) n (some (g n))
theorem vaC_at (g : Nat → Nat) : ∀ (n i : Nat), i < n → vaC g n i = some (g i)
  | 0, i, h => absurd h (Nat.not_lt_zero i)
  | n + 1, i, h => by
    show va_up (vaC g n) n (some (g n)) i = some (g i)
    by_cases e : i = n
    · rw [e]; exact va_up_self _ _ _
    · rw [va_up_ne _ _ e]; exact vaC_at g n i (by omega)
def hIe (E : Ev) (a : Nat → Nat) (en rl pa : Nat) : va_W := [(a 0, .inr (2, [.ref en, .ref (a 4), .ref pa, .int (-1), .int 0, .int 0, .int 0, .int 0, .int 0, .ref (a 16), .ref (a 17), .ref (a 18), .ref (a 19), .ref (a 20), .ref (a 21), .ref (a 22), .ref (a 23), .ref (a 24)])), (a 16, .inl (E.2.1, 4, .inl (fun _ => 0))), (a 17, .inl (E.2.1, 8, .inl (fun _ => 0))), (a 18, .inl (E.2.1, 24, .inl (fun _ => 0))), (a 19, .inl (E.2.1, 24, .inl (fun _ => 0))), (a 20, .inl (E.2.1, 24, .inl (fun _ => 0))), (a 21, .inl (E.2.1, 24, .inl (fun _ => 0))), (a 22, .inl (E.2.1, 25, .inl (fun _ => 0))), (a 23, .inl (E.2.1, 25, .inl (fun _ => 0))), (a 24, .inl (E.2.1, 25, .inl (fun _ => 0))), (a 4, .inr (1, [.ref en, .ref (a 5), .int 0])), (a 5, .inl (E.2.1, rl, .inl (fun _ => 0)))]
theorem hIn_e {E : Ev} {a : Nat → Nat} {en rl pa : Nat} (h : a 1 = en) : hIn E a rl oN zN pa = hIe E a en rl pa := by subst h; rfl
/-- a world as it is made, written as a world -/
def hWe (E : Ev) (q en ia df : Nat) (aj : Nat → Nat → Nat) (no rl : Nat) : va_W := [(q, .inr (5, [.ref en, .ref ia, .ref df, .int 0, .int 0])), (ia, .inl (E.2.2.2, 6, .inr (.inr (.inr (.inr (fun j => some (aj j 0))))))), (df, .inl (E.2.1, 4, .inl (fun _ => 0)))] ++ (hIe E (aj 0) en rl no ++ (hIe E (aj 1) en rl no ++ (hIe E (aj 2) en rl no ++ (hIe E (aj 3) en rl no ++ (hIe E (aj 4) en rl no ++ hIe E (aj 5) en rl no)))))
def vsN : Fam := fun v => vM (Int32.ofNat (v / 4 % 4)) (Int32.ofNat (v % 4))
/-- the addresses, from what was made -/
def adN (n : Nat → Nat) (q ia df : Nat → Nat) (ae : Nat → Nat → Nat) (aj : Nat → Nat → Nat → Nat) : Ad3 := fun g j t => cond (Nat.beq g 30) (n t) (cond (Nat.ble g 2) (cond (Nat.beq t 0) (q g) (cond (Nat.ble t 3) (ae g t) (cond (Nat.beq t 4) (ia g) (df g)))) (aj (g - 10) j (cond (Nat.beq t 0) 0 (cond (Nat.ble t 9) (t + 15) (t - 6)))))
section WP
variable {E : Ev} {n q ia df : Nat → Nat} {ae : Nat → Nat → Nat} {aj : Nat → Nat → Nat → Nat} {va : Nat → Nat → Nat} {rl no : Nat}
theorem hWn_conv {q en ia df no rl : Nat} {aj : Nat → Nat → Nat} (h : ∀ j, j < 6 → aj j 1 = en) : (∀ H, va_P E.1 vwCl (hWn E q en ia df aj no rl) H → va_P E.1 vwCl (hWe E q en ia df aj no rl) H) ∧ (hWe E q en ia df aj no rl).map Prod.fst = (hWn E q en ia df aj no rl).map Prod.fst := by
  have e : hWn E q en ia df aj no rl = [(q, .inr (5, [.ref en, .ref ia, .ref df, .int 0, .int 0])), (ia, .inl (E.2.2.2, 6, .inr (.inr (.inr (.inr (vaC (fun j => aj j 0) 6)))))), (df, .inl (E.2.1, 4, .inl (fun _ => 0)))] ++ (hIe E (aj 0) en rl no ++ (hIe E (aj 1) en rl no ++ (hIe E (aj 2) en rl no ++ (hIe E (aj 3) en rl no ++ (hIe E (aj 4) en rl no ++ hIe E (aj 5) en rl no))))) := by
    unfold hWn
    rw [hIn_e (h 0 (by decide)), hIn_e (h 1 (by decide)), hIn_e (h 2 (by decide)), hIn_e (h 3 (by decide)), hIn_e (h 4 (by decide)), hIn_e (h 5 (by decide))]
    simp only [List.append_assoc]
    rfl
  rw [e]
  unfold hWe
  refine ⟨fun H hP => ?_, rfl⟩
  rw [vaP_app] at hP ⊢
  refine ⟨?_, hP.2⟩
  have hP1 := hP.1
  intro i x hx
  match i, hx with
  | 0, hx => exact hP1 0 x hx
  | 1, hx =>
    cases hx
    have h2 : H[ia]? = some (vp_cell E.2.2.2 (6, .inr (.inr (.inr (.inr (vaC (fun j => aj j 0) 6)))))) := hP1 1 _ rfl
    show H[ia]? = _
    rw [h2]
    show some (arrV E.2.2.2 6 (fun j => va_rf (vaC (fun j => aj j 0) 6 j))) = some (arrV E.2.2.2 6 (fun j => va_rf (some (aj j 0))))
    have h3 : (fun j : Fin 6 => va_rf (vaC (fun j => aj j 0) 6 j.val)) = fun j => va_rf (some (aj j.val 0)) := funext fun j => by rw [vaC_at _ 6 j.val j.isLt]
    unfold arrV
    rw [h3]
  | 2, hx => exact hP1 2 x hx
  | i + 3, hx => cases hx
theorem hWe_perm (w : Nat) (hw : w = 0 ∨ w = 1 ∨ w = 2) (hno : no = va 16 0) : (hE E (ae w) eN ++ hWe E (q w) (ae w 1) (ia w) (df w) (aj w) no rl).Perm (hB E (adW (adN n q ia df ae aj) w) va rl zN eN (fun _ => oN) (fun _ => zN) (fun _ => 16)) := by
  subst hno
  unfold hWe
  have h1 : ∀ (X : va_W) (a b c : Nat × va_E), (hE E (ae w) eN ++ ([a, b, c] ++ X)).Perm ([a] ++ (hE E (ae w) eN ++ ([b, c] ++ X))) := by
    intro X a b c
    exact perm_mid (hE E (ae w) eN) [a] ([b, c] ++ X)
  refine (h1 _ _ _ _).trans (List.Perm.of_eq ?_)
  rcases hw with rfl | rfl | rfl <;> rfl
end WP
def mN : Mem := fun c => cond (Nat.beq c 0) (fun i => cond (Nat.beq i 10) (-1) 0) (cond (Nat.beq c 5) (upd (upd (upd (upd (upd (upd (upd (upd (fun _ => 0) 1 1) 2 1) 3 1) 4 1) 5 1) 6 1) 7 1) 8 1) (fun _ => 0))
theorem ff_X6_9 : FLf RX6 9 6 0 (.array .int) := ⟨RX6, TX6, 8, tyX6, rfl, by decide, wsin_X6, ws_in (List.mem_of_getElem? (i := 379) (by decide +kernel)) rfl, tyX6_ok, nmX6, rfl, rfl, rfl⟩
theorem nw_X6_13 : Cond.classLink RX6 13 RX3 ∈ WS ∧ Cond.instantiable RX3 6 ∈ WS ∧ Cond.initialized RX3 ∈ WS := ⟨ws_in (List.mem_of_getElem? (i := 122) (by decide +kernel)) rfl, ws_in (List.mem_of_getElem? (i := 123) (by decide +kernel)) rfl, ws_in (List.mem_of_getElem? (i := 102) (by decide +kernel)) rfl⟩
theorem dv_X3 : ∀ i, i < 6 → defaultValue (tyX3 i) = vp_V [.null, .null, .int 0, .null, .int 0, .int 0] i := by decide +kernel
theorem li_X6_15 : LkJ RX6 15 yX3_init "WorkflowEngine" cX3_init 1 0 := ⟨List.mem_filterMap.mpr ⟨_, List.mem_of_getElem? (i := 124) (by decide +kernel : lw_tbl[124]? = some (Cond.methodLinkNest RX6 15 yX3_init "WorkflowEngine")), rfl⟩, ws_in (List.mem_of_getElem? (i := 125) (by decide +kernel)) rfl, ws_in (List.mem_of_getElem? (i := 102) (by decide +kernel)) rfl, ws_in (List.mem_of_getElem? (i := 126) (by decide +kernel)) rfl, rfl, ⟨by decide +kernel, by decide +kernel⟩, by decide +kernel, by decide⟩
theorem ff_X6_16 : FLf RX6 16 6 1 (.object "WorkflowEngine$Reader") := ⟨RX6, TX6, 8, tyX6, rfl, by decide, wsin_X6, ws_in (List.mem_of_getElem? (i := 380) (by decide +kernel)) rfl, tyX6_ok, nmX6, rfl, rfl, rfl⟩
theorem cl_X6_20 : Cond.classLink RX6 20 "WorkflowEngine$Version" ∈ WS := ws_in (List.mem_of_getElem? (i := 149) (by decide +kernel)) rfl
theorem ff_X6_22 : FLf RX6 22 6 2 (.array (.object "WorkflowEngine$Version")) := ⟨RX6, TX6, 8, tyX6, rfl, by decide, wsin_X6, ws_in (List.mem_of_getElem? (i := 381) (by decide +kernel)) rfl, tyX6_ok, nmX6, rfl, rfl, rfl⟩
theorem fg_X6_22 : FL RX6 22 6 2 := ⟨RX6, TX6, 8, rfl, by decide, wsin_X6, ws_in (List.mem_of_getElem? (i := 381) (by decide +kernel)) rfl⟩
theorem nw_X6_20 : Cond.classLink RX6 20 RX4 ∈ WS ∧ Cond.instantiable RX4 16 ∈ WS ∧ Cond.initialized RX4 ∈ WS := ⟨ws_in (List.mem_of_getElem? (i := 149) (by decide +kernel)) rfl, ws_in (List.mem_of_getElem? (i := 151) (by decide +kernel)) rfl, ws_in (List.mem_of_getElem? (i := 103) (by decide +kernel)) rfl⟩
theorem dv_X4 : ∀ i, i < 16 → defaultValue (tyX4 i) = vp_V [.int 0, .int 0, .null, .null, .null, .null, .null, .null, .null, .null, .null, .int 0, .int 0, .int 0, .int 0, .int 0] i := by decide +kernel
theorem li_X6_26 : LkI RX6 26 yX4_init cX4_init 3 2 := ⟨ws_in (List.mem_of_getElem? (i := 152) (by decide +kernel)) rfl, ws_in (List.mem_of_getElem? (i := 153) (by decide +kernel)) rfl, ws_in (List.mem_of_getElem? (i := 103) (by decide +kernel)) rfl, ws_in (List.mem_of_getElem? (i := 154) (by decide +kernel)) rfl, rfl, ⟨by decide +kernel, by decide +kernel⟩, by decide +kernel, by decide⟩
theorem nw_X6_29 : Cond.classLink RX6 29 RX5 ∈ WS ∧ Cond.instantiable RX5 5 ∈ WS ∧ Cond.initialized RX5 ∈ WS := ⟨ws_in (List.mem_of_getElem? (i := 230) (by decide +kernel)) rfl, ws_in (List.mem_of_getElem? (i := 231) (by decide +kernel)) rfl, ws_in (List.mem_of_getElem? (i := 104) (by decide +kernel)) rfl⟩
theorem dv_X5 : ∀ i, i < 5 → defaultValue (tyX5 i) = vp_V [.null, .null, .null, .int 0, .int 0] i := by decide +kernel
theorem nw_X6_31 : Cond.classLink RX6 31 RX0 ∈ WS ∧ Cond.instantiable RX0 3 ∈ WS ∧ Cond.initialized RX0 ∈ WS := ⟨ws_in (List.mem_of_getElem? (i := 232) (by decide +kernel)) rfl, ws_in (List.mem_of_getElem? (i := 233) (by decide +kernel)) rfl, ws_in (List.mem_of_getElem? (i := 105) (by decide +kernel)) rfl⟩
theorem dv_X0 : ∀ i, i < 3 → defaultValue (tyX0 i) = vp_V [.null, .null, .int 0] i := by decide +kernel
theorem li_X6_33 : LkI RX6 33 yX0_init cX0_init 1 0 := ⟨ws_in (List.mem_of_getElem? (i := 234) (by decide +kernel)) rfl, ws_in (List.mem_of_getElem? (i := 235) (by decide +kernel)) rfl, ws_in (List.mem_of_getElem? (i := 105) (by decide +kernel)) rfl, ws_in (List.mem_of_getElem? (i := 236) (by decide +kernel)) rfl, rfl, ⟨by decide +kernel, by decide +kernel⟩, by decide +kernel, by decide⟩
theorem li_X6_34 : LkI RX6 34 yX5_init cX5_init 5 3 := ⟨ws_in (List.mem_of_getElem? (i := 257) (by decide +kernel)) rfl, ws_in (List.mem_of_getElem? (i := 258) (by decide +kernel)) rfl, ws_in (List.mem_of_getElem? (i := 104) (by decide +kernel)) rfl, ws_in (List.mem_of_getElem? (i := 259) (by decide +kernel)) rfl, rfl, ⟨by decide +kernel, by decide +kernel⟩, by decide +kernel, by decide⟩
theorem ff_X6_37 : FLf RX6 37 6 3 (.object "WorkflowEngine$World") := ⟨RX6, TX6, 8, tyX6, rfl, by decide, wsin_X6, ws_in (List.mem_of_getElem? (i := 382) (by decide +kernel)) rfl, tyX6_ok, nmX6, rfl, rfl, rfl⟩
theorem ff_X6_41 : FLf RX6 41 6 4 (.object "WorkflowEngine$World") := ⟨RX6, TX6, 8, tyX6, rfl, by decide, wsin_X6, ws_in (List.mem_of_getElem? (i := 383) (by decide +kernel)) rfl, tyX6_ok, nmX6, rfl, rfl, rfl⟩
theorem ff_X6_44 : FLf RX6 44 6 5 (.object "WorkflowEngine$World") := ⟨RX6, TX6, 8, tyX6, rfl, by decide, wsin_X6, ws_in (List.mem_of_getElem? (i := 384) (by decide +kernel)) rfl, tyX6_ok, nmX6, rfl, rfl, rfl⟩
theorem ff_X7_9 : FLf RX7 9 7 0 (.array .int) := ⟨RX7, TX7, 21, tyX7, rfl, by decide, wsin_X7, ws_in (List.mem_of_getElem? (i := 855) (by decide +kernel)) rfl, tyX7_ok, nmX7, rfl, rfl, rfl⟩
theorem ff_X7_13 : FLf RX7 13 7 1 (.array .int) := ⟨RX7, TX7, 21, tyX7, rfl, by decide, wsin_X7, ws_in (List.mem_of_getElem? (i := 856) (by decide +kernel)) rfl, tyX7_ok, nmX7, rfl, rfl, rfl⟩
theorem ff_X7_16 : FLf RX7 16 7 2 (.array .int) := ⟨RX7, TX7, 21, tyX7, rfl, by decide, wsin_X7, ws_in (List.mem_of_getElem? (i := 857) (by decide +kernel)) rfl, tyX7_ok, nmX7, rfl, rfl, rfl⟩
theorem ff_X7_19 : FLf RX7 19 7 3 (.array .int) := ⟨RX7, TX7, 21, tyX7, rfl, by decide, wsin_X7, ws_in (List.mem_of_getElem? (i := 858) (by decide +kernel)) rfl, tyX7_ok, nmX7, rfl, rfl, rfl⟩
theorem ff_X7_22 : FLf RX7 22 7 4 (.array .int) := ⟨RX7, TX7, 21, tyX7, rfl, by decide, wsin_X7, ws_in (List.mem_of_getElem? (i := 859) (by decide +kernel)) rfl, tyX7_ok, nmX7, rfl, rfl, rfl⟩
theorem ff_X7_25 : FLf RX7 25 7 5 (.array .int) := ⟨RX7, TX7, 21, tyX7, rfl, by decide, wsin_X7, ws_in (List.mem_of_getElem? (i := 860) (by decide +kernel)) rfl, tyX7_ok, nmX7, rfl, rfl, rfl⟩
theorem ff_X7_28 : FLf RX7 28 7 6 (.array .int) := ⟨RX7, TX7, 21, tyX7, rfl, by decide, wsin_X7, ws_in (List.mem_of_getElem? (i := 861) (by decide +kernel)) rfl, tyX7_ok, nmX7, rfl, rfl, rfl⟩
theorem ff_X7_31 : FLf RX7 31 7 8 (.array .int) := ⟨RX7, TX7, 21, tyX7, rfl, by decide, wsin_X7, ws_in (List.mem_of_getElem? (i := 863) (by decide +kernel)) rfl, tyX7_ok, nmX7, rfl, rfl, rfl⟩
theorem fg_X7_22 : FL RX7 22 7 4 := ⟨RX7, TX7, 21, rfl, by decide, wsin_X7, ws_in (List.mem_of_getElem? (i := 859) (by decide +kernel)) rfl⟩
set_option maxHeartbeats 40000000 in
set_option maxRecDepth 200000 in
theorem ca_X7 {l : Launch} {E : Ev} {q : Nat}   : Ca l yX7_init cX7_init 2 3 8 42579 E [(q, .inr (7, [.null, .null, .null, .null, .null, .null, .null, .int 0, .null, .int 0, .int 0, .int 0, .int 0, .int 0, .int 0, .int 0, .int 0, .int 0, .int 0, .int 0, .int 0]))] [.ref q] (fun w1 => ∃ am : Nat → Nat, am 0 = q ∧ w1 = hM E am mN) := by
  refine Ca.of (own := RX7) (L := [(0, .ref q)]) rfl (by decide +kernel) (by decide +kernel) (Nat.le_of_ble_eq_true rfl) rfl (fun sz => ?_)
  refine a_aload_n (n := 1) 0 dX7_init_0 rfl rfl rfl ?_
  refine a_obj (n := 4) ob_X7_3 (by omega) (Nat.le_of_ble_eq_true rfl) dX7_init_1 rfl ?_
  refine a_aload_n (n := 5) 0 dX7_init_4 rfl rfl rfl ?_
  refine a_sipush (n := 8) (v := 9792) dX7_init_5 rfl (by decide) ?_
  refine a_newi (n := 10) (N := 9792) ac_int (by decide) (by decide) (by decide) (by omega) (by omega) dX7_init_8 rfl (fun p8_1 => ?_)
  refine a_putF (n := 13) (ws' := [(q, .inr (7, [.ref p8_1, .null, .null, .null, .null, .null, .null, .int 0, .null, .int 0, .int 0, .int 0, .int 0, .int 0, .int 0, .int 0, .int 0, .int 0, .int 0, .int 0, .int 0])), (p8_1, .inl (E.2.1, 9792, .inl (fun _ => 0)))]) 0 ff_X7_9 dX7_init_10 rfl rfl rfl rfl (Nat.le_of_ble_eq_true rfl) rfl ?_
  refine a_aload_n (n := 14) 0 dX7_init_13 rfl rfl rfl ?_
  refine a_sipush (n := 17) (v := 9792) dX7_init_14 rfl (by decide) ?_
  refine a_newi (n := 19) (N := 9792) ac_int (by decide) (by decide) (by decide) (by omega) (by omega) dX7_init_17 rfl (fun p17_2 => ?_)
  refine a_putF (n := 22) (ws' := [(q, .inr (7, [.ref p8_1, .ref p17_2, .null, .null, .null, .null, .null, .int 0, .null, .int 0, .int 0, .int 0, .int 0, .int 0, .int 0, .int 0, .int 0, .int 0, .int 0, .int 0, .int 0])), (p8_1, .inl (E.2.1, 9792, .inl (fun _ => 0))), (p17_2, .inl (E.2.1, 9792, .inl (fun _ => 0)))]) 0 ff_X7_13 dX7_init_19 rfl rfl rfl rfl (Nat.le_of_ble_eq_true rfl) rfl ?_
  refine a_aload_n (n := 23) 0 dX7_init_22 rfl rfl rfl ?_
  refine a_bipush (n := 25) (v := 68) dX7_init_23 rfl (by decide) ?_
  refine a_newi (n := 27) (N := 68) ac_int (by decide) (by decide) (by decide) (by omega) (by omega) dX7_init_25 rfl (fun p25_3 => ?_)
  refine a_putF (n := 30) (ws' := [(q, .inr (7, [.ref p8_1, .ref p17_2, .ref p25_3, .null, .null, .null, .null, .int 0, .null, .int 0, .int 0, .int 0, .int 0, .int 0, .int 0, .int 0, .int 0, .int 0, .int 0, .int 0, .int 0])), (p8_1, .inl (E.2.1, 9792, .inl (fun _ => 0))), (p17_2, .inl (E.2.1, 9792, .inl (fun _ => 0))), (p25_3, .inl (E.2.1, 68, .inl (fun _ => 0)))]) 0 ff_X7_16 dX7_init_27 rfl rfl rfl rfl (Nat.le_of_ble_eq_true rfl) rfl ?_
  refine a_aload_n (n := 31) 0 dX7_init_30 rfl rfl rfl ?_
  refine a_bipush (n := 33) (v := 68) dX7_init_31 rfl (by decide) ?_
  refine a_newi (n := 35) (N := 68) ac_int (by decide) (by decide) (by decide) (by omega) (by omega) dX7_init_33 rfl (fun p33_4 => ?_)
  refine a_putF (n := 38) (ws' := [(q, .inr (7, [.ref p8_1, .ref p17_2, .ref p25_3, .ref p33_4, .null, .null, .null, .int 0, .null, .int 0, .int 0, .int 0, .int 0, .int 0, .int 0, .int 0, .int 0, .int 0, .int 0, .int 0, .int 0])), (p8_1, .inl (E.2.1, 9792, .inl (fun _ => 0))), (p17_2, .inl (E.2.1, 9792, .inl (fun _ => 0))), (p25_3, .inl (E.2.1, 68, .inl (fun _ => 0))), (p33_4, .inl (E.2.1, 68, .inl (fun _ => 0)))]) 0 ff_X7_19 dX7_init_35 rfl rfl rfl rfl (Nat.le_of_ble_eq_true rfl) rfl ?_
  refine a_aload_n (n := 39) 0 dX7_init_38 rfl rfl rfl ?_
  refine a_sipush (n := 42) (v := 7593) dX7_init_39 rfl (by decide) ?_
  refine a_newi (n := 44) (N := 7593) ac_int (by decide) (by decide) (by decide) (by omega) (by omega) dX7_init_42 rfl (fun p42_5 => ?_)
  refine a_putF (n := 47) (ws' := [(q, .inr (7, [.ref p8_1, .ref p17_2, .ref p25_3, .ref p33_4, .ref p42_5, .null, .null, .int 0, .null, .int 0, .int 0, .int 0, .int 0, .int 0, .int 0, .int 0, .int 0, .int 0, .int 0, .int 0, .int 0])), (p8_1, .inl (E.2.1, 9792, .inl (fun _ => 0))), (p17_2, .inl (E.2.1, 9792, .inl (fun _ => 0))), (p25_3, .inl (E.2.1, 68, .inl (fun _ => 0))), (p33_4, .inl (E.2.1, 68, .inl (fun _ => 0))), (p42_5, .inl (E.2.1, 7593, .inl (fun _ => 0)))]) 0 ff_X7_22 dX7_init_44 rfl rfl rfl rfl (Nat.le_of_ble_eq_true rfl) rfl ?_
  refine a_aload_n (n := 48) 0 dX7_init_47 rfl rfl rfl ?_
  refine a_sipush (n := 51) (v := 7593) dX7_init_48 rfl (by decide) ?_
  refine a_newi (n := 53) (N := 7593) ac_int (by decide) (by decide) (by decide) (by omega) (by omega) dX7_init_51 rfl (fun p51_6 => ?_)
  refine a_putF (n := 56) (ws' := [(q, .inr (7, [.ref p8_1, .ref p17_2, .ref p25_3, .ref p33_4, .ref p42_5, .ref p51_6, .null, .int 0, .null, .int 0, .int 0, .int 0, .int 0, .int 0, .int 0, .int 0, .int 0, .int 0, .int 0, .int 0, .int 0])), (p8_1, .inl (E.2.1, 9792, .inl (fun _ => 0))), (p17_2, .inl (E.2.1, 9792, .inl (fun _ => 0))), (p25_3, .inl (E.2.1, 68, .inl (fun _ => 0))), (p33_4, .inl (E.2.1, 68, .inl (fun _ => 0))), (p42_5, .inl (E.2.1, 7593, .inl (fun _ => 0))), (p51_6, .inl (E.2.1, 7593, .inl (fun _ => 0)))]) 0 ff_X7_25 dX7_init_53 rfl rfl rfl rfl (Nat.le_of_ble_eq_true rfl) rfl ?_
  refine a_aload_n (n := 57) 0 dX7_init_56 rfl rfl rfl ?_
  refine a_sipush (n := 60) (v := 7593) dX7_init_57 rfl (by decide) ?_
  refine a_newi (n := 62) (N := 7593) ac_int (by decide) (by decide) (by decide) (by omega) (by omega) dX7_init_60 rfl (fun p60_7 => ?_)
  refine a_putF (n := 65) (ws' := [(q, .inr (7, [.ref p8_1, .ref p17_2, .ref p25_3, .ref p33_4, .ref p42_5, .ref p51_6, .ref p60_7, .int 0, .null, .int 0, .int 0, .int 0, .int 0, .int 0, .int 0, .int 0, .int 0, .int 0, .int 0, .int 0, .int 0])), (p8_1, .inl (E.2.1, 9792, .inl (fun _ => 0))), (p17_2, .inl (E.2.1, 9792, .inl (fun _ => 0))), (p25_3, .inl (E.2.1, 68, .inl (fun _ => 0))), (p33_4, .inl (E.2.1, 68, .inl (fun _ => 0))), (p42_5, .inl (E.2.1, 7593, .inl (fun _ => 0))), (p51_6, .inl (E.2.1, 7593, .inl (fun _ => 0))), (p60_7, .inl (E.2.1, 7593, .inl (fun _ => 0)))]) 0 ff_X7_28 dX7_init_62 rfl rfl rfl rfl (Nat.le_of_ble_eq_true rfl) rfl ?_
  refine a_aload_n (n := 66) 0 dX7_init_65 rfl rfl rfl ?_
  refine a_bipush (n := 68) (v := 80) dX7_init_66 rfl (by decide) ?_
  refine a_newi (n := 70) (N := 80) ac_int (by decide) (by decide) (by decide) (by omega) (by omega) dX7_init_68 rfl (fun p68_8 => ?_)
  refine a_putF (n := 73) (ws' := [(q, .inr (7, [.ref p8_1, .ref p17_2, .ref p25_3, .ref p33_4, .ref p42_5, .ref p51_6, .ref p60_7, .int 0, .ref p68_8, .int 0, .int 0, .int 0, .int 0, .int 0, .int 0, .int 0, .int 0, .int 0, .int 0, .int 0, .int 0])), (p8_1, .inl (E.2.1, 9792, .inl (fun _ => 0))), (p17_2, .inl (E.2.1, 9792, .inl (fun _ => 0))), (p25_3, .inl (E.2.1, 68, .inl (fun _ => 0))), (p33_4, .inl (E.2.1, 68, .inl (fun _ => 0))), (p42_5, .inl (E.2.1, 7593, .inl (fun _ => 0))), (p51_6, .inl (E.2.1, 7593, .inl (fun _ => 0))), (p60_7, .inl (E.2.1, 7593, .inl (fun _ => 0))), (p68_8, .inl (E.2.1, 80, .inl (fun _ => 0)))]) 0 ff_X7_31 dX7_init_70 rfl rfl rfl rfl (Nat.le_of_ble_eq_true rfl) rfl ?_
  refine a_aload_n (n := 74) 0 dX7_init_73 rfl rfl rfl ?_
  refine a_iconst (n := 75) (v := -1) dX7_init_74 rfl (by decide) ?_
  refine a_put (n := 78) (ws' := [(q, .inr (7, [.ref p8_1, .ref p17_2, .ref p25_3, .ref p33_4, .ref p42_5, .ref p51_6, .ref p60_7, .int 0, .ref p68_8, .int 0, .int ((-1)), .int 0, .int 0, .int 0, .int 0, .int 0, .int 0, .int 0, .int 0, .int 0, .int 0])), (p8_1, .inl (E.2.1, 9792, .inl (fun _ => 0))), (p17_2, .inl (E.2.1, 9792, .inl (fun _ => 0))), (p25_3, .inl (E.2.1, 68, .inl (fun _ => 0))), (p33_4, .inl (E.2.1, 68, .inl (fun _ => 0))), (p42_5, .inl (E.2.1, 7593, .inl (fun _ => 0))), (p51_6, .inl (E.2.1, 7593, .inl (fun _ => 0))), (p60_7, .inl (E.2.1, 7593, .inl (fun _ => 0))), (p68_8, .inl (E.2.1, 80, .inl (fun _ => 0)))]) 0 fp_X7_34 dX7_init_75 rfl rfl rfl rfl (Nat.le_of_ble_eq_true rfl) rfl ?_
  refine a_iconst (n := 79) (v := 0) dX7_init_78 rfl (by decide) ?_
  refine a_istore_n (n := 80) (L' := [(1, .int 0), (0, .ref q)]) dX7_init_79 rfl rfl (Nat.le_of_ble_eq_true rfl) rfl ?_
  refine a_iload_n (n := 81) 0 dX7_init_80 rfl rfl rfl ?_
  refine a_bipush (n := 83) (v := 8) dX7_init_81 rfl (by decide) ?_
  refine a_geF (n := 86) (tgt := 101) (by decide) dX7_init_83 (by decide) rfl ?_
  refine a_aload_n (n := 87) 1 dX7_init_86 rfl rfl rfl ?_
  refine a_get (n := 90) (v := .ref p42_5) 0 fg_X7_22 dX7_init_87 rfl rfl rfl ?_
  refine a_iconst (n := 91) (v := 1) dX7_init_90 rfl (by decide) ?_
  refine a_iload_n (n := 92) 0 dX7_init_91 rfl rfl rfl ?_
  refine a_iadd (n := 93) (z := 1) dX7_init_92 rfl (by decide) ?_
  refine a_iconst (n := 94) (v := 1) dX7_init_93 rfl (by decide) ?_
  refine a_iast (n := 95) (ws' := [(q, .inr (7, [.ref p8_1, .ref p17_2, .ref p25_3, .ref p33_4, .ref p42_5, .ref p51_6, .ref p60_7, .int 0, .ref p68_8, .int 0, .int ((-1)), .int 0, .int 0, .int 0, .int 0, .int 0, .int 0, .int 0, .int 0, .int 0, .int 0])), (p8_1, .inl (E.2.1, 9792, .inl (fun _ => 0))), (p17_2, .inl (E.2.1, 9792, .inl (fun _ => 0))), (p25_3, .inl (E.2.1, 68, .inl (fun _ => 0))), (p33_4, .inl (E.2.1, 68, .inl (fun _ => 0))), (p42_5, .inl (E.2.1, 7593, .inl (upd (fun _ => 0) 1 1))), (p51_6, .inl (E.2.1, 7593, .inl (fun _ => 0))), (p60_7, .inl (E.2.1, 7593, .inl (fun _ => 0))), (p68_8, .inl (E.2.1, 80, .inl (fun _ => 0)))]) 5 (by decide) dX7_init_94 rfl rfl rfl ?_
  refine a_iinc (n := 98) (y := 1) (L' := [(1, .int 1), (0, .ref q)]) 0 dX7_init_95 rfl rfl (by decide) (Nat.le_of_ble_eq_true rfl) rfl ?_
  refine a_goto (n := 80) dX7_init_98 (by decide) ?_
  refine a_iload_n (n := 81) 0 dX7_init_80 rfl rfl rfl ?_
  refine a_bipush (n := 83) (v := 8) dX7_init_81 rfl (by decide) ?_
  refine a_geF (n := 86) (tgt := 101) (by decide) dX7_init_83 (by decide) rfl ?_
  refine a_aload_n (n := 87) 1 dX7_init_86 rfl rfl rfl ?_
  refine a_get (n := 90) (v := .ref p42_5) 0 fg_X7_22 dX7_init_87 rfl rfl rfl ?_
  refine a_iconst (n := 91) (v := 1) dX7_init_90 rfl (by decide) ?_
  refine a_iload_n (n := 92) 0 dX7_init_91 rfl rfl rfl ?_
  refine a_iadd (n := 93) (z := 2) dX7_init_92 rfl (by decide) ?_
  refine a_iconst (n := 94) (v := 1) dX7_init_93 rfl (by decide) ?_
  refine a_iast (n := 95) (ws' := [(q, .inr (7, [.ref p8_1, .ref p17_2, .ref p25_3, .ref p33_4, .ref p42_5, .ref p51_6, .ref p60_7, .int 0, .ref p68_8, .int 0, .int ((-1)), .int 0, .int 0, .int 0, .int 0, .int 0, .int 0, .int 0, .int 0, .int 0, .int 0])), (p8_1, .inl (E.2.1, 9792, .inl (fun _ => 0))), (p17_2, .inl (E.2.1, 9792, .inl (fun _ => 0))), (p25_3, .inl (E.2.1, 68, .inl (fun _ => 0))), (p33_4, .inl (E.2.1, 68, .inl (fun _ => 0))), (p42_5, .inl (E.2.1, 7593, .inl (upd (upd (fun _ => 0) 1 1) 2 1))), (p51_6, .inl (E.2.1, 7593, .inl (fun _ => 0))), (p60_7, .inl (E.2.1, 7593, .inl (fun _ => 0))), (p68_8, .inl (E.2.1, 80, .inl (fun _ => 0)))]) 5 (by decide) dX7_init_94 rfl rfl rfl ?_
  refine a_iinc (n := 98) (y := 2) (L' := [(1, .int 2), (0, .ref q)]) 0 dX7_init_95 rfl rfl (by decide) (Nat.le_of_ble_eq_true rfl) rfl ?_
  refine a_goto (n := 80) dX7_init_98 (by decide) ?_
  refine a_iload_n (n := 81) 0 dX7_init_80 rfl rfl rfl ?_
  refine a_bipush (n := 83) (v := 8) dX7_init_81 rfl (by decide) ?_
  refine a_geF (n := 86) (tgt := 101) (by decide) dX7_init_83 (by decide) rfl ?_
  refine a_aload_n (n := 87) 1 dX7_init_86 rfl rfl rfl ?_
  refine a_get (n := 90) (v := .ref p42_5) 0 fg_X7_22 dX7_init_87 rfl rfl rfl ?_
  refine a_iconst (n := 91) (v := 1) dX7_init_90 rfl (by decide) ?_
  refine a_iload_n (n := 92) 0 dX7_init_91 rfl rfl rfl ?_
  refine a_iadd (n := 93) (z := 3) dX7_init_92 rfl (by decide) ?_
  refine a_iconst (n := 94) (v := 1) dX7_init_93 rfl (by decide) ?_
  refine a_iast (n := 95) (ws' := [(q, .inr (7, [.ref p8_1, .ref p17_2, .ref p25_3, .ref p33_4, .ref p42_5, .ref p51_6, .ref p60_7, .int 0, .ref p68_8, .int 0, .int ((-1)), .int 0, .int 0, .int 0, .int 0, .int 0, .int 0, .int 0, .int 0, .int 0, .int 0])), (p8_1, .inl (E.2.1, 9792, .inl (fun _ => 0))), (p17_2, .inl (E.2.1, 9792, .inl (fun _ => 0))), (p25_3, .inl (E.2.1, 68, .inl (fun _ => 0))), (p33_4, .inl (E.2.1, 68, .inl (fun _ => 0))), (p42_5, .inl (E.2.1, 7593, .inl (upd (upd (upd (fun _ => 0) 1 1) 2 1) 3 1))), (p51_6, .inl (E.2.1, 7593, .inl (fun _ => 0))), (p60_7, .inl (E.2.1, 7593, .inl (fun _ => 0))), (p68_8, .inl (E.2.1, 80, .inl (fun _ => 0)))]) 5 (by decide) dX7_init_94 rfl rfl rfl ?_
  refine a_iinc (n := 98) (y := 3) (L' := [(1, .int 3), (0, .ref q)]) 0 dX7_init_95 rfl rfl (by decide) (Nat.le_of_ble_eq_true rfl) rfl ?_
  refine a_goto (n := 80) dX7_init_98 (by decide) ?_
  refine a_iload_n (n := 81) 0 dX7_init_80 rfl rfl rfl ?_
  refine a_bipush (n := 83) (v := 8) dX7_init_81 rfl (by decide) ?_
  refine a_geF (n := 86) (tgt := 101) (by decide) dX7_init_83 (by decide) rfl ?_
  refine a_aload_n (n := 87) 1 dX7_init_86 rfl rfl rfl ?_
  refine a_get (n := 90) (v := .ref p42_5) 0 fg_X7_22 dX7_init_87 rfl rfl rfl ?_
  refine a_iconst (n := 91) (v := 1) dX7_init_90 rfl (by decide) ?_
  refine a_iload_n (n := 92) 0 dX7_init_91 rfl rfl rfl ?_
  refine a_iadd (n := 93) (z := 4) dX7_init_92 rfl (by decide) ?_
  refine a_iconst (n := 94) (v := 1) dX7_init_93 rfl (by decide) ?_
  refine a_iast (n := 95) (ws' := [(q, .inr (7, [.ref p8_1, .ref p17_2, .ref p25_3, .ref p33_4, .ref p42_5, .ref p51_6, .ref p60_7, .int 0, .ref p68_8, .int 0, .int ((-1)), .int 0, .int 0, .int 0, .int 0, .int 0, .int 0, .int 0, .int 0, .int 0, .int 0])), (p8_1, .inl (E.2.1, 9792, .inl (fun _ => 0))), (p17_2, .inl (E.2.1, 9792, .inl (fun _ => 0))), (p25_3, .inl (E.2.1, 68, .inl (fun _ => 0))), (p33_4, .inl (E.2.1, 68, .inl (fun _ => 0))), (p42_5, .inl (E.2.1, 7593, .inl (upd (upd (upd (upd (fun _ => 0) 1 1) 2 1) 3 1) 4 1))), (p51_6, .inl (E.2.1, 7593, .inl (fun _ => 0))), (p60_7, .inl (E.2.1, 7593, .inl (fun _ => 0))), (p68_8, .inl (E.2.1, 80, .inl (fun _ => 0)))]) 5 (by decide) dX7_init_94 rfl rfl rfl ?_
  refine a_iinc (n := 98) (y := 4) (L' := [(1, .int 4), (0, .ref q)]) 0 dX7_init_95 rfl rfl (by decide) (Nat.le_of_ble_eq_true rfl) rfl ?_
  refine a_goto (n := 80) dX7_init_98 (by decide) ?_
  refine a_iload_n (n := 81) 0 dX7_init_80 rfl rfl rfl ?_
  refine a_bipush (n := 83) (v := 8) dX7_init_81 rfl (by decide) ?_
  refine a_geF (n := 86) (tgt := 101) (by decide) dX7_init_83 (by decide) rfl ?_
  refine a_aload_n (n := 87) 1 dX7_init_86 rfl rfl rfl ?_
  refine a_get (n := 90) (v := .ref p42_5) 0 fg_X7_22 dX7_init_87 rfl rfl rfl ?_
  refine a_iconst (n := 91) (v := 1) dX7_init_90 rfl (by decide) ?_
  refine a_iload_n (n := 92) 0 dX7_init_91 rfl rfl rfl ?_
  refine a_iadd (n := 93) (z := 5) dX7_init_92 rfl (by decide) ?_
  refine a_iconst (n := 94) (v := 1) dX7_init_93 rfl (by decide) ?_
  refine a_iast (n := 95) (ws' := [(q, .inr (7, [.ref p8_1, .ref p17_2, .ref p25_3, .ref p33_4, .ref p42_5, .ref p51_6, .ref p60_7, .int 0, .ref p68_8, .int 0, .int ((-1)), .int 0, .int 0, .int 0, .int 0, .int 0, .int 0, .int 0, .int 0, .int 0, .int 0])), (p8_1, .inl (E.2.1, 9792, .inl (fun _ => 0))), (p17_2, .inl (E.2.1, 9792, .inl (fun _ => 0))), (p25_3, .inl (E.2.1, 68, .inl (fun _ => 0))), (p33_4, .inl (E.2.1, 68, .inl (fun _ => 0))), (p42_5, .inl (E.2.1, 7593, .inl (upd (upd (upd (upd (upd (fun _ => 0) 1 1) 2 1) 3 1) 4 1) 5 1))), (p51_6, .inl (E.2.1, 7593, .inl (fun _ => 0))), (p60_7, .inl (E.2.1, 7593, .inl (fun _ => 0))), (p68_8, .inl (E.2.1, 80, .inl (fun _ => 0)))]) 5 (by decide) dX7_init_94 rfl rfl rfl ?_
  refine a_iinc (n := 98) (y := 5) (L' := [(1, .int 5), (0, .ref q)]) 0 dX7_init_95 rfl rfl (by decide) (Nat.le_of_ble_eq_true rfl) rfl ?_
  refine a_goto (n := 80) dX7_init_98 (by decide) ?_
  refine a_iload_n (n := 81) 0 dX7_init_80 rfl rfl rfl ?_
  refine a_bipush (n := 83) (v := 8) dX7_init_81 rfl (by decide) ?_
  refine a_geF (n := 86) (tgt := 101) (by decide) dX7_init_83 (by decide) rfl ?_
  refine a_aload_n (n := 87) 1 dX7_init_86 rfl rfl rfl ?_
  refine a_get (n := 90) (v := .ref p42_5) 0 fg_X7_22 dX7_init_87 rfl rfl rfl ?_
  refine a_iconst (n := 91) (v := 1) dX7_init_90 rfl (by decide) ?_
  refine a_iload_n (n := 92) 0 dX7_init_91 rfl rfl rfl ?_
  refine a_iadd (n := 93) (z := 6) dX7_init_92 rfl (by decide) ?_
  refine a_iconst (n := 94) (v := 1) dX7_init_93 rfl (by decide) ?_
  refine a_iast (n := 95) (ws' := [(q, .inr (7, [.ref p8_1, .ref p17_2, .ref p25_3, .ref p33_4, .ref p42_5, .ref p51_6, .ref p60_7, .int 0, .ref p68_8, .int 0, .int ((-1)), .int 0, .int 0, .int 0, .int 0, .int 0, .int 0, .int 0, .int 0, .int 0, .int 0])), (p8_1, .inl (E.2.1, 9792, .inl (fun _ => 0))), (p17_2, .inl (E.2.1, 9792, .inl (fun _ => 0))), (p25_3, .inl (E.2.1, 68, .inl (fun _ => 0))), (p33_4, .inl (E.2.1, 68, .inl (fun _ => 0))), (p42_5, .inl (E.2.1, 7593, .inl (upd (upd (upd (upd (upd (upd (fun _ => 0) 1 1) 2 1) 3 1) 4 1) 5 1) 6 1))), (p51_6, .inl (E.2.1, 7593, .inl (fun _ => 0))), (p60_7, .inl (E.2.1, 7593, .inl (fun _ => 0))), (p68_8, .inl (E.2.1, 80, .inl (fun _ => 0)))]) 5 (by decide) dX7_init_94 rfl rfl rfl ?_
  refine a_iinc (n := 98) (y := 6) (L' := [(1, .int 6), (0, .ref q)]) 0 dX7_init_95 rfl rfl (by decide) (Nat.le_of_ble_eq_true rfl) rfl ?_
  refine a_goto (n := 80) dX7_init_98 (by decide) ?_
  refine a_iload_n (n := 81) 0 dX7_init_80 rfl rfl rfl ?_
  refine a_bipush (n := 83) (v := 8) dX7_init_81 rfl (by decide) ?_
  refine a_geF (n := 86) (tgt := 101) (by decide) dX7_init_83 (by decide) rfl ?_
  refine a_aload_n (n := 87) 1 dX7_init_86 rfl rfl rfl ?_
  refine a_get (n := 90) (v := .ref p42_5) 0 fg_X7_22 dX7_init_87 rfl rfl rfl ?_
  refine a_iconst (n := 91) (v := 1) dX7_init_90 rfl (by decide) ?_
  refine a_iload_n (n := 92) 0 dX7_init_91 rfl rfl rfl ?_
  refine a_iadd (n := 93) (z := 7) dX7_init_92 rfl (by decide) ?_
  refine a_iconst (n := 94) (v := 1) dX7_init_93 rfl (by decide) ?_
  refine a_iast (n := 95) (ws' := [(q, .inr (7, [.ref p8_1, .ref p17_2, .ref p25_3, .ref p33_4, .ref p42_5, .ref p51_6, .ref p60_7, .int 0, .ref p68_8, .int 0, .int ((-1)), .int 0, .int 0, .int 0, .int 0, .int 0, .int 0, .int 0, .int 0, .int 0, .int 0])), (p8_1, .inl (E.2.1, 9792, .inl (fun _ => 0))), (p17_2, .inl (E.2.1, 9792, .inl (fun _ => 0))), (p25_3, .inl (E.2.1, 68, .inl (fun _ => 0))), (p33_4, .inl (E.2.1, 68, .inl (fun _ => 0))), (p42_5, .inl (E.2.1, 7593, .inl (upd (upd (upd (upd (upd (upd (upd (fun _ => 0) 1 1) 2 1) 3 1) 4 1) 5 1) 6 1) 7 1))), (p51_6, .inl (E.2.1, 7593, .inl (fun _ => 0))), (p60_7, .inl (E.2.1, 7593, .inl (fun _ => 0))), (p68_8, .inl (E.2.1, 80, .inl (fun _ => 0)))]) 5 (by decide) dX7_init_94 rfl rfl rfl ?_
  refine a_iinc (n := 98) (y := 7) (L' := [(1, .int 7), (0, .ref q)]) 0 dX7_init_95 rfl rfl (by decide) (Nat.le_of_ble_eq_true rfl) rfl ?_
  refine a_goto (n := 80) dX7_init_98 (by decide) ?_
  refine a_iload_n (n := 81) 0 dX7_init_80 rfl rfl rfl ?_
  refine a_bipush (n := 83) (v := 8) dX7_init_81 rfl (by decide) ?_
  refine a_geF (n := 86) (tgt := 101) (by decide) dX7_init_83 (by decide) rfl ?_
  refine a_aload_n (n := 87) 1 dX7_init_86 rfl rfl rfl ?_
  refine a_get (n := 90) (v := .ref p42_5) 0 fg_X7_22 dX7_init_87 rfl rfl rfl ?_
  refine a_iconst (n := 91) (v := 1) dX7_init_90 rfl (by decide) ?_
  refine a_iload_n (n := 92) 0 dX7_init_91 rfl rfl rfl ?_
  refine a_iadd (n := 93) (z := 8) dX7_init_92 rfl (by decide) ?_
  refine a_iconst (n := 94) (v := 1) dX7_init_93 rfl (by decide) ?_
  refine a_iast (n := 95) (ws' := [(q, .inr (7, [.ref p8_1, .ref p17_2, .ref p25_3, .ref p33_4, .ref p42_5, .ref p51_6, .ref p60_7, .int 0, .ref p68_8, .int 0, .int ((-1)), .int 0, .int 0, .int 0, .int 0, .int 0, .int 0, .int 0, .int 0, .int 0, .int 0])), (p8_1, .inl (E.2.1, 9792, .inl (fun _ => 0))), (p17_2, .inl (E.2.1, 9792, .inl (fun _ => 0))), (p25_3, .inl (E.2.1, 68, .inl (fun _ => 0))), (p33_4, .inl (E.2.1, 68, .inl (fun _ => 0))), (p42_5, .inl (E.2.1, 7593, .inl (upd (upd (upd (upd (upd (upd (upd (upd (fun _ => 0) 1 1) 2 1) 3 1) 4 1) 5 1) 6 1) 7 1) 8 1))), (p51_6, .inl (E.2.1, 7593, .inl (fun _ => 0))), (p60_7, .inl (E.2.1, 7593, .inl (fun _ => 0))), (p68_8, .inl (E.2.1, 80, .inl (fun _ => 0)))]) 5 (by decide) dX7_init_94 rfl rfl rfl ?_
  refine a_iinc (n := 98) (y := 8) (L' := [(1, .int 8), (0, .ref q)]) 0 dX7_init_95 rfl rfl (by decide) (Nat.le_of_ble_eq_true rfl) rfl ?_
  refine a_goto (n := 80) dX7_init_98 (by decide) ?_
  refine a_iload_n (n := 81) 0 dX7_init_80 rfl rfl rfl ?_
  refine a_bipush (n := 83) (v := 8) dX7_init_81 rfl (by decide) ?_
  refine a_geT (n := 101) (by decide) dX7_init_83 (by decide) ?_
  exact a_ret (by omega) (by omega) ⟨fun k => (cond (Nat.beq k 0) q (cond (Nat.beq k 1) p8_1 (cond (Nat.beq k 2) p17_2 (cond (Nat.beq k 3) p25_3 (cond (Nat.beq k 4) p33_4 (cond (Nat.beq k 5) p42_5 (cond (Nat.beq k 6) p51_6 (cond (Nat.beq k 7) p60_7 (p68_8))))))))), rfl, rfl⟩ dX7_init_101
