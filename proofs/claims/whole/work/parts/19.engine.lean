/-! the engine's own cells, with the present world and the versions -/
def txv (ad : Ad3) (tx : Nat) : Value := .ref (cond (Nat.beq tx 0) (ad 30 0 5) (ad 30 0 1))
def tgv (va : Nat → Nat → Nat) (tg : Nat) : Value := cond (Nat.beq tg 0) .null (.ref (va (tg - 1) 0))
def hP_f300 (ad : Ad3) (x : Mem) : List Value := [.ref (ad 30 0 1), .ref (ad 30 0 2), .ref (ad 30 0 4), .ref (ad 0 0 0), .ref (ad 1 0 0), .ref (ad 2 0 0), .int (x 0 6), .int (x 0 7)]
def hP_f400 (ad : Ad3) (va : Nat → Nat → Nat) (tx tg : Nat) (r : Mem) : List Value := [.ref (ad 30 0 3), txv ad tx, .int (r 0 2), tgv va tg, .int (r 0 4), .int (r 0 5)]
def hN (E : Ev) (ad : Ad3) (va : Nat → Nat → Nat) (x : Mem) (tx tg : Nat) (r : Mem) : va_W := [(ad 30 0 0, .inr (6, hP_f300 ad x)), (ad 30 0 1, .inl (E.2.1, 80, .inl (x 1))), (ad 30 0 2, .inr (3, hP_f400 ad va tx tg r)), (ad 30 0 3, .inl (E.2.1, 24, .inl (r 1))), (ad 30 0 4, .inl (E.2.2.1, 16, .inr (.inr (.inr (.inr (fun v => some (va v 0)))))))]
def hP (E : Ev) (ad : Ad3) (va : Nat → Nat → Nat) (rl : Nat) (x : Mem) (tx tg : Nat) (r w e : Mem) (I H : Fam) (pl : Nat → Nat) (vs : Fam) : va_W := hN E ad va x tx tg r ++ hWV E ad va rl w e I H pl vs
section PL
variable {E : Ev} {ad : Ad3} {va : Nat → Nat → Nat} {rl : Nat} {x : Mem} {tx tg : Nat} {r w e : Mem} {I H : Fam} {pl : Nat → Nat} {vs : Fam}

theorem hP_o300 : (hP E ad va rl x tx tg r w e I H pl vs)[0]? = some (ad 30 0 0, .inr (6, hP_f300 ad x)) := rfl
theorem hP_a301 : (hP E ad va rl x tx tg r w e I H pl vs)[1]? = some (ad 30 0 1, .inl (E.2.1, 80, .inl (x 1))) := rfl
theorem hP_o400 : (hP E ad va rl x tx tg r w e I H pl vs)[2]? = some (ad 30 0 2, .inr (3, hP_f400 ad va tx tg r)) := rfl
theorem hP_r500 : (hP E ad va rl x tx tg r w e I H pl vs)[4]? = some (ad 30 0 4, .inl (E.2.2.1, 16, .inr (.inr (.inr (.inr (fun v => some (va v 0))))))) := rfl
theorem hP_o0 : (hP E ad va rl x tx tg r w e I H pl vs)[5]? = some (ad 0 0 0, .inr (5, hW_f0 ad w)) := rfl
theorem hP_o1 : (hP E ad va rl x tx tg r w e I H pl vs)[6]? = some (ad 0 0 1, .inr (0, hW_f1 ad e)) := rfl
theorem hP_a2 : (hP E ad va rl x tx tg r w e I H pl vs)[7]? = some (ad 0 0 2, .inl (E.2.1, 8, .inl (e 2))) := rfl
theorem hP_a3 : (hP E ad va rl x tx tg r w e I H pl vs)[8]? = some (ad 0 0 3, .inl (E.2.1, 8, .inl (e 3))) := rfl
theorem hP_r4 : (hP E ad va rl x tx tg r w e I H pl vs)[9]? = some (ad 0 0 4, .inl (E.2.2.2, 6, .inr (.inr (.inr (.inr (fun j => some (ad 10 j 0))))))) := rfl
theorem hP_a5 : (hP E ad va rl x tx tg r w e I H pl vs)[10]? = some (ad 0 0 5, .inl (E.2.1, 4, .inl (w 5))) := rfl
theorem hP_s301 {i : Nat} {v : Int32} : (hP E ad va rl x tx tg r w e I H pl vs).set 1 (ad 30 0 1, .inl (E.2.1, 80, .inl (upd (x 1) i v))) = hP E ad va rl (up x 1 i v) tx tg r w e I H pl vs := rfl
theorem hP_p300_6 {v : Int32} : (hP E ad va rl x tx tg r w e I H pl vs).set 0 (ad 30 0 0, .inr (6, (hP_f300 ad x).set 6 (.int v))) = hP E ad va rl (up x 0 6 v) tx tg r w e I H pl vs := rfl
theorem hP_p300_7 {v : Int32} : (hP E ad va rl x tx tg r w e I H pl vs).set 0 (ad 30 0 0, .inr (6, (hP_f300 ad x).set 7 (.int v))) = hP E ad va rl (up x 0 7 v) tx tg r w e I H pl vs := rfl
theorem hP_p0_3 {v : Int32} : (hP E ad va rl x tx tg r w e I H pl vs).set 5 (ad 0 0 0, .inr (5, (hW_f0 ad w).set 3 (.int v))) = hP E ad va rl x tx tg r (up w 0 3 v) e I H pl vs := rfl
theorem hP_p0_4 {v : Int32} : (hP E ad va rl x tx tg r w e I H pl vs).set 5 (ad 0 0 0, .inr (5, (hW_f0 ad w).set 4 (.int v))) = hP E ad va rl x tx tg r (up w 0 4 v) e I H pl vs := rfl
theorem hP_s5 {i : Nat} {v : Int32} : (hP E ad va rl x tx tg r w e I H pl vs).set 10 (ad 0 0 5, .inl (E.2.1, 4, .inl (upd (w 5) i v))) = hP E ad va rl x tx tg r (up w 5 i v) e I H pl vs := rfl
theorem hP_A2 {f : Nat → Int32} : (hP E ad va rl x tx tg r w e I H pl vs).set 7 (ad 0 0 2, .inl (E.2.1, 8, .inl f)) = hP E ad va rl x tx tg r w (upA e 2 f) I H pl vs := rfl
theorem hP_A3 {f : Nat → Int32} : (hP E ad va rl x tx tg r w e I H pl vs).set 8 (ad 0 0 3, .inl (E.2.1, 8, .inl f)) = hP E ad va rl x tx tg r w (upA e 3 f) I H pl vs := rfl
theorem hP_io : ∀ j, j < 6 → (hP E ad va rl x tx tg r w e I H pl vs)[11 + 12 * j]? = some (ad 10 j 0, .inr (2, hI_f0 (adI ad va j (pl j)) (I j))) := six rfl rfl rfl rfl rfl rfl
theorem hP_iv : ∀ j, j < 6 → (hP E ad va rl x tx tg r w e I H pl vs)[11 + 12 * j + 1]? = some (ad 10 j 1, .inl (E.2.1, 4, .inl (I j 16))) := six rfl rfl rfl rfl rfl rfl
theorem hP_ip : ∀ j, j < 6 → (hP E ad va rl x tx tg r w e I H pl vs)[11 + 12 * j + 2]? = some (ad 10 j 2, .inl (E.2.1, 8, .inl (I j 17))) := six rfl rfl rfl rfl rfl rfl
theorem hP_ih : ∀ j, j < 6 → (hP E ad va rl x tx tg r w e I H pl vs)[11 + 12 * j + 10]? = some (ad 10 j 10, .inr (1, hI_f4 (adI ad va j 0) (H j))) := six rfl rfl rfl rfl rfl rfl
theorem hP_vo : ∀ v, v < 17 → (hP E ad va rl x tx tg r w e I H pl vs)[83 + 10 * v]? = some (va v 0, .inr (4, hV_f6 (fun k => va v (k - 6)) (vs v))) := seventeen rfl rfl rfl rfl rfl rfl rfl rfl rfl rfl rfl rfl rfl rfl rfl rfl rfl
/-- a set in an instance's own cells -/
theorem hP_key {j k : Nat} (hk : k < 12) {c : Nat × va_E} {pre S : va_W} {o1 h1 : Mem} {v1 : Nat} {N0 W0 : va_W} {J' : va_W} (hN : N0.length = 5) (hW : W0.length = 6) (hp : pre.length = 12 * j) (hj9 : (hJ E ad va rl o1 h1 v1 j).set k c = J') : (N0 ++ (W0 ++ (pre ++ (hJ E ad va rl o1 h1 v1 j ++ S)))).set (11 + 12 * j + k) c = N0 ++ (W0 ++ (pre ++ (J' ++ S))) := by
  rw [List.set_append_right _ _ (by omega), List.set_append_right _ _ (by omega), List.set_append_right _ _ (by omega), hN, hW, hp, List.set_append_left _ _ (by show _ < 12; omega)]
  have e9 : 11 + 12 * j + k - 5 - 6 - 12 * j = k := by omega
  rw [e9, hj9]
theorem hP_sp0 : ∀ j, j < 6 → ∀ (i : Nat) (v : Int32), (hP E ad va rl x tx tg r w e I H pl vs).set (11 + 12 * j + 2) (ad 10 j 2, .inl (E.2.1, 8, .inl (upd (I j 17) i v))) = hP E ad va rl x tx tg r w e (upF I j (up (I j) 17 i v)) H pl vs := by
  refine six ?_ ?_ ?_ ?_ ?_ ?_
  · intro i v
    have := hP_key (E := E) (ad := ad) (va := va) (rl := rl) (j := 0) (k := 2) (by omega) (c := (ad 10 0 2, .inl (E.2.1, 8, .inl (upd (I 0 17) i v)))) (pre := []) (S := hJ E ad va rl (I 1) (H 1) (pl 1) 1 ++ (hJ E ad va rl (I 2) (H 2) (pl 2) 2 ++ (hJ E ad va rl (I 3) (H 3) (pl 3) 3 ++ (hJ E ad va rl (I 4) (H 4) (pl 4) 4 ++ (hJ E ad va rl (I 5) (H 5) (pl 5) 5 ++ (hVV E va vs)))))) (o1 := I 0) (h1 := H 0) (v1 := pl 0) (N0 := hN E ad va x tx tg r) (W0 := hWh E ad w e) (J' := hJ E ad va rl (up (I 0) 17 i v) (H 0) (pl 0) 0) rfl rfl rfl rfl
    simp only [hP, hWV, hB, List.append_assoc, List.nil_append] at this ⊢
    exact this
  · intro i v
    have := hP_key (E := E) (ad := ad) (va := va) (rl := rl) (j := 1) (k := 2) (by omega) (c := (ad 10 1 2, .inl (E.2.1, 8, .inl (upd (I 1 17) i v)))) (pre := hJ E ad va rl (I 0) (H 0) (pl 0) 0) (S := hJ E ad va rl (I 2) (H 2) (pl 2) 2 ++ (hJ E ad va rl (I 3) (H 3) (pl 3) 3 ++ (hJ E ad va rl (I 4) (H 4) (pl 4) 4 ++ (hJ E ad va rl (I 5) (H 5) (pl 5) 5 ++ (hVV E va vs))))) (o1 := I 1) (h1 := H 1) (v1 := pl 1) (N0 := hN E ad va x tx tg r) (W0 := hWh E ad w e) (J' := hJ E ad va rl (up (I 1) 17 i v) (H 1) (pl 1) 1) rfl rfl rfl rfl
    simp only [hP, hWV, hB, List.append_assoc, List.nil_append] at this ⊢
    exact this
  · intro i v
    have := hP_key (E := E) (ad := ad) (va := va) (rl := rl) (j := 2) (k := 2) (by omega) (c := (ad 10 2 2, .inl (E.2.1, 8, .inl (upd (I 2 17) i v)))) (pre := hJ E ad va rl (I 0) (H 0) (pl 0) 0 ++ (hJ E ad va rl (I 1) (H 1) (pl 1) 1)) (S := hJ E ad va rl (I 3) (H 3) (pl 3) 3 ++ (hJ E ad va rl (I 4) (H 4) (pl 4) 4 ++ (hJ E ad va rl (I 5) (H 5) (pl 5) 5 ++ (hVV E va vs)))) (o1 := I 2) (h1 := H 2) (v1 := pl 2) (N0 := hN E ad va x tx tg r) (W0 := hWh E ad w e) (J' := hJ E ad va rl (up (I 2) 17 i v) (H 2) (pl 2) 2) rfl rfl rfl rfl
    simp only [hP, hWV, hB, List.append_assoc, List.nil_append] at this ⊢
    exact this
  · intro i v
    have := hP_key (E := E) (ad := ad) (va := va) (rl := rl) (j := 3) (k := 2) (by omega) (c := (ad 10 3 2, .inl (E.2.1, 8, .inl (upd (I 3 17) i v)))) (pre := hJ E ad va rl (I 0) (H 0) (pl 0) 0 ++ (hJ E ad va rl (I 1) (H 1) (pl 1) 1 ++ (hJ E ad va rl (I 2) (H 2) (pl 2) 2))) (S := hJ E ad va rl (I 4) (H 4) (pl 4) 4 ++ (hJ E ad va rl (I 5) (H 5) (pl 5) 5 ++ (hVV E va vs))) (o1 := I 3) (h1 := H 3) (v1 := pl 3) (N0 := hN E ad va x tx tg r) (W0 := hWh E ad w e) (J' := hJ E ad va rl (up (I 3) 17 i v) (H 3) (pl 3) 3) rfl rfl rfl rfl
    simp only [hP, hWV, hB, List.append_assoc, List.nil_append] at this ⊢
    exact this
  · intro i v
    have := hP_key (E := E) (ad := ad) (va := va) (rl := rl) (j := 4) (k := 2) (by omega) (c := (ad 10 4 2, .inl (E.2.1, 8, .inl (upd (I 4 17) i v)))) (pre := hJ E ad va rl (I 0) (H 0) (pl 0) 0 ++ (hJ E ad va rl (I 1) (H 1) (pl 1) 1 ++ (hJ E ad va rl (I 2) (H 2) (pl 2) 2 ++ (hJ E ad va rl (I 3) (H 3) (pl 3) 3)))) (S := hJ E ad va rl (I 5) (H 5) (pl 5) 5 ++ (hVV E va vs)) (o1 := I 4) (h1 := H 4) (v1 := pl 4) (N0 := hN E ad va x tx tg r) (W0 := hWh E ad w e) (J' := hJ E ad va rl (up (I 4) 17 i v) (H 4) (pl 4) 4) rfl rfl rfl rfl
    simp only [hP, hWV, hB, List.append_assoc, List.nil_append] at this ⊢
    exact this
  · intro i v
    have := hP_key (E := E) (ad := ad) (va := va) (rl := rl) (j := 5) (k := 2) (by omega) (c := (ad 10 5 2, .inl (E.2.1, 8, .inl (upd (I 5 17) i v)))) (pre := hJ E ad va rl (I 0) (H 0) (pl 0) 0 ++ (hJ E ad va rl (I 1) (H 1) (pl 1) 1 ++ (hJ E ad va rl (I 2) (H 2) (pl 2) 2 ++ (hJ E ad va rl (I 3) (H 3) (pl 3) 3 ++ (hJ E ad va rl (I 4) (H 4) (pl 4) 4))))) (S := hVV E va vs) (o1 := I 5) (h1 := H 5) (v1 := pl 5) (N0 := hN E ad va x tx tg r) (W0 := hWh E ad w e) (J' := hJ E ad va rl (up (I 5) 17 i v) (H 5) (pl 5) 5) rfl rfl rfl rfl
    simp only [hP, hWV, hB, List.append_assoc, List.nil_append] at this ⊢
    exact this
theorem hP_pi0 : ∀ j, j < 6 → ∀ (v : Int32), (hP E ad va rl x tx tg r w e I H pl vs).set (11 + 12 * j + 0) (ad 10 j 0, .inr (2, (hI_f0 (adI ad va j (pl j)) (I j)).set 3 (.int v))) = hP E ad va rl x tx tg r w e (upF I j (up (I j) 0 3 v)) H pl vs := by
  refine six ?_ ?_ ?_ ?_ ?_ ?_
  · intro v
    have := hP_key (E := E) (ad := ad) (va := va) (rl := rl) (j := 0) (k := 0) (by omega) (c := (ad 10 0 0, .inr (2, (hI_f0 (adI ad va 0 (pl 0)) (I 0)).set 3 (.int v)))) (pre := []) (S := hJ E ad va rl (I 1) (H 1) (pl 1) 1 ++ (hJ E ad va rl (I 2) (H 2) (pl 2) 2 ++ (hJ E ad va rl (I 3) (H 3) (pl 3) 3 ++ (hJ E ad va rl (I 4) (H 4) (pl 4) 4 ++ (hJ E ad va rl (I 5) (H 5) (pl 5) 5 ++ (hVV E va vs)))))) (o1 := I 0) (h1 := H 0) (v1 := pl 0) (N0 := hN E ad va x tx tg r) (W0 := hWh E ad w e) (J' := hJ E ad va rl (up (I 0) 0 3 v) (H 0) (pl 0) 0) rfl rfl rfl rfl
    simp only [hP, hWV, hB, List.append_assoc, List.nil_append] at this ⊢
    exact this
  · intro v
    have := hP_key (E := E) (ad := ad) (va := va) (rl := rl) (j := 1) (k := 0) (by omega) (c := (ad 10 1 0, .inr (2, (hI_f0 (adI ad va 1 (pl 1)) (I 1)).set 3 (.int v)))) (pre := hJ E ad va rl (I 0) (H 0) (pl 0) 0) (S := hJ E ad va rl (I 2) (H 2) (pl 2) 2 ++ (hJ E ad va rl (I 3) (H 3) (pl 3) 3 ++ (hJ E ad va rl (I 4) (H 4) (pl 4) 4 ++ (hJ E ad va rl (I 5) (H 5) (pl 5) 5 ++ (hVV E va vs))))) (o1 := I 1) (h1 := H 1) (v1 := pl 1) (N0 := hN E ad va x tx tg r) (W0 := hWh E ad w e) (J' := hJ E ad va rl (up (I 1) 0 3 v) (H 1) (pl 1) 1) rfl rfl rfl rfl
    simp only [hP, hWV, hB, List.append_assoc, List.nil_append] at this ⊢
    exact this
  · intro v
    have := hP_key (E := E) (ad := ad) (va := va) (rl := rl) (j := 2) (k := 0) (by omega) (c := (ad 10 2 0, .inr (2, (hI_f0 (adI ad va 2 (pl 2)) (I 2)).set 3 (.int v)))) (pre := hJ E ad va rl (I 0) (H 0) (pl 0) 0 ++ (hJ E ad va rl (I 1) (H 1) (pl 1) 1)) (S := hJ E ad va rl (I 3) (H 3) (pl 3) 3 ++ (hJ E ad va rl (I 4) (H 4) (pl 4) 4 ++ (hJ E ad va rl (I 5) (H 5) (pl 5) 5 ++ (hVV E va vs)))) (o1 := I 2) (h1 := H 2) (v1 := pl 2) (N0 := hN E ad va x tx tg r) (W0 := hWh E ad w e) (J' := hJ E ad va rl (up (I 2) 0 3 v) (H 2) (pl 2) 2) rfl rfl rfl rfl
    simp only [hP, hWV, hB, List.append_assoc, List.nil_append] at this ⊢
    exact this
  · intro v
    have := hP_key (E := E) (ad := ad) (va := va) (rl := rl) (j := 3) (k := 0) (by omega) (c := (ad 10 3 0, .inr (2, (hI_f0 (adI ad va 3 (pl 3)) (I 3)).set 3 (.int v)))) (pre := hJ E ad va rl (I 0) (H 0) (pl 0) 0 ++ (hJ E ad va rl (I 1) (H 1) (pl 1) 1 ++ (hJ E ad va rl (I 2) (H 2) (pl 2) 2))) (S := hJ E ad va rl (I 4) (H 4) (pl 4) 4 ++ (hJ E ad va rl (I 5) (H 5) (pl 5) 5 ++ (hVV E va vs))) (o1 := I 3) (h1 := H 3) (v1 := pl 3) (N0 := hN E ad va x tx tg r) (W0 := hWh E ad w e) (J' := hJ E ad va rl (up (I 3) 0 3 v) (H 3) (pl 3) 3) rfl rfl rfl rfl
    simp only [hP, hWV, hB, List.append_assoc, List.nil_append] at this ⊢
    exact this
  · intro v
    have := hP_key (E := E) (ad := ad) (va := va) (rl := rl) (j := 4) (k := 0) (by omega) (c := (ad 10 4 0, .inr (2, (hI_f0 (adI ad va 4 (pl 4)) (I 4)).set 3 (.int v)))) (pre := hJ E ad va rl (I 0) (H 0) (pl 0) 0 ++ (hJ E ad va rl (I 1) (H 1) (pl 1) 1 ++ (hJ E ad va rl (I 2) (H 2) (pl 2) 2 ++ (hJ E ad va rl (I 3) (H 3) (pl 3) 3)))) (S := hJ E ad va rl (I 5) (H 5) (pl 5) 5 ++ (hVV E va vs)) (o1 := I 4) (h1 := H 4) (v1 := pl 4) (N0 := hN E ad va x tx tg r) (W0 := hWh E ad w e) (J' := hJ E ad va rl (up (I 4) 0 3 v) (H 4) (pl 4) 4) rfl rfl rfl rfl
    simp only [hP, hWV, hB, List.append_assoc, List.nil_append] at this ⊢
    exact this
  · intro v
    have := hP_key (E := E) (ad := ad) (va := va) (rl := rl) (j := 5) (k := 0) (by omega) (c := (ad 10 5 0, .inr (2, (hI_f0 (adI ad va 5 (pl 5)) (I 5)).set 3 (.int v)))) (pre := hJ E ad va rl (I 0) (H 0) (pl 0) 0 ++ (hJ E ad va rl (I 1) (H 1) (pl 1) 1 ++ (hJ E ad va rl (I 2) (H 2) (pl 2) 2 ++ (hJ E ad va rl (I 3) (H 3) (pl 3) 3 ++ (hJ E ad va rl (I 4) (H 4) (pl 4) 4))))) (S := hVV E va vs) (o1 := I 5) (h1 := H 5) (v1 := pl 5) (N0 := hN E ad va x tx tg r) (W0 := hWh E ad w e) (J' := hJ E ad va rl (up (I 5) 0 3 v) (H 5) (pl 5) 5) rfl rfl rfl rfl
    simp only [hP, hWV, hB, List.append_assoc, List.nil_append] at this ⊢
    exact this
theorem hP_sp (j : Nat) (hj : j < 6) {i : Nat} {v : Int32} : (hP E ad va rl x tx tg r w e I H pl vs).set (11 + 12 * j + 2) (ad 10 j 2, .inl (E.2.1, 8, .inl (upd (I j 17) i v))) = hP E ad va rl x tx tg r w e (upF I j (up (I j) 17 i v)) H pl vs := hP_sp0 j hj i v
theorem hP_pi (j : Nat) (hj : j < 6) {v : Int32} : (hP E ad va rl x tx tg r w e I H pl vs).set (11 + 12 * j) (ad 10 j 0, .inr (2, (hI_f0 (adI ad va j (pl j)) (I j)).set 3 (.int v))) = hP E ad va rl x tx tg r w e (upF I j (up (I j) 0 3 v)) H pl vs := hP_pi0 j hj v
theorem off_map {is : List Nat} : (is.map (5 + ·)).map (fun i => (hP E ad va rl x tx tg r w e I H pl vs)[i]?) = is.map (fun i => (hWV E ad va rl w e I H pl vs)[i]?) := by
  rw [List.map_map]
  apply List.map_congr_left
  intro i _
  show (hN E ad va x tx tg r ++ hWV E ad va rl w e I H pl vs)[5 + i]? = _
  rw [List.getElem?_append_right (by show 5 ≤ _; omega)]
  show (hWV E ad va rl w e I H pl vs)[5 + i - 5]? = _
  rw [Nat.add_sub_cancel_left]
theorem off_patch {is : List Nat} {w1 : va_W} : patch (hP E ad va rl x tx tg r w e I H pl vs) (is.map (5 + ·)) w1 = hN E ad va x tx tg r ++ patch (hWV E ad va rl w e I H pl vs) is w1 := patch_off (hN E ad va x tx tg r) is w1 _
theorem off_nodup {is : List Nat} (h : is.Nodup) : (is.map (5 + ·)).Nodup := by
  unfold List.Nodup at h ⊢
  rw [List.pairwise_map]
  exact h.imp (fun h1 h2 => h1 (by omega))
theorem hP_sub {j : Nat} (hj : j < 6) (hv : pl j < 17) : ((plA j ++ plB (pl j)).map (5 + ·)).map (fun i => (hP E ad va rl x tx tg r w e I H pl vs)[i]?) = (hI E (adI ad va j (pl j)) rl (I j) (H j) e (vs (pl j))).map some := by rw [off_map]; exact hWV_sub hj hv
theorem plNo {j v : Nat} (hj : j < 6) : ((plA j ++ plB v).map (5 + ·)).Nodup := off_nodup (plN hj)
theorem hP_patch {j : Nat} (hj : j < 6) (hv : pl j < 17) {o h e2 : Mem} : patch (hP E ad va rl x tx tg r w e I H pl vs) ((plA j ++ plB (pl j)).map (5 + ·)) (hI E (adI ad va j (pl j)) rl o h e2 (vs (pl j))) = hP E ad va rl x tx tg r w e2 (upF I j o) (upF H j h) pl vs := by rw [off_patch, hWV_patch hj hv]; rfl
abbrev plH (j : Nat) : List Nat := [6 + 12 * j + 10, 6 + 12 * j + 11, 1, 2, 3]
theorem hW_H : ∀ j, j < 6 → (plH j).map (fun i => (hWV E ad va rl w e I H pl vs)[i]?) = (hH E (adI ad va j 0) rl (H j) e).map some := six rfl rfl rfl rfl rfl rfl
theorem hP_subH (j : Nat) (hj : j < 6) : ((plH j).map (5 + ·)).map (fun i => (hP E ad va rl x tx tg r w e I H pl vs)[i]?) = (hH E (adI ad va j 0) rl (H j) e).map some := by rw [off_map]; exact hW_H j hj
theorem plHN {j : Nat} (hj : j < 6) : ((plH j).map (5 + ·)).Nodup := off_nodup (by simp [plH])
/-- Instance.begin: the instance's own cells, and the version that is given -/
theorem hIB_split {a : Nat → Nat} {o h p : Mem} {pa : Nat} : hIB E a rl o h e p pa = (hIB E a rl o h e (fun _ _ => 0) pa).take 15 ++ hV E a p := rfl
theorem hWV_AB : ∀ j, j < 6 → ∀ v, (plA j).map (fun i => (hWV E ad va rl w e I H pl vs)[i]?) = ((hIB E (adI ad va j v) rl (I j) (H j) e (fun _ _ => 0) (va (pl j) 0)).take 15).map some := six (fun _ => rfl) (fun _ => rfl) (fun _ => rfl) (fun _ => rfl) (fun _ => rfl) (fun _ => rfl)
theorem hP_subB {j v : Nat} (hj : j < 6) (hv : v < 17) : ((plA j ++ plB v).map (5 + ·)).map (fun i => (hP E ad va rl x tx tg r w e I H pl vs)[i]?) = (hIB E (adI ad va j v) rl (I j) (H j) e (vs v) (va (pl j) 0)).map some := by
  rw [off_map, hIB_split, List.map_append, List.map_append, hWV_AB j hj v, hWV_B v hv]
theorem hWV_pB : ∀ j, j < 6 → ∀ (o h e2 : Mem) (v : Nat), patch (hWV E ad va rl w e I H pl vs) (plA j) ((hIB E (adI ad va j v) rl o h e2 (fun _ _ => 0) (va v 0)).take 15) = hWV E ad va rl w e2 (upF I j o) (upF H j h) (upN pl j v) vs := by
  have key : ∀ (j : Nat) (pre S : va_W) (o h e2 o1 h1 : Mem) (v v1 : Nat), pre.length = 12 * j → patch (hWh E ad w e ++ (pre ++ (hJ E ad va rl o1 h1 v1 j ++ S))) (plA j) ((hIB E (adI ad va j v) rl o h e2 (fun _ _ => 0) (va v 0)).take 15) = hWh E ad w e2 ++ (pre ++ (hJ E ad va rl o h v j ++ S)) := by
    intro j pre S o h e2 o1 h1 v v1 hp
    have := blk_patch (Hh := hWh E ad w e) (Hh' := hWh E ad w e2) (pre := pre) (J := hJ E ad va rl o1 h1 v1 j) (J' := hJ E ad va rl o h v j) (S := S) (env := [(ad 0 0 1, .inr (0, hW_f1 ad e2)), (ad 0 0 2, .inl (E.2.1, 8, .inl (e2 2))), (ad 0 0 3, .inl (E.2.1, 8, .inl (e2 3)))]) (c := (ad 10 j 0, .inr (2, hI_f0 (adI ad va j v) o))) (B := [10, 11, 1, 2, 3, 4, 5, 6, 7, 8, 9]) (rest := (hIa E (adI ad va j v) rl o h e2).drop 4) rfl rfl rfl rfl rfl (Nat.le_of_ble_eq_true rfl) (by intro i hi; simp at hi; show i < 12; omega)
    rw [hp] at this
    exact this
  refine six ?_ ?_ ?_ ?_ ?_ ?_
  · intro o h e2 v
    have := key 0 ([]) (hJ E ad va rl (I 1) (H 1) (pl 1) 1 ++ (hJ E ad va rl (I 2) (H 2) (pl 2) 2 ++ (hJ E ad va rl (I 3) (H 3) (pl 3) 3 ++ (hJ E ad va rl (I 4) (H 4) (pl 4) 4 ++ (hJ E ad va rl (I 5) (H 5) (pl 5) 5 ++ (hVV E va vs)))))) o h e2 (I 0) (H 0) v (pl 0) rfl
    simp only [hWV, hB, List.append_assoc, List.nil_append] at this ⊢
    exact this
  · intro o h e2 v
    have := key 1 (hJ E ad va rl (I 0) (H 0) (pl 0) 0) (hJ E ad va rl (I 2) (H 2) (pl 2) 2 ++ (hJ E ad va rl (I 3) (H 3) (pl 3) 3 ++ (hJ E ad va rl (I 4) (H 4) (pl 4) 4 ++ (hJ E ad va rl (I 5) (H 5) (pl 5) 5 ++ (hVV E va vs))))) o h e2 (I 1) (H 1) v (pl 1) rfl
    simp only [hWV, hB, List.append_assoc, List.nil_append] at this ⊢
    exact this
  · intro o h e2 v
    have := key 2 (hJ E ad va rl (I 0) (H 0) (pl 0) 0 ++ (hJ E ad va rl (I 1) (H 1) (pl 1) 1)) (hJ E ad va rl (I 3) (H 3) (pl 3) 3 ++ (hJ E ad va rl (I 4) (H 4) (pl 4) 4 ++ (hJ E ad va rl (I 5) (H 5) (pl 5) 5 ++ (hVV E va vs)))) o h e2 (I 2) (H 2) v (pl 2) rfl
    simp only [hWV, hB, List.append_assoc, List.nil_append] at this ⊢
    exact this
  · intro o h e2 v
    have := key 3 (hJ E ad va rl (I 0) (H 0) (pl 0) 0 ++ (hJ E ad va rl (I 1) (H 1) (pl 1) 1 ++ (hJ E ad va rl (I 2) (H 2) (pl 2) 2))) (hJ E ad va rl (I 4) (H 4) (pl 4) 4 ++ (hJ E ad va rl (I 5) (H 5) (pl 5) 5 ++ (hVV E va vs))) o h e2 (I 3) (H 3) v (pl 3) rfl
    simp only [hWV, hB, List.append_assoc, List.nil_append] at this ⊢
    exact this
  · intro o h e2 v
    have := key 4 (hJ E ad va rl (I 0) (H 0) (pl 0) 0 ++ (hJ E ad va rl (I 1) (H 1) (pl 1) 1 ++ (hJ E ad va rl (I 2) (H 2) (pl 2) 2 ++ (hJ E ad va rl (I 3) (H 3) (pl 3) 3)))) (hJ E ad va rl (I 5) (H 5) (pl 5) 5 ++ (hVV E va vs)) o h e2 (I 4) (H 4) v (pl 4) rfl
    simp only [hWV, hB, List.append_assoc, List.nil_append] at this ⊢
    exact this
  · intro o h e2 v
    have := key 5 (hJ E ad va rl (I 0) (H 0) (pl 0) 0 ++ (hJ E ad va rl (I 1) (H 1) (pl 1) 1 ++ (hJ E ad va rl (I 2) (H 2) (pl 2) 2 ++ (hJ E ad va rl (I 3) (H 3) (pl 3) 3 ++ (hJ E ad va rl (I 4) (H 4) (pl 4) 4))))) (hVV E va vs) o h e2 (I 5) (H 5) v (pl 5) rfl
    simp only [hWV, hB, List.append_assoc, List.nil_append] at this ⊢
    exact this
theorem hP_patchB {j v : Nat} (hj : j < 6) (hv : v < 17) {o h e2 : Mem} : patch (hP E ad va rl x tx tg r w e I H pl vs) ((plA j ++ plB v).map (5 + ·)) (hIB E (adI ad va j v) rl o h e2 (vs v) (va v 0)) = hP E ad va rl x tx tg r w e2 (upF I j o) (upF H j h) (upN pl j v) vs := by
  rw [off_patch, hIB_split, patch_app _ _ _ _ _ rfl, hWV_pB j hj, patch_self _ _ _ (hWV_B v hv)]
  rfl
/-- the present world as a whole -/
theorem hP_tail : ((List.range (hWV E ad va rl w e I H pl vs).length).map (5 + ·)).map (fun i => (hP E ad va rl x tx tg r w e I H pl vs)[i]?) = (hWV E ad va rl w e I H pl vs).map some := by rw [off_map]; exact range_at _
theorem tailN {n : Nat} : ((List.range n).map (5 + ·)).Nodup := off_nodup List.nodup_range
theorem hP_tailP {w' e' : Mem} {I' H' : Fam} {pl' : Nat → Nat} : patch (hP E ad va rl x tx tg r w e I H pl vs) ((List.range (hWV E ad va rl w e I H pl vs).length).map (5 + ·)) (hWV E ad va rl w' e' I' H' pl' vs) = hP E ad va rl x tx tg r w' e' I' H' pl' vs := by
  rw [off_patch, patch_range (w := hWV E ad va rl w' e' I' H' pl' vs) (ws := hWV E ad va rl w e I H pl vs) rfl]
  rfl
end PL
section PN
variable {α : Type} {l : Launch} {E : Ev} {A : Nat → Prop} {own : String} {cc : ByteArray} {nL : Nat} {ret : Option FieldType} {d : Nat} {φ : α → Rs} {pc n : Nat} {L : List (Nat × Value)} {st : List Value} {ws : va_W} {X : Option α}
theorem b_aloadN {i : Nat} (q : Nat) (hdg : decode cc pc = .ok (.aload i, 2)) (hn : pc + 2 = n) (hl : L[q]? = some (i, .null)) (kk : Bd l E A own cc nL ret d φ n L (.null :: st) ws X) : Bd l E A own cc nL ret d φ pc L st ws X :=
  fun hX p e s m args below meth c H locs ls C hP hD hS hl' => lv_aloadN C.1 C.2.1 hdg (lv_at hl' q hl) (hn ▸ kk hX p e s m args below meth c H locs ls C hP hD hS hl')
theorem b_astoreN {i : Nat} {L' : List (Nat × Value)} (hdg : decode cc pc = .ok (.astore i, 2)) (hn : pc + 2 = n) (hm : i < nL) (hl : (i, Value.null) :: L.filter (fun q => !(q.1 == i) && !(q.1 + 1 == i && q.2.category == 2)) = L') (kk : Bd l E A own cc nL ret d φ n L' st ws X) : Bd l E A own cc nL ret d φ pc L (.null :: st) ws X :=
  fun hX p e s m args below meth c H locs ls C hP hD hS hl' => lv_astoreN C.1 C.2.1 hdg hl' hm hl (fun ls' h' => hn ▸ kk hX p e s m args below meth c H locs ls' C hP hD hS h')
end PN
section PR
variable {α : Type} {l : Launch} {E : Ev} {A : Nat → Prop} {own : String} {cc : ByteArray} {nL : Nat} {ret : Option FieldType} {d : Nat} {φ : α → Rs} {pc n : Nat} {L : List (Nat × Value)} {st rest As : List Value} {ws : va_W} {idx na d' nL' : Nat} {y : MethodName} {cc' : ByteArray} {ret' : Option FieldType} {a ci : Nat} {fs : List Value}
/-- a call that answers an instance's number, or none -/
theorem bVf {F : Option (Option Nat)} {g : Nat → Nat} {K : Option Nat → Option α} (q0 : Nat) (hlk : LkV own idx y cc' nL' ret' na) (hct : Ct l y cc' nL' ret' d' E ws (.ref a :: As) (fun r : Option Nat => (some (va_rf (r.map g)), ws)) F) (hd : d' + 1 ≤ d)
    (he : ws[q0]? = some (a, .inr (ci, fs))) (hci : (vwCl[ci]?).map (·.1) = some y.cls) (hna : As.length = na) (hst : As.reverse ++ .ref a :: rest = st) (hrest : (rest.map fun v => v.category).sum ≤ 8) (hdg : decode cc pc = .ok (.invokevirtual idx, 3)) (hn : pc + 3 = n)
    (k0 : Bd l E A own cc nL ret d φ n L (.null :: rest) ws (K none)) (k1 : ∀ j, Bd l E A own cc nL ret d φ n L (.ref (g j) :: rest) ws (K (some j))) : Bd l E A own cc nL ret d φ pc L st ws (F.bind K) :=
  b_callV q0 (List.range ws.length) hlk hct hd (range_at ws) List.nodup_range (fun _ => rfl) he hci hna hst hrest hdg hn (fun r _ => by
    show Bd l E A own cc nL ret d φ n L ((some (va_rf (r.map g))).toList ++ rest) (patch ws (List.range ws.length) ws) (K r)
    rw [patch_self _ _ _ (range_at ws)]
    cases r with
    | none => exact k0
    | some j => exact k1 j)
theorem bSwi {S : Type} {F : Option (Int32 × S)} {K : Int32 × S → Option α} {wc : va_W} {hh : S → va_W} (h2 : S → va_W) (is : List Nat) (hlk : LkS own idx y cc' nL' ret' na) (hct : Ct l y cc' nL' ret' d' E wc As (fun q : Int32 × S => (some (.int q.1), hh q.2)) F) (hd : d' + 1 ≤ d) (hC : is.map (fun i => ws[i]?) = wc.map some) (hnd : is.Nodup) (hfst : ∀ q, (hh q).map Prod.fst = wc.map Prod.fst) (hp : ∀ q, patch ws is (hh q) = h2 q)
    (hna : As.length = na) (hst : As.reverse ++ rest = st) (hrest : (rest.map fun v => v.category).sum ≤ 8) (hdg : decode cc pc = .ok (.invokestatic idx, 3)) (hn : pc + 3 = n)
    (kk : ∀ v q, Bd l E A own cc nL ret d φ n L (.int v :: rest) (h2 q) (K (v, q))) : Bd l E A own cc nL ret d φ pc L st ws (F.bind K) :=
  b_callS is hlk hct hd hC hnd (fun b => hfst b.2) hna hst hrest hdg hn (fun b _ => by
    show Bd l E A own cc nL ret d φ n L (.int b.1 :: rest) (patch ws is (hh b.2)) (K (b.1, b.2))
    rw [hp]; exact kk b.1 b.2)
end PR
