/-! worlds: an environment, six instances, and the versions that they run on -/
abbrev Fam : Type := Nat → Mem
abbrev Ad3 : Type := Nat → Nat → Nat → Nat
def upF (F : Fam) (j : Nat) (m : Mem) : Fam := fun k => cond (Nat.beq k j) m (F k)
/-- the addresses of an instance's cells, and of what it reaches: instance j, version v -/
def adI (ad : Ad3) (va : Nat → Nat → Nat) (j v : Nat) : Nat → Nat := fun k => cond (Nat.beq k 0) (ad 10 j 0) (cond (Nat.ble k 3) (ad 0 0 k) (cond (Nat.ble k 5) (ad 10 j (k + 6)) (cond (Nat.ble k 15) (va v (k - 6)) (ad 10 j (k - 15)))))
def adW (ad : Ad3) (w : Nat) : Ad3 := fun g j t => ad (g + w) j t
def hJ (E : Ev) (ad : Ad3) (va : Nat → Nat → Nat) (rl : Nat) (o h : Mem) (v j : Nat) : va_W := [(ad 10 j 0, .inr (2, hI_f0 (adI ad va j v) o)), (ad 10 j 1, .inl (E.2.1, 4, .inl (o 16))), (ad 10 j 2, .inl (E.2.1, 8, .inl (o 17))), (ad 10 j 3, .inl (E.2.1, 24, .inl (o 18))), (ad 10 j 4, .inl (E.2.1, 24, .inl (o 19))), (ad 10 j 5, .inl (E.2.1, 24, .inl (o 20))), (ad 10 j 6, .inl (E.2.1, 24, .inl (o 21))), (ad 10 j 7, .inl (E.2.1, 25, .inl (o 22))), (ad 10 j 8, .inl (E.2.1, 25, .inl (o 23))), (ad 10 j 9, .inl (E.2.1, 25, .inl (o 24))), (ad 10 j 10, .inr (1, hI_f4 (adI ad va j v) h)), (ad 10 j 11, .inl (E.2.1, rl, .inl (h 5)))]
def hW_f0 (ad : Ad3) (w : Mem) : List Value := [.ref (ad 0 0 1), .ref (ad 0 0 4), .ref (ad 0 0 5), .int (w 0 3), .int (w 0 4)]
def hW_f1 (ad : Ad3) (e : Mem) : List Value := [.ref (ad 0 0 2), .ref (ad 0 0 3), .int (e 1 2)]
def hWh (E : Ev) (ad : Ad3) (w e : Mem) : va_W := [(ad 0 0 0, .inr (5, hW_f0 ad w)), (ad 0 0 1, .inr (0, hW_f1 ad e)), (ad 0 0 2, .inl (E.2.1, 8, .inl (e 2))), (ad 0 0 3, .inl (E.2.1, 8, .inl (e 3))), (ad 0 0 4, .inl (E.2.2.2, 6, .inr (.inr (.inr (.inr (fun j => some (ad 10 j 0))))))), (ad 0 0 5, .inl (E.2.1, 4, .inl (w 5)))]
def hB (E : Ev) (ad : Ad3) (va : Nat → Nat → Nat) (rl : Nat) (w e : Mem) (I H : Fam) (pl : Nat → Nat) : va_W := hWh E ad w e ++ (hJ E ad va rl (I 0) (H 0) (pl 0) 0 ++ (hJ E ad va rl (I 1) (H 1) (pl 1) 1 ++ (hJ E ad va rl (I 2) (H 2) (pl 2) 2 ++ (hJ E ad va rl (I 3) (H 3) (pl 3) 3 ++ (hJ E ad va rl (I 4) (H 4) (pl 4) 4 ++ hJ E ad va rl (I 5) (H 5) (pl 5) 5)))))
def hVV (E : Ev) (va : Nat → Nat → Nat) (vs : Fam) : va_W := hV E (fun k => va 0 (k - 6)) (vs 0) ++ (hV E (fun k => va 1 (k - 6)) (vs 1) ++ (hV E (fun k => va 2 (k - 6)) (vs 2) ++ (hV E (fun k => va 3 (k - 6)) (vs 3) ++ (hV E (fun k => va 4 (k - 6)) (vs 4) ++ (hV E (fun k => va 5 (k - 6)) (vs 5) ++ (hV E (fun k => va 6 (k - 6)) (vs 6) ++ (hV E (fun k => va 7 (k - 6)) (vs 7) ++ (hV E (fun k => va 8 (k - 6)) (vs 8) ++ (hV E (fun k => va 9 (k - 6)) (vs 9) ++ (hV E (fun k => va 10 (k - 6)) (vs 10) ++ (hV E (fun k => va 11 (k - 6)) (vs 11) ++ (hV E (fun k => va 12 (k - 6)) (vs 12) ++ (hV E (fun k => va 13 (k - 6)) (vs 13) ++ (hV E (fun k => va 14 (k - 6)) (vs 14) ++ (hV E (fun k => va 15 (k - 6)) (vs 15) ++ (hV E (fun k => va 16 (k - 6)) (vs 16)))))))))))))))))
def hWV (E : Ev) (ad : Ad3) (va : Nat → Nat → Nat) (rl : Nat) (w e : Mem) (I H : Fam) (pl : Nat → Nat) (vs : Fam) : va_W := hB E ad va rl w e I H pl ++ hVV E va vs
section WL
variable {E : Ev} {ad : Ad3} {va : Nat → Nat → Nat} {rl : Nat} {w e : Mem} {I H : Fam} {pl : Nat → Nat} {vs : Fam}
theorem hWV_o0 : (hWV E ad va rl w e I H pl vs)[0]? = some (ad 0 0 0, .inr (5, hW_f0 ad w)) := rfl
theorem hWV_o1 : (hWV E ad va rl w e I H pl vs)[1]? = some (ad 0 0 1, .inr (0, hW_f1 ad e)) := rfl
theorem hWV_r4 : (hWV E ad va rl w e I H pl vs)[4]? = some (ad 0 0 4, .inl (E.2.2.2, 6, .inr (.inr (.inr (.inr (fun j => some (ad 10 j 0))))))) := rfl
theorem hWV_a5 : (hWV E ad va rl w e I H pl vs)[5]? = some (ad 0 0 5, .inl (E.2.1, 4, .inl (w 5))) := rfl
theorem hWV_p1_2 {v : Int32} : (hWV E ad va rl w e I H pl vs).set 1 (ad 0 0 1, .inr (0, (hW_f1 ad e).set 2 (.int v))) = hWV E ad va rl w (up e 1 2 v) I H pl vs := rfl
theorem six {P : Nat → Prop} (h0 : P 0) (h1 : P 1) (h2 : P 2) (h3 : P 3) (h4 : P 4) (h5 : P 5) : ∀ j, j < 6 → P j
  | 0, _ => h0 | 1, _ => h1 | 2, _ => h2 | 3, _ => h3 | 4, _ => h4 | 5, _ => h5
  | j + 6, h => absurd h (by omega)
theorem seventeen {P : Nat → Prop} (h0 : P 0) (h1 : P 1) (h2 : P 2) (h3 : P 3) (h4 : P 4) (h5 : P 5) (h6 : P 6) (h7 : P 7) (h8 : P 8) (h9 : P 9) (h10 : P 10) (h11 : P 11) (h12 : P 12) (h13 : P 13) (h14 : P 14) (h15 : P 15) (h16 : P 16) : ∀ j, j < 17 → P j
  | 0, _ => h0
  | 1, _ => h1
  | 2, _ => h2
  | 3, _ => h3
  | 4, _ => h4
  | 5, _ => h5
  | 6, _ => h6
  | 7, _ => h7
  | 8, _ => h8
  | 9, _ => h9
  | 10, _ => h10
  | 11, _ => h11
  | 12, _ => h12
  | 13, _ => h13
  | 14, _ => h14
  | 15, _ => h15
  | 16, _ => h16
  | j + 17, h => absurd h (by omega)
theorem hWV_io : ∀ j, j < 6 → (hWV E ad va rl w e I H pl vs)[6 + 12 * j]? = some (ad 10 j 0, .inr (2, hI_f0 (adI ad va j (pl j)) (I j))) := six rfl rfl rfl rfl rfl rfl
theorem hWV_vo : ∀ v, v < 17 → (hWV E ad va rl w e I H pl vs)[78 + 10 * v]? = some (va v 0, .inr (4, hV_f6 (fun k => va v (k - 6)) (vs v))) := seventeen rfl rfl rfl rfl rfl rfl rfl rfl rfl rfl rfl rfl rfl rfl rfl rfl rfl
/-- the places of an instance's cells in a world: its own and the environment's, then its version's -/
abbrev plA (j : Nat) : List Nat := [6 + 12 * j, 1, 2, 3, 6 + 12 * j + 10, 6 + 12 * j + 11, 6 + 12 * j + 1, 6 + 12 * j + 2, 6 + 12 * j + 3, 6 + 12 * j + 4, 6 + 12 * j + 5, 6 + 12 * j + 6, 6 + 12 * j + 7, 6 + 12 * j + 8, 6 + 12 * j + 9]
abbrev plB (v : Nat) : List Nat := [78 + 10 * v + 0, 78 + 10 * v + 1, 78 + 10 * v + 2, 78 + 10 * v + 3, 78 + 10 * v + 4, 78 + 10 * v + 5, 78 + 10 * v + 6, 78 + 10 * v + 7, 78 + 10 * v + 8, 78 + 10 * v + 9]
def hIa (E : Ev) (a : Nat → Nat) (rl : Nat) (o h e : Mem) : va_W := (hI E a rl o h e (fun _ _ => 0)).take 15
theorem hI_split {a : Nat → Nat} {o h p : Mem} : hI E a rl o h e p = hIa E a rl o h e ++ hV E a p := rfl
theorem hWV_A : ∀ j, j < 6 → (plA j).map (fun i => (hWV E ad va rl w e I H pl vs)[i]?) = (hIa E (adI ad va j (pl j)) rl (I j) (H j) e).map some := six rfl rfl rfl rfl rfl rfl
theorem hWV_B {j : Nat} : ∀ v, v < 17 → (plB v).map (fun i => (hWV E ad va rl w e I H pl vs)[i]?) = (hV E (adI ad va j v) (vs v)).map some := seventeen rfl rfl rfl rfl rfl rfl rfl rfl rfl rfl rfl rfl rfl rfl rfl rfl rfl
theorem hWV_sub {j : Nat} (hj : j < 6) (hv : pl j < 17) : (plA j ++ plB (pl j)).map (fun i => (hWV E ad va rl w e I H pl vs)[i]?) = (hI E (adI ad va j (pl j)) rl (I j) (H j) e (vs (pl j))).map some := by
  rw [hI_split, List.map_append, List.map_append, hWV_A j hj, hWV_B (pl j) hv]
theorem plN {j v : Nat} (hj : j < 6) : (plA j ++ plB v).Nodup := by
  simp [plA, plB]
  omega
theorem patch_app : ∀ (i1 i2 : List Nat) (w1 w2 ws : va_W), i1.length = w1.length → patch ws (i1 ++ i2) (w1 ++ w2) = patch (patch ws i1 w1) i2 w2
  | [], i2, [], w2, ws, _ => by simp [patch]
  | i :: i1, i2, c :: w1, w2, ws, h => by
    show patch (ws.set i c) (i1 ++ i2) (w1 ++ w2) = patch (patch (ws.set i c) i1 w1) i2 w2
    exact patch_app i1 i2 w1 w2 _ (by simpa using h)
theorem patch_off (P : va_W) : ∀ (is : List Nat) (w X : va_W), patch (P ++ X) (is.map (P.length + ·)) w = P ++ patch X is w
  | [], w, X => by simp [patch]
  | i :: is, [], X => by simp [patch]
  | i :: is, c :: w, X => by
    show patch ((P ++ X).set (P.length + i) c) (is.map (P.length + ·)) w = P ++ patch (X.set i c) is w
    rw [List.set_append_right _ _ (Nat.le_add_right _ _), Nat.add_sub_cancel_left]
    exact patch_off P is w _
theorem patch_left (Y : va_W) : ∀ (is : List Nat) (w X : va_W), (∀ i ∈ is, i < X.length) → patch (X ++ Y) is w = patch X is w ++ Y
  | [], w, X, _ => by simp [patch]
  | i :: is, [], X, _ => by simp [patch]
  | i :: is, c :: w, X, h => by
    show patch ((X ++ Y).set i c) is w = patch (X.set i c) is w ++ Y
    rw [List.set_append_left _ _ (h i List.mem_cons_self)]
    exact patch_left Y is w _ (fun k hk => by rw [List.length_set]; exact h k (List.mem_cons_of_mem _ hk))
theorem blk_patch {Hh Hh' pre J J' S env rest : va_W} {c : Nat × va_E} {B : List Nat} (h1 : patch Hh [1, 2, 3] env = Hh') (hl : Hh.length = 6) (hl' : Hh'.length = 6) (he : env.length = 3) (h2 : patch (J.set 0 c) B rest = J') (hJ : 0 < J.length) (hB : ∀ i ∈ B, i < J.length) : patch (Hh ++ (pre ++ (J ++ S))) ([(6 + pre.length) + 0] ++ ([1, 2, 3] ++ B.map ((6 + pre.length) + ·))) ([c] ++ (env ++ rest)) = Hh' ++ (pre ++ (J' ++ S)) := by
  rw [patch_app [(6 + pre.length) + 0] _ [c] _ _ rfl, patch_app [1, 2, 3] _ env _ _ (by rw [he]; rfl)]
  have e1 : patch (Hh ++ (pre ++ (J ++ S))) [(6 + pre.length) + 0] [c] = Hh ++ (pre ++ (J.set 0 c ++ S)) := by
    have := patch_off (Hh ++ pre) [0] [c] (J ++ S)
    simp only [List.map_cons, List.map_nil, List.length_append, hl, List.append_assoc] at this
    rw [this]
    show Hh ++ (pre ++ (J ++ S).set 0 c) = _
    rw [List.set_append_left _ _ hJ]
  rw [e1, patch_left _ _ _ _ (by intro i hi; simp at hi; omega), h1]
  have := patch_off (Hh' ++ pre) B rest (J.set 0 c ++ S)
  simp only [List.length_append, hl', List.append_assoc] at this
  rw [this, patch_left _ _ _ _ (fun i hi => by rw [List.length_set]; exact hB i hi), h2]
theorem hWV_pA : ∀ j, j < 6 → ∀ (o h e2 : Mem), patch (hWV E ad va rl w e I H pl vs) (plA j) (hIa E (adI ad va j (pl j)) rl o h e2) = hWV E ad va rl w e2 (upF I j o) (upF H j h) pl vs := by
  have key : ∀ (j : Nat) (pre S : va_W) (o h e2 o1 h1 : Mem) (v : Nat), pre.length = 12 * j → patch (hWh E ad w e ++ (pre ++ (hJ E ad va rl o1 h1 v j ++ S))) (plA j) (hIa E (adI ad va j v) rl o h e2) = hWh E ad w e2 ++ (pre ++ (hJ E ad va rl o h v j ++ S)) := by
    intro j pre S o h e2 o1 h1 v hp
    have := blk_patch (Hh := hWh E ad w e) (Hh' := hWh E ad w e2) (pre := pre) (J := hJ E ad va rl o1 h1 v j) (J' := hJ E ad va rl o h v j) (S := S) (env := [(ad 0 0 1, .inr (0, hW_f1 ad e2)), (ad 0 0 2, .inl (E.2.1, 8, .inl (e2 2))), (ad 0 0 3, .inl (E.2.1, 8, .inl (e2 3)))]) (c := (ad 10 j 0, .inr (2, hI_f0 (adI ad va j v) o))) (B := [10, 11, 1, 2, 3, 4, 5, 6, 7, 8, 9]) (rest := (hIa E (adI ad va j v) rl o h e2).drop 4) rfl rfl rfl rfl rfl (Nat.le_of_ble_eq_true rfl) (by intro i hi; simp at hi; show i < 12; omega)
    rw [hp] at this
    exact this
  refine six ?_ ?_ ?_ ?_ ?_ ?_
  · intro o h e2
    have := key 0 ([]) (hJ E ad va rl (I 1) (H 1) (pl 1) 1 ++ (hJ E ad va rl (I 2) (H 2) (pl 2) 2 ++ (hJ E ad va rl (I 3) (H 3) (pl 3) 3 ++ (hJ E ad va rl (I 4) (H 4) (pl 4) 4 ++ (hJ E ad va rl (I 5) (H 5) (pl 5) 5 ++ (hVV E va vs)))))) o h e2 (I 0) (H 0) (pl 0) rfl
    simp only [hWV, hB, List.append_assoc, List.nil_append] at this ⊢
    exact this
  · intro o h e2
    have := key 1 (hJ E ad va rl (I 0) (H 0) (pl 0) 0) (hJ E ad va rl (I 2) (H 2) (pl 2) 2 ++ (hJ E ad va rl (I 3) (H 3) (pl 3) 3 ++ (hJ E ad va rl (I 4) (H 4) (pl 4) 4 ++ (hJ E ad va rl (I 5) (H 5) (pl 5) 5 ++ (hVV E va vs))))) o h e2 (I 1) (H 1) (pl 1) rfl
    simp only [hWV, hB, List.append_assoc, List.nil_append] at this ⊢
    exact this
  · intro o h e2
    have := key 2 (hJ E ad va rl (I 0) (H 0) (pl 0) 0 ++ (hJ E ad va rl (I 1) (H 1) (pl 1) 1)) (hJ E ad va rl (I 3) (H 3) (pl 3) 3 ++ (hJ E ad va rl (I 4) (H 4) (pl 4) 4 ++ (hJ E ad va rl (I 5) (H 5) (pl 5) 5 ++ (hVV E va vs)))) o h e2 (I 2) (H 2) (pl 2) rfl
    simp only [hWV, hB, List.append_assoc, List.nil_append] at this ⊢
    exact this
  · intro o h e2
    have := key 3 (hJ E ad va rl (I 0) (H 0) (pl 0) 0 ++ (hJ E ad va rl (I 1) (H 1) (pl 1) 1 ++ (hJ E ad va rl (I 2) (H 2) (pl 2) 2))) (hJ E ad va rl (I 4) (H 4) (pl 4) 4 ++ (hJ E ad va rl (I 5) (H 5) (pl 5) 5 ++ (hVV E va vs))) o h e2 (I 3) (H 3) (pl 3) rfl
    simp only [hWV, hB, List.append_assoc, List.nil_append] at this ⊢
    exact this
  · intro o h e2
    have := key 4 (hJ E ad va rl (I 0) (H 0) (pl 0) 0 ++ (hJ E ad va rl (I 1) (H 1) (pl 1) 1 ++ (hJ E ad va rl (I 2) (H 2) (pl 2) 2 ++ (hJ E ad va rl (I 3) (H 3) (pl 3) 3)))) (hJ E ad va rl (I 5) (H 5) (pl 5) 5 ++ (hVV E va vs)) o h e2 (I 4) (H 4) (pl 4) rfl
    simp only [hWV, hB, List.append_assoc, List.nil_append] at this ⊢
    exact this
  · intro o h e2
    have := key 5 (hJ E ad va rl (I 0) (H 0) (pl 0) 0 ++ (hJ E ad va rl (I 1) (H 1) (pl 1) 1 ++ (hJ E ad va rl (I 2) (H 2) (pl 2) 2 ++ (hJ E ad va rl (I 3) (H 3) (pl 3) 3 ++ (hJ E ad va rl (I 4) (H 4) (pl 4) 4))))) (hVV E va vs) o h e2 (I 5) (H 5) (pl 5) rfl
    simp only [hWV, hB, List.append_assoc, List.nil_append] at this ⊢
    exact this
theorem hWV_patch {j : Nat} (hj : j < 6) (hv : pl j < 17) {o h e2 : Mem} : patch (hWV E ad va rl w e I H pl vs) (plA j ++ plB (pl j)) (hI E (adI ad va j (pl j)) rl o h e2 (vs (pl j))) = hWV E ad va rl w e2 (upF I j o) (upF H j h) pl vs := by
  rw [hI_split, patch_app _ _ _ _ _ rfl, hWV_pA j hj]
  exact patch_self _ _ _ (hWV_B (pl j) hv)
end WL
