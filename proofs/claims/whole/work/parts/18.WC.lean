/-! World.copy: two worlds side by side -/
theorem mm_X0_copy : Cond.instanceMethod yX0_copy ∈ WS ∧ Cond.selects (yX0_copy).cls yX0_copy yX0_copy ∈ WS ∧ Cond.initialized (yX0_copy).cls ∈ WS ∧ Cond.code yX0_copy cX0_copy 2 none ∈ WS ∧ ((yX0_copy).cls ≠ "java/lang/invoke/MethodHandle" ∧ (yX0_copy).cls ≠ "java/lang/invoke/VarHandle") ∧ (parseMethodDescriptor (yX0_copy).desc).map (fun d => d.parameters.length) = some 1 ∧ 2 ≤ 20 := ⟨ws_in (List.mem_of_getElem? (i := 756) (by decide +kernel)) rfl, ws_in (List.mem_of_getElem? (i := 757) (by decide +kernel)) rfl, ws_in (List.mem_of_getElem? (i := 105) (by decide +kernel)) rfl, ws_in (List.mem_of_getElem? (i := 758) (by decide +kernel)) rfl, ⟨by decide +kernel, by decide +kernel⟩, by decide +kernel, by decide⟩
theorem lk_X5_32 : LkV RX5 32 yX0_copy cX0_copy 2 none 1 := ⟨ws_in (List.mem_of_getElem? (i := 755) (by decide +kernel)) rfl, mm_X0_copy⟩
theorem mm_X2_copy : Cond.instanceMethod yX2_copy ∈ WS ∧ Cond.selects (yX2_copy).cls yX2_copy yX2_copy ∈ WS ∧ Cond.initialized (yX2_copy).cls ∈ WS ∧ Cond.code yX2_copy cX2_copy 2 none ∈ WS ∧ ((yX2_copy).cls ≠ "java/lang/invoke/MethodHandle" ∧ (yX2_copy).cls ≠ "java/lang/invoke/VarHandle") ∧ (parseMethodDescriptor (yX2_copy).desc).map (fun d => d.parameters.length) = some 1 ∧ 2 ≤ 20 := ⟨ws_in (List.mem_of_getElem? (i := 768) (by decide +kernel)) rfl, ws_in (List.mem_of_getElem? (i := 769) (by decide +kernel)) rfl, ws_in (List.mem_of_getElem? (i := 107) (by decide +kernel)) rfl, ws_in (List.mem_of_getElem? (i := 770) (by decide +kernel)) rfl, ⟨by decide +kernel, by decide +kernel⟩, by decide +kernel, by decide⟩
theorem lk_X5_45 : LkV RX5 45 yX2_copy cX2_copy 2 none 1 := ⟨ws_in (List.mem_of_getElem? (i := 767) (by decide +kernel)) rfl, mm_X2_copy⟩
theorem f_X5_21 : FL RX5 21 5 3 := ⟨RX5, TX5, 5, rfl, by decide, wsin_X5, ws_in (List.mem_of_getElem? (i := 364) (by decide +kernel)) rfl⟩
theorem f_X5_42 : FL RX5 42 5 4 := ⟨RX5, TX5, 5, rfl, by decide, wsin_X5, ws_in (List.mem_of_getElem? (i := 366) (by decide +kernel)) rfl⟩
theorem fp_X5_21 : FLp RX5 21 5 3 .int := ⟨RX5, TX5, 5, tyX5, rfl, by decide, wsin_X5, ws_in (List.mem_of_getElem? (i := 364) (by decide +kernel)) rfl, tyX5_ok, nmX5, rfl, rfl⟩
theorem fp_X5_42 : FLp RX5 42 5 4 .int := ⟨RX5, TX5, 5, tyX5, rfl, by decide, wsin_X5, ws_in (List.mem_of_getElem? (i := 366) (by decide +kernel)) rfl, tyX5_ok, nmX5, rfl, rfl⟩
def upN (f : Nat → Nat) (j v : Nat) : Nat → Nat := fun k => cond (Nat.beq k j) v (f k)
def hWW (E : Ev) (ad ab : Ad3) (va : Nat → Nat → Nat) (rl rl2 : Nat) (w e : Mem) (I H : Fam) (pl : Nat → Nat) (w2 e2 : Mem) (I2 H2 : Fam) (pl2 : Nat → Nat) : va_W := hB E ad va rl w e I H pl ++ hB E ab va rl2 w2 e2 I2 H2 pl2
def adE (ad ab : Ad3) : Nat → Nat := fun k => cond (Nat.ble k 3) (ad 0 0 k) (ab 0 0 (k - 100))
def adC (ad ab : Ad3) (va : Nat → Nat → Nat) (j j2 : Nat) : Nat → Nat := fun k => cond (Nat.ble k 99) (adI ad va j 0 k) (adI ab va j2 0 (k - 100))
section WW
variable {E : Ev} {ad ab : Ad3} {va : Nat → Nat → Nat} {rl rl2 : Nat} {w e w2 e2 : Mem} {I H I2 H2 : Fam} {pl pl2 : Nat → Nat}
theorem hWW_o0 : (hWW E ad ab va rl rl2 w e I H pl w2 e2 I2 H2 pl2)[0]? = some (ad 0 0 0, .inr (5, hW_f0 ad w)) := rfl
theorem hWW_o1 : (hWW E ad ab va rl rl2 w e I H pl w2 e2 I2 H2 pl2)[1]? = some (ad 0 0 1, .inr (0, hW_f1 ad e)) := rfl
theorem hWW_q0 : (hWW E ad ab va rl rl2 w e I H pl w2 e2 I2 H2 pl2)[78]? = some (ab 0 0 0, .inr (5, hW_f0 ab w2)) := rfl
theorem hWW_a5 : (hWW E ad ab va rl rl2 w e I H pl w2 e2 I2 H2 pl2)[5]? = some (ad 0 0 5, .inl (E.2.1, 4, .inl (w 5))) := rfl
theorem hWW_b5 : (hWW E ad ab va rl rl2 w e I H pl w2 e2 I2 H2 pl2)[83]? = some (ab 0 0 5, .inl (E.2.1, 4, .inl (w2 5))) := rfl
theorem hWW_A5 {f : Nat → Int32} : (hWW E ad ab va rl rl2 w e I H pl w2 e2 I2 H2 pl2).set 5 (ad 0 0 5, .inl (E.2.1, 4, .inl f)) = hWW E ad ab va rl rl2 (upA w 5 f) e I H pl w2 e2 I2 H2 pl2 := rfl
theorem hWW_p3 {v : Int32} : (hWW E ad ab va rl rl2 w e I H pl w2 e2 I2 H2 pl2).set 0 (ad 0 0 0, .inr (5, (hW_f0 ad w).set 3 (.int v))) = hWW E ad ab va rl rl2 (up w 0 3 v) e I H pl w2 e2 I2 H2 pl2 := rfl
theorem hWW_p4 {v : Int32} : (hWW E ad ab va rl rl2 w e I H pl w2 e2 I2 H2 pl2).set 0 (ad 0 0 0, .inr (5, (hW_f0 ad w).set 4 (.int v))) = hWW E ad ab va rl rl2 (up w 0 4 v) e I H pl w2 e2 I2 H2 pl2 := rfl
theorem hWW_r4 : (hWW E ad ab va rl rl2 w e I H pl w2 e2 I2 H2 pl2)[4]? = some (ad 0 0 4, .inl (E.2.2.2, 6, .inr (.inr (.inr (.inr (fun j => some (ad 10 j 0))))))) := rfl
theorem hWW_s4 : (hWW E ad ab va rl rl2 w e I H pl w2 e2 I2 H2 pl2)[82]? = some (ab 0 0 4, .inl (E.2.2.2, 6, .inr (.inr (.inr (.inr (fun j => some (ab 10 j 0))))))) := rfl
theorem hWW_io : ∀ j, j < 6 → (hWW E ad ab va rl rl2 w e I H pl w2 e2 I2 H2 pl2)[6 + 12 * j]? = some (ad 10 j 0, .inr (2, hI_f0 (adI ad va j (pl j)) (I j))) := six rfl rfl rfl rfl rfl rfl
abbrev hEo (E : Ev) (ad : Ad3) (e : Mem) : va_W := [(ad 0 0 1, .inr (0, hW_f1 ad e)), (ad 0 0 2, .inl (E.2.1, 8, .inl (e 2))), (ad 0 0 3, .inl (E.2.1, 8, .inl (e 3)))]
theorem hEC_split {e : Mem} : hEC E (adE ad ab) e e2 = hEo E ad e ++ hEo E ab e2 := rfl
theorem hWW_E1 : [1, 2, 3].map (fun i => (hWW E ad ab va rl rl2 w e I H pl w2 e2 I2 H2 pl2)[i]?) = (hEo E ad e).map some := rfl
theorem hWW_E2 : [79, 80, 81].map (fun i => (hWW E ad ab va rl rl2 w e I H pl w2 e2 I2 H2 pl2)[i]?) = (hEo E ab e2).map some := rfl
theorem hWW_subE : ([1, 2, 3] ++ [79, 80, 81]).map (fun i => (hWW E ad ab va rl rl2 w e I H pl w2 e2 I2 H2 pl2)[i]?) = (hEC E (adE ad ab) e e2).map some := by
  rw [hEC_split, List.map_append, List.map_append, hWW_E1, hWW_E2]
theorem hWW_patchE {e' : Mem} : patch (hWW E ad ab va rl rl2 w e I H pl w2 e2 I2 H2 pl2) ([1, 2, 3] ++ [79, 80, 81]) (hEC E (adE ad ab) e' e2) = hWW E ad ab va rl rl2 w e' I H pl w2 e2 I2 H2 pl2 := by
  rw [hEC_split, patch_app _ _ _ _ _ rfl]
  have e1 : patch (hWW E ad ab va rl rl2 w e I H pl w2 e2 I2 H2 pl2) [1, 2, 3] (hEo E ad e') = hWW E ad ab va rl rl2 w e' I H pl w2 e2 I2 H2 pl2 := by
    unfold hWW hB
    rw [List.append_assoc, patch_left _ _ _ _ (by intro i hi; show i < 6; simp at hi; omega), List.append_assoc]
    rfl
  rw [e1]
  exact patch_self _ _ _ hWW_E2
/-- an instance's own cells in the order of a copy -/
abbrev plC (j : Nat) : List Nat := [6 + 12 * j, 6 + 12 * j + 10, 6 + 12 * j + 11, 6 + 12 * j + 1, 6 + 12 * j + 2, 6 + 12 * j + 3, 6 + 12 * j + 4, 6 + 12 * j + 5, 6 + 12 * j + 6, 6 + 12 * j + 7, 6 + 12 * j + 8, 6 + 12 * j + 9]
abbrev plC2 (j : Nat) : List Nat := [84 + 12 * j, 84 + 12 * j + 10, 84 + 12 * j + 11, 84 + 12 * j + 1, 84 + 12 * j + 2, 84 + 12 * j + 3, 84 + 12 * j + 4, 84 + 12 * j + 5, 84 + 12 * j + 6, 84 + 12 * j + 7, 84 + 12 * j + 8, 84 + 12 * j + 9]
def hCo (E : Ev) (ad : Ad3) (va : Nat → Nat → Nat) (rl : Nat) (o h : Mem) (v j : Nat) : va_W := [(ad 10 j 0, .inr (2, hI_f0 (adI ad va j v) o)), (ad 10 j 10, .inr (1, hI_f4 (adI ad va j v) h)), (ad 10 j 11, .inl (E.2.1, rl, .inl (h 5))), (ad 10 j 1, .inl (E.2.1, 4, .inl (o 16))), (ad 10 j 2, .inl (E.2.1, 8, .inl (o 17))), (ad 10 j 3, .inl (E.2.1, 24, .inl (o 18))), (ad 10 j 4, .inl (E.2.1, 24, .inl (o 19))), (ad 10 j 5, .inl (E.2.1, 24, .inl (o 20))), (ad 10 j 6, .inl (E.2.1, 24, .inl (o 21))), (ad 10 j 7, .inl (E.2.1, 25, .inl (o 22))), (ad 10 j 8, .inl (E.2.1, 25, .inl (o 23))), (ad 10 j 9, .inl (E.2.1, 25, .inl (o 24)))]
theorem hIC_split {o h o3 h3 : Mem} {v v2 j j2 : Nat} : hIC E (adC ad ab va j j2) rl rl2 o h (va v 0) o3 h3 (va v2 0) = hCo E ad va rl o h v j ++ hCo E ab va rl2 o3 h3 v2 j2 := rfl
theorem hWW_C1 : ∀ j, j < 6 → (plC j).map (fun i => (hWW E ad ab va rl rl2 w e I H pl w2 e2 I2 H2 pl2)[i]?) = (hCo E ad va rl (I j) (H j) (pl j) j).map some := six rfl rfl rfl rfl rfl rfl
theorem hWW_C2 : ∀ j, j < 6 → (plC2 j).map (fun i => (hWW E ad ab va rl rl2 w e I H pl w2 e2 I2 H2 pl2)[i]?) = (hCo E ab va rl2 (I2 j) (H2 j) (pl2 j) j).map some := six rfl rfl rfl rfl rfl rfl
theorem plCN {j j2 : Nat} (hj : j < 6) (hj2 : j2 < 6) : (plC j ++ plC2 j2).Nodup := by
  simp [plC, plC2]
  omega
theorem hWW_subC {j j2 : Nat} (hj : j < 6) (hj2 : j2 < 6) : (plC j ++ plC2 j2).map (fun i => (hWW E ad ab va rl rl2 w e I H pl w2 e2 I2 H2 pl2)[i]?) = (hIC E (adC ad ab va j j2) rl rl2 (I j) (H j) (va (pl j) 0) (I2 j2) (H2 j2) (va (pl2 j2) 0)).map some := by
  rw [hIC_split, List.map_append, List.map_append, hWW_C1 j hj, hWW_C2 j2 hj2]
theorem cpy_patch {Hh pre J J' S rest : va_W} {B : List Nat} (hl : Hh.length = 6) (h2 : patch J B rest = J') (hB : ∀ i ∈ B, i < J.length) : patch (Hh ++ (pre ++ (J ++ S))) (B.map ((6 + pre.length) + ·)) rest = Hh ++ (pre ++ (J' ++ S)) := by
  have := patch_off (Hh ++ pre) B rest (J ++ S)
  simp only [List.length_append, hl, List.append_assoc] at this
  rw [this, patch_left _ _ _ _ hB, h2]
theorem hWW_pC : ∀ j, j < 6 → ∀ (o h : Mem) (v : Nat), patch (hWW E ad ab va rl rl2 w e I H pl w2 e2 I2 H2 pl2) (plC j) (hCo E ad va rl o h v j) = hWW E ad ab va rl rl2 w e (upF I j o) (upF H j h) (upN pl j v) w2 e2 I2 H2 pl2 := by
  have key : ∀ (j : Nat) (pre S : va_W) (o h o1 h1 : Mem) (v v1 : Nat), pre.length = 12 * j → patch (hWh E ad w e ++ (pre ++ (hJ E ad va rl o1 h1 v1 j ++ S))) (plC j) (hCo E ad va rl o h v j) = hWh E ad w e ++ (pre ++ (hJ E ad va rl o h v j ++ S)) := by
    intro j pre S o h o1 h1 v v1 hp
    have := cpy_patch (Hh := hWh E ad w e) (pre := pre) (J := hJ E ad va rl o1 h1 v1 j) (J' := hJ E ad va rl o h v j) (S := S) (B := [0, 10, 11, 1, 2, 3, 4, 5, 6, 7, 8, 9]) (rest := hCo E ad va rl o h v j) rfl rfl (by intro i hi; simp at hi; show i < 12; omega)
    rw [hp] at this
    exact this
  refine six ?_ ?_ ?_ ?_ ?_ ?_
  · intro o h v
    have := key 0 ([]) (hJ E ad va rl (I 1) (H 1) (pl 1) 1 ++ (hJ E ad va rl (I 2) (H 2) (pl 2) 2 ++ (hJ E ad va rl (I 3) (H 3) (pl 3) 3 ++ (hJ E ad va rl (I 4) (H 4) (pl 4) 4 ++ (hJ E ad va rl (I 5) (H 5) (pl 5) 5 ++ (hB E ab va rl2 w2 e2 I2 H2 pl2)))))) o h (I 0) (H 0) v (pl 0) rfl
    simp only [hWW, hB, List.append_assoc, List.nil_append] at this ⊢
    exact this
  · intro o h v
    have := key 1 (hJ E ad va rl (I 0) (H 0) (pl 0) 0) (hJ E ad va rl (I 2) (H 2) (pl 2) 2 ++ (hJ E ad va rl (I 3) (H 3) (pl 3) 3 ++ (hJ E ad va rl (I 4) (H 4) (pl 4) 4 ++ (hJ E ad va rl (I 5) (H 5) (pl 5) 5 ++ (hB E ab va rl2 w2 e2 I2 H2 pl2))))) o h (I 1) (H 1) v (pl 1) rfl
    simp only [hWW, hB, List.append_assoc, List.nil_append] at this ⊢
    exact this
  · intro o h v
    have := key 2 (hJ E ad va rl (I 0) (H 0) (pl 0) 0 ++ (hJ E ad va rl (I 1) (H 1) (pl 1) 1)) (hJ E ad va rl (I 3) (H 3) (pl 3) 3 ++ (hJ E ad va rl (I 4) (H 4) (pl 4) 4 ++ (hJ E ad va rl (I 5) (H 5) (pl 5) 5 ++ (hB E ab va rl2 w2 e2 I2 H2 pl2)))) o h (I 2) (H 2) v (pl 2) rfl
    simp only [hWW, hB, List.append_assoc, List.nil_append] at this ⊢
    exact this
  · intro o h v
    have := key 3 (hJ E ad va rl (I 0) (H 0) (pl 0) 0 ++ (hJ E ad va rl (I 1) (H 1) (pl 1) 1 ++ (hJ E ad va rl (I 2) (H 2) (pl 2) 2))) (hJ E ad va rl (I 4) (H 4) (pl 4) 4 ++ (hJ E ad va rl (I 5) (H 5) (pl 5) 5 ++ (hB E ab va rl2 w2 e2 I2 H2 pl2))) o h (I 3) (H 3) v (pl 3) rfl
    simp only [hWW, hB, List.append_assoc, List.nil_append] at this ⊢
    exact this
  · intro o h v
    have := key 4 (hJ E ad va rl (I 0) (H 0) (pl 0) 0 ++ (hJ E ad va rl (I 1) (H 1) (pl 1) 1 ++ (hJ E ad va rl (I 2) (H 2) (pl 2) 2 ++ (hJ E ad va rl (I 3) (H 3) (pl 3) 3)))) (hJ E ad va rl (I 5) (H 5) (pl 5) 5 ++ (hB E ab va rl2 w2 e2 I2 H2 pl2)) o h (I 4) (H 4) v (pl 4) rfl
    simp only [hWW, hB, List.append_assoc, List.nil_append] at this ⊢
    exact this
  · intro o h v
    have := key 5 (hJ E ad va rl (I 0) (H 0) (pl 0) 0 ++ (hJ E ad va rl (I 1) (H 1) (pl 1) 1 ++ (hJ E ad va rl (I 2) (H 2) (pl 2) 2 ++ (hJ E ad va rl (I 3) (H 3) (pl 3) 3 ++ (hJ E ad va rl (I 4) (H 4) (pl 4) 4))))) (hB E ab va rl2 w2 e2 I2 H2 pl2) o h (I 5) (H 5) v (pl 5) rfl
    simp only [hWW, hB, List.append_assoc, List.nil_append] at this ⊢
    exact this
theorem hWW_patchC {j j2 : Nat} (hj : j < 6) (hj2 : j2 < 6) {o h : Mem} : patch (hWW E ad ab va rl rl2 w e I H pl w2 e2 I2 H2 pl2) (plC j ++ plC2 j2) (hIC E (adC ad ab va j j2) rl rl2 o h (va (pl2 j2) 0) (I2 j2) (H2 j2) (va (pl2 j2) 0)) = hWW E ad ab va rl rl2 w e (upF I j o) (upF H j h) (upN pl j (pl2 j2)) w2 e2 I2 H2 pl2 := by
  rw [hIC_split, patch_app _ _ _ _ _ rfl, hWW_pC j hj]
  exact patch_self _ _ _ (hWW_C2 j2 hj2)
end WW
def wo_copy_40 (rl rl2 : Nat) (I2 H2 : Fam) (pl2 : Nat → Nat) : Nat → Int32 → Fam → Fam → (Nat → Nat) → Option (Fam × Fam × (Nat → Nat))
  | 0, _, _, _, _ => none
  | n + 1, i, I, H, pl =>
    if i < 6 then
      ((rx 6 i).bind fun j =>
      (rx 6 i).bind fun j2 =>
      (in_copy rl rl2 (H2 j2) (I2 j2) (I j) (H j)).bind fun (o, h) =>
      wo_copy_40 rl rl2 I2 H2 pl2 n (i + 1) (upF I j o) (upF H j h) (upN pl j (pl2 j2)))
    else
      (some (I, H, pl))
def wo_copy (N rl rl2 : Nat) (w2 e2 : Mem) (I2 H2 : Fam) (pl2 : Nat → Nat) (w e : Mem) (I H : Fam) (pl : Nat → Nat) : Option (Mem × Mem × Fam × Fam × (Nat → Nat)) :=
  (en_copy e2 e).bind fun e8 =>
  (wo_copy_40 rl rl2 I2 H2 pl2 N 0 I H pl).bind fun (I9, H9, pl9) =>
  some (up (up (upA w 5 (cpR 4 (w2 5) (w 5))) 0 3 (w2 0 3)) 0 4 (w2 0 4), e8, I9, H9, pl9)
set_option maxHeartbeats 400000 in
set_option maxRecDepth 100000 in
theorem w_wo_copy_40 {l : Launch} {E : Ev} {ad ab : Ad3} {va : Nat → Nat → Nat} {A : Nat → Prop} {d rl rl2 : Nat} {w e w2 e2 : Mem} {I2 H2 : Fam} {pl2 : Nat → Nat} (hd : 6 ≤ d) (n : Nat) : ∀ (y2 : Int32) (I H : Fam) (pl : Nat → Nat), Bd l E A RX5 cX5_copy 3 none d (fun q : Fam × Fam × (Nat → Nat) => (none, hWW E ad ab va rl rl2 w e q.1 q.2.1 q.2.2 w2 e2 I2 H2 pl2)) 40 [(0, .ref (ad 0 0 0)), (1, .ref (ab 0 0 0)), (2, .int y2)] [] (hWW E ad ab va rl rl2 w e I H pl w2 e2 I2 H2 pl2) (wo_copy_40 rl rl2 I2 H2 pl2 n y2 I H pl) := by
  induction n with
  | zero => intro y2 I H pl; exact b_none
  | succ n ih =>
    intro y2 I H pl
    rw [wo_copy_40]
    refine b_iload_n (n := 41) 2 dX5_copy_40 rfl rfl rfl ?_
    refine b_bipush (n := 43) (v := 6) dX5_copy_41 rfl (by decide) ?_
    refine b_cmp_ge (n := 46) (tgt := 67) dX5_copy_43 (by decide) rfl (fun h43 => ?_) (fun h43 => ?_)
    · refine b_aload_n (n := 47) 0 dX5_copy_46 rfl rfl rfl ?_
      refine b_get (n := 50) (v := .ref (ad 0 0 4)) 0 f_X5_11 dX5_copy_47 rfl hWW_o0 rfl ?_
      refine b_iload_n (n := 51) 2 dX5_copy_50 rfl rfl rfl ?_
      refine b_aald (n := 52) 4 2 dX5_copy_51 rfl rfl hWW_r4 (fun _ => rfl) (fun j hj => ?_)
      refine b_aload_n (n := 53) 1 dX5_copy_52 rfl rfl rfl ?_
      refine b_get (n := 56) (v := .ref (ab 0 0 4)) 78 f_X5_11 dX5_copy_53 rfl hWW_q0 rfl ?_
      refine b_iload_n (n := 57) 2 dX5_copy_56 rfl rfl rfl ?_
      refine b_aald (n := 58) 82 2 dX5_copy_57 rfl rfl hWW_s4 (fun _ => rfl) (fun j2 hj2 => ?_)
      refine bVwv (n := 61) (hh := (fun s : Mem × Mem => hIC E (adC ad ab va j j2) rl rl2 s.1 s.2 (va (pl2 j2) 0) (I2 j2) (H2 j2) (va (pl2 j2) 0))) (As := [.ref (adC ad ab va j j2 100)]) (rest := []) (fun s : Mem × Mem => hWW E ad ab va rl rl2 w e (upF I j s.1) (upF H j s.2) (upN pl j (pl2 j2)) w2 e2 I2 H2 pl2) (6 + 12 * j) (plC j ++ plC2 j2) lk_X5_45 (c_in_copy (ad := adC ad ab va j j2) (pa := va (pl j) 0) (pb := va (pl2 j2) 0) (Nat.le_refl _)) (by omega) (hWW_subC hj hj2) (plCN hj hj2) (fun _ => rfl) (fun _ => hWW_patchC hj hj2) (hWW_io _ hj) rfl rfl rfl (Nat.le_of_ble_eq_true rfl) dX5_copy_58 rfl ?_
      rintro ⟨o, h⟩
      try dsimp only
      refine b_iinc (n := 64) (L' := [(2, .int (y2 + 1)), (0, .ref (ad 0 0 0)), (1, .ref (ab 0 0 0))]) 2 1 dX5_copy_61 rfl rfl (by decide) (Nat.le_of_ble_eq_true rfl) rfl ?_
      refine b_goto (n := 40) dX5_copy_64 (by decide) ?_
      refine Bd.sub (L' := [(0, .ref (ad 0 0 0)), (1, .ref (ab 0 0 0)), (2, .int (y2 + 1))]) [1, 2, 0] rfl ?_
      exact ih _ _ _ _
    · exact b_vret dX5_copy_67 rfl rfl
/-- another reading of what a walk answers -/
theorem Bd.mapφ {α β : Type} {l : Launch} {E : Ev} {A : Nat → Prop} {own : String} {cc : ByteArray} {nL : Nat} {ret : Option FieldType} {d : Nat} {φ : α → Rs} {ψ : β → Rs} {pc : Nat} {L : List (Nat × Value)} {st : List Value} {ws : va_W} {X : Option α} (f : α → β) (hf : ∀ a, ψ (f a) = φ a) (k : Bd l E A own cc nL ret d φ pc L st ws X) : Bd l E A own cc nL ret d ψ pc L st ws (X.bind fun a => some (f a)) := by
  cases X with
  | none => exact fun h => by cases h
  | some a =>
    intro hX p e s m args below meth c H locs ls C hP hD hS hl T hT X
    obtain ⟨t, a1, o, b1, b2, ⟨⟨a', e1, e2, e3⟩, b3⟩, b4⟩ := k rfl p e s m args below meth c H locs ls C hP hD hS hl T hT X
    cases e1
    exact ⟨t, a1, o, b1, b2, ⟨⟨f a, rfl, by rw [hf]; exact e2, by rw [hf]; exact e3⟩, b3⟩, b4⟩
set_option maxHeartbeats 400000 in
set_option maxRecDepth 100000 in
theorem c_wo_copy {l : Launch} {E : Ev} {ad ab : Ad3} {va : Nat → Nat → Nat} {d N rl rl2 : Nat} {w e w2 e2 : Mem} {I H I2 H2 : Fam} {pl pl2 : Nat → Nat} (hd : 6 ≤ d) : Ct l yX5_copy cX5_copy 3 none d E (hWW E ad ab va rl rl2 w e I H pl w2 e2 I2 H2 pl2) [.ref (ad 0 0 0), .ref (ab 0 0 0)] (fun q : Mem × Mem × Fam × Fam × (Nat → Nat) => (none, hWW E ad ab va rl rl2 q.1 q.2.1 q.2.2.1 q.2.2.2.1 q.2.2.2.2 w2 e2 I2 H2 pl2)) (wo_copy N rl rl2 w2 e2 I2 H2 pl2 w e I H pl) := by
  refine Ct.of2 (own := RX5) (L := [(0, .ref (ad 0 0 0)), (1, .ref (ab 0 0 0))]) rfl (by decide +kernel) (Nat.le_of_ble_eq_true rfl) rfl ?_
  unfold wo_copy
  refine b_aload_n (n := 1) 0 dX5_copy_0 rfl rfl rfl ?_
  refine b_get (n := 4) (v := .ref (ad 0 0 1)) 0 f_X5_25 dX5_copy_1 rfl hWW_o0 rfl ?_
  refine b_aload_n (n := 5) 1 dX5_copy_4 rfl rfl rfl ?_
  refine b_get (n := 8) (v := .ref (ab 0 0 1)) 78 f_X5_25 dX5_copy_5 rfl hWW_q0 rfl ?_
  refine bVwv (n := 11) (hh := (fun s : Mem => hEC E (adE ad ab) s e2)) (As := [.ref (ab 0 0 1)]) (rest := []) (fun s : Mem => hWW E ad ab va rl rl2 w s I H pl w2 e2 I2 H2 pl2) 1 ([1, 2, 3] ++ [79, 80, 81]) lk_X5_32 (c_en_copy (ad := adE ad ab) (Nat.le_refl _)) (by omega) hWW_subE (by decide) (fun _ => rfl) (fun _ => hWW_patchE) hWW_o1 rfl rfl rfl (Nat.le_of_ble_eq_true rfl) dX5_copy_8 rfl ?_
  intro e8
  refine b_aload_n (n := 12) 1 dX5_copy_11 rfl rfl rfl ?_
  refine b_get (n := 15) (v := .ref (ab 0 0 5)) 78 f_X5_17 dX5_copy_12 rfl hWW_q0 rfl ?_
  refine b_aload_n (n := 16) 0 dX5_copy_15 rfl rfl rfl ?_
  refine b_get (n := 19) (v := .ref (ad 0 0 5)) 0 f_X5_17 dX5_copy_16 rfl hWW_o0 rfl ?_
  refine bRowN (n := 22) (rest := []) 83 5 (by decide) (by decide) lk_X5_38 (by omega) hWW_b5 hWW_a5 hWW_A5 (Nat.le_of_ble_eq_true rfl) dX5_copy_19 rfl ?_
  refine b_aload_n (n := 23) 0 dX5_copy_22 rfl rfl rfl ?_
  refine b_aload_n (n := 24) 1 dX5_copy_23 rfl rfl rfl ?_
  refine b_get (n := 27) (v := .int (w2 0 3)) 78 f_X5_21 dX5_copy_24 rfl hWW_q0 rfl ?_
  refine b_put (n := 30) 0 fp_X5_21 dX5_copy_27 rfl hWW_o0 rfl rfl (Nat.le_of_ble_eq_true rfl) hWW_p3 ?_
  refine b_aload_n (n := 31) 0 dX5_copy_30 rfl rfl rfl ?_
  refine b_aload_n (n := 32) 1 dX5_copy_31 rfl rfl rfl ?_
  refine b_get (n := 35) (v := .int (w2 0 4)) 78 f_X5_42 dX5_copy_32 rfl hWW_q0 rfl ?_
  refine b_put (n := 38) 0 fp_X5_42 dX5_copy_35 rfl hWW_o0 rfl rfl (Nat.le_of_ble_eq_true rfl) hWW_p4 ?_
  refine b_iconst (n := 39) (v := 0) dX5_copy_38 rfl (by decide) ?_
  refine b_istore_n (n := 40) (L' := [(2, .int 0), (0, .ref (ad 0 0 0)), (1, .ref (ab 0 0 0))]) dX5_copy_39 rfl rfl (Nat.le_of_ble_eq_true rfl) rfl ?_
  refine Bd.sub (L' := [(0, .ref (ad 0 0 0)), (1, .ref (ab 0 0 0)), (2, .int 0)]) [1, 2, 0] rfl ?_
  exact Bd.mapφ (fun q : Fam × Fam × (Nat → Nat) => (up (up (upA w 5 (cpR 4 (w2 5) (w 5))) 0 3 (w2 0 3)) 0 4 (w2 0 4), e8, q.1, q.2.1, q.2.2)) (fun _ => rfl) (w_wo_copy_40 hd N 0 I H pl)
