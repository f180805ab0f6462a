/-! the reference: its copies and its floats -/
def mem2 (f g : Nat → Int32) : Mem := fun c => cond (Nat.beq c 0) f g
def adK (ad : Nat → Nat) (a b : Nat) : Nat → Nat := fun k => cond (Nat.beq k 0) (ad a) (ad b)
def hK (E : Ev) (ad : Nat → Nat) (n0 : Nat) (n1 : Nat) (c : Mem) : va_W := [(ad 0, .inl (E.2.1, n0, .inl (c 0))), (ad 1, .inl (E.2.1, n1, .inl (c 1)))]
theorem hK_a0 {E : Ev} {ad : Nat → Nat} {n0 : Nat} {n1 : Nat} {c : Mem} : (hK E ad n0 n1 c)[0]? = some (ad 0, .inl (E.2.1, n0, .inl (c 0))) := rfl
theorem hK_A0 {E : Ev} {ad : Nat → Nat} {n0 : Nat} {n1 : Nat} {c : Mem} {f : Nat → Int32} : (hK E ad n0 n1 c).set 0 (ad 0, .inl (E.2.1, n0, .inl f)) = hK E ad n0 n1 (upA c 0 f) := rfl
theorem hK_s0 {E : Ev} {ad : Nat → Nat} {n0 : Nat} {n1 : Nat} {c : Mem} {i : Nat} {v : Int32} : (hK E ad n0 n1 c).set 0 (ad 0, .inl (E.2.1, n0, .inl (upd (c 0) i v))) = hK E ad n0 n1 (up c 0 i v) := rfl
theorem hK_a1 {E : Ev} {ad : Nat → Nat} {n0 : Nat} {n1 : Nat} {c : Mem} : (hK E ad n0 n1 c)[1]? = some (ad 1, .inl (E.2.1, n1, .inl (c 1))) := rfl
theorem hK_A1 {E : Ev} {ad : Nat → Nat} {n0 : Nat} {n1 : Nat} {c : Mem} {f : Nat → Int32} : (hK E ad n0 n1 c).set 1 (ad 1, .inl (E.2.1, n1, .inl f)) = hK E ad n0 n1 (upA c 1 f) := rfl
theorem hK_s1 {E : Ev} {ad : Nat → Nat} {n0 : Nat} {n1 : Nat} {c : Mem} {i : Nat} {v : Int32} : (hK E ad n0 n1 c).set 1 (ad 1, .inl (E.2.1, n1, .inl (upd (c 1) i v))) = hK E ad n0 n1 (up c 1 i v) := rfl
theorem mm_X7_copies : Cond.static yX7_copies ∈ WS ∧ Cond.initialized (yX7_copies).cls ∈ WS ∧ Cond.code yX7_copies cX7_copies 4 none ∈ WS ∧ ((yX7_copies).cls ≠ "java/lang/invoke/MethodHandle" ∧ (yX7_copies).cls ≠ "java/lang/invoke/VarHandle") ∧ (parseMethodDescriptor (yX7_copies).desc).map (fun d => d.parameters.length) = some 3 ∧ 4 ≤ 20 := ⟨ws_in (List.mem_of_getElem? (i := 1216) (by decide +kernel)) rfl, ws_in (List.mem_of_getElem? (i := 110) (by decide +kernel)) rfl, ws_in (List.mem_of_getElem? (i := 1217) (by decide +kernel)) rfl, ⟨by decide +kernel, by decide +kernel⟩, by decide +kernel, by decide⟩
theorem lk_X7_262 : LkS RX7 262 yX7_copies cX7_copies 4 none 3 := ⟨ws_in (List.mem_of_getElem? (i := 1215) (by decide +kernel)) rfl, mm_X7_copies⟩
theorem f_X7_13 : FL RX7 13 7 1 := ⟨RX7, TX7, 21, rfl, by decide, wsin_X7, ws_in (List.mem_of_getElem? (i := 856) (by decide +kernel)) rfl⟩
theorem f_X7_19 : FL RX7 19 7 3 := ⟨RX7, TX7, 21, rfl, by decide, wsin_X7, ws_in (List.mem_of_getElem? (i := 858) (by decide +kernel)) rfl⟩
theorem f_X7_25 : FL RX7 25 7 5 := ⟨RX7, TX7, 21, rfl, by decide, wsin_X7, ws_in (List.mem_of_getElem? (i := 860) (by decide +kernel)) rfl⟩
theorem f_X7_278 : FL RX7 278 7 19 := ⟨RX7, TX7, 21, rfl, by decide, wsin_X7, ws_in (List.mem_of_getElem? (i := 874) (by decide +kernel)) rfl⟩
theorem f_X7_28 : FL RX7 28 7 6 := ⟨RX7, TX7, 21, rfl, by decide, wsin_X7, ws_in (List.mem_of_getElem? (i := 861) (by decide +kernel)) rfl⟩
theorem f_X7_281 : FL RX7 281 7 20 := ⟨RX7, TX7, 21, rfl, by decide, wsin_X7, ws_in (List.mem_of_getElem? (i := 875) (by decide +kernel)) rfl⟩
theorem f_X7_284 : FL RX7 284 7 7 := ⟨RX7, TX7, 21, rfl, by decide, wsin_X7, ws_in (List.mem_of_getElem? (i := 862) (by decide +kernel)) rfl⟩
theorem fp_X7_278 : FLp RX7 278 7 19 .int := ⟨RX7, TX7, 21, tyX7, rfl, by decide, wsin_X7, ws_in (List.mem_of_getElem? (i := 874) (by decide +kernel)) rfl, tyX7_ok, nmX7, rfl, rfl⟩
theorem fp_X7_281 : FLp RX7 281 7 20 .int := ⟨RX7, TX7, 21, tyX7, rfl, by decide, wsin_X7, ws_in (List.mem_of_getElem? (i := 875) (by decide +kernel)) rfl, tyX7_ok, nmX7, rfl, rfl⟩
theorem fp_X7_284 : FLp RX7 284 7 7 .boolean := ⟨RX7, TX7, 21, tyX7, rfl, by decide, wsin_X7, ws_in (List.mem_of_getElem? (i := 862) (by decide +kernel)) rfl, tyX7_ok, nmX7, rfl, rfl⟩
def md_copies_2 (N : Nat) (n0 : Nat) (n1 : Nat)  : Nat → Int32 → Int32 → Mem → Option (Mem)
  | 0, _, _, _ => none
  | n + 1, y2, y3, c =>
    if y3 < y2 then
      ((rd n0 (c 0) y3).bind fun v11 =>
      ck n1 y3 <|
      md_copies_2 N n0 n1 n y2 (y3 + 1) (up c 1 y3.toNatClampNeg v11))
    else
      (some c)
set_option maxHeartbeats 400000 in
set_option maxRecDepth 100000 in
theorem w_md_copies_2 {l : Launch} {E : Ev} {ad : Nat → Nat} {A : Nat → Prop} {d : Nat} {N : Nat} {n0 : Nat} {n1 : Nat}   (hd : 1 ≤ d)  (n : Nat) : ∀ (y2 : Int32) (y3 : Int32) (c : Mem), Bd l E A RX7 cX7_copies 4 none d (fun q : Mem => (none, hK E ad n0 n1 q)) 2 [(0, .ref (ad 0)), (1, .ref (ad 1)), (2, .int y2), (3, .int y3)] [] (hK E ad n0 n1 c) (md_copies_2 N n0 n1 n y2 y3 c) := by
  induction n with
  | zero => intro y2 y3 c; exact b_none
  | succ n ih =>
    intro y2 y3 c
    rw [md_copies_2]
    refine b_iload_n (n := 3) 3 dX7_copies_2 rfl rfl rfl ?_
    refine b_iload_n (n := 4) 2 dX7_copies_3 rfl rfl rfl ?_
    refine b_cmp_ge (n := 7) (tgt := 19) dX7_copies_4 (by decide) rfl (fun h4 => ?_) (fun h4 => ?_)
    · refine b_aload_n (n := 8) 1 dX7_copies_7 rfl rfl rfl ?_
      refine b_iload_n (n := 9) 3 dX7_copies_8 rfl rfl rfl ?_
      refine b_aload_n (n := 10) 0 dX7_copies_9 rfl rfl rfl ?_
      refine b_iload_n (n := 11) 3 dX7_copies_10 rfl rfl rfl ?_
      refine b_iald (n := 12) 0 dX7_copies_11 rfl hK_a0 (fun v11 => ?_)
      refine b_iast (n := 13) (ws' := hK E ad n0 n1 (up c 1 y3.toNatClampNeg v11)) 1 dX7_copies_12 rfl hK_a1 hK_s1 ?_
      refine b_iinc (n := 16) (L' := [(3, .int (y3 + 1)), (0, .ref (ad 0)), (1, .ref (ad 1)), (2, .int y2)]) 3 1 dX7_copies_13 rfl rfl (by decide) (Nat.le_of_ble_eq_true rfl) rfl ?_
      refine b_goto (n := 2) dX7_copies_16 (by decide) ?_
      refine Bd.sub (L' := [(0, .ref (ad 0)), (1, .ref (ad 1)), (2, .int y2), (3, .int (y3 + 1))]) [1, 2, 3, 0] rfl ?_
      exact ih _ _ _
    · exact b_vret dX7_copies_19 rfl rfl
def md_copies (N : Nat) (n0 : Nat) (n1 : Nat) (x2 : Int32) (c : Mem) : Option (Mem) :=
  md_copies_2 N n0 n1 N x2 0 c
set_option maxHeartbeats 400000 in
set_option maxRecDepth 100000 in
theorem c_md_copies {l : Launch} {E : Ev} {ad : Nat → Nat} {d : Nat} {N : Nat} {n0 : Nat} {n1 : Nat}  {x2 : Int32} {c : Mem} (hd : 1 ≤ d) : Ct l yX7_copies cX7_copies 4 none d E (hK E ad n0 n1 c) [.ref (ad 0), .ref (ad 1), .int x2] (fun q : Mem => (none, hK E ad n0 n1 q)) (md_copies N n0 n1 x2 c) := by
  refine Ct.of2 (own := RX7) (L := [(0, .ref (ad 0)), (1, .ref (ad 1)), (2, .int x2)]) rfl (by decide +kernel) (Nat.le_of_ble_eq_true rfl) rfl ?_
  unfold md_copies
  refine b_iconst (n := 1) (v := 0) dX7_copies_0 rfl (by decide) ?_
  refine b_istore_n (n := 2) (L' := [(3, .int 0), (0, .ref (ad 0)), (1, .ref (ad 1)), (2, .int x2)]) dX7_copies_1 rfl rfl (Nat.le_of_ble_eq_true rfl) rfl ?_
  refine Bd.sub (L' := [(0, .ref (ad 0)), (1, .ref (ad 1)), (2, .int x2), (3, .int 0)]) [1, 2, 3, 0] rfl ?_
  exact w_md_copies_2 hd _ _ _ _
def md_image (N : Nat)  (μ : Mem) : Option (Int32 × Mem) :=
  (md_copies N 7593 7593 7593 (mem2 (μ 5) (μ 6))).bind fun c11 =>
  (md_copies N 9792 9792 9792 (mem2 (μ 1) (μ 2))).bind fun c25 =>
  (md_copies N 68 68 68 (mem2 (μ 3) (μ 4))).bind fun c38 =>
  (md_instances N (up (up (up (upA (upA (upA (upA (upA (upA μ 5 (c11 0)) 6 (c11 1)) 1 (c25 0)) 2 (c25 1)) 3 (c38 0)) 4 (c38 1)) 0 19 (μ 0 10)) 0 20 (μ 0 11)) 0 7 1)).bind fun k63 =>
  some (k63, up (up (up (upA (upA (upA (upA (upA (upA μ 5 (c11 0)) 6 (c11 1)) 1 (c25 0)) 2 (c25 1)) 3 (c38 0)) 4 (c38 1)) 0 19 (μ 0 10)) 0 20 (μ 0 11)) 0 7 1)
set_option maxHeartbeats 400000 in
set_option maxRecDepth 100000 in
theorem c_md_image {l : Launch} {E : Ev} {ad : Nat → Nat} {d : Nat} {N : Nat}    {μ : Mem} (hd : 3 ≤ d) : Ct l yX7_image cX7_image 1 (some .int) d E (hM E ad μ) [.ref (ad 0)] (fun q : Int32 × Mem => (some (.int q.1), hM E ad q.2)) (md_image N μ) := by
  refine Ct.of2 (own := RX7) (L := [(0, .ref (ad 0))]) rfl (by decide +kernel) (Nat.le_of_ble_eq_true rfl) rfl ?_
  unfold md_image
  refine b_aload_n (n := 1) 0 dX7_image_0 rfl rfl rfl ?_
  refine b_get (n := 4) (v := .ref (ad 5)) 0 f_X7_22 dX7_image_1 rfl hM_o0 rfl ?_
  refine b_aload_n (n := 5) 0 dX7_image_4 rfl rfl rfl ?_
  refine b_get (n := 8) (v := .ref (ad 6)) 0 f_X7_25 dX7_image_5 rfl hM_o0 rfl ?_
  refine b_sipush (n := 11) (v := 7593) dX7_image_8 rfl (by decide) ?_
  refine bSwv (n := 14) (hh := (fun s : Mem => hK E (adK ad 5 6) 7593 7593 s)) (As := [.ref (ad 5), .ref (ad 6), .int 7593]) (rest := []) (fun s : Mem => hM E ad (upA (upA μ 5 (s 0)) 6 (s 1))) [5, 6] lk_X7_262 (c_md_copies (ad := adK ad 5 6) (Nat.le_refl _)) (by omega) rfl (by decide) (fun _ => rfl) (fun _ => rfl) rfl rfl (Nat.le_of_ble_eq_true rfl) dX7_image_11 rfl ?_
  intro c11
  refine b_aload_n (n := 15) 0 dX7_image_14 rfl rfl rfl ?_
  refine b_get (n := 18) (v := .ref (ad 1)) 0 f_X7_9 dX7_image_15 rfl hM_o0 rfl ?_
  refine b_aload_n (n := 19) 0 dX7_image_18 rfl rfl rfl ?_
  refine b_get (n := 22) (v := .ref (ad 2)) 0 f_X7_13 dX7_image_19 rfl hM_o0 rfl ?_
  refine b_sipush (n := 25) (v := 9792) dX7_image_22 rfl (by decide) ?_
  refine bSwv (n := 28) (hh := (fun s : Mem => hK E (adK ad 1 2) 9792 9792 s)) (As := [.ref (ad 1), .ref (ad 2), .int 9792]) (rest := []) (fun s : Mem => hM E ad (upA (upA (upA (upA μ 5 (c11 0)) 6 (c11 1)) 1 (s 0)) 2 (s 1))) [1, 2] lk_X7_262 (c_md_copies (ad := adK ad 1 2) (Nat.le_refl _)) (by omega) rfl (by decide) (fun _ => rfl) (fun _ => rfl) rfl rfl (Nat.le_of_ble_eq_true rfl) dX7_image_25 rfl ?_
  intro c25
  refine b_aload_n (n := 29) 0 dX7_image_28 rfl rfl rfl ?_
  refine b_get (n := 32) (v := .ref (ad 3)) 0 f_X7_16 dX7_image_29 rfl hM_o0 rfl ?_
  refine b_aload_n (n := 33) 0 dX7_image_32 rfl rfl rfl ?_
  refine b_get (n := 36) (v := .ref (ad 4)) 0 f_X7_19 dX7_image_33 rfl hM_o0 rfl ?_
  refine b_bipush (n := 38) (v := 68) dX7_image_36 rfl (by decide) ?_
  refine bSwv (n := 41) (hh := (fun s : Mem => hK E (adK ad 3 4) 68 68 s)) (As := [.ref (ad 3), .ref (ad 4), .int 68]) (rest := []) (fun s : Mem => hM E ad (upA (upA (upA (upA (upA (upA μ 5 (c11 0)) 6 (c11 1)) 1 (c25 0)) 2 (c25 1)) 3 (s 0)) 4 (s 1))) [3, 4] lk_X7_262 (c_md_copies (ad := adK ad 3 4) (Nat.le_refl _)) (by omega) rfl (by decide) (fun _ => rfl) (fun _ => rfl) rfl rfl (Nat.le_of_ble_eq_true rfl) dX7_image_38 rfl ?_
  intro c38
  refine b_aload_n (n := 42) 0 dX7_image_41 rfl rfl rfl ?_
  refine b_aload_n (n := 43) 0 dX7_image_42 rfl rfl rfl ?_
  refine b_get (n := 46) (v := .int (μ 0 10)) 0 f_X7_34 dX7_image_43 rfl hM_o0 rfl ?_
  refine b_put (n := 49) (ws' := hM E ad (up (upA (upA (upA (upA (upA (upA μ 5 (c11 0)) 6 (c11 1)) 1 (c25 0)) 2 (c25 1)) 3 (c38 0)) 4 (c38 1)) 0 19 (μ 0 10))) 0 fp_X7_278 dX7_image_46 rfl hM_o0 rfl rfl (Nat.le_of_ble_eq_true rfl) hM_p0_19 ?_
  refine b_aload_n (n := 50) 0 dX7_image_49 rfl rfl rfl ?_
  refine b_aload_n (n := 51) 0 dX7_image_50 rfl rfl rfl ?_
  refine b_get (n := 54) (v := .int (μ 0 11)) 0 f_X7_141 dX7_image_51 rfl hM_o0 rfl ?_
  refine b_put (n := 57) (ws' := hM E ad (up (up (upA (upA (upA (upA (upA (upA μ 5 (c11 0)) 6 (c11 1)) 1 (c25 0)) 2 (c25 1)) 3 (c38 0)) 4 (c38 1)) 0 19 (μ 0 10)) 0 20 (μ 0 11))) 0 fp_X7_281 dX7_image_54 rfl hM_o0 rfl rfl (Nat.le_of_ble_eq_true rfl) hM_p0_20 ?_
  refine b_aload_n (n := 58) 0 dX7_image_57 rfl rfl rfl ?_
  refine b_iconst (n := 59) (v := 1) dX7_image_58 rfl (by decide) ?_
  refine b_put (n := 62) (ws' := hM E ad (up (up (up (upA (upA (upA (upA (upA (upA μ 5 (c11 0)) 6 (c11 1)) 1 (c25 0)) 2 (c25 1)) 3 (c38 0)) 4 (c38 1)) 0 19 (μ 0 10)) 0 20 (μ 0 11)) 0 7 1)) 0 fp_X7_284 dX7_image_59 rfl hM_o0 rfl rfl (Nat.le_of_ble_eq_true rfl) hM_p0_7 ?_
  refine b_aload_n (n := 63) 0 dX7_image_62 rfl rfl rfl ?_
  refine bV0i (n := 66) (As := []) (rest := []) 0 lk_X7_236 (c_md_instances (Nat.le_refl _)) (by omega) rfl rfl rfl rfl (Nat.le_of_ble_eq_true rfl) dX7_image_63 rfl (fun k63 => ?_)
  exact b_iret dX7_image_66 rfl rfl
def md_undo (N : Nat)  (μ : Mem) : Option (Int32 × Mem) :=
  if μ 0 7 = 0 then
    (some ((-3), μ))
  else
    ((md_copies N 7593 7593 7593 (mem2 (μ 6) (μ 5))).bind fun c21 =>
    (md_copies N 9792 9792 9792 (mem2 (μ 2) (μ 1))).bind fun c35 =>
    (md_copies N 68 68 68 (mem2 (μ 4) (μ 3))).bind fun c48 =>
    (md_instances N (up (up (upA (upA (upA (upA (upA (upA μ 6 (c21 0)) 5 (c21 1)) 2 (c35 0)) 1 (c35 1)) 4 (c48 0)) 3 (c48 1)) 0 10 (μ 0 19)) 0 11 (μ 0 20))).bind fun k68 =>
    some (k68, up (up (upA (upA (upA (upA (upA (upA μ 6 (c21 0)) 5 (c21 1)) 2 (c35 0)) 1 (c35 1)) 4 (c48 0)) 3 (c48 1)) 0 10 (μ 0 19)) 0 11 (μ 0 20)))
set_option maxHeartbeats 400000 in
set_option maxRecDepth 100000 in
theorem c_md_undo {l : Launch} {E : Ev} {ad : Nat → Nat} {d : Nat} {N : Nat}    {μ : Mem} (hd : 3 ≤ d) : Ct l yX7_undo cX7_undo 1 (some .int) d E (hM E ad μ) [.ref (ad 0)] (fun q : Int32 × Mem => (some (.int q.1), hM E ad q.2)) (md_undo N μ) := by
  refine Ct.of2 (own := RX7) (L := [(0, .ref (ad 0))]) rfl (by decide +kernel) (Nat.le_of_ble_eq_true rfl) rfl ?_
  unfold md_undo
  refine b_aload_n (n := 1) 0 dX7_undo_0 rfl rfl rfl ?_
  refine b_get (n := 4) (v := .int (μ 0 7)) 0 f_X7_284 dX7_undo_1 rfl hM_o0 rfl ?_
  refine b_if_ne (n := 7) (tgt := 10) dX7_undo_4 (by decide) rfl (fun h4 => ?_) (fun h4 => ?_)
  · refine b_bipush (n := 9) (v := -3) dX7_undo_7 rfl (by decide) ?_
    exact b_iret dX7_undo_9 rfl rfl
  · refine b_aload_n (n := 11) 0 dX7_undo_10 rfl rfl rfl ?_
    refine b_get (n := 14) (v := .ref (ad 6)) 0 f_X7_25 dX7_undo_11 rfl hM_o0 rfl ?_
    refine b_aload_n (n := 15) 0 dX7_undo_14 rfl rfl rfl ?_
    refine b_get (n := 18) (v := .ref (ad 5)) 0 f_X7_22 dX7_undo_15 rfl hM_o0 rfl ?_
    refine b_sipush (n := 21) (v := 7593) dX7_undo_18 rfl (by decide) ?_
    refine bSwv (n := 24) (hh := (fun s : Mem => hK E (adK ad 6 5) 7593 7593 s)) (As := [.ref (ad 6), .ref (ad 5), .int 7593]) (rest := []) (fun s : Mem => hM E ad (upA (upA μ 6 (s 0)) 5 (s 1))) [6, 5] lk_X7_262 (c_md_copies (ad := adK ad 6 5) (Nat.le_refl _)) (by omega) rfl (by decide) (fun _ => rfl) (fun _ => rfl) rfl rfl (Nat.le_of_ble_eq_true rfl) dX7_undo_21 rfl ?_
    intro c21
    refine b_aload_n (n := 25) 0 dX7_undo_24 rfl rfl rfl ?_
    refine b_get (n := 28) (v := .ref (ad 2)) 0 f_X7_13 dX7_undo_25 rfl hM_o0 rfl ?_
    refine b_aload_n (n := 29) 0 dX7_undo_28 rfl rfl rfl ?_
    refine b_get (n := 32) (v := .ref (ad 1)) 0 f_X7_9 dX7_undo_29 rfl hM_o0 rfl ?_
    refine b_sipush (n := 35) (v := 9792) dX7_undo_32 rfl (by decide) ?_
    refine bSwv (n := 38) (hh := (fun s : Mem => hK E (adK ad 2 1) 9792 9792 s)) (As := [.ref (ad 2), .ref (ad 1), .int 9792]) (rest := []) (fun s : Mem => hM E ad (upA (upA (upA (upA μ 6 (c21 0)) 5 (c21 1)) 2 (s 0)) 1 (s 1))) [2, 1] lk_X7_262 (c_md_copies (ad := adK ad 2 1) (Nat.le_refl _)) (by omega) rfl (by decide) (fun _ => rfl) (fun _ => rfl) rfl rfl (Nat.le_of_ble_eq_true rfl) dX7_undo_35 rfl ?_
    intro c35
    refine b_aload_n (n := 39) 0 dX7_undo_38 rfl rfl rfl ?_
    refine b_get (n := 42) (v := .ref (ad 4)) 0 f_X7_19 dX7_undo_39 rfl hM_o0 rfl ?_
    refine b_aload_n (n := 43) 0 dX7_undo_42 rfl rfl rfl ?_
    refine b_get (n := 46) (v := .ref (ad 3)) 0 f_X7_16 dX7_undo_43 rfl hM_o0 rfl ?_
    refine b_bipush (n := 48) (v := 68) dX7_undo_46 rfl (by decide) ?_
    refine bSwv (n := 51) (hh := (fun s : Mem => hK E (adK ad 4 3) 68 68 s)) (As := [.ref (ad 4), .ref (ad 3), .int 68]) (rest := []) (fun s : Mem => hM E ad (upA (upA (upA (upA (upA (upA μ 6 (c21 0)) 5 (c21 1)) 2 (c35 0)) 1 (c35 1)) 4 (s 0)) 3 (s 1))) [4, 3] lk_X7_262 (c_md_copies (ad := adK ad 4 3) (Nat.le_refl _)) (by omega) rfl (by decide) (fun _ => rfl) (fun _ => rfl) rfl rfl (Nat.le_of_ble_eq_true rfl) dX7_undo_48 rfl ?_
    intro c48
    refine b_aload_n (n := 52) 0 dX7_undo_51 rfl rfl rfl ?_
    refine b_aload_n (n := 53) 0 dX7_undo_52 rfl rfl rfl ?_
    refine b_get (n := 56) (v := .int (μ 0 19)) 0 f_X7_278 dX7_undo_53 rfl hM_o0 rfl ?_
    refine b_put (n := 59) (ws' := hM E ad (up (upA (upA (upA (upA (upA (upA μ 6 (c21 0)) 5 (c21 1)) 2 (c35 0)) 1 (c35 1)) 4 (c48 0)) 3 (c48 1)) 0 10 (μ 0 19))) 0 fp_X7_34 dX7_undo_56 rfl hM_o0 rfl rfl (Nat.le_of_ble_eq_true rfl) hM_p0_10 ?_
    refine b_aload_n (n := 60) 0 dX7_undo_59 rfl rfl rfl ?_
    refine b_aload_n (n := 61) 0 dX7_undo_60 rfl rfl rfl ?_
    refine b_get (n := 64) (v := .int (μ 0 20)) 0 f_X7_281 dX7_undo_61 rfl hM_o0 rfl ?_
    refine b_put (n := 67) (ws' := hM E ad (up (up (upA (upA (upA (upA (upA (upA μ 6 (c21 0)) 5 (c21 1)) 2 (c35 0)) 1 (c35 1)) 4 (c48 0)) 3 (c48 1)) 0 10 (μ 0 19)) 0 11 (μ 0 20))) 0 fp_X7_141 dX7_undo_64 rfl hM_o0 rfl rfl (Nat.le_of_ble_eq_true rfl) hM_p0_11 ?_
    refine b_aload_n (n := 68) 0 dX7_undo_67 rfl rfl rfl ?_
    refine bV0i (n := 71) (As := []) (rest := []) 0 lk_X7_236 (c_md_instances (Nat.le_refl _)) (by omega) rfl rfl rfl rfl (Nat.le_of_ble_eq_true rfl) dX7_undo_68 rfl (fun k68 => ?_)
    exact b_iret dX7_undo_71 rfl rfl
def md_ahead_40 (N : Nat) (D : Nat)  : Nat → Int32 → Int32 → Int32 → Mem → Option (Int32 × Mem)
  | 0, _, _, _, _ => none
  | n + 1, y1, y2, y3, μ =>
    if y3 < y2 then
      ((md_passes N D μ).bind fun μ46 =>
      md_ahead_40 N D n y1 y2 (y3 + 1) μ46)
    else
      ((md_of y1 1).bind fun k61 =>
      (rd 7593 (μ 5) k61).bind fun v64 =>
      (md_copies N 7593 7593 7593 (mem2 (μ 7) (μ 5))).bind fun c77 =>
      some (v64, upA (upA μ 7 (c77 0)) 5 (c77 1)))
set_option maxHeartbeats 400000 in
set_option maxRecDepth 100000 in
theorem w_md_ahead_40 {l : Launch} {E : Ev} {ad : Nat → Nat} {A : Nat → Prop} {d : Nat} {N : Nat} {D : Nat}    (hd : 5 * D + 14 ≤ d)  (n : Nat) : ∀ (y1 : Int32) (y2 : Int32) (y3 : Int32) (μ : Mem), Bd l E A RX7 cX7_ahead 4 (some .int) d (fun q : Int32 × Mem => (some (.int q.1), hM E ad q.2)) 40 [(0, .ref (ad 0)), (1, .int y1), (2, .int y2), (3, .int y3)] [] (hM E ad μ) (md_ahead_40 N D n y1 y2 y3 μ) := by
  induction n with
  | zero => intro y1 y2 y3 μ; exact b_none
  | succ n ih =>
    intro y1 y2 y3 μ
    rw [md_ahead_40]
    refine b_iload_n (n := 41) 3 dX7_ahead_40 rfl rfl rfl ?_
    refine b_iload_n (n := 42) 2 dX7_ahead_41 rfl rfl rfl ?_
    refine b_cmp_ge (n := 45) (tgt := 55) dX7_ahead_42 (by decide) rfl (fun h42 => ?_) (fun h42 => ?_)
    · refine b_aload_n (n := 46) 0 dX7_ahead_45 rfl rfl rfl ?_
      refine bV0wv (n := 49) (hh := (fun s : Mem => hM E ad s)) (As := []) (rest := []) 0 lk_X7_247 (c_md_passes (Nat.le_refl _)) (by omega) (fun _ => rfl) rfl rfl rfl rfl (Nat.le_of_ble_eq_true rfl) dX7_ahead_46 rfl ?_
      rintro μ46
      try dsimp only
      refine b_iinc (n := 52) (L' := [(3, .int (y3 + 1)), (0, .ref (ad 0)), (1, .int y1), (2, .int y2)]) 3 1 dX7_ahead_49 rfl rfl (by decide) (Nat.le_of_ble_eq_true rfl) rfl ?_
      refine b_goto (n := 40) dX7_ahead_52 (by decide) ?_
      refine Bd.sub (L' := [(0, .ref (ad 0)), (1, .int y1), (2, .int y2), (3, .int (y3 + 1))]) [1, 2, 3, 0] rfl ?_
      exact ih _ _ _ _
    · refine b_aload_n (n := 56) 0 dX7_ahead_55 rfl rfl rfl ?_
      refine b_get (n := 59) (v := .ref (ad 5)) 0 f_X7_22 dX7_ahead_56 rfl hM_o0 rfl ?_
      refine b_iload_n (n := 60) 1 dX7_ahead_59 rfl rfl rfl ?_
      refine b_iconst (n := 61) (v := 1) dX7_ahead_60 rfl (by decide) ?_
      refine bSi (n := 64) (As := [.int y1, .int 1]) (rest := [.ref (ad 5)]) lk_X7_163 (c_md_of (Nat.le_refl _)) (by omega) rfl rfl (Nat.le_of_ble_eq_true rfl) dX7_ahead_61 rfl (fun k61 => ?_)
      refine b_iald (n := 65) 5 dX7_ahead_64 rfl hM_a5 (fun v64 => ?_)
      refine b_istore_n (n := 66) (L' := [(3, .int v64), (0, .ref (ad 0)), (1, .int y1), (2, .int y2)]) dX7_ahead_65 rfl rfl (Nat.le_of_ble_eq_true rfl) rfl ?_
      refine b_aload_n (n := 67) 1 dX7_ahead_66 rfl rfl rfl ?_
      refine b_get (n := 70) (v := .ref (ad 7)) 0 f_X7_28 dX7_ahead_67 rfl hM_o0 rfl ?_
      refine b_aload_n (n := 71) 1 dX7_ahead_70 rfl rfl rfl ?_
      refine b_get (n := 74) (v := .ref (ad 5)) 0 f_X7_22 dX7_ahead_71 rfl hM_o0 rfl ?_
      refine b_sipush (n := 77) (v := 7593) dX7_ahead_74 rfl (by decide) ?_
      refine bSwv (n := 80) (hh := (fun s : Mem => hK E (adK ad 7 5) 7593 7593 s)) (As := [.ref (ad 7), .ref (ad 5), .int 7593]) (rest := []) (fun s : Mem => hM E ad (upA (upA μ 7 (s 0)) 5 (s 1))) [7, 5] lk_X7_262 (c_md_copies (ad := adK ad 7 5) (Nat.le_refl _)) (by omega) rfl (by decide) (fun _ => rfl) (fun _ => rfl) rfl rfl (Nat.le_of_ble_eq_true rfl) dX7_ahead_77 rfl ?_
      intro c77
      refine b_iload_n (n := 81) 0 dX7_ahead_80 rfl rfl rfl ?_
      exact b_iret dX7_ahead_81 rfl rfl
def md_ahead (N : Nat) (D : Nat) (x1 : Int32) (x2 : Int32) (μ : Mem) : Option (Int32 × Mem) :=
  (md_isInstance μ x1).bind fun k2 =>
  if k2 = true then
    ((md_isIn x2 1 200).bind fun k15 =>
    if k15 = true then
      ((md_copies N 7593 7593 7593 (mem2 (μ 5) (μ 7))).bind fun c35 =>
      md_ahead_40 N D N x1 x2 0 (upA (upA μ 5 (c35 0)) 7 (c35 1)))
    else
      (some ((-2), μ)))
  else
    (some ((-1), μ))
set_option maxHeartbeats 400000 in
set_option maxRecDepth 100000 in
theorem c_md_ahead {l : Launch} {E : Ev} {ad : Nat → Nat} {d : Nat} {N : Nat} {D : Nat}   {x1 : Int32} {x2 : Int32} {μ : Mem} (hd : 5 * D + 14 ≤ d) : Ct l yX7_ahead cX7_ahead 4 (some .int) d E (hM E ad μ) [.ref (ad 0), .int x1, .int x2] (fun q : Int32 × Mem => (some (.int q.1), hM E ad q.2)) (md_ahead N D x1 x2 μ) := by
  refine Ct.of2 (own := RX7) (L := [(0, .ref (ad 0)), (1, .int x1), (2, .int x2)]) rfl (by decide +kernel) (Nat.le_of_ble_eq_true rfl) rfl ?_
  unfold md_ahead
  refine b_aload_n (n := 1) 0 dX7_ahead_0 rfl rfl rfl ?_
  refine b_iload_n (n := 2) 1 dX7_ahead_1 rfl rfl rfl ?_
  refine bV0b (n := 5) (As := [.int x1]) (rest := []) 0 lk_X7_243 (c_md_isInstance (Nat.le_refl _)) (by omega) rfl rfl rfl rfl (Nat.le_of_ble_eq_true rfl) dX7_ahead_2 rfl (fun k2 => ?_)
  refine b_bnz (n := 8) (tgt := 10) dX7_ahead_5 (by decide) rfl (fun h5 => ?_) (fun h5 => ?_)
  · refine b_iload_n (n := 11) 2 dX7_ahead_10 rfl rfl rfl ?_
    refine b_iconst (n := 12) (v := 1) dX7_ahead_11 rfl (by decide) ?_
    refine b_sipush (n := 15) (v := 200) dX7_ahead_12 rfl (by decide) ?_
    refine bSb (n := 18) (As := [.int x2, .int 1, .int 200]) (rest := []) lk_X7_38 (c_md_isIn (Nat.le_refl _)) (by omega) rfl rfl (Nat.le_of_ble_eq_true rfl) dX7_ahead_15 rfl (fun k15 => ?_)
    refine b_bnz (n := 21) (tgt := 24) dX7_ahead_18 (by decide) rfl (fun h18 => ?_) (fun h18 => ?_)
    · refine b_aload_n (n := 25) 0 dX7_ahead_24 rfl rfl rfl ?_
      refine b_get (n := 28) (v := .ref (ad 5)) 0 f_X7_22 dX7_ahead_25 rfl hM_o0 rfl ?_
      refine b_aload_n (n := 29) 0 dX7_ahead_28 rfl rfl rfl ?_
      refine b_get (n := 32) (v := .ref (ad 7)) 0 f_X7_28 dX7_ahead_29 rfl hM_o0 rfl ?_
      refine b_sipush (n := 35) (v := 7593) dX7_ahead_32 rfl (by decide) ?_
      refine bSwv (n := 38) (hh := (fun s : Mem => hK E (adK ad 5 7) 7593 7593 s)) (As := [.ref (ad 5), .ref (ad 7), .int 7593]) (rest := []) (fun s : Mem => hM E ad (upA (upA μ 5 (s 0)) 7 (s 1))) [5, 7] lk_X7_262 (c_md_copies (ad := adK ad 5 7) (Nat.le_refl _)) (by omega) rfl (by decide) (fun _ => rfl) (fun _ => rfl) rfl rfl (Nat.le_of_ble_eq_true rfl) dX7_ahead_35 rfl ?_
      intro c35
      refine b_iconst (n := 39) (v := 0) dX7_ahead_38 rfl (by decide) ?_
      refine b_istore_n (n := 40) (L' := [(3, .int 0), (0, .ref (ad 0)), (1, .int x1), (2, .int x2)]) dX7_ahead_39 rfl rfl (Nat.le_of_ble_eq_true rfl) rfl ?_
      refine Bd.sub (L' := [(0, .ref (ad 0)), (1, .int x1), (2, .int x2), (3, .int 0)]) [1, 2, 3, 0] rfl ?_
      exact w_md_ahead_40 hd _ _ _ _ _
    · refine b_bipush (n := 23) (v := -2) dX7_ahead_21 rfl (by decide) ?_
      exact b_iret dX7_ahead_23 rfl rfl
  · refine b_iconst (n := 9) (v := -1) dX7_ahead_8 rfl (by decide) ?_
    exact b_iret dX7_ahead_9 rfl rfl
def md_statistic_187 (N : Nat) (μ : Mem)  (y3 : Int32) (z0 : Int32)  : Option (Int32) :=
  gd (FP.fdiv (FP.i2f z0) (FP.i2f y3) &&& 0x7fffffff ≤ 0x7f800000) <|
  (f2bits (FP.fdiv (FP.i2f z0) (FP.i2f y3))).bind fun k191 =>
  some k191
set_option maxHeartbeats 400000 in
set_option maxRecDepth 100000 in
theorem w_md_statistic_187 {l : Launch} {E : Ev} {ad : Nat → Nat} {A : Nat → Prop} {d : Nat} {N : Nat}  {μ : Mem}  (hd : 4 ≤ d)  (y3 : Int32) (z0 : Int32) : Bd l E A RX7 cX7_statistic 7 (some .int) d (fun v : Int32 => (some (.int v), hM E ad μ)) 187 [(3, .int y3)] [.int z0] (hM E ad μ) (md_statistic_187 N μ y3 z0) := by
  unfold md_statistic_187
  refine b_i2f (n := 188) dX7_statistic_187 rfl ?_
  refine b_iload_n (n := 189) 0 dX7_statistic_188 rfl rfl rfl ?_
  refine b_i2f (n := 190) dX7_statistic_189 rfl ?_
  refine b_fdiv (n := 191) dX7_statistic_190 rfl (fun h190 => ?_)
  refine bSi (n := 194) (As := [.float (FP.fdiv (FP.i2f z0) (FP.i2f y3))]) (rest := []) lk_X7_272 (c_f2i (Nat.le_refl _)) (by omega) rfl rfl (Nat.le_of_ble_eq_true rfl) dX7_statistic_191 rfl (fun k191 => ?_)
  exact b_iret dX7_statistic_194 rfl rfl
def md_statistic_125 (N : Nat) (μ : Mem) (K75 : Int32 → Int32 → Int32 → Int32 → Int32 → Option (Int32)) (y1 : Int32) (y2 : Int32) (y3 : Int32) (y4 : Int32) (y5 : Int32) (z0 : Int32)  : Option (Int32) :=
  if z0 = 0 then
    (K75 y1 y2 y3 (y4 + 0) (y5 + 1))
  else
    ((md_of y5 5).bind fun k141 =>
    (rd 7593 (μ 5) k141).bind fun v144 =>
    (md_of y5 4).bind fun k152 =>
    (rd 7593 (μ 5) k152).bind fun v155 =>
    K75 y1 y2 y3 (y4 + (v144 - v155)) (y5 + 1))
set_option maxHeartbeats 400000 in
set_option maxRecDepth 100000 in
theorem w_md_statistic_125 {l : Launch} {E : Ev} {ad : Nat → Nat} {A : Nat → Prop} {d : Nat} {N : Nat}  {μ : Mem} {K75 : Int32 → Int32 → Int32 → Int32 → Int32 → Option (Int32)} (hd : 4 ≤ d) (hK75 : ∀ (y1 : Int32) (y2 : Int32) (y3 : Int32) (y4 : Int32) (y5 : Int32), Bd l E A RX7 cX7_statistic 7 (some .int) d (fun v : Int32 => (some (.int v), hM E ad μ)) 75 [(0, .ref (ad 0)), (1, .int y1), (2, .int y2), (3, .int y3), (4, .int y4), (5, .int y5)] [] (hM E ad μ) (K75 y1 y2 y3 y4 y5)) (y1 : Int32) (y2 : Int32) (y3 : Int32) (y4 : Int32) (y5 : Int32) (z0 : Int32) : Bd l E A RX7 cX7_statistic 7 (some .int) d (fun v : Int32 => (some (.int v), hM E ad μ)) 125 [(0, .ref (ad 0)), (1, .int y1), (2, .int y2), (3, .int y3), (4, .int y4), (5, .int y5)] [.int z0] (hM E ad μ) (md_statistic_125 N μ K75 y1 y2 y3 y4 y5 z0) := by
  unfold md_statistic_125
  refine b_istore (n := 127) (L' := [(6, .int z0), (0, .ref (ad 0)), (1, .int y1), (2, .int y2), (3, .int y3), (4, .int y4), (5, .int y5)]) dX7_statistic_125 rfl (Nat.le_of_ble_eq_true rfl) rfl ?_
  refine b_iload (n := 129) 5 dX7_statistic_127 rfl rfl ?_
  refine b_iload (n := 131) 0 dX7_statistic_129 rfl rfl ?_
  refine b_if_eq (n := 134) (tgt := 160) dX7_statistic_131 (by decide) rfl (fun h131 => ?_) (fun h131 => ?_)
  · refine b_iconst (n := 161) (v := 0) dX7_statistic_160 rfl (by decide) ?_
    refine b_iadd (n := 162) dX7_statistic_161 rfl ?_
    refine b_istore (n := 164) (L' := [(4, .int (y4 + 0)), (6, .int z0), (0, .ref (ad 0)), (1, .int y1), (2, .int y2), (3, .int y3), (5, .int y5)]) dX7_statistic_162 rfl (Nat.le_of_ble_eq_true rfl) rfl ?_
    refine b_iinc (n := 167) (L' := [(5, .int (y5 + 1)), (4, .int (y4 + 0)), (6, .int z0), (0, .ref (ad 0)), (1, .int y1), (2, .int y2), (3, .int y3)]) 6 1 dX7_statistic_164 rfl rfl (by decide) (Nat.le_of_ble_eq_true rfl) rfl ?_
    refine b_goto (n := 75) dX7_statistic_167 (by decide) ?_
    refine Bd.sub (L' := [(0, .ref (ad 0)), (1, .int y1), (2, .int y2), (3, .int y3), (4, .int (y4 + 0)), (5, .int (y5 + 1))]) [3, 4, 5, 6, 1, 0] rfl ?_
    exact hK75 _ _ _ _ _
  · refine b_aload_n (n := 135) 1 dX7_statistic_134 rfl rfl rfl ?_
    refine b_get (n := 138) (v := .ref (ad 5)) 0 f_X7_22 dX7_statistic_135 rfl hM_o0 rfl ?_
    refine b_iload (n := 140) 6 dX7_statistic_138 rfl rfl ?_
    refine b_iconst (n := 141) (v := 5) dX7_statistic_140 rfl (by decide) ?_
    refine bSi (n := 144) (As := [.int y5, .int 5]) (rest := [.ref (ad 5), .int y4]) lk_X7_163 (c_md_of (Nat.le_refl _)) (by omega) rfl rfl (Nat.le_of_ble_eq_true rfl) dX7_statistic_141 rfl (fun k141 => ?_)
    refine b_iald (n := 145) 5 dX7_statistic_144 rfl hM_a5 (fun v144 => ?_)
    refine b_aload_n (n := 146) 1 dX7_statistic_145 rfl rfl rfl ?_
    refine b_get (n := 149) (v := .ref (ad 5)) 0 f_X7_22 dX7_statistic_146 rfl hM_o0 rfl ?_
    refine b_iload (n := 151) 6 dX7_statistic_149 rfl rfl ?_
    refine b_iconst (n := 152) (v := 4) dX7_statistic_151 rfl (by decide) ?_
    refine bSi (n := 155) (As := [.int y5, .int 4]) (rest := [.ref (ad 5), .int v144, .int y4]) lk_X7_163 (c_md_of (Nat.le_refl _)) (by omega) rfl rfl (Nat.le_of_ble_eq_true rfl) dX7_statistic_152 rfl (fun k152 => ?_)
    refine b_iald (n := 156) 5 dX7_statistic_155 rfl hM_a5 (fun v155 => ?_)
    refine b_isub (n := 157) dX7_statistic_156 rfl ?_
    refine b_goto (n := 161) dX7_statistic_157 (by decide) ?_
    refine b_iadd (n := 162) dX7_statistic_161 rfl ?_
    refine b_istore (n := 164) (L' := [(4, .int (y4 + (v144 - v155))), (6, .int z0), (0, .ref (ad 0)), (1, .int y1), (2, .int y2), (3, .int y3), (5, .int y5)]) dX7_statistic_162 rfl (Nat.le_of_ble_eq_true rfl) rfl ?_
    refine b_iinc (n := 167) (L' := [(5, .int (y5 + 1)), (4, .int (y4 + (v144 - v155))), (6, .int z0), (0, .ref (ad 0)), (1, .int y1), (2, .int y2), (3, .int y3)]) 6 1 dX7_statistic_164 rfl rfl (by decide) (Nat.le_of_ble_eq_true rfl) rfl ?_
    refine b_goto (n := 75) dX7_statistic_167 (by decide) ?_
    refine Bd.sub (L' := [(0, .ref (ad 0)), (1, .int y1), (2, .int y2), (3, .int y3), (4, .int (y4 + (v144 - v155))), (5, .int (y5 + 1))]) [3, 4, 5, 6, 1, 0] rfl ?_
    exact hK75 _ _ _ _ _
def md_statistic_75 (N : Nat) (μ : Mem)  : Nat → Int32 → Int32 → Int32 → Int32 → Int32 → Option (Int32)
  | 0, _, _, _, _, _ => none
  | n + 1, y1, y2, y3, y4, y5 =>
    if y5 < 6 then
      ((md_isInstance μ y5).bind fun k85 =>
      if k85 = true then
        ((md_of y5 2).bind fun k98 =>
        (rd 7593 (μ 5) k98).bind fun v101 =>
        if v101 = y1 then
          ((md_of y5 5).bind fun k113 =>
          (rd 7593 (μ 5) k113).bind fun v116 =>
          if v116 < 0 then
            (md_statistic_125 N μ (md_statistic_75 N μ n) y1 y2 y3 y4 y5 0)
          else
            (md_statistic_125 N μ (md_statistic_75 N μ n) y1 y2 y3 y4 y5 1))
        else
          (md_statistic_125 N μ (md_statistic_75 N μ n) y1 y2 y3 y4 y5 0))
      else
        (md_statistic_125 N μ (md_statistic_75 N μ n) y1 y2 y3 y4 y5 0))
    else
      (if y2 = 6 then
        (md_statistic_187 N μ y3 y4)
      else
        ((md_instancesOf N μ y1 1).bind fun k184 =>
        md_statistic_187 N μ y3 k184))
set_option maxHeartbeats 400000 in
set_option maxRecDepth 100000 in
theorem w_md_statistic_75 {l : Launch} {E : Ev} {ad : Nat → Nat} {A : Nat → Prop} {d : Nat} {N : Nat}  {μ : Mem}  (hd : 4 ≤ d)  (n : Nat) : ∀ (y1 : Int32) (y2 : Int32) (y3 : Int32) (y4 : Int32) (y5 : Int32), Bd l E A RX7 cX7_statistic 7 (some .int) d (fun v : Int32 => (some (.int v), hM E ad μ)) 75 [(0, .ref (ad 0)), (1, .int y1), (2, .int y2), (3, .int y3), (4, .int y4), (5, .int y5)] [] (hM E ad μ) (md_statistic_75 N μ n y1 y2 y3 y4 y5) := by
  induction n with
  | zero => intro y1 y2 y3 y4 y5; exact b_none
  | succ n ih =>
    intro y1 y2 y3 y4 y5
    rw [md_statistic_75]
    refine b_iload (n := 77) 5 dX7_statistic_75 rfl rfl ?_
    refine b_bipush (n := 79) (v := 6) dX7_statistic_77 rfl (by decide) ?_
    refine b_cmp_ge (n := 82) (tgt := 170) dX7_statistic_79 (by decide) rfl (fun h79 => ?_) (fun h79 => ?_)
    · refine b_aload_n (n := 83) 0 dX7_statistic_82 rfl rfl rfl ?_
      refine b_iload (n := 85) 5 dX7_statistic_83 rfl rfl ?_
      refine bV0b (n := 88) (As := [.int y5]) (rest := []) 0 lk_X7_243 (c_md_isInstance (Nat.le_refl _)) (by omega) rfl rfl rfl rfl (Nat.le_of_ble_eq_true rfl) dX7_statistic_85 rfl (fun k85 => ?_)
      refine b_bz (n := 91) (tgt := 124) dX7_statistic_88 (by decide) rfl (fun h88 => ?_) (fun h88 => ?_)
      · refine b_aload_n (n := 92) 0 dX7_statistic_91 rfl rfl rfl ?_
        refine b_get (n := 95) (v := .ref (ad 5)) 0 f_X7_22 dX7_statistic_92 rfl hM_o0 rfl ?_
        refine b_iload (n := 97) 5 dX7_statistic_95 rfl rfl ?_
        refine b_iconst (n := 98) (v := 2) dX7_statistic_97 rfl (by decide) ?_
        refine bSi (n := 101) (As := [.int y5, .int 2]) (rest := [.ref (ad 5)]) lk_X7_163 (c_md_of (Nat.le_refl _)) (by omega) rfl rfl (Nat.le_of_ble_eq_true rfl) dX7_statistic_98 rfl (fun k98 => ?_)
        refine b_iald (n := 102) 5 dX7_statistic_101 rfl hM_a5 (fun v101 => ?_)
        refine b_iload_n (n := 103) 1 dX7_statistic_102 rfl rfl rfl ?_
        refine b_cmp_ne (n := 106) (tgt := 124) dX7_statistic_103 (by decide) rfl (fun h103 => ?_) (fun h103 => ?_)
        · refine b_aload_n (n := 107) 0 dX7_statistic_106 rfl rfl rfl ?_
          refine b_get (n := 110) (v := .ref (ad 5)) 0 f_X7_22 dX7_statistic_107 rfl hM_o0 rfl ?_
          refine b_iload (n := 112) 5 dX7_statistic_110 rfl rfl ?_
          refine b_iconst (n := 113) (v := 5) dX7_statistic_112 rfl (by decide) ?_
          refine bSi (n := 116) (As := [.int y5, .int 5]) (rest := [.ref (ad 5)]) lk_X7_163 (c_md_of (Nat.le_refl _)) (by omega) rfl rfl (Nat.le_of_ble_eq_true rfl) dX7_statistic_113 rfl (fun k113 => ?_)
          refine b_iald (n := 117) 5 dX7_statistic_116 rfl hM_a5 (fun v116 => ?_)
          refine b_if_lt (n := 120) (tgt := 124) dX7_statistic_117 (by decide) rfl (fun h117 => ?_) (fun h117 => ?_)
          · refine b_iconst (n := 125) (v := 0) dX7_statistic_124 rfl (by decide) ?_
            exact w_md_statistic_125 hd (fun a0 a1 a2 a3 a4 => ih a0 a1 a2 a3 a4) _ _ _ _ _ _
          · refine b_iconst (n := 121) (v := 1) dX7_statistic_120 rfl (by decide) ?_
            refine b_goto (n := 125) dX7_statistic_121 (by decide) ?_
            exact w_md_statistic_125 hd (fun a0 a1 a2 a3 a4 => ih a0 a1 a2 a3 a4) _ _ _ _ _ _
        · refine b_iconst (n := 125) (v := 0) dX7_statistic_124 rfl (by decide) ?_
          exact w_md_statistic_125 hd (fun a0 a1 a2 a3 a4 => ih a0 a1 a2 a3 a4) _ _ _ _ _ _
      · refine b_iconst (n := 125) (v := 0) dX7_statistic_124 rfl (by decide) ?_
        exact w_md_statistic_125 hd (fun a0 a1 a2 a3 a4 => ih a0 a1 a2 a3 a4) _ _ _ _ _ _
    · refine b_iload_n (n := 171) 2 dX7_statistic_170 rfl rfl rfl ?_
      refine b_bipush (n := 173) (v := 6) dX7_statistic_171 rfl (by decide) ?_
      refine b_cmp_ne (n := 176) (tgt := 181) dX7_statistic_173 (by decide) rfl (fun h173 => ?_) (fun h173 => ?_)
      · refine b_iload (n := 178) 4 dX7_statistic_176 rfl rfl ?_
        refine b_goto (n := 187) dX7_statistic_178 (by decide) ?_
        refine Bd.sub (L' := [(3, .int y3)]) [3] rfl ?_
        exact w_md_statistic_187 hd _ _
      · refine b_aload_n (n := 182) 0 dX7_statistic_181 rfl rfl rfl ?_
        refine b_iload_n (n := 183) 1 dX7_statistic_182 rfl rfl rfl ?_
        refine b_iconst (n := 184) (v := 1) dX7_statistic_183 rfl (by decide) ?_
        refine bV0i (n := 187) (As := [.int y1, .int 1]) (rest := []) 0 lk_X7_269 (c_md_instancesOf (Nat.le_refl _)) (by omega) rfl rfl rfl rfl (Nat.le_of_ble_eq_true rfl) dX7_statistic_184 rfl (fun k184 => ?_)
        refine Bd.sub (L' := [(3, .int y3)]) [3] rfl ?_
        exact w_md_statistic_187 hd _ _
def md_statistic (N : Nat) (μ : Mem) (x1 : Int32) (x2 : Int32)  : Option (Int32) :=
  (md_isWorkflow x1).bind fun k1 =>
  if k1 = true then
    ((md_isIn x2 0 7).bind fun k11 =>
    if k11 = true then
      (if x2 < 6 then
        (if x2 < 5 then
          ((md_instancesOf N μ x1 x2).bind fun k37 =>
          some k37)
        else
          ((md_instancesOf N μ x1 ((-1))).bind fun k37 =>
          some k37))
      else
        ((md_instancesOf N μ x1 1).bind fun k44 =>
        (md_instancesOf N μ x1 3).bind fun k50 =>
        (md_instancesOf N μ x1 4).bind fun k57 =>
        if (k44 + k50) + k57 = 0 then
          (some ((-5)))
        else
          (md_statistic_75 N μ N x1 x2 ((k44 + k50) + k57) 0 0)))
    else
      (some ((-1))))
  else
    (some ((-1)))
set_option maxHeartbeats 400000 in
set_option maxRecDepth 100000 in
theorem c_md_statistic {l : Launch} {E : Ev} {ad : Nat → Nat} {d : Nat} {N : Nat}  {μ : Mem} {x1 : Int32} {x2 : Int32}  (hd : 4 ≤ d) : Ct l yX7_statistic cX7_statistic 7 (some .int) d E (hM E ad μ) [.ref (ad 0), .int x1, .int x2] (fun v : Int32 => (some (.int v), hM E ad μ)) (md_statistic N μ x1 x2) := by
  refine Ct.of2 (own := RX7) (L := [(0, .ref (ad 0)), (1, .int x1), (2, .int x2)]) rfl (by decide +kernel) (Nat.le_of_ble_eq_true rfl) rfl ?_
  unfold md_statistic
  refine b_iload_n (n := 1) 1 dX7_statistic_0 rfl rfl rfl ?_
  refine bSb (n := 4) (As := [.int x1]) (rest := []) lk_X7_138 (c_md_isWorkflow (Nat.le_refl _)) (by omega) rfl rfl (Nat.le_of_ble_eq_true rfl) dX7_statistic_1 rfl (fun k1 => ?_)
  refine b_bz (n := 7) (tgt := 17) dX7_statistic_4 (by decide) rfl (fun h4 => ?_) (fun h4 => ?_)
  · refine b_iload_n (n := 8) 2 dX7_statistic_7 rfl rfl rfl ?_
    refine b_iconst (n := 9) (v := 0) dX7_statistic_8 rfl (by decide) ?_
    refine b_bipush (n := 11) (v := 7) dX7_statistic_9 rfl (by decide) ?_
    refine bSb (n := 14) (As := [.int x2, .int 0, .int 7]) (rest := []) lk_X7_38 (c_md_isIn (Nat.le_refl _)) (by omega) rfl rfl (Nat.le_of_ble_eq_true rfl) dX7_statistic_11 rfl (fun k11 => ?_)
    refine b_bnz (n := 17) (tgt := 19) dX7_statistic_14 (by decide) rfl (fun h14 => ?_) (fun h14 => ?_)
    · refine b_iload_n (n := 20) 2 dX7_statistic_19 rfl rfl rfl ?_
      refine b_bipush (n := 22) (v := 6) dX7_statistic_20 rfl (by decide) ?_
      refine b_cmp_ge (n := 25) (tgt := 41) dX7_statistic_22 (by decide) rfl (fun h22 => ?_) (fun h22 => ?_)
      · refine b_aload_n (n := 26) 0 dX7_statistic_25 rfl rfl rfl ?_
        refine b_iload_n (n := 27) 1 dX7_statistic_26 rfl rfl rfl ?_
        refine b_iload_n (n := 28) 2 dX7_statistic_27 rfl rfl rfl ?_
        refine b_iconst (n := 29) (v := 5) dX7_statistic_28 rfl (by decide) ?_
        refine b_cmp_ge (n := 32) (tgt := 36) dX7_statistic_29 (by decide) rfl (fun h29 => ?_) (fun h29 => ?_)
        · refine b_iload_n (n := 33) 2 dX7_statistic_32 rfl rfl rfl ?_
          refine b_goto (n := 37) dX7_statistic_33 (by decide) ?_
          refine bV0i (n := 40) (As := [.int x1, .int x2]) (rest := []) 0 lk_X7_269 (c_md_instancesOf (Nat.le_refl _)) (by omega) rfl rfl rfl rfl (Nat.le_of_ble_eq_true rfl) dX7_statistic_37 rfl (fun k37 => ?_)
          exact b_iret dX7_statistic_40 rfl rfl
        · refine b_iconst (n := 37) (v := -1) dX7_statistic_36 rfl (by decide) ?_
          refine bV0i (n := 40) (As := [.int x1, .int ((-1))]) (rest := []) 0 lk_X7_269 (c_md_instancesOf (Nat.le_refl _)) (by omega) rfl rfl rfl rfl (Nat.le_of_ble_eq_true rfl) dX7_statistic_37 rfl (fun k37 => ?_)
          exact b_iret dX7_statistic_40 rfl rfl
      · refine b_aload_n (n := 42) 0 dX7_statistic_41 rfl rfl rfl ?_
        refine b_iload_n (n := 43) 1 dX7_statistic_42 rfl rfl rfl ?_
        refine b_iconst (n := 44) (v := 1) dX7_statistic_43 rfl (by decide) ?_
        refine bV0i (n := 47) (As := [.int x1, .int 1]) (rest := []) 0 lk_X7_269 (c_md_instancesOf (Nat.le_refl _)) (by omega) rfl rfl rfl rfl (Nat.le_of_ble_eq_true rfl) dX7_statistic_44 rfl (fun k44 => ?_)
        refine b_aload_n (n := 48) 0 dX7_statistic_47 rfl rfl rfl ?_
        refine b_iload_n (n := 49) 1 dX7_statistic_48 rfl rfl rfl ?_
        refine b_iconst (n := 50) (v := 3) dX7_statistic_49 rfl (by decide) ?_
        refine bV0i (n := 53) (As := [.int x1, .int 3]) (rest := [.int k44]) 0 lk_X7_269 (c_md_instancesOf (Nat.le_refl _)) (by omega) rfl rfl rfl rfl (Nat.le_of_ble_eq_true rfl) dX7_statistic_50 rfl (fun k50 => ?_)
        refine b_iadd (n := 54) dX7_statistic_53 rfl ?_
        refine b_aload_n (n := 55) 0 dX7_statistic_54 rfl rfl rfl ?_
        refine b_iload_n (n := 56) 1 dX7_statistic_55 rfl rfl rfl ?_
        refine b_iconst (n := 57) (v := 4) dX7_statistic_56 rfl (by decide) ?_
        refine bV0i (n := 60) (As := [.int x1, .int 4]) (rest := [.int (k44 + k50)]) 0 lk_X7_269 (c_md_instancesOf (Nat.le_refl _)) (by omega) rfl rfl rfl rfl (Nat.le_of_ble_eq_true rfl) dX7_statistic_57 rfl (fun k57 => ?_)
        refine b_iadd (n := 61) dX7_statistic_60 rfl ?_
        refine b_istore_n (n := 62) (L' := [(3, .int ((k44 + k50) + k57)), (0, .ref (ad 0)), (1, .int x1), (2, .int x2)]) dX7_statistic_61 rfl rfl (Nat.le_of_ble_eq_true rfl) rfl ?_
        refine b_iload_n (n := 63) 0 dX7_statistic_62 rfl rfl rfl ?_
        refine b_if_ne (n := 66) (tgt := 69) dX7_statistic_63 (by decide) rfl (fun h63 => ?_) (fun h63 => ?_)
        · refine b_bipush (n := 68) (v := -5) dX7_statistic_66 rfl (by decide) ?_
          exact b_iret dX7_statistic_68 rfl rfl
        · refine b_iconst (n := 70) (v := 0) dX7_statistic_69 rfl (by decide) ?_
          refine b_istore (n := 72) (L' := [(4, .int 0), (3, .int ((k44 + k50) + k57)), (0, .ref (ad 0)), (1, .int x1), (2, .int x2)]) dX7_statistic_70 rfl (Nat.le_of_ble_eq_true rfl) rfl ?_
          refine b_iconst (n := 73) (v := 0) dX7_statistic_72 rfl (by decide) ?_
          refine b_istore (n := 75) (L' := [(5, .int 0), (4, .int 0), (3, .int ((k44 + k50) + k57)), (0, .ref (ad 0)), (1, .int x1), (2, .int x2)]) dX7_statistic_73 rfl (Nat.le_of_ble_eq_true rfl) rfl ?_
          refine Bd.sub (L' := [(0, .ref (ad 0)), (1, .int x1), (2, .int x2), (3, .int ((k44 + k50) + k57)), (4, .int 0), (5, .int 0)]) [3, 4, 5, 2, 1, 0] rfl ?_
          exact w_md_statistic_75 hd _ _ _ _ _ _
    · refine b_iconst (n := 18) (v := -1) dX7_statistic_17 rfl (by decide) ?_
      exact b_iret dX7_statistic_18 rfl rfl
  · refine b_iconst (n := 18) (v := -1) dX7_statistic_17 rfl (by decide) ?_
    exact b_iret dX7_statistic_18 rfl rfl
