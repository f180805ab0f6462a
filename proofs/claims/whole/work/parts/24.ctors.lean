/-! the constructors -/
theorem ob_X0_3 : Cond.methodLink RX0 3 objectInit ∈ WS ∧ Cond.instanceMethod objectInit ∈ WS ∧ Cond.code objectInit ⟨#[0xb1]⟩ 1 none ∈ WS := ⟨ws_in (List.mem_of_getElem? (i := 237) (by decide +kernel)) rfl, ws_in (List.mem_of_getElem? (i := 120) (by decide +kernel)) rfl, ws_in (List.mem_of_getElem? (i := 121) (by decide +kernel)) rfl⟩
theorem ob_X1_3 : Cond.methodLink RX1 3 objectInit ∈ WS ∧ Cond.instanceMethod objectInit ∈ WS ∧ Cond.code objectInit ⟨#[0xb1]⟩ 1 none ∈ WS := ⟨ws_in (List.mem_of_getElem? (i := 273) (by decide +kernel)) rfl, ws_in (List.mem_of_getElem? (i := 120) (by decide +kernel)) rfl, ws_in (List.mem_of_getElem? (i := 121) (by decide +kernel)) rfl⟩
theorem ob_X2_3 : Cond.methodLink RX2 3 objectInit ∈ WS ∧ Cond.instanceMethod objectInit ∈ WS ∧ Cond.code objectInit ⟨#[0xb1]⟩ 1 none ∈ WS := ⟨ws_in (List.mem_of_getElem? (i := 267) (by decide +kernel)) rfl, ws_in (List.mem_of_getElem? (i := 120) (by decide +kernel)) rfl, ws_in (List.mem_of_getElem? (i := 121) (by decide +kernel)) rfl⟩
theorem ob_X3_3 : Cond.methodLink RX3 3 objectInit ∈ WS ∧ Cond.instanceMethod objectInit ∈ WS ∧ Cond.code objectInit ⟨#[0xb1]⟩ 1 none ∈ WS := ⟨ws_in (List.mem_of_getElem? (i := 127) (by decide +kernel)) rfl, ws_in (List.mem_of_getElem? (i := 120) (by decide +kernel)) rfl, ws_in (List.mem_of_getElem? (i := 121) (by decide +kernel)) rfl⟩
theorem ob_X4_3 : Cond.methodLink RX4 3 objectInit ∈ WS ∧ Cond.instanceMethod objectInit ∈ WS ∧ Cond.code objectInit ⟨#[0xb1]⟩ 1 none ∈ WS := ⟨ws_in (List.mem_of_getElem? (i := 155) (by decide +kernel)) rfl, ws_in (List.mem_of_getElem? (i := 120) (by decide +kernel)) rfl, ws_in (List.mem_of_getElem? (i := 121) (by decide +kernel)) rfl⟩
theorem ob_X5_3 : Cond.methodLink RX5 3 objectInit ∈ WS ∧ Cond.instanceMethod objectInit ∈ WS ∧ Cond.code objectInit ⟨#[0xb1]⟩ 1 none ∈ WS := ⟨ws_in (List.mem_of_getElem? (i := 260) (by decide +kernel)) rfl, ws_in (List.mem_of_getElem? (i := 120) (by decide +kernel)) rfl, ws_in (List.mem_of_getElem? (i := 121) (by decide +kernel)) rfl⟩
theorem ob_X6_1 : Cond.methodLink RX6 1 objectInit ∈ WS ∧ Cond.instanceMethod objectInit ∈ WS ∧ Cond.code objectInit ⟨#[0xb1]⟩ 1 none ∈ WS := ⟨ws_in (List.mem_of_getElem? (i := 119) (by decide +kernel)) rfl, ws_in (List.mem_of_getElem? (i := 120) (by decide +kernel)) rfl, ws_in (List.mem_of_getElem? (i := 121) (by decide +kernel)) rfl⟩
theorem ob_X7_3 : Cond.methodLink RX7 3 objectInit ∈ WS ∧ Cond.instanceMethod objectInit ∈ WS ∧ Cond.code objectInit ⟨#[0xb1]⟩ 1 none ∈ WS := ⟨ws_in (List.mem_of_getElem? (i := 854) (by decide +kernel)) rfl, ws_in (List.mem_of_getElem? (i := 120) (by decide +kernel)) rfl, ws_in (List.mem_of_getElem? (i := 121) (by decide +kernel)) rfl⟩
theorem ac_int : Cond.arrayClass .int ∈ WS := ws_in (List.mem_of_getElem? (i := 148) (by decide +kernel)) rfl
def vM (wf nb : Int32) : Mem := fun c => cond (Nat.beq c 6) (fun i => cond (Nat.beq i 0) wf (cond (Nat.beq i 1) nb 0)) (fun _ => 0)
def eN : Mem := fun c => cond (Nat.beq c 2) (fun q => if q < 8 then 1 else 0) (fun _ => 0)
def zN : Mem := fun _ _ => 0
def oN : Mem := fun c => cond (Nat.beq c 0) (fun i => cond (Nat.beq i 3) (-1) 0) (fun _ => 0)
def hIn (E : Ev) (a : Nat → Nat) (rl : Nat) (o h : Mem) (pa : Nat) : va_W := [(a 0, .inr (2, hIB_f0 a o pa)), (a 16, .inl (E.2.1, 4, .inl (o 16))), (a 17, .inl (E.2.1, 8, .inl (o 17))), (a 18, .inl (E.2.1, 24, .inl (o 18))), (a 19, .inl (E.2.1, 24, .inl (o 19))), (a 20, .inl (E.2.1, 24, .inl (o 20))), (a 21, .inl (E.2.1, 24, .inl (o 21))), (a 22, .inl (E.2.1, 25, .inl (o 22))), (a 23, .inl (E.2.1, 25, .inl (o 23))), (a 24, .inl (E.2.1, 25, .inl (o 24))), (a 4, .inr (1, hI_f4 a h)), (a 5, .inl (E.2.1, rl, .inl (h 5)))]
def hWn (E : Ev) (q en ia df : Nat) (aj : Nat → Nat → Nat) (no rl : Nat) : va_W := [(q, .inr (5, [.ref en, .ref ia, .ref df, .int 0, .int 0])), (ia, .inl (E.2.2.2, 6, .inr (.inr (.inr (.inr (va_up (va_up (va_up (va_up (va_up (va_up (fun _ => none) 0 (some (aj 0 0))) 1 (some (aj 1 0))) 2 (some (aj 2 0))) 3 (some (aj 3 0))) 4 (some (aj 4 0))) 5 (some (aj 5 0)))))))), (df, .inl (E.2.1, 4, .inl (fun _ => 0)))] ++ hIn E (aj 0) rl oN zN no ++ hIn E (aj 1) rl oN zN no ++ hIn E (aj 2) rl oN zN no ++ hIn E (aj 3) rl oN zN no ++ hIn E (aj 4) rl oN zN no ++ hIn E (aj 5) rl oN zN no
theorem ff_X4_9 : FLf RX4 9 4 2 (.array .int) := ⟨RX4, TX4, 16, tyX4, rfl, by decide, wsin_X4, ws_in (List.mem_of_getElem? (i := 161) (by decide +kernel)) rfl, tyX4_ok, nmX4, rfl, rfl, rfl⟩
theorem ff_X4_15 : FLf RX4 15 4 3 (.array .int) := ⟨RX4, TX4, 16, tyX4, rfl, by decide, wsin_X4, ws_in (List.mem_of_getElem? (i := 163) (by decide +kernel)) rfl, tyX4_ok, nmX4, rfl, rfl, rfl⟩
theorem ff_X4_18 : FLf RX4 18 4 4 (.array .int) := ⟨RX4, TX4, 16, tyX4, rfl, by decide, wsin_X4, ws_in (List.mem_of_getElem? (i := 165) (by decide +kernel)) rfl, tyX4_ok, nmX4, rfl, rfl, rfl⟩
theorem ff_X4_21 : FLf RX4 21 4 5 (.array .int) := ⟨RX4, TX4, 16, tyX4, rfl, by decide, wsin_X4, ws_in (List.mem_of_getElem? (i := 168) (by decide +kernel)) rfl, tyX4_ok, nmX4, rfl, rfl, rfl⟩
theorem ff_X4_24 : FLf RX4 24 4 6 (.array .int) := ⟨RX4, TX4, 16, tyX4, rfl, by decide, wsin_X4, ws_in (List.mem_of_getElem? (i := 171) (by decide +kernel)) rfl, tyX4_ok, nmX4, rfl, rfl, rfl⟩
theorem ff_X4_27 : FLf RX4 27 4 7 (.array .int) := ⟨RX4, TX4, 16, tyX4, rfl, by decide, wsin_X4, ws_in (List.mem_of_getElem? (i := 174) (by decide +kernel)) rfl, tyX4_ok, nmX4, rfl, rfl, rfl⟩
theorem ff_X4_30 : FLf RX4 30 4 8 (.array .int) := ⟨RX4, TX4, 16, tyX4, rfl, by decide, wsin_X4, ws_in (List.mem_of_getElem? (i := 177) (by decide +kernel)) rfl, tyX4_ok, nmX4, rfl, rfl, rfl⟩
theorem ff_X4_33 : FLf RX4 33 4 9 (.array .int) := ⟨RX4, TX4, 16, tyX4, rfl, by decide, wsin_X4, ws_in (List.mem_of_getElem? (i := 180) (by decide +kernel)) rfl, tyX4_ok, nmX4, rfl, rfl, rfl⟩
theorem ff_X4_36 : FLf RX4 36 4 10 (.array .int) := ⟨RX4, TX4, 16, tyX4, rfl, by decide, wsin_X4, ws_in (List.mem_of_getElem? (i := 183) (by decide +kernel)) rfl, tyX4_ok, nmX4, rfl, rfl, rfl⟩
theorem ff_X4_39 : FLf RX4 39 4 0 .int := ⟨RX4, TX4, 16, tyX4, rfl, by decide, wsin_X4, ws_in (List.mem_of_getElem? (i := 156) (by decide +kernel)) rfl, tyX4_ok, nmX4, rfl, rfl, rfl⟩
theorem ff_X4_43 : FLf RX4 43 4 1 .int := ⟨RX4, TX4, 16, tyX4, rfl, by decide, wsin_X4, ws_in (List.mem_of_getElem? (i := 159) (by decide +kernel)) rfl, tyX4_ok, nmX4, rfl, rfl, rfl⟩
theorem ff_X0_9 : FLf RX0 9 0 0 (.array .int) := ⟨RX0, TX0, 3, tyX0, rfl, by decide, wsin_X0, ws_in (List.mem_of_getElem? (i := 241) (by decide +kernel)) rfl, tyX0_ok, nmX0, rfl, rfl, rfl⟩
theorem ff_X0_15 : FLf RX0 15 0 1 (.array .int) := ⟨RX0, TX0, 3, tyX0, rfl, by decide, wsin_X0, ws_in (List.mem_of_getElem? (i := 243) (by decide +kernel)) rfl, tyX0_ok, nmX0, rfl, rfl, rfl⟩
theorem fg_X0_9 : FL RX0 9 0 0 := ⟨RX0, TX0, 3, rfl, by decide, wsin_X0, ws_in (List.mem_of_getElem? (i := 241) (by decide +kernel)) rfl⟩
theorem ff_X1_9 : FLf RX1 9 1 0 (.object "WorkflowEngine$Environment") := ⟨RX1, TX1, 3, tyX1, rfl, by decide, wsin_X1, ws_in (List.mem_of_getElem? (i := 277) (by decide +kernel)) rfl, tyX1_ok, nmX1, rfl, rfl, rfl⟩
theorem mx_X1_15 : Cond.methodLink RX1 15 Lib.Math.max.name ∈ WS ∧ Cond.static Lib.Math.max.name ∈ WS ∧ Cond.initialized "java/lang/Math" ∈ WS ∧ Cond.code Lib.Math.max.name Lib.Math.max.code 2 (some .int) ∈ WS := ⟨ws_in (List.mem_of_getElem? (i := 274) (by decide +kernel)) rfl, ws_in (List.mem_of_getElem? (i := 275) (by decide +kernel)) rfl, ws_in (List.mem_of_getElem? (i := 109) (by decide +kernel)) rfl, ws_in (List.mem_of_getElem? (i := 276) (by decide +kernel)) rfl⟩
theorem ff_X1_21 : FLf RX1 21 1 1 (.array .int) := ⟨RX1, TX1, 3, tyX1, rfl, by decide, wsin_X1, ws_in (List.mem_of_getElem? (i := 278) (by decide +kernel)) rfl, tyX1_ok, nmX1, rfl, rfl, rfl⟩
theorem ff_X2_15 : FLf RX2 15 2 9 (.array .int) := ⟨RX2, TX2, 18, tyX2, rfl, by decide, wsin_X2, ws_in (List.mem_of_getElem? (i := 310) (by decide +kernel)) rfl, tyX2_ok, nmX2, rfl, rfl, rfl⟩
theorem ff_X2_19 : FLf RX2 19 2 10 (.array .int) := ⟨RX2, TX2, 18, tyX2, rfl, by decide, wsin_X2, ws_in (List.mem_of_getElem? (i := 312) (by decide +kernel)) rfl, tyX2_ok, nmX2, rfl, rfl, rfl⟩
theorem ff_X2_22 : FLf RX2 22 2 11 (.array .int) := ⟨RX2, TX2, 18, tyX2, rfl, by decide, wsin_X2, ws_in (List.mem_of_getElem? (i := 314) (by decide +kernel)) rfl, tyX2_ok, nmX2, rfl, rfl, rfl⟩
theorem ff_X2_25 : FLf RX2 25 2 12 (.array .int) := ⟨RX2, TX2, 18, tyX2, rfl, by decide, wsin_X2, ws_in (List.mem_of_getElem? (i := 315) (by decide +kernel)) rfl, tyX2_ok, nmX2, rfl, rfl, rfl⟩
theorem ff_X2_28 : FLf RX2 28 2 13 (.array .int) := ⟨RX2, TX2, 18, tyX2, rfl, by decide, wsin_X2, ws_in (List.mem_of_getElem? (i := 316) (by decide +kernel)) rfl, tyX2_ok, nmX2, rfl, rfl, rfl⟩
theorem ff_X2_31 : FLf RX2 31 2 14 (.array .int) := ⟨RX2, TX2, 18, tyX2, rfl, by decide, wsin_X2, ws_in (List.mem_of_getElem? (i := 317) (by decide +kernel)) rfl, tyX2_ok, nmX2, rfl, rfl, rfl⟩
theorem ff_X2_34 : FLf RX2 34 2 15 (.array .int) := ⟨RX2, TX2, 18, tyX2, rfl, by decide, wsin_X2, ws_in (List.mem_of_getElem? (i := 318) (by decide +kernel)) rfl, tyX2_ok, nmX2, rfl, rfl, rfl⟩
theorem ff_X2_37 : FLf RX2 37 2 16 (.array .int) := ⟨RX2, TX2, 18, tyX2, rfl, by decide, wsin_X2, ws_in (List.mem_of_getElem? (i := 319) (by decide +kernel)) rfl, tyX2_ok, nmX2, rfl, rfl, rfl⟩
theorem ff_X2_40 : FLf RX2 40 2 17 (.array .int) := ⟨RX2, TX2, 18, tyX2, rfl, by decide, wsin_X2, ws_in (List.mem_of_getElem? (i := 320) (by decide +kernel)) rfl, tyX2_ok, nmX2, rfl, rfl, rfl⟩
theorem ff_X2_43 : FLf RX2 43 2 0 (.object "WorkflowEngine$Environment") := ⟨RX2, TX2, 18, tyX2, rfl, by decide, wsin_X2, ws_in (List.mem_of_getElem? (i := 289) (by decide +kernel)) rfl, tyX2_ok, nmX2, rfl, rfl, rfl⟩
theorem nw_X2_51 : Cond.classLink RX2 51 RX1 ∈ WS ∧ Cond.instantiable RX1 3 ∈ WS ∧ Cond.initialized RX1 ∈ WS := ⟨ws_in (List.mem_of_getElem? (i := 268) (by decide +kernel)) rfl, ws_in (List.mem_of_getElem? (i := 269) (by decide +kernel)) rfl, ws_in (List.mem_of_getElem? (i := 108) (by decide +kernel)) rfl⟩
theorem dv_X1 : ∀ i, i < 3 → defaultValue (tyX1 i) = vp_V [.null, .null, .int 0] i := by decide +kernel
theorem li_X2_53 : LkI RX2 53 yX1_init cX1_init 3 2 := ⟨ws_in (List.mem_of_getElem? (i := 270) (by decide +kernel)) rfl, ws_in (List.mem_of_getElem? (i := 271) (by decide +kernel)) rfl, ws_in (List.mem_of_getElem? (i := 108) (by decide +kernel)) rfl, ws_in (List.mem_of_getElem? (i := 272) (by decide +kernel)) rfl, rfl, ⟨by decide +kernel, by decide +kernel⟩, by decide +kernel, by decide⟩
theorem ff_X2_56 : FLf RX2 56 2 1 (.object "WorkflowEngine$History") := ⟨RX2, TX2, 18, tyX2, rfl, by decide, wsin_X2, ws_in (List.mem_of_getElem? (i := 290) (by decide +kernel)) rfl, tyX2_ok, nmX2, rfl, rfl, rfl⟩
theorem cl_X5_9 : Cond.classLink RX5 9 "WorkflowEngine$Instance" ∈ WS := ws_in (List.mem_of_getElem? (i := 261) (by decide +kernel)) rfl
theorem ff_X5_11 : FLf RX5 11 5 1 (.array (.object "WorkflowEngine$Instance")) := ⟨RX5, TX5, 5, tyX5, rfl, by decide, wsin_X5, ws_in (List.mem_of_getElem? (i := 360) (by decide +kernel)) rfl, tyX5_ok, nmX5, rfl, rfl, rfl⟩
theorem ff_X5_17 : FLf RX5 17 5 2 (.array .int) := ⟨RX5, TX5, 5, tyX5, rfl, by decide, wsin_X5, ws_in (List.mem_of_getElem? (i := 362) (by decide +kernel)) rfl, tyX5_ok, nmX5, rfl, rfl, rfl⟩
theorem ff_X5_25 : FLf RX5 25 5 0 (.object "WorkflowEngine$Environment") := ⟨RX5, TX5, 5, tyX5, rfl, by decide, wsin_X5, ws_in (List.mem_of_getElem? (i := 358) (by decide +kernel)) rfl, tyX5_ok, nmX5, rfl, rfl, rfl⟩
theorem fg_X5_11 : FL RX5 11 5 1 := ⟨RX5, TX5, 5, rfl, by decide, wsin_X5, ws_in (List.mem_of_getElem? (i := 360) (by decide +kernel)) rfl⟩
theorem nw_X5_9 : Cond.classLink RX5 9 RX2 ∈ WS ∧ Cond.instantiable RX2 18 ∈ WS ∧ Cond.initialized RX2 ∈ WS := ⟨ws_in (List.mem_of_getElem? (i := 261) (by decide +kernel)) rfl, ws_in (List.mem_of_getElem? (i := 263) (by decide +kernel)) rfl, ws_in (List.mem_of_getElem? (i := 107) (by decide +kernel)) rfl⟩
theorem dv_X2 : ∀ i, i < 18 → defaultValue (tyX2 i) = vp_V [.null, .null, .null, .int 0, .int 0, .int 0, .int 0, .int 0, .int 0, .null, .null, .null, .null, .null, .null, .null, .null, .null] i := by decide +kernel
theorem li_X5_29 : LkI RX5 29 yX2_init cX2_init 4 3 := ⟨ws_in (List.mem_of_getElem? (i := 264) (by decide +kernel)) rfl, ws_in (List.mem_of_getElem? (i := 265) (by decide +kernel)) rfl, ws_in (List.mem_of_getElem? (i := 107) (by decide +kernel)) rfl, ws_in (List.mem_of_getElem? (i := 266) (by decide +kernel)) rfl, rfl, ⟨by decide +kernel, by decide +kernel⟩, by decide +kernel, by decide⟩
theorem ff_X3_9 : FLf RX3 9 3 0 (.array .int) := ⟨RX3, TX3, 6, tyX3, rfl, by decide, wsin_X3, ws_in (List.mem_of_getElem? (i := 128) (by decide +kernel)) rfl, tyX3_ok, nmX3, rfl, rfl, rfl⟩
set_option maxHeartbeats 1000000 in
set_option maxRecDepth 100000 in
theorem ca_X4 {l : Launch} {E : Ev} {q : Nat} {wf nb : Int32}  : Ca l yX4_init cX4_init 3 1 9 288 E [(q, .inr (4, [.int 0, .int 0, .null, .null, .null, .null, .null, .null, .null, .null, .null, .int 0, .int 0, .int 0, .int 0, .int 0]))] [.ref q, .int wf, .int nb] (fun w1 => ∃ a : Nat → Nat, a 6 = q ∧ w1 = hV E a (vM wf nb)) := by
  refine Ca.of (own := RX4) (L := [(0, .ref q), (1, .int wf), (2, .int nb)]) rfl (by decide +kernel) (by decide +kernel) (Nat.le_of_ble_eq_true rfl) rfl (fun sz => ?_)
  refine a_aload_n (n := 1) 0 dX4_init_0 rfl rfl rfl ?_
  refine a_obj (n := 4) ob_X4_3 (by omega) (Nat.le_of_ble_eq_true rfl) dX4_init_1 rfl ?_
  refine a_aload_n (n := 5) 0 dX4_init_4 rfl rfl rfl ?_
  refine a_bipush (n := 7) (v := 24) dX4_init_5 rfl (by decide) ?_
  refine a_newi (n := 9) (N := 24) ac_int (by decide) (by decide) (by decide) (by omega) (by omega) dX4_init_7 rfl (fun p7_1 => ?_)
  refine a_putF (n := 12) (ws' := [(q, .inr (4, [.int 0, .int 0, .ref p7_1, .null, .null, .null, .null, .null, .null, .null, .null, .int 0, .int 0, .int 0, .int 0, .int 0])), (p7_1, .inl (E.2.1, 24, .inl (fun _ => 0)))]) 0 ff_X4_9 dX4_init_9 rfl rfl rfl rfl (Nat.le_of_ble_eq_true rfl) rfl ?_
  refine a_aload_n (n := 13) 0 dX4_init_12 rfl rfl rfl ?_
  refine a_bipush (n := 15) (v := 24) dX4_init_13 rfl (by decide) ?_
  refine a_newi (n := 17) (N := 24) ac_int (by decide) (by decide) (by decide) (by omega) (by omega) dX4_init_15 rfl (fun p15_2 => ?_)
  refine a_putF (n := 20) (ws' := [(q, .inr (4, [.int 0, .int 0, .ref p7_1, .ref p15_2, .null, .null, .null, .null, .null, .null, .null, .int 0, .int 0, .int 0, .int 0, .int 0])), (p7_1, .inl (E.2.1, 24, .inl (fun _ => 0))), (p15_2, .inl (E.2.1, 24, .inl (fun _ => 0)))]) 0 ff_X4_15 dX4_init_17 rfl rfl rfl rfl (Nat.le_of_ble_eq_true rfl) rfl ?_
  refine a_aload_n (n := 21) 0 dX4_init_20 rfl rfl rfl ?_
  refine a_bipush (n := 23) (v := 24) dX4_init_21 rfl (by decide) ?_
  refine a_newi (n := 25) (N := 24) ac_int (by decide) (by decide) (by decide) (by omega) (by omega) dX4_init_23 rfl (fun p23_3 => ?_)
  refine a_putF (n := 28) (ws' := [(q, .inr (4, [.int 0, .int 0, .ref p7_1, .ref p15_2, .ref p23_3, .null, .null, .null, .null, .null, .null, .int 0, .int 0, .int 0, .int 0, .int 0])), (p7_1, .inl (E.2.1, 24, .inl (fun _ => 0))), (p15_2, .inl (E.2.1, 24, .inl (fun _ => 0))), (p23_3, .inl (E.2.1, 24, .inl (fun _ => 0)))]) 0 ff_X4_18 dX4_init_25 rfl rfl rfl rfl (Nat.le_of_ble_eq_true rfl) rfl ?_
  refine a_aload_n (n := 29) 0 dX4_init_28 rfl rfl rfl ?_
  refine a_bipush (n := 31) (v := 24) dX4_init_29 rfl (by decide) ?_
  refine a_newi (n := 33) (N := 24) ac_int (by decide) (by decide) (by decide) (by omega) (by omega) dX4_init_31 rfl (fun p31_4 => ?_)
  refine a_putF (n := 36) (ws' := [(q, .inr (4, [.int 0, .int 0, .ref p7_1, .ref p15_2, .ref p23_3, .ref p31_4, .null, .null, .null, .null, .null, .int 0, .int 0, .int 0, .int 0, .int 0])), (p7_1, .inl (E.2.1, 24, .inl (fun _ => 0))), (p15_2, .inl (E.2.1, 24, .inl (fun _ => 0))), (p23_3, .inl (E.2.1, 24, .inl (fun _ => 0))), (p31_4, .inl (E.2.1, 24, .inl (fun _ => 0)))]) 0 ff_X4_21 dX4_init_33 rfl rfl rfl rfl (Nat.le_of_ble_eq_true rfl) rfl ?_
  refine a_aload_n (n := 37) 0 dX4_init_36 rfl rfl rfl ?_
  refine a_bipush (n := 39) (v := 24) dX4_init_37 rfl (by decide) ?_
  refine a_newi (n := 41) (N := 24) ac_int (by decide) (by decide) (by decide) (by omega) (by omega) dX4_init_39 rfl (fun p39_5 => ?_)
  refine a_putF (n := 44) (ws' := [(q, .inr (4, [.int 0, .int 0, .ref p7_1, .ref p15_2, .ref p23_3, .ref p31_4, .ref p39_5, .null, .null, .null, .null, .int 0, .int 0, .int 0, .int 0, .int 0])), (p7_1, .inl (E.2.1, 24, .inl (fun _ => 0))), (p15_2, .inl (E.2.1, 24, .inl (fun _ => 0))), (p23_3, .inl (E.2.1, 24, .inl (fun _ => 0))), (p31_4, .inl (E.2.1, 24, .inl (fun _ => 0))), (p39_5, .inl (E.2.1, 24, .inl (fun _ => 0)))]) 0 ff_X4_24 dX4_init_41 rfl rfl rfl rfl (Nat.le_of_ble_eq_true rfl) rfl ?_
  refine a_aload_n (n := 45) 0 dX4_init_44 rfl rfl rfl ?_
  refine a_bipush (n := 47) (v := 24) dX4_init_45 rfl (by decide) ?_
  refine a_newi (n := 49) (N := 24) ac_int (by decide) (by decide) (by decide) (by omega) (by omega) dX4_init_47 rfl (fun p47_6 => ?_)
  refine a_putF (n := 52) (ws' := [(q, .inr (4, [.int 0, .int 0, .ref p7_1, .ref p15_2, .ref p23_3, .ref p31_4, .ref p39_5, .ref p47_6, .null, .null, .null, .int 0, .int 0, .int 0, .int 0, .int 0])), (p7_1, .inl (E.2.1, 24, .inl (fun _ => 0))), (p15_2, .inl (E.2.1, 24, .inl (fun _ => 0))), (p23_3, .inl (E.2.1, 24, .inl (fun _ => 0))), (p31_4, .inl (E.2.1, 24, .inl (fun _ => 0))), (p39_5, .inl (E.2.1, 24, .inl (fun _ => 0))), (p47_6, .inl (E.2.1, 24, .inl (fun _ => 0)))]) 0 ff_X4_27 dX4_init_49 rfl rfl rfl rfl (Nat.le_of_ble_eq_true rfl) rfl ?_
  refine a_aload_n (n := 53) 0 dX4_init_52 rfl rfl rfl ?_
  refine a_bipush (n := 55) (v := 24) dX4_init_53 rfl (by decide) ?_
  refine a_newi (n := 57) (N := 24) ac_int (by decide) (by decide) (by decide) (by omega) (by omega) dX4_init_55 rfl (fun p55_7 => ?_)
  refine a_putF (n := 60) (ws' := [(q, .inr (4, [.int 0, .int 0, .ref p7_1, .ref p15_2, .ref p23_3, .ref p31_4, .ref p39_5, .ref p47_6, .ref p55_7, .null, .null, .int 0, .int 0, .int 0, .int 0, .int 0])), (p7_1, .inl (E.2.1, 24, .inl (fun _ => 0))), (p15_2, .inl (E.2.1, 24, .inl (fun _ => 0))), (p23_3, .inl (E.2.1, 24, .inl (fun _ => 0))), (p31_4, .inl (E.2.1, 24, .inl (fun _ => 0))), (p39_5, .inl (E.2.1, 24, .inl (fun _ => 0))), (p47_6, .inl (E.2.1, 24, .inl (fun _ => 0))), (p55_7, .inl (E.2.1, 24, .inl (fun _ => 0)))]) 0 ff_X4_30 dX4_init_57 rfl rfl rfl rfl (Nat.le_of_ble_eq_true rfl) rfl ?_
  refine a_aload_n (n := 61) 0 dX4_init_60 rfl rfl rfl ?_
  refine a_bipush (n := 63) (v := 24) dX4_init_61 rfl (by decide) ?_
  refine a_newi (n := 65) (N := 24) ac_int (by decide) (by decide) (by decide) (by omega) (by omega) dX4_init_63 rfl (fun p63_8 => ?_)
  refine a_putF (n := 68) (ws' := [(q, .inr (4, [.int 0, .int 0, .ref p7_1, .ref p15_2, .ref p23_3, .ref p31_4, .ref p39_5, .ref p47_6, .ref p55_7, .ref p63_8, .null, .int 0, .int 0, .int 0, .int 0, .int 0])), (p7_1, .inl (E.2.1, 24, .inl (fun _ => 0))), (p15_2, .inl (E.2.1, 24, .inl (fun _ => 0))), (p23_3, .inl (E.2.1, 24, .inl (fun _ => 0))), (p31_4, .inl (E.2.1, 24, .inl (fun _ => 0))), (p39_5, .inl (E.2.1, 24, .inl (fun _ => 0))), (p47_6, .inl (E.2.1, 24, .inl (fun _ => 0))), (p55_7, .inl (E.2.1, 24, .inl (fun _ => 0))), (p63_8, .inl (E.2.1, 24, .inl (fun _ => 0)))]) 0 ff_X4_33 dX4_init_65 rfl rfl rfl rfl (Nat.le_of_ble_eq_true rfl) rfl ?_
  refine a_aload_n (n := 69) 0 dX4_init_68 rfl rfl rfl ?_
  refine a_bipush (n := 71) (v := 96) dX4_init_69 rfl (by decide) ?_
  refine a_newi (n := 73) (N := 96) ac_int (by decide) (by decide) (by decide) (by omega) (by omega) dX4_init_71 rfl (fun p71_9 => ?_)
  refine a_putF (n := 76) (ws' := [(q, .inr (4, [.int 0, .int 0, .ref p7_1, .ref p15_2, .ref p23_3, .ref p31_4, .ref p39_5, .ref p47_6, .ref p55_7, .ref p63_8, .ref p71_9, .int 0, .int 0, .int 0, .int 0, .int 0])), (p7_1, .inl (E.2.1, 24, .inl (fun _ => 0))), (p15_2, .inl (E.2.1, 24, .inl (fun _ => 0))), (p23_3, .inl (E.2.1, 24, .inl (fun _ => 0))), (p31_4, .inl (E.2.1, 24, .inl (fun _ => 0))), (p39_5, .inl (E.2.1, 24, .inl (fun _ => 0))), (p47_6, .inl (E.2.1, 24, .inl (fun _ => 0))), (p55_7, .inl (E.2.1, 24, .inl (fun _ => 0))), (p63_8, .inl (E.2.1, 24, .inl (fun _ => 0))), (p71_9, .inl (E.2.1, 96, .inl (fun _ => 0)))]) 0 ff_X4_36 dX4_init_73 rfl rfl rfl rfl (Nat.le_of_ble_eq_true rfl) rfl ?_
  refine a_aload_n (n := 77) 0 dX4_init_76 rfl rfl rfl ?_
  refine a_iload_n (n := 78) 1 dX4_init_77 rfl rfl rfl ?_
  refine a_putF (n := 81) (ws' := [(q, .inr (4, [.int wf, .int 0, .ref p7_1, .ref p15_2, .ref p23_3, .ref p31_4, .ref p39_5, .ref p47_6, .ref p55_7, .ref p63_8, .ref p71_9, .int 0, .int 0, .int 0, .int 0, .int 0])), (p7_1, .inl (E.2.1, 24, .inl (fun _ => 0))), (p15_2, .inl (E.2.1, 24, .inl (fun _ => 0))), (p23_3, .inl (E.2.1, 24, .inl (fun _ => 0))), (p31_4, .inl (E.2.1, 24, .inl (fun _ => 0))), (p39_5, .inl (E.2.1, 24, .inl (fun _ => 0))), (p47_6, .inl (E.2.1, 24, .inl (fun _ => 0))), (p55_7, .inl (E.2.1, 24, .inl (fun _ => 0))), (p63_8, .inl (E.2.1, 24, .inl (fun _ => 0))), (p71_9, .inl (E.2.1, 96, .inl (fun _ => 0)))]) 0 ff_X4_39 dX4_init_78 rfl rfl rfl rfl (Nat.le_of_ble_eq_true rfl) rfl ?_
  refine a_aload_n (n := 82) 0 dX4_init_81 rfl rfl rfl ?_
  refine a_iload_n (n := 83) 2 dX4_init_82 rfl rfl rfl ?_
  refine a_putF (n := 86) (ws' := [(q, .inr (4, [.int wf, .int nb, .ref p7_1, .ref p15_2, .ref p23_3, .ref p31_4, .ref p39_5, .ref p47_6, .ref p55_7, .ref p63_8, .ref p71_9, .int 0, .int 0, .int 0, .int 0, .int 0])), (p7_1, .inl (E.2.1, 24, .inl (fun _ => 0))), (p15_2, .inl (E.2.1, 24, .inl (fun _ => 0))), (p23_3, .inl (E.2.1, 24, .inl (fun _ => 0))), (p31_4, .inl (E.2.1, 24, .inl (fun _ => 0))), (p39_5, .inl (E.2.1, 24, .inl (fun _ => 0))), (p47_6, .inl (E.2.1, 24, .inl (fun _ => 0))), (p55_7, .inl (E.2.1, 24, .inl (fun _ => 0))), (p63_8, .inl (E.2.1, 24, .inl (fun _ => 0))), (p71_9, .inl (E.2.1, 96, .inl (fun _ => 0)))]) 0 ff_X4_43 dX4_init_83 rfl rfl rfl rfl (Nat.le_of_ble_eq_true rfl) rfl ?_
  exact a_ret (by omega) (by omega) ⟨(fun k => cond (Nat.beq k 6) q (cond (Nat.beq k 7) p7_1 (cond (Nat.beq k 8) p15_2 (cond (Nat.beq k 9) p23_3 (cond (Nat.beq k 10) p31_4 (cond (Nat.beq k 11) p39_5 (cond (Nat.beq k 12) p47_6 (cond (Nat.beq k 13) p55_7 (cond (Nat.beq k 14) p63_8 (cond (Nat.beq k 15) p71_9 0)))))))))), rfl, rfl⟩ dX4_init_86
set_option maxHeartbeats 1000000 in
set_option maxRecDepth 100000 in
theorem ca_X0 {l : Launch} {E : Ev} {q : Nat}   : Ca l yX0_init cX0_init 1 2 2 16 E [(q, .inr (0, [.null, .null, .int 0]))] [.ref q] (fun w1 => ∃ a : Nat → Nat, a 1 = q ∧ w1 = hE E a eN) := by
  refine Ca.of (own := RX0) (L := [(0, .ref q)]) rfl (by decide +kernel) (by decide +kernel) (Nat.le_of_ble_eq_true rfl) rfl (fun sz => ?_)
  refine a_aload_n (n := 1) 0 dX0_init_0 rfl rfl rfl ?_
  refine a_obj (n := 4) ob_X0_3 (by omega) (Nat.le_of_ble_eq_true rfl) dX0_init_1 rfl ?_
  refine a_aload_n (n := 5) 0 dX0_init_4 rfl rfl rfl ?_
  refine a_bipush (n := 7) (v := 8) dX0_init_5 rfl (by decide) ?_
  refine a_newi (n := 9) (N := 8) ac_int (by decide) (by decide) (by decide) (by omega) (by omega) dX0_init_7 rfl (fun p7_1 => ?_)
  refine a_putF (n := 12) (ws' := [(q, .inr (0, [.ref p7_1, .null, .int 0])), (p7_1, .inl (E.2.1, 8, .inl (fun _ => 0)))]) 0 ff_X0_9 dX0_init_9 rfl rfl rfl rfl (Nat.le_of_ble_eq_true rfl) rfl ?_
  refine a_aload_n (n := 13) 0 dX0_init_12 rfl rfl rfl ?_
  refine a_bipush (n := 15) (v := 8) dX0_init_13 rfl (by decide) ?_
  refine a_newi (n := 17) (N := 8) ac_int (by decide) (by decide) (by decide) (by omega) (by omega) dX0_init_15 rfl (fun p15_2 => ?_)
  refine a_putF (n := 20) (ws' := [(q, .inr (0, [.ref p7_1, .ref p15_2, .int 0])), (p7_1, .inl (E.2.1, 8, .inl (fun _ => 0))), (p15_2, .inl (E.2.1, 8, .inl (fun _ => 0)))]) 0 ff_X0_15 dX0_init_17 rfl rfl rfl rfl (Nat.le_of_ble_eq_true rfl) rfl ?_
  refine a_aload_n (n := 21) 0 dX0_init_20 rfl rfl rfl ?_
  refine a_get (n := 24) (v := .ref p7_1) 0 fg_X0_9 dX0_init_21 rfl rfl rfl ?_
  refine a_iconst (n := 25) (v := 1) dX0_init_24 rfl (by decide) ?_
  refine a_fill (n := 28) (ws' := [(q, .inr (0, [.ref p7_1, .ref p15_2, .int 0])), (p7_1, .inl (E.2.1, 8, .inl (fun q => if q < 8 then 1 else (fun _ => 0) q))), (p15_2, .inl (E.2.1, 8, .inl (fun _ => 0)))]) 1 (by decide) lk_X0_18 (by omega) ⟨by omega, by omega⟩ rfl rfl (Nat.le_of_ble_eq_true rfl) dX0_init_25 rfl ?_
  exact a_ret (by omega) (by omega) ⟨(fun k => cond (Nat.beq k 1) q (cond (Nat.beq k 2) p7_1 (cond (Nat.beq k 3) p15_2 0))), rfl, rfl⟩ dX0_init_28
set_option maxHeartbeats 1000000 in
set_option maxRecDepth 100000 in
theorem ca_X1 {l : Launch} {E : Ev} {q : Nat} {en rl : Nat} (hrl : rl < 2 ^ 31) (hrl4 : rl * 4 ≤ 536870912) : Ca l yX1_init cX1_init 3 1 1 rl E [(q, .inr (1, [.null, .null, .int 0]))] [.ref q, .ref en, .int (nI rl)] (fun w1 => ∃ a : Nat → Nat, a 4 = q ∧ a 1 = en ∧ w1 = hH2 E a rl zN) := by
  refine Ca.of (own := RX1) (L := [(0, .ref q), (1, .ref en), (2, .int (nI rl))]) rfl (by decide +kernel) (by decide +kernel) (Nat.le_of_ble_eq_true rfl) rfl (fun sz => ?_)
  have hmax : (if nI rl < 0 then 0 else nI rl) = nI rl := if_neg (nI_pos hrl)
  refine a_aload_n (n := 1) 0 dX1_init_0 rfl rfl rfl ?_
  refine a_obj (n := 4) ob_X1_3 (by omega) (Nat.le_of_ble_eq_true rfl) dX1_init_1 rfl ?_
  refine a_aload_n (n := 5) 0 dX1_init_4 rfl rfl rfl ?_
  refine a_aload_n (n := 6) 1 dX1_init_5 rfl rfl rfl ?_
  refine a_putF (n := 9) (ws' := [(q, .inr (1, [.ref en, .null, .int 0]))]) 0 ff_X1_9 dX1_init_6 rfl rfl rfl rfl (Nat.le_of_ble_eq_true rfl) rfl ?_
  refine a_aload_n (n := 10) 0 dX1_init_9 rfl rfl rfl ?_
  refine a_iload_n (n := 11) 2 dX1_init_10 rfl rfl rfl ?_
  refine a_iconst (n := 12) (v := 0) dX1_init_11 rfl (by decide) ?_
  refine a_mmax (n := 15) (z := nI rl) mx_X1_15 (by omega) ⟨by omega, by omega⟩ (Nat.le_of_ble_eq_true rfl) dX1_init_12 rfl hmax ?_
  refine a_newi (n := 17) ac_int (nI_pos hrl) (nI_clamp hrl) hrl4 (by omega) (by omega) dX1_init_15 rfl (fun p15_1 => ?_)
  refine a_putF (n := 20) (ws' := [(q, .inr (1, [.ref en, .ref p15_1, .int 0])), (p15_1, .inl (E.2.1, rl, .inl (fun _ => 0)))]) 0 ff_X1_21 dX1_init_17 rfl rfl rfl rfl (Nat.le_of_ble_eq_true rfl) rfl ?_
  exact a_ret (by omega) (by omega) ⟨(fun k => cond (Nat.beq k 1) en (cond (Nat.beq k 4) q (cond (Nat.beq k 5) p15_1 0))), rfl, rfl, rfl⟩ dX1_init_20
set_option maxHeartbeats 1000000 in
set_option maxRecDepth 100000 in
theorem ca_X2 {l : Launch} {E : Ev} {q : Nat} {en no rl : Nat} (hrl : rl < 2 ^ 31) (hrl4 : rl * 4 ≤ 536870912) : Ca l yX2_init cX2_init 4 2 11 (186 + rl) E [(q, .inr (2, [.null, .null, .null, .int 0, .int 0, .int 0, .int 0, .int 0, .int 0, .null, .null, .null, .null, .null, .null, .null, .null, .null]))] [.ref q, .ref en, .ref no, .int (nI rl)] (fun w1 => ∃ a : Nat → Nat, a 0 = q ∧ a 1 = en ∧ w1 = hIn E a rl oN zN no) := by
  refine Ca.of (own := RX2) (L := [(0, .ref q), (1, .ref en), (2, .ref no), (3, .int (nI rl))]) rfl (by decide +kernel) (by decide +kernel) (Nat.le_of_ble_eq_true rfl) rfl (fun sz => ?_)
  refine a_aload_n (n := 1) 0 dX2_init_0 rfl rfl rfl ?_
  refine a_obj (n := 4) ob_X2_3 (by omega) (Nat.le_of_ble_eq_true rfl) dX2_init_1 rfl ?_
  refine a_aload_n (n := 5) 0 dX2_init_4 rfl rfl rfl ?_
  refine a_iconst (n := 6) (v := -1) dX2_init_5 rfl (by decide) ?_
  refine a_put (n := 9) (ws' := [(q, .inr (2, [.null, .null, .null, .int ((-1)), .int 0, .int 0, .int 0, .int 0, .int 0, .null, .null, .null, .null, .null, .null, .null, .null, .null]))]) 0 fp_X2_9 dX2_init_6 rfl rfl rfl rfl (Nat.le_of_ble_eq_true rfl) rfl ?_
  refine a_aload_n (n := 10) 0 dX2_init_9 rfl rfl rfl ?_
  refine a_iconst (n := 11) (v := 4) dX2_init_10 rfl (by decide) ?_
  refine a_newi (n := 13) (N := 4) ac_int (by decide) (by decide) (by decide) (by omega) (by omega) dX2_init_11 rfl (fun p11_1 => ?_)
  refine a_putF (n := 16) (ws' := [(q, .inr (2, [.null, .null, .null, .int ((-1)), .int 0, .int 0, .int 0, .int 0, .int 0, .ref p11_1, .null, .null, .null, .null, .null, .null, .null, .null])), (p11_1, .inl (E.2.1, 4, .inl (fun _ => 0)))]) 0 ff_X2_15 dX2_init_13 rfl rfl rfl rfl (Nat.le_of_ble_eq_true rfl) rfl ?_
  refine a_aload_n (n := 17) 0 dX2_init_16 rfl rfl rfl ?_
  refine a_bipush (n := 19) (v := 8) dX2_init_17 rfl (by decide) ?_
  refine a_newi (n := 21) (N := 8) ac_int (by decide) (by decide) (by decide) (by omega) (by omega) dX2_init_19 rfl (fun p19_2 => ?_)
  refine a_putF (n := 24) (ws' := [(q, .inr (2, [.null, .null, .null, .int ((-1)), .int 0, .int 0, .int 0, .int 0, .int 0, .ref p11_1, .ref p19_2, .null, .null, .null, .null, .null, .null, .null])), (p11_1, .inl (E.2.1, 4, .inl (fun _ => 0))), (p19_2, .inl (E.2.1, 8, .inl (fun _ => 0)))]) 0 ff_X2_19 dX2_init_21 rfl rfl rfl rfl (Nat.le_of_ble_eq_true rfl) rfl ?_
  refine a_aload_n (n := 25) 0 dX2_init_24 rfl rfl rfl ?_
  refine a_bipush (n := 27) (v := 24) dX2_init_25 rfl (by decide) ?_
  refine a_newi (n := 29) (N := 24) ac_int (by decide) (by decide) (by decide) (by omega) (by omega) dX2_init_27 rfl (fun p27_3 => ?_)
  refine a_putF (n := 32) (ws' := [(q, .inr (2, [.null, .null, .null, .int ((-1)), .int 0, .int 0, .int 0, .int 0, .int 0, .ref p11_1, .ref p19_2, .ref p27_3, .null, .null, .null, .null, .null, .null])), (p11_1, .inl (E.2.1, 4, .inl (fun _ => 0))), (p19_2, .inl (E.2.1, 8, .inl (fun _ => 0))), (p27_3, .inl (E.2.1, 24, .inl (fun _ => 0)))]) 0 ff_X2_22 dX2_init_29 rfl rfl rfl rfl (Nat.le_of_ble_eq_true rfl) rfl ?_
  refine a_aload_n (n := 33) 0 dX2_init_32 rfl rfl rfl ?_
  refine a_bipush (n := 35) (v := 24) dX2_init_33 rfl (by decide) ?_
  refine a_newi (n := 37) (N := 24) ac_int (by decide) (by decide) (by decide) (by omega) (by omega) dX2_init_35 rfl (fun p35_4 => ?_)
  refine a_putF (n := 40) (ws' := [(q, .inr (2, [.null, .null, .null, .int ((-1)), .int 0, .int 0, .int 0, .int 0, .int 0, .ref p11_1, .ref p19_2, .ref p27_3, .ref p35_4, .null, .null, .null, .null, .null])), (p11_1, .inl (E.2.1, 4, .inl (fun _ => 0))), (p19_2, .inl (E.2.1, 8, .inl (fun _ => 0))), (p27_3, .inl (E.2.1, 24, .inl (fun _ => 0))), (p35_4, .inl (E.2.1, 24, .inl (fun _ => 0)))]) 0 ff_X2_25 dX2_init_37 rfl rfl rfl rfl (Nat.le_of_ble_eq_true rfl) rfl ?_
  refine a_aload_n (n := 41) 0 dX2_init_40 rfl rfl rfl ?_
  refine a_bipush (n := 43) (v := 24) dX2_init_41 rfl (by decide) ?_
  refine a_newi (n := 45) (N := 24) ac_int (by decide) (by decide) (by decide) (by omega) (by omega) dX2_init_43 rfl (fun p43_5 => ?_)
  refine a_putF (n := 48) (ws' := [(q, .inr (2, [.null, .null, .null, .int ((-1)), .int 0, .int 0, .int 0, .int 0, .int 0, .ref p11_1, .ref p19_2, .ref p27_3, .ref p35_4, .ref p43_5, .null, .null, .null, .null])), (p11_1, .inl (E.2.1, 4, .inl (fun _ => 0))), (p19_2, .inl (E.2.1, 8, .inl (fun _ => 0))), (p27_3, .inl (E.2.1, 24, .inl (fun _ => 0))), (p35_4, .inl (E.2.1, 24, .inl (fun _ => 0))), (p43_5, .inl (E.2.1, 24, .inl (fun _ => 0)))]) 0 ff_X2_28 dX2_init_45 rfl rfl rfl rfl (Nat.le_of_ble_eq_true rfl) rfl ?_
  refine a_aload_n (n := 49) 0 dX2_init_48 rfl rfl rfl ?_
  refine a_bipush (n := 51) (v := 24) dX2_init_49 rfl (by decide) ?_
  refine a_newi (n := 53) (N := 24) ac_int (by decide) (by decide) (by decide) (by omega) (by omega) dX2_init_51 rfl (fun p51_6 => ?_)
  refine a_putF (n := 56) (ws' := [(q, .inr (2, [.null, .null, .null, .int ((-1)), .int 0, .int 0, .int 0, .int 0, .int 0, .ref p11_1, .ref p19_2, .ref p27_3, .ref p35_4, .ref p43_5, .ref p51_6, .null, .null, .null])), (p11_1, .inl (E.2.1, 4, .inl (fun _ => 0))), (p19_2, .inl (E.2.1, 8, .inl (fun _ => 0))), (p27_3, .inl (E.2.1, 24, .inl (fun _ => 0))), (p35_4, .inl (E.2.1, 24, .inl (fun _ => 0))), (p43_5, .inl (E.2.1, 24, .inl (fun _ => 0))), (p51_6, .inl (E.2.1, 24, .inl (fun _ => 0)))]) 0 ff_X2_31 dX2_init_53 rfl rfl rfl rfl (Nat.le_of_ble_eq_true rfl) rfl ?_
  refine a_aload_n (n := 57) 0 dX2_init_56 rfl rfl rfl ?_
  refine a_bipush (n := 59) (v := 25) dX2_init_57 rfl (by decide) ?_
  refine a_newi (n := 61) (N := 25) ac_int (by decide) (by decide) (by decide) (by omega) (by omega) dX2_init_59 rfl (fun p59_7 => ?_)
  refine a_putF (n := 64) (ws' := [(q, .inr (2, [.null, .null, .null, .int ((-1)), .int 0, .int 0, .int 0, .int 0, .int 0, .ref p11_1, .ref p19_2, .ref p27_3, .ref p35_4, .ref p43_5, .ref p51_6, .ref p59_7, .null, .null])), (p11_1, .inl (E.2.1, 4, .inl (fun _ => 0))), (p19_2, .inl (E.2.1, 8, .inl (fun _ => 0))), (p27_3, .inl (E.2.1, 24, .inl (fun _ => 0))), (p35_4, .inl (E.2.1, 24, .inl (fun _ => 0))), (p43_5, .inl (E.2.1, 24, .inl (fun _ => 0))), (p51_6, .inl (E.2.1, 24, .inl (fun _ => 0))), (p59_7, .inl (E.2.1, 25, .inl (fun _ => 0)))]) 0 ff_X2_34 dX2_init_61 rfl rfl rfl rfl (Nat.le_of_ble_eq_true rfl) rfl ?_
  refine a_aload_n (n := 65) 0 dX2_init_64 rfl rfl rfl ?_
  refine a_bipush (n := 67) (v := 25) dX2_init_65 rfl (by decide) ?_
  refine a_newi (n := 69) (N := 25) ac_int (by decide) (by decide) (by decide) (by omega) (by omega) dX2_init_67 rfl (fun p67_8 => ?_)
  refine a_putF (n := 72) (ws' := [(q, .inr (2, [.null, .null, .null, .int ((-1)), .int 0, .int 0, .int 0, .int 0, .int 0, .ref p11_1, .ref p19_2, .ref p27_3, .ref p35_4, .ref p43_5, .ref p51_6, .ref p59_7, .ref p67_8, .null])), (p11_1, .inl (E.2.1, 4, .inl (fun _ => 0))), (p19_2, .inl (E.2.1, 8, .inl (fun _ => 0))), (p27_3, .inl (E.2.1, 24, .inl (fun _ => 0))), (p35_4, .inl (E.2.1, 24, .inl (fun _ => 0))), (p43_5, .inl (E.2.1, 24, .inl (fun _ => 0))), (p51_6, .inl (E.2.1, 24, .inl (fun _ => 0))), (p59_7, .inl (E.2.1, 25, .inl (fun _ => 0))), (p67_8, .inl (E.2.1, 25, .inl (fun _ => 0)))]) 0 ff_X2_37 dX2_init_69 rfl rfl rfl rfl (Nat.le_of_ble_eq_true rfl) rfl ?_
  refine a_aload_n (n := 73) 0 dX2_init_72 rfl rfl rfl ?_
  refine a_bipush (n := 75) (v := 25) dX2_init_73 rfl (by decide) ?_
  refine a_newi (n := 77) (N := 25) ac_int (by decide) (by decide) (by decide) (by omega) (by omega) dX2_init_75 rfl (fun p75_9 => ?_)
  refine a_putF (n := 80) (ws' := [(q, .inr (2, [.null, .null, .null, .int ((-1)), .int 0, .int 0, .int 0, .int 0, .int 0, .ref p11_1, .ref p19_2, .ref p27_3, .ref p35_4, .ref p43_5, .ref p51_6, .ref p59_7, .ref p67_8, .ref p75_9])), (p11_1, .inl (E.2.1, 4, .inl (fun _ => 0))), (p19_2, .inl (E.2.1, 8, .inl (fun _ => 0))), (p27_3, .inl (E.2.1, 24, .inl (fun _ => 0))), (p35_4, .inl (E.2.1, 24, .inl (fun _ => 0))), (p43_5, .inl (E.2.1, 24, .inl (fun _ => 0))), (p51_6, .inl (E.2.1, 24, .inl (fun _ => 0))), (p59_7, .inl (E.2.1, 25, .inl (fun _ => 0))), (p67_8, .inl (E.2.1, 25, .inl (fun _ => 0))), (p75_9, .inl (E.2.1, 25, .inl (fun _ => 0)))]) 0 ff_X2_40 dX2_init_77 rfl rfl rfl rfl (Nat.le_of_ble_eq_true rfl) rfl ?_
  refine a_aload_n (n := 81) 0 dX2_init_80 rfl rfl rfl ?_
  refine a_aload_n (n := 82) 1 dX2_init_81 rfl rfl rfl ?_
  refine a_putF (n := 85) (ws' := [(q, .inr (2, [.ref en, .null, .null, .int ((-1)), .int 0, .int 0, .int 0, .int 0, .int 0, .ref p11_1, .ref p19_2, .ref p27_3, .ref p35_4, .ref p43_5, .ref p51_6, .ref p59_7, .ref p67_8, .ref p75_9])), (p11_1, .inl (E.2.1, 4, .inl (fun _ => 0))), (p19_2, .inl (E.2.1, 8, .inl (fun _ => 0))), (p27_3, .inl (E.2.1, 24, .inl (fun _ => 0))), (p35_4, .inl (E.2.1, 24, .inl (fun _ => 0))), (p43_5, .inl (E.2.1, 24, .inl (fun _ => 0))), (p51_6, .inl (E.2.1, 24, .inl (fun _ => 0))), (p59_7, .inl (E.2.1, 25, .inl (fun _ => 0))), (p67_8, .inl (E.2.1, 25, .inl (fun _ => 0))), (p75_9, .inl (E.2.1, 25, .inl (fun _ => 0)))]) 0 ff_X2_43 dX2_init_82 rfl rfl rfl rfl (Nat.le_of_ble_eq_true rfl) rfl ?_
  refine a_aload_n (n := 86) 0 dX2_init_85 rfl rfl rfl ?_
  refine a_aload_n (n := 87) 2 dX2_init_86 rfl rfl rfl ?_
  refine a_put (n := 90) (ws' := [(q, .inr (2, [.ref en, .null, .ref no, .int ((-1)), .int 0, .int 0, .int 0, .int 0, .int 0, .ref p11_1, .ref p19_2, .ref p27_3, .ref p35_4, .ref p43_5, .ref p51_6, .ref p59_7, .ref p67_8, .ref p75_9])), (p11_1, .inl (E.2.1, 4, .inl (fun _ => 0))), (p19_2, .inl (E.2.1, 8, .inl (fun _ => 0))), (p27_3, .inl (E.2.1, 24, .inl (fun _ => 0))), (p35_4, .inl (E.2.1, 24, .inl (fun _ => 0))), (p43_5, .inl (E.2.1, 24, .inl (fun _ => 0))), (p51_6, .inl (E.2.1, 24, .inl (fun _ => 0))), (p59_7, .inl (E.2.1, 25, .inl (fun _ => 0))), (p67_8, .inl (E.2.1, 25, .inl (fun _ => 0))), (p75_9, .inl (E.2.1, 25, .inl (fun _ => 0)))]) 0 fp_X2_47 dX2_init_87 rfl rfl rfl rfl (Nat.le_of_ble_eq_true rfl) rfl ?_
  refine a_aload_n (n := 91) 0 dX2_init_90 rfl rfl rfl ?_
  refine a_new (n := 94) (ci := 1) (fs := [.null, .null, .int 0]) nw_X2_51 wsin_X1 tyX1_ok rfl (dv_X1) (by omega) (by omega) dX2_init_91 rfl (fun q91_10 => ?_)
  refine a_dup (n := 95) dX2_init_94 rfl rfl ?_
  refine a_aload_n (n := 96) 1 dX2_init_95 rfl rfl rfl ?_
  refine a_iload_n (n := 97) 3 dX2_init_96 rfl rfl rfl ?_
  refine a_init (n := 100) (As := [.ref en, .int (nI rl)]) (rest := [.ref q91_10, .ref q]) (pre := [(q, .inr (2, [.ref en, .null, .ref no, .int ((-1)), .int 0, .int 0, .int 0, .int 0, .int 0, .ref p11_1, .ref p19_2, .ref p27_3, .ref p35_4, .ref p43_5, .ref p51_6, .ref p59_7, .ref p67_8, .ref p75_9])), (p11_1, .inl (E.2.1, 4, .inl (fun _ => 0))), (p19_2, .inl (E.2.1, 8, .inl (fun _ => 0))), (p27_3, .inl (E.2.1, 24, .inl (fun _ => 0))), (p35_4, .inl (E.2.1, 24, .inl (fun _ => 0))), (p43_5, .inl (E.2.1, 24, .inl (fun _ => 0))), (p51_6, .inl (E.2.1, 24, .inl (fun _ => 0))), (p59_7, .inl (E.2.1, 25, .inl (fun _ => 0))), (p67_8, .inl (E.2.1, 25, .inl (fun _ => 0))), (p75_9, .inl (E.2.1, 25, .inl (fun _ => 0)))]) li_X2_53 (ca_X1 hrl hrl4) (by omega) ⟨by omega, by omega⟩ rfl rfl (Nat.le_of_ble_eq_true rfl) dX2_init_97 rfl rfl ?_
  rintro _ ⟨ah, rfl, rfl, rfl⟩
  refine a_putF (n := 103) (ws' := [(q, .inr (2, [.ref (ah 1), .ref (ah 4), .ref no, .int ((-1)), .int 0, .int 0, .int 0, .int 0, .int 0, .ref p11_1, .ref p19_2, .ref p27_3, .ref p35_4, .ref p43_5, .ref p51_6, .ref p59_7, .ref p67_8, .ref p75_9])), (p11_1, .inl (E.2.1, 4, .inl (fun _ => 0))), (p19_2, .inl (E.2.1, 8, .inl (fun _ => 0))), (p27_3, .inl (E.2.1, 24, .inl (fun _ => 0))), (p35_4, .inl (E.2.1, 24, .inl (fun _ => 0))), (p43_5, .inl (E.2.1, 24, .inl (fun _ => 0))), (p51_6, .inl (E.2.1, 24, .inl (fun _ => 0))), (p59_7, .inl (E.2.1, 25, .inl (fun _ => 0))), (p67_8, .inl (E.2.1, 25, .inl (fun _ => 0))), (p75_9, .inl (E.2.1, 25, .inl (fun _ => 0)))] ++ hH2 E ah rl zN) 0 ff_X2_56 dX2_init_100 rfl rfl rfl rfl (Nat.le_of_ble_eq_true rfl) rfl ?_
  exact a_ret (by omega) (by omega) ⟨(fun k => cond (Nat.beq k 0) q (cond (Nat.beq k 1) (ah 1) (cond (Nat.beq k 4) (ah 4) (cond (Nat.beq k 5) (ah 5) (cond (Nat.beq k 16) p11_1 (cond (Nat.beq k 17) p19_2 (cond (Nat.beq k 18) p27_3 (cond (Nat.beq k 19) p35_4 (cond (Nat.beq k 20) p43_5 (cond (Nat.beq k 21) p51_6 (cond (Nat.beq k 22) p59_7 (cond (Nat.beq k 23) p67_8 (cond (Nat.beq k 24) p75_9 0))))))))))))), rfl, rfl, rfl⟩ dX2_init_103
set_option maxHeartbeats 1000000 in
set_option maxRecDepth 100000 in
theorem ca_X5 {l : Launch} {E : Ev} {q : Nat} {en no rl : Nat} (hrl : rl < 2 ^ 31) (hrl4 : rl * 4 ≤ 536870912) : Ca l yX5_init cX5_init 5 3 74 (1234 + 6 * rl) E [(q, .inr (5, [.null, .null, .null, .int 0, .int 0]))] [.ref q, .ref en, .ref no, .int (nI rl)] (fun w1 => ∃ (ia df : Nat) (aj : Nat → Nat → Nat), (∀ j, j < 6 → aj j 1 = en) ∧ w1 = hWn E q en ia df aj no rl) := by
  refine Ca.of (own := RX5) (L := [(0, .ref q), (1, .ref en), (2, .ref no), (3, .int (nI rl))]) rfl (by decide +kernel) (by decide +kernel) (Nat.le_of_ble_eq_true rfl) rfl (fun sz => ?_)
  refine a_aload_n (n := 1) 0 dX5_init_0 rfl rfl rfl ?_
  refine a_obj (n := 4) ob_X5_3 (by omega) (Nat.le_of_ble_eq_true rfl) dX5_init_1 rfl ?_
  refine a_aload_n (n := 5) 0 dX5_init_4 rfl rfl rfl ?_
  refine a_bipush (n := 7) (v := 6) dX5_init_5 rfl (by decide) ?_
  refine a_newq (n := 10) (N := 6) (t0 := 2) cl_X5_9 (fun _ h => h.2.2) rfl (by decide) (by decide) (by decide) (by omega) (by omega) dX5_init_7 rfl (fun p7 => ?_)
  refine a_putF (n := 13) (ws' := [(q, .inr (5, [.null, .ref p7, .null, .int 0, .int 0])), (p7, .inl (E.2.2.2, 6, .inr (.inr (.inr (.inr (fun _ => none))))))]) 0 ff_X5_11 dX5_init_10 rfl rfl rfl rfl (Nat.le_of_ble_eq_true rfl) rfl ?_
  refine a_aload_n (n := 14) 0 dX5_init_13 rfl rfl rfl ?_
  refine a_iconst (n := 15) (v := 4) dX5_init_14 rfl (by decide) ?_
  refine a_newi (n := 17) (N := 4) ac_int (by decide) (by decide) (by decide) (by omega) (by omega) dX5_init_15 rfl (fun p15_1 => ?_)
  refine a_putF (n := 20) (ws' := [(q, .inr (5, [.null, .ref p7, .ref p15_1, .int 0, .int 0])), (p7, .inl (E.2.2.2, 6, .inr (.inr (.inr (.inr (fun _ => none)))))), (p15_1, .inl (E.2.1, 4, .inl (fun _ => 0)))]) 0 ff_X5_17 dX5_init_17 rfl rfl rfl rfl (Nat.le_of_ble_eq_true rfl) rfl ?_
  refine a_aload_n (n := 21) 0 dX5_init_20 rfl rfl rfl ?_
  refine a_iconst (n := 22) (v := 0) dX5_init_21 rfl (by decide) ?_
  refine a_put (n := 25) (ws' := [(q, .inr (5, [.null, .ref p7, .ref p15_1, .int 0, .int 0])), (p7, .inl (E.2.2.2, 6, .inr (.inr (.inr (.inr (fun _ => none)))))), (p15_1, .inl (E.2.1, 4, .inl (fun _ => 0)))]) 0 fp_X5_21 dX5_init_22 rfl rfl rfl rfl (Nat.le_of_ble_eq_true rfl) rfl ?_
  refine a_aload_n (n := 26) 0 dX5_init_25 rfl rfl rfl ?_
  refine a_aload_n (n := 27) 1 dX5_init_26 rfl rfl rfl ?_
  refine a_putF (n := 30) (ws' := [(q, .inr (5, [.ref en, .ref p7, .ref p15_1, .int 0, .int 0])), (p7, .inl (E.2.2.2, 6, .inr (.inr (.inr (.inr (fun _ => none)))))), (p15_1, .inl (E.2.1, 4, .inl (fun _ => 0)))]) 0 ff_X5_25 dX5_init_27 rfl rfl rfl rfl (Nat.le_of_ble_eq_true rfl) rfl ?_
  refine a_iconst (n := 31) (v := 0) dX5_init_30 rfl (by decide) ?_
  refine a_istore (n := 33) (L' := [(4, .int 0), (0, .ref q), (1, .ref en), (2, .ref no), (3, .int (nI rl))]) dX5_init_31 rfl (Nat.le_of_ble_eq_true rfl) rfl ?_
  refine a_iload (n := 35) 0 dX5_init_33 rfl rfl ?_
  refine a_bipush (n := 37) (v := 6) dX5_init_35 rfl (by decide) ?_
  refine a_geF (n := 40) (tgt := 63) (by decide) dX5_init_37 (by decide) rfl ?_
  refine a_aload_n (n := 41) 1 dX5_init_40 rfl rfl rfl ?_
  refine a_get (n := 44) (v := .ref p7) 0 fg_X5_11 dX5_init_41 rfl rfl rfl ?_
  refine a_iload (n := 46) 0 dX5_init_44 rfl rfl ?_
  refine a_new (n := 49) (ci := 2) (fs := [.null, .null, .null, .int 0, .int 0, .int 0, .int 0, .int 0, .int 0, .null, .null, .null, .null, .null, .null, .null, .null, .null]) nw_X5_9 wsin_X2 tyX2_ok rfl (dv_X2) (by omega) (by omega) dX5_init_46 rfl (fun q46_2 => ?_)
  refine a_dup (n := 50) dX5_init_49 rfl rfl ?_
  refine a_aload_n (n := 51) 2 dX5_init_50 rfl rfl rfl ?_
  refine a_aload_n (n := 52) 3 dX5_init_51 rfl rfl rfl ?_
  refine a_iload_n (n := 53) 4 dX5_init_52 rfl rfl rfl ?_
  refine a_init (n := 56) (As := [.ref en, .ref no, .int (nI rl)]) (rest := [.ref q46_2, .int 0, .ref p7]) (pre := [(q, .inr (5, [.ref en, .ref p7, .ref p15_1, .int 0, .int 0])), (p7, .inl (E.2.2.2, 6, .inr (.inr (.inr (.inr (fun _ => none)))))), (p15_1, .inl (E.2.1, 4, .inl (fun _ => 0)))]) li_X5_29 (ca_X2 hrl hrl4) (by omega) ⟨by omega, by omega⟩ rfl rfl (Nat.le_of_ble_eq_true rfl) dX5_init_53 rfl rfl ?_
  rintro _ ⟨a0, rfl, he0, rfl⟩
  refine a_aast (n := 57) (t0 := 2) (ci := 2) (qk := 3) (ws' := [(q, .inr (5, [.ref en, .ref p7, .ref p15_1, .int 0, .int 0])), (p7, .inl (E.2.2.2, 6, .inr (.inr (.inr (.inr (va_up (fun _ => none) 0 (some (a0 0)))))))), (p15_1, .inl (E.2.1, 4, .inl (fun _ => 0)))] ++ hIn E a0 rl oN zN no) 1 (by decide) rfl rfl rfl dX5_init_56 rfl rfl rfl ?_
  refine a_iinc (n := 60) (y := 1) (L' := [(4, .int 1), (0, .ref q), (1, .ref en), (2, .ref no), (3, .int (nI rl))]) 0 dX5_init_57 rfl rfl (by decide) (Nat.le_of_ble_eq_true rfl) rfl ?_
  refine a_goto (n := 33) dX5_init_60 (by decide) ?_
  refine a_iload (n := 35) 0 dX5_init_33 rfl rfl ?_
  refine a_bipush (n := 37) (v := 6) dX5_init_35 rfl (by decide) ?_
  refine a_geF (n := 40) (tgt := 63) (by decide) dX5_init_37 (by decide) rfl ?_
  refine a_aload_n (n := 41) 1 dX5_init_40 rfl rfl rfl ?_
  refine a_get (n := 44) (v := .ref p7) 0 fg_X5_11 dX5_init_41 rfl rfl rfl ?_
  refine a_iload (n := 46) 0 dX5_init_44 rfl rfl ?_
  refine a_new (n := 49) (ci := 2) (fs := [.null, .null, .null, .int 0, .int 0, .int 0, .int 0, .int 0, .int 0, .null, .null, .null, .null, .null, .null, .null, .null, .null]) nw_X5_9 wsin_X2 tyX2_ok rfl (dv_X2) (by omega) (by omega) dX5_init_46 rfl (fun q46_3 => ?_)
  refine a_dup (n := 50) dX5_init_49 rfl rfl ?_
  refine a_aload_n (n := 51) 2 dX5_init_50 rfl rfl rfl ?_
  refine a_aload_n (n := 52) 3 dX5_init_51 rfl rfl rfl ?_
  refine a_iload_n (n := 53) 4 dX5_init_52 rfl rfl rfl ?_
  refine a_init (n := 56) (As := [.ref en, .ref no, .int (nI rl)]) (rest := [.ref q46_3, .int 1, .ref p7]) (pre := [(q, .inr (5, [.ref en, .ref p7, .ref p15_1, .int 0, .int 0])), (p7, .inl (E.2.2.2, 6, .inr (.inr (.inr (.inr (va_up (fun _ => none) 0 (some (a0 0)))))))), (p15_1, .inl (E.2.1, 4, .inl (fun _ => 0)))] ++ hIn E a0 rl oN zN no) li_X5_29 (ca_X2 hrl hrl4) (by omega) ⟨by omega, by omega⟩ rfl rfl (Nat.le_of_ble_eq_true rfl) dX5_init_53 rfl rfl ?_
  rintro _ ⟨a1, rfl, he1, rfl⟩
  refine a_aast (n := 57) (t0 := 2) (ci := 2) (qk := 15) (ws' := [(q, .inr (5, [.ref en, .ref p7, .ref p15_1, .int 0, .int 0])), (p7, .inl (E.2.2.2, 6, .inr (.inr (.inr (.inr (va_up (va_up (fun _ => none) 0 (some (a0 0))) 1 (some (a1 0)))))))), (p15_1, .inl (E.2.1, 4, .inl (fun _ => 0)))] ++ hIn E a0 rl oN zN no ++ hIn E a1 rl oN zN no) 1 (by decide) rfl rfl rfl dX5_init_56 rfl rfl rfl ?_
  refine a_iinc (n := 60) (y := 2) (L' := [(4, .int 2), (0, .ref q), (1, .ref en), (2, .ref no), (3, .int (nI rl))]) 0 dX5_init_57 rfl rfl (by decide) (Nat.le_of_ble_eq_true rfl) rfl ?_
  refine a_goto (n := 33) dX5_init_60 (by decide) ?_
  refine a_iload (n := 35) 0 dX5_init_33 rfl rfl ?_
  refine a_bipush (n := 37) (v := 6) dX5_init_35 rfl (by decide) ?_
  refine a_geF (n := 40) (tgt := 63) (by decide) dX5_init_37 (by decide) rfl ?_
  refine a_aload_n (n := 41) 1 dX5_init_40 rfl rfl rfl ?_
  refine a_get (n := 44) (v := .ref p7) 0 fg_X5_11 dX5_init_41 rfl rfl rfl ?_
  refine a_iload (n := 46) 0 dX5_init_44 rfl rfl ?_
  refine a_new (n := 49) (ci := 2) (fs := [.null, .null, .null, .int 0, .int 0, .int 0, .int 0, .int 0, .int 0, .null, .null, .null, .null, .null, .null, .null, .null, .null]) nw_X5_9 wsin_X2 tyX2_ok rfl (dv_X2) (by omega) (by omega) dX5_init_46 rfl (fun q46_4 => ?_)
  refine a_dup (n := 50) dX5_init_49 rfl rfl ?_
  refine a_aload_n (n := 51) 2 dX5_init_50 rfl rfl rfl ?_
  refine a_aload_n (n := 52) 3 dX5_init_51 rfl rfl rfl ?_
  refine a_iload_n (n := 53) 4 dX5_init_52 rfl rfl rfl ?_
  refine a_init (n := 56) (As := [.ref en, .ref no, .int (nI rl)]) (rest := [.ref q46_4, .int 2, .ref p7]) (pre := [(q, .inr (5, [.ref en, .ref p7, .ref p15_1, .int 0, .int 0])), (p7, .inl (E.2.2.2, 6, .inr (.inr (.inr (.inr (va_up (va_up (fun _ => none) 0 (some (a0 0))) 1 (some (a1 0)))))))), (p15_1, .inl (E.2.1, 4, .inl (fun _ => 0)))] ++ hIn E a0 rl oN zN no ++ hIn E a1 rl oN zN no) li_X5_29 (ca_X2 hrl hrl4) (by omega) ⟨by omega, by omega⟩ rfl rfl (Nat.le_of_ble_eq_true rfl) dX5_init_53 rfl rfl ?_
  rintro _ ⟨a2, rfl, he2, rfl⟩
  refine a_aast (n := 57) (t0 := 2) (ci := 2) (qk := 27) (ws' := [(q, .inr (5, [.ref en, .ref p7, .ref p15_1, .int 0, .int 0])), (p7, .inl (E.2.2.2, 6, .inr (.inr (.inr (.inr (va_up (va_up (va_up (fun _ => none) 0 (some (a0 0))) 1 (some (a1 0))) 2 (some (a2 0)))))))), (p15_1, .inl (E.2.1, 4, .inl (fun _ => 0)))] ++ hIn E a0 rl oN zN no ++ hIn E a1 rl oN zN no ++ hIn E a2 rl oN zN no) 1 (by decide) rfl rfl rfl dX5_init_56 rfl rfl rfl ?_
  refine a_iinc (n := 60) (y := 3) (L' := [(4, .int 3), (0, .ref q), (1, .ref en), (2, .ref no), (3, .int (nI rl))]) 0 dX5_init_57 rfl rfl (by decide) (Nat.le_of_ble_eq_true rfl) rfl ?_
  refine a_goto (n := 33) dX5_init_60 (by decide) ?_
  refine a_iload (n := 35) 0 dX5_init_33 rfl rfl ?_
  refine a_bipush (n := 37) (v := 6) dX5_init_35 rfl (by decide) ?_
  refine a_geF (n := 40) (tgt := 63) (by decide) dX5_init_37 (by decide) rfl ?_
  refine a_aload_n (n := 41) 1 dX5_init_40 rfl rfl rfl ?_
  refine a_get (n := 44) (v := .ref p7) 0 fg_X5_11 dX5_init_41 rfl rfl rfl ?_
  refine a_iload (n := 46) 0 dX5_init_44 rfl rfl ?_
  refine a_new (n := 49) (ci := 2) (fs := [.null, .null, .null, .int 0, .int 0, .int 0, .int 0, .int 0, .int 0, .null, .null, .null, .null, .null, .null, .null, .null, .null]) nw_X5_9 wsin_X2 tyX2_ok rfl (dv_X2) (by omega) (by omega) dX5_init_46 rfl (fun q46_5 => ?_)
  refine a_dup (n := 50) dX5_init_49 rfl rfl ?_
  refine a_aload_n (n := 51) 2 dX5_init_50 rfl rfl rfl ?_
  refine a_aload_n (n := 52) 3 dX5_init_51 rfl rfl rfl ?_
  refine a_iload_n (n := 53) 4 dX5_init_52 rfl rfl rfl ?_
  refine a_init (n := 56) (As := [.ref en, .ref no, .int (nI rl)]) (rest := [.ref q46_5, .int 3, .ref p7]) (pre := [(q, .inr (5, [.ref en, .ref p7, .ref p15_1, .int 0, .int 0])), (p7, .inl (E.2.2.2, 6, .inr (.inr (.inr (.inr (va_up (va_up (va_up (fun _ => none) 0 (some (a0 0))) 1 (some (a1 0))) 2 (some (a2 0)))))))), (p15_1, .inl (E.2.1, 4, .inl (fun _ => 0)))] ++ hIn E a0 rl oN zN no ++ hIn E a1 rl oN zN no ++ hIn E a2 rl oN zN no) li_X5_29 (ca_X2 hrl hrl4) (by omega) ⟨by omega, by omega⟩ rfl rfl (Nat.le_of_ble_eq_true rfl) dX5_init_53 rfl rfl ?_
  rintro _ ⟨a3, rfl, he3, rfl⟩
  refine a_aast (n := 57) (t0 := 2) (ci := 2) (qk := 39) (ws' := [(q, .inr (5, [.ref en, .ref p7, .ref p15_1, .int 0, .int 0])), (p7, .inl (E.2.2.2, 6, .inr (.inr (.inr (.inr (va_up (va_up (va_up (va_up (fun _ => none) 0 (some (a0 0))) 1 (some (a1 0))) 2 (some (a2 0))) 3 (some (a3 0)))))))), (p15_1, .inl (E.2.1, 4, .inl (fun _ => 0)))] ++ hIn E a0 rl oN zN no ++ hIn E a1 rl oN zN no ++ hIn E a2 rl oN zN no ++ hIn E a3 rl oN zN no) 1 (by decide) rfl rfl rfl dX5_init_56 rfl rfl rfl ?_
  refine a_iinc (n := 60) (y := 4) (L' := [(4, .int 4), (0, .ref q), (1, .ref en), (2, .ref no), (3, .int (nI rl))]) 0 dX5_init_57 rfl rfl (by decide) (Nat.le_of_ble_eq_true rfl) rfl ?_
  refine a_goto (n := 33) dX5_init_60 (by decide) ?_
  refine a_iload (n := 35) 0 dX5_init_33 rfl rfl ?_
  refine a_bipush (n := 37) (v := 6) dX5_init_35 rfl (by decide) ?_
  refine a_geF (n := 40) (tgt := 63) (by decide) dX5_init_37 (by decide) rfl ?_
  refine a_aload_n (n := 41) 1 dX5_init_40 rfl rfl rfl ?_
  refine a_get (n := 44) (v := .ref p7) 0 fg_X5_11 dX5_init_41 rfl rfl rfl ?_
  refine a_iload (n := 46) 0 dX5_init_44 rfl rfl ?_
  refine a_new (n := 49) (ci := 2) (fs := [.null, .null, .null, .int 0, .int 0, .int 0, .int 0, .int 0, .int 0, .null, .null, .null, .null, .null, .null, .null, .null, .null]) nw_X5_9 wsin_X2 tyX2_ok rfl (dv_X2) (by omega) (by omega) dX5_init_46 rfl (fun q46_6 => ?_)
  refine a_dup (n := 50) dX5_init_49 rfl rfl ?_
  refine a_aload_n (n := 51) 2 dX5_init_50 rfl rfl rfl ?_
  refine a_aload_n (n := 52) 3 dX5_init_51 rfl rfl rfl ?_
  refine a_iload_n (n := 53) 4 dX5_init_52 rfl rfl rfl ?_
  refine a_init (n := 56) (As := [.ref en, .ref no, .int (nI rl)]) (rest := [.ref q46_6, .int 4, .ref p7]) (pre := [(q, .inr (5, [.ref en, .ref p7, .ref p15_1, .int 0, .int 0])), (p7, .inl (E.2.2.2, 6, .inr (.inr (.inr (.inr (va_up (va_up (va_up (va_up (fun _ => none) 0 (some (a0 0))) 1 (some (a1 0))) 2 (some (a2 0))) 3 (some (a3 0)))))))), (p15_1, .inl (E.2.1, 4, .inl (fun _ => 0)))] ++ hIn E a0 rl oN zN no ++ hIn E a1 rl oN zN no ++ hIn E a2 rl oN zN no ++ hIn E a3 rl oN zN no) li_X5_29 (ca_X2 hrl hrl4) (by omega) ⟨by omega, by omega⟩ rfl rfl (Nat.le_of_ble_eq_true rfl) dX5_init_53 rfl rfl ?_
  rintro _ ⟨a4, rfl, he4, rfl⟩
  refine a_aast (n := 57) (t0 := 2) (ci := 2) (qk := 51) (ws' := [(q, .inr (5, [.ref en, .ref p7, .ref p15_1, .int 0, .int 0])), (p7, .inl (E.2.2.2, 6, .inr (.inr (.inr (.inr (va_up (va_up (va_up (va_up (va_up (fun _ => none) 0 (some (a0 0))) 1 (some (a1 0))) 2 (some (a2 0))) 3 (some (a3 0))) 4 (some (a4 0)))))))), (p15_1, .inl (E.2.1, 4, .inl (fun _ => 0)))] ++ hIn E a0 rl oN zN no ++ hIn E a1 rl oN zN no ++ hIn E a2 rl oN zN no ++ hIn E a3 rl oN zN no ++ hIn E a4 rl oN zN no) 1 (by decide) rfl rfl rfl dX5_init_56 rfl rfl rfl ?_
  refine a_iinc (n := 60) (y := 5) (L' := [(4, .int 5), (0, .ref q), (1, .ref en), (2, .ref no), (3, .int (nI rl))]) 0 dX5_init_57 rfl rfl (by decide) (Nat.le_of_ble_eq_true rfl) rfl ?_
  refine a_goto (n := 33) dX5_init_60 (by decide) ?_
  refine a_iload (n := 35) 0 dX5_init_33 rfl rfl ?_
  refine a_bipush (n := 37) (v := 6) dX5_init_35 rfl (by decide) ?_
  refine a_geF (n := 40) (tgt := 63) (by decide) dX5_init_37 (by decide) rfl ?_
  refine a_aload_n (n := 41) 1 dX5_init_40 rfl rfl rfl ?_
  refine a_get (n := 44) (v := .ref p7) 0 fg_X5_11 dX5_init_41 rfl rfl rfl ?_
  refine a_iload (n := 46) 0 dX5_init_44 rfl rfl ?_
  refine a_new (n := 49) (ci := 2) (fs := [.null, .null, .null, .int 0, .int 0, .int 0, .int 0, .int 0, .int 0, .null, .null, .null, .null, .null, .null, .null, .null, .null]) nw_X5_9 wsin_X2 tyX2_ok rfl (dv_X2) (by omega) (by omega) dX5_init_46 rfl (fun q46_7 => ?_)
  refine a_dup (n := 50) dX5_init_49 rfl rfl ?_
  refine a_aload_n (n := 51) 2 dX5_init_50 rfl rfl rfl ?_
  refine a_aload_n (n := 52) 3 dX5_init_51 rfl rfl rfl ?_
  refine a_iload_n (n := 53) 4 dX5_init_52 rfl rfl rfl ?_
  refine a_init (n := 56) (As := [.ref en, .ref no, .int (nI rl)]) (rest := [.ref q46_7, .int 5, .ref p7]) (pre := [(q, .inr (5, [.ref en, .ref p7, .ref p15_1, .int 0, .int 0])), (p7, .inl (E.2.2.2, 6, .inr (.inr (.inr (.inr (va_up (va_up (va_up (va_up (va_up (fun _ => none) 0 (some (a0 0))) 1 (some (a1 0))) 2 (some (a2 0))) 3 (some (a3 0))) 4 (some (a4 0)))))))), (p15_1, .inl (E.2.1, 4, .inl (fun _ => 0)))] ++ hIn E a0 rl oN zN no ++ hIn E a1 rl oN zN no ++ hIn E a2 rl oN zN no ++ hIn E a3 rl oN zN no ++ hIn E a4 rl oN zN no) li_X5_29 (ca_X2 hrl hrl4) (by omega) ⟨by omega, by omega⟩ rfl rfl (Nat.le_of_ble_eq_true rfl) dX5_init_53 rfl rfl ?_
  rintro _ ⟨a5, rfl, he5, rfl⟩
  refine a_aast (n := 57) (t0 := 2) (ci := 2) (qk := 63) (ws' := [(q, .inr (5, [.ref en, .ref p7, .ref p15_1, .int 0, .int 0])), (p7, .inl (E.2.2.2, 6, .inr (.inr (.inr (.inr (va_up (va_up (va_up (va_up (va_up (va_up (fun _ => none) 0 (some (a0 0))) 1 (some (a1 0))) 2 (some (a2 0))) 3 (some (a3 0))) 4 (some (a4 0))) 5 (some (a5 0)))))))), (p15_1, .inl (E.2.1, 4, .inl (fun _ => 0)))] ++ hIn E a0 rl oN zN no ++ hIn E a1 rl oN zN no ++ hIn E a2 rl oN zN no ++ hIn E a3 rl oN zN no ++ hIn E a4 rl oN zN no ++ hIn E a5 rl oN zN no) 1 (by decide) rfl rfl rfl dX5_init_56 rfl rfl rfl ?_
  refine a_iinc (n := 60) (y := 6) (L' := [(4, .int 6), (0, .ref q), (1, .ref en), (2, .ref no), (3, .int (nI rl))]) 0 dX5_init_57 rfl rfl (by decide) (Nat.le_of_ble_eq_true rfl) rfl ?_
  refine a_goto (n := 33) dX5_init_60 (by decide) ?_
  refine a_iload (n := 35) 0 dX5_init_33 rfl rfl ?_
  refine a_bipush (n := 37) (v := 6) dX5_init_35 rfl (by decide) ?_
  refine a_geT (n := 63) (by decide) dX5_init_37 (by decide) ?_
  exact a_ret (by omega) (by omega) ⟨p7, p15_1, (fun j => cond (Nat.beq j 0) a0 (cond (Nat.beq j 1) a1 (cond (Nat.beq j 2) a2 (cond (Nat.beq j 3) a3 (cond (Nat.beq j 4) a4 a5))))), six he0 he1 he2 he3 he4 he5, rfl⟩ dX5_init_63
set_option maxHeartbeats 1000000 in
set_option maxRecDepth 100000 in
theorem ca_X3 {l : Launch} {E : Ev} {q : Nat}   : Ca l yX3_init cX3_init 1 1 2 24 E [(q, .inr (3, [.null, .null, .int 0, .null, .int 0, .int 0]))] [.ref q] (fun w1 => ∃ (wd tx : Nat), w1 = [(q, .inr (3, [.ref wd, .ref tx, .int 0, .null, .int 0, .int 0])), (wd, .inl (E.2.1, 24, .inl (fun _ => 0))), (tx, .inl (E.2.1, 0, .inl (fun _ => 0)))]) := by
  refine Ca.of (own := RX3) (L := [(0, .ref q)]) rfl (by decide +kernel) (by decide +kernel) (Nat.le_of_ble_eq_true rfl) rfl (fun sz => ?_)
  refine a_aload_n (n := 1) 0 dX3_init_0 rfl rfl rfl ?_
  refine a_obj (n := 4) ob_X3_3 (by omega) (Nat.le_of_ble_eq_true rfl) dX3_init_1 rfl ?_
  refine a_aload_n (n := 5) 0 dX3_init_4 rfl rfl rfl ?_
  refine a_bipush (n := 7) (v := 24) dX3_init_5 rfl (by decide) ?_
  refine a_newi (n := 9) (N := 24) ac_int (by decide) (by decide) (by decide) (by omega) (by omega) dX3_init_7 rfl (fun p7_1 => ?_)
  refine a_putF (n := 12) (ws' := [(q, .inr (3, [.ref p7_1, .null, .int 0, .null, .int 0, .int 0])), (p7_1, .inl (E.2.1, 24, .inl (fun _ => 0)))]) 0 ff_X3_9 dX3_init_9 rfl rfl rfl rfl (Nat.le_of_ble_eq_true rfl) rfl ?_
  refine a_aload_n (n := 13) 0 dX3_init_12 rfl rfl rfl ?_
  refine a_iconst (n := 14) (v := 0) dX3_init_13 rfl (by decide) ?_
  refine a_newi (n := 16) (N := 0) ac_int (by decide) (by decide) (by decide) (by omega) (by omega) dX3_init_14 rfl (fun p14_2 => ?_)
  refine a_put (n := 19) (ws' := [(q, .inr (3, [.ref p7_1, .ref p14_2, .int 0, .null, .int 0, .int 0])), (p7_1, .inl (E.2.1, 24, .inl (fun _ => 0))), (p14_2, .inl (E.2.1, 0, .inl (fun _ => 0)))]) 0 fp_X3_15 dX3_init_16 rfl rfl rfl rfl (Nat.le_of_ble_eq_true rfl) rfl ?_
  exact a_ret (by omega) (by omega) ⟨p7_1, p14_2, rfl⟩ dX3_init_19
