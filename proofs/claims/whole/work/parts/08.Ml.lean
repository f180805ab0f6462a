/-! the reference: partial pure functions, and the walk of each method (11) -/
def md_passes_12 (N : Nat) (D : Nat)  : Nat → Int32 → Mem → Option (Mem)
  | 0, _, _ => none
  | n + 1, y1, μ =>
    if y1 < 6 then
      ((md_of y1 0).bind fun k24 =>
      (rd 7593 (μ 5) k24).bind fun v27 =>
      if v27 = 1 then
        ((md_looksAt N D y1 μ).bind fun μ34 =>
        md_passes_12 N D n (y1 + 1) μ34)
      else
        (md_passes_12 N D n (y1 + 1) μ))
    else
      (some μ)
set_option maxHeartbeats 400000 in
set_option maxRecDepth 100000 in
theorem w_md_passes_12 {l : Launch} {E : Ev} {ad : Nat → Nat} {A : Nat → Prop} {d : Nat} {N : Nat} {D : Nat}    (hd : 5 * D + 13 ≤ d)  (n : Nat) : ∀ (y1 : Int32) (μ : Mem), Bd l E A RX7 cX7_passes 2 none d (fun q : Mem => (none, hM E ad q)) 12 [(0, .ref (ad 0)), (1, .int y1)] [] (hM E ad μ) (md_passes_12 N D n y1 μ) := by
  induction n with
  | zero => intro y1 μ; exact b_none
  | succ n ih =>
    intro y1 μ
    rw [md_passes_12]
    refine b_iload_n (n := 13) 1 dX7_passes_12 rfl rfl rfl ?_
    refine b_bipush (n := 15) (v := 6) dX7_passes_13 rfl (by decide) ?_
    refine b_cmp_ge (n := 18) (tgt := 43) dX7_passes_15 (by decide) rfl (fun h15 => ?_) (fun h15 => ?_)
    · refine b_aload_n (n := 19) 0 dX7_passes_18 rfl rfl rfl ?_
      refine b_get (n := 22) (v := .ref (ad 5)) 0 f_X7_22 dX7_passes_19 rfl hM_o0 rfl ?_
      refine b_iload_n (n := 23) 1 dX7_passes_22 rfl rfl rfl ?_
      refine b_iconst (n := 24) (v := 0) dX7_passes_23 rfl (by decide) ?_
      refine bSi (n := 27) (As := [.int y1, .int 0]) (rest := [.ref (ad 5)]) lk_X7_163 (c_md_of (Nat.le_refl _)) (by omega) rfl rfl (Nat.le_of_ble_eq_true rfl) dX7_passes_24 rfl (fun k24 => ?_)
      refine b_iald (n := 28) 5 dX7_passes_27 rfl hM_a5 (fun v27 => ?_)
      refine b_iconst (n := 29) (v := 1) dX7_passes_28 rfl (by decide) ?_
      refine b_cmp_ne (n := 32) (tgt := 37) dX7_passes_29 (by decide) rfl (fun h29 => ?_) (fun h29 => ?_)
      · refine b_aload_n (n := 33) 0 dX7_passes_32 rfl rfl rfl ?_
        refine b_iload_n (n := 34) 1 dX7_passes_33 rfl rfl rfl ?_
        refine bV0wv (n := 37) (hh := (fun s : Mem => hM E ad s)) (As := [.int y1]) (rest := []) 0 lk_X7_239 (c_md_looksAt (Nat.le_refl _)) (by omega) (fun _ => rfl) rfl rfl rfl rfl (Nat.le_of_ble_eq_true rfl) dX7_passes_34 rfl ?_
        rintro μ34
        try dsimp only
        refine b_iinc (n := 40) (L' := [(1, .int (y1 + 1)), (0, .ref (ad 0))]) 1 1 dX7_passes_37 rfl rfl (by decide) (Nat.le_of_ble_eq_true rfl) rfl ?_
        refine b_goto (n := 12) dX7_passes_40 (by decide) ?_
        refine Bd.sub (L' := [(0, .ref (ad 0)), (1, .int (y1 + 1))]) [1, 0] rfl ?_
        exact ih _ _
      · refine b_iinc (n := 40) (L' := [(1, .int (y1 + 1)), (0, .ref (ad 0))]) 1 1 dX7_passes_37 rfl rfl (by decide) (Nat.le_of_ble_eq_true rfl) rfl ?_
        refine b_goto (n := 12) dX7_passes_40 (by decide) ?_
        refine Bd.sub (L' := [(0, .ref (ad 0)), (1, .int (y1 + 1))]) [1, 0] rfl ?_
        exact ih _ _
    · exact b_vret dX7_passes_43 rfl rfl
def md_passes (N : Nat) (D : Nat)  (μ : Mem) : Option (Mem) :=
  (rd 7593 (μ 5) 0).bind fun v6 =>
  ck 7593 0 <|
  md_passes_12 N D N 0 (up μ 5 (0 : Int32).toNatClampNeg (v6 + 1))
set_option maxHeartbeats 400000 in
set_option maxRecDepth 100000 in
theorem c_md_passes {l : Launch} {E : Ev} {ad : Nat → Nat} {d : Nat} {N : Nat} {D : Nat}    {μ : Mem} (hd : 5 * D + 13 ≤ d) : Ct l yX7_passes cX7_passes 2 none d E (hM E ad μ) [.ref (ad 0)] (fun q : Mem => (none, hM E ad q)) (md_passes N D μ) := by
  refine Ct.of2 (own := RX7) (L := [(0, .ref (ad 0))]) rfl (by decide +kernel) (Nat.le_of_ble_eq_true rfl) rfl ?_
  unfold md_passes
  refine b_aload_n (n := 1) 0 dX7_passes_0 rfl rfl rfl ?_
  refine b_get (n := 4) (v := .ref (ad 5)) 0 f_X7_22 dX7_passes_1 rfl hM_o0 rfl ?_
  refine b_iconst (n := 5) (v := 0) dX7_passes_4 rfl (by decide) ?_
  refine b_dup2 (n := 6) dX7_passes_5 rfl rfl rfl ?_
  refine b_iald (n := 7) 5 dX7_passes_6 rfl hM_a5 (fun v6 => ?_)
  refine b_iconst (n := 8) (v := 1) dX7_passes_7 rfl (by decide) ?_
  refine b_iadd (n := 9) dX7_passes_8 rfl ?_
  refine b_iast (n := 10) (ws' := hM E ad (up μ 5 (0 : Int32).toNatClampNeg (v6 + 1))) 5 dX7_passes_9 rfl hM_a5 hM_s5 ?_
  refine b_iconst (n := 11) (v := 0) dX7_passes_10 rfl (by decide) ?_
  refine b_istore_n (n := 12) (L' := [(1, .int 0), (0, .ref (ad 0))]) dX7_passes_11 rfl rfl (Nat.le_of_ble_eq_true rfl) rfl ?_
  refine Bd.sub (L' := [(0, .ref (ad 0)), (1, .int 0)]) [1, 0] rfl ?_
  exact w_md_passes_12 hd _ _ _
def md_pass_32 (N : Nat) (D : Nat)  : Nat → Int32 → Int32 → Mem → Option (Int32 × Mem)
  | 0, _, _, _ => none
  | n + 1, y1, y2, μ =>
    if y2 < y1 then
      ((md_passes N D μ).bind fun μ38 =>
      md_pass_32 N D n y1 (y2 + 1) μ38)
    else
      ((rd 7593 (μ 5) 0).bind fun v52 =>
      some (v52, μ))
set_option maxHeartbeats 400000 in
set_option maxRecDepth 100000 in
theorem w_md_pass_32 {l : Launch} {E : Ev} {ad : Nat → Nat} {A : Nat → Prop} {d : Nat} {N : Nat} {D : Nat}    (hd : 5 * D + 14 ≤ d)  (n : Nat) : ∀ (y1 : Int32) (y2 : Int32) (μ : Mem), Bd l E A RX7 cX7_pass 3 (some .int) d (fun q : Int32 × Mem => (some (.int q.1), hM E ad q.2)) 32 [(0, .ref (ad 0)), (1, .int y1), (2, .int y2)] [] (hM E ad μ) (md_pass_32 N D n y1 y2 μ) := by
  induction n with
  | zero => intro y1 y2 μ; exact b_none
  | succ n ih =>
    intro y1 y2 μ
    rw [md_pass_32]
    refine b_iload_n (n := 33) 2 dX7_pass_32 rfl rfl rfl ?_
    refine b_iload_n (n := 34) 1 dX7_pass_33 rfl rfl rfl ?_
    refine b_cmp_ge (n := 37) (tgt := 47) dX7_pass_34 (by decide) rfl (fun h34 => ?_) (fun h34 => ?_)
    · refine b_aload_n (n := 38) 0 dX7_pass_37 rfl rfl rfl ?_
      refine bV0wv (n := 41) (hh := (fun s : Mem => hM E ad s)) (As := []) (rest := []) 0 lk_X7_247 (c_md_passes (Nat.le_refl _)) (by omega) (fun _ => rfl) rfl rfl rfl rfl (Nat.le_of_ble_eq_true rfl) dX7_pass_38 rfl ?_
      rintro μ38
      try dsimp only
      refine b_iinc (n := 44) (L' := [(2, .int (y2 + 1)), (0, .ref (ad 0)), (1, .int y1)]) 2 1 dX7_pass_41 rfl rfl (by decide) (Nat.le_of_ble_eq_true rfl) rfl ?_
      refine b_goto (n := 32) dX7_pass_44 (by decide) ?_
      refine Bd.sub (L' := [(0, .ref (ad 0)), (1, .int y1), (2, .int (y2 + 1))]) [1, 2, 0] rfl ?_
      exact ih _ _ _
    · refine b_aload_n (n := 48) 0 dX7_pass_47 rfl rfl rfl ?_
      refine b_get (n := 51) (v := .ref (ad 5)) 0 f_X7_22 dX7_pass_48 rfl hM_o0 rfl ?_
      refine b_iconst (n := 52) (v := 0) dX7_pass_51 rfl (by decide) ?_
      refine b_iald (n := 53) 5 dX7_pass_52 rfl hM_a5 (fun v52 => ?_)
      exact b_iret dX7_pass_53 rfl rfl
def md_pass (N : Nat) (D : Nat) (x1 : Int32) (μ : Mem) : Option (Int32 × Mem) :=
  (md_isIn x1 1 200).bind fun k5 =>
  if k5 = true then
    ((rd 7593 (μ 5) 0).bind fun v19 =>
    if 99999 < v19 + x1 then
      (some ((-4), μ))
    else
      (md_pass_32 N D N x1 0 μ))
  else
    (some ((-2), μ))
set_option maxHeartbeats 400000 in
set_option maxRecDepth 100000 in
theorem c_md_pass {l : Launch} {E : Ev} {ad : Nat → Nat} {d : Nat} {N : Nat} {D : Nat}   {x1 : Int32} {μ : Mem} (hd : 5 * D + 14 ≤ d) : Ct l yX7_pass cX7_pass 3 (some .int) d E (hM E ad μ) [.ref (ad 0), .int x1] (fun q : Int32 × Mem => (some (.int q.1), hM E ad q.2)) (md_pass N D x1 μ) := by
  refine Ct.of2 (own := RX7) (L := [(0, .ref (ad 0)), (1, .int x1)]) rfl (by decide +kernel) (Nat.le_of_ble_eq_true rfl) rfl ?_
  unfold md_pass
  refine b_iload_n (n := 1) 1 dX7_pass_0 rfl rfl rfl ?_
  refine b_iconst (n := 2) (v := 1) dX7_pass_1 rfl (by decide) ?_
  refine b_sipush (n := 5) (v := 200) dX7_pass_2 rfl (by decide) ?_
  refine bSb (n := 8) (As := [.int x1, .int 1, .int 200]) (rest := []) lk_X7_38 (c_md_isIn (Nat.le_refl _)) (by omega) rfl rfl (Nat.le_of_ble_eq_true rfl) dX7_pass_5 rfl (fun k5 => ?_)
  refine b_bnz (n := 11) (tgt := 14) dX7_pass_8 (by decide) rfl (fun h8 => ?_) (fun h8 => ?_)
  · refine b_aload_n (n := 15) 0 dX7_pass_14 rfl rfl rfl ?_
    refine b_get (n := 18) (v := .ref (ad 5)) 0 f_X7_22 dX7_pass_15 rfl hM_o0 rfl ?_
    refine b_iconst (n := 19) (v := 0) dX7_pass_18 rfl (by decide) ?_
    refine b_iald (n := 20) 5 dX7_pass_19 rfl hM_a5 (fun v19 => ?_)
    refine b_iload_n (n := 21) 1 dX7_pass_20 rfl rfl rfl ?_
    refine b_iadd (n := 22) dX7_pass_21 rfl ?_
    refine b_ldc (n := 24) (v := 99999) k_X7_246 dX7_pass_22 rfl ?_
    refine b_cmp_le (n := 27) (tgt := 30) dX7_pass_24 (by decide) rfl (fun h24 => ?_) (fun h24 => ?_)
    · refine b_bipush (n := 29) (v := -4) dX7_pass_27 rfl (by decide) ?_
      exact b_iret dX7_pass_29 rfl rfl
    · refine b_iconst (n := 31) (v := 0) dX7_pass_30 rfl (by decide) ?_
      refine b_istore_n (n := 32) (L' := [(2, .int 0), (0, .ref (ad 0)), (1, .int x1)]) dX7_pass_31 rfl rfl (Nat.le_of_ble_eq_true rfl) rfl ?_
      refine Bd.sub (L' := [(0, .ref (ad 0)), (1, .int x1), (2, .int 0)]) [1, 2, 0] rfl ?_
      exact w_md_pass_32 hd _ _ _ _
  · refine b_bipush (n := 13) (v := -2) dX7_pass_11 rfl (by decide) ?_
    exact b_iret dX7_pass_13 rfl rfl
def md_instance (μ : Mem) (x1 : Int32) (x2 : Int32)  : Option (Int32) :=
  (md_isInstance μ x1).bind fun k2 =>
  if k2 = true then
    ((md_isIn x2 10 13).bind fun k15 =>
    if k15 = true then
      ((md_of x1 ((10 + x2) - 10)).bind fun k33 =>
      (rd 7593 (μ 5) k33).bind fun v36 =>
      some v36)
    else
      ((md_isIn x2 20 27).bind fun k43 =>
      if k43 = true then
        ((md_of x1 ((14 + x2) - 20)).bind fun k61 =>
        (rd 7593 (μ 5) k61).bind fun v64 =>
        some v64)
      else
        ((md_isIn x2 0 8).bind fun k70 =>
        if k70 = true then
          ((md_of x1 (1 + x2)).bind fun k84 =>
          (rd 7593 (μ 5) k84).bind fun v87 =>
          some v87)
        else
          (some ((-1))))))
  else
    (some ((-1)))
set_option maxHeartbeats 400000 in
set_option maxRecDepth 100000 in
theorem c_md_instance {l : Launch} {E : Ev} {ad : Nat → Nat} {d : Nat}   {μ : Mem} {x1 : Int32} {x2 : Int32}  (hd : 3 ≤ d) : Ct l yX7_instance cX7_instance 3 (some .int) d E (hM E ad μ) [.ref (ad 0), .int x1, .int x2] (fun v : Int32 => (some (.int v), hM E ad μ)) (md_instance μ x1 x2) := by
  refine Ct.of2 (own := RX7) (L := [(0, .ref (ad 0)), (1, .int x1), (2, .int x2)]) rfl (by decide +kernel) (Nat.le_of_ble_eq_true rfl) rfl ?_
  unfold md_instance
  refine b_aload_n (n := 1) 0 dX7_instance_0 rfl rfl rfl ?_
  refine b_iload_n (n := 2) 1 dX7_instance_1 rfl rfl rfl ?_
  refine bV0b (n := 5) (As := [.int x1]) (rest := []) 0 lk_X7_243 (c_md_isInstance (Nat.le_refl _)) (by omega) rfl rfl rfl rfl (Nat.le_of_ble_eq_true rfl) dX7_instance_2 rfl (fun k2 => ?_)
  refine b_bnz (n := 8) (tgt := 10) dX7_instance_5 (by decide) rfl (fun h5 => ?_) (fun h5 => ?_)
  · refine b_iload_n (n := 11) 2 dX7_instance_10 rfl rfl rfl ?_
    refine b_bipush (n := 13) (v := 10) dX7_instance_11 rfl (by decide) ?_
    refine b_bipush (n := 15) (v := 13) dX7_instance_13 rfl (by decide) ?_
    refine bSb (n := 18) (As := [.int x2, .int 10, .int 13]) (rest := []) lk_X7_38 (c_md_isIn (Nat.le_refl _)) (by omega) rfl rfl (Nat.le_of_ble_eq_true rfl) dX7_instance_15 rfl (fun k15 => ?_)
    refine b_bz (n := 21) (tgt := 38) dX7_instance_18 (by decide) rfl (fun h18 => ?_) (fun h18 => ?_)
    · refine b_aload_n (n := 22) 0 dX7_instance_21 rfl rfl rfl ?_
      refine b_get (n := 25) (v := .ref (ad 5)) 0 f_X7_22 dX7_instance_22 rfl hM_o0 rfl ?_
      refine b_iload_n (n := 26) 1 dX7_instance_25 rfl rfl rfl ?_
      refine b_bipush (n := 28) (v := 10) dX7_instance_26 rfl (by decide) ?_
      refine b_iload_n (n := 29) 2 dX7_instance_28 rfl rfl rfl ?_
      refine b_iadd (n := 30) dX7_instance_29 rfl ?_
      refine b_bipush (n := 32) (v := 10) dX7_instance_30 rfl (by decide) ?_
      refine b_isub (n := 33) dX7_instance_32 rfl ?_
      refine bSi (n := 36) (As := [.int x1, .int ((10 + x2) - 10)]) (rest := [.ref (ad 5)]) lk_X7_163 (c_md_of (Nat.le_refl _)) (by omega) rfl rfl (Nat.le_of_ble_eq_true rfl) dX7_instance_33 rfl (fun k33 => ?_)
      refine b_iald (n := 37) 5 dX7_instance_36 rfl hM_a5 (fun v36 => ?_)
      exact b_iret dX7_instance_37 rfl rfl
    · refine b_iload_n (n := 39) 2 dX7_instance_38 rfl rfl rfl ?_
      refine b_bipush (n := 41) (v := 20) dX7_instance_39 rfl (by decide) ?_
      refine b_bipush (n := 43) (v := 27) dX7_instance_41 rfl (by decide) ?_
      refine bSb (n := 46) (As := [.int x2, .int 20, .int 27]) (rest := []) lk_X7_38 (c_md_isIn (Nat.le_refl _)) (by omega) rfl rfl (Nat.le_of_ble_eq_true rfl) dX7_instance_43 rfl (fun k43 => ?_)
      refine b_bz (n := 49) (tgt := 66) dX7_instance_46 (by decide) rfl (fun h46 => ?_) (fun h46 => ?_)
      · refine b_aload_n (n := 50) 0 dX7_instance_49 rfl rfl rfl ?_
        refine b_get (n := 53) (v := .ref (ad 5)) 0 f_X7_22 dX7_instance_50 rfl hM_o0 rfl ?_
        refine b_iload_n (n := 54) 1 dX7_instance_53 rfl rfl rfl ?_
        refine b_bipush (n := 56) (v := 14) dX7_instance_54 rfl (by decide) ?_
        refine b_iload_n (n := 57) 2 dX7_instance_56 rfl rfl rfl ?_
        refine b_iadd (n := 58) dX7_instance_57 rfl ?_
        refine b_bipush (n := 60) (v := 20) dX7_instance_58 rfl (by decide) ?_
        refine b_isub (n := 61) dX7_instance_60 rfl ?_
        refine bSi (n := 64) (As := [.int x1, .int ((14 + x2) - 20)]) (rest := [.ref (ad 5)]) lk_X7_163 (c_md_of (Nat.le_refl _)) (by omega) rfl rfl (Nat.le_of_ble_eq_true rfl) dX7_instance_61 rfl (fun k61 => ?_)
        refine b_iald (n := 65) 5 dX7_instance_64 rfl hM_a5 (fun v64 => ?_)
        exact b_iret dX7_instance_65 rfl rfl
      · refine b_iload_n (n := 67) 2 dX7_instance_66 rfl rfl rfl ?_
        refine b_iconst (n := 68) (v := 0) dX7_instance_67 rfl (by decide) ?_
        refine b_bipush (n := 70) (v := 8) dX7_instance_68 rfl (by decide) ?_
        refine bSb (n := 73) (As := [.int x2, .int 0, .int 8]) (rest := []) lk_X7_38 (c_md_isIn (Nat.le_refl _)) (by omega) rfl rfl (Nat.le_of_ble_eq_true rfl) dX7_instance_70 rfl (fun k70 => ?_)
        refine b_bz (n := 76) (tgt := 91) dX7_instance_73 (by decide) rfl (fun h73 => ?_) (fun h73 => ?_)
        · refine b_aload_n (n := 77) 0 dX7_instance_76 rfl rfl rfl ?_
          refine b_get (n := 80) (v := .ref (ad 5)) 0 f_X7_22 dX7_instance_77 rfl hM_o0 rfl ?_
          refine b_iload_n (n := 81) 1 dX7_instance_80 rfl rfl rfl ?_
          refine b_iconst (n := 82) (v := 1) dX7_instance_81 rfl (by decide) ?_
          refine b_iload_n (n := 83) 2 dX7_instance_82 rfl rfl rfl ?_
          refine b_iadd (n := 84) dX7_instance_83 rfl ?_
          refine bSi (n := 87) (As := [.int x1, .int (1 + x2)]) (rest := [.ref (ad 5)]) lk_X7_163 (c_md_of (Nat.le_refl _)) (by omega) rfl rfl (Nat.le_of_ble_eq_true rfl) dX7_instance_84 rfl (fun k84 => ?_)
          refine b_iald (n := 88) 5 dX7_instance_87 rfl hM_a5 (fun v87 => ?_)
          refine b_goto (n := 92) dX7_instance_88 (by decide) ?_
          exact b_iret dX7_instance_92 rfl rfl
        · refine b_iconst (n := 92) (v := -1) dX7_instance_91 rfl (by decide) ?_
          exact b_iret dX7_instance_92 rfl rfl
  · refine b_iconst (n := 9) (v := -1) dX7_instance_8 rfl (by decide) ?_
    exact b_iret dX7_instance_9 rfl rfl
def md_keptEntries (μ : Mem) (x1 : Int32)  : Option (Int32) :=
  (md_of x1 9).bind fun k10 =>
  (rd 7593 (μ 5) k10).bind fun v13 =>
  some (if v13 < 200 then v13 else 200)
set_option maxHeartbeats 400000 in
set_option maxRecDepth 100000 in
theorem c_md_keptEntries {l : Launch} {E : Ev} {ad : Nat → Nat} {d : Nat}   {μ : Mem} {x1 : Int32}  (hd : 2 ≤ d) : Ct l yX7_keptEntries cX7_keptEntries 2 (some .int) d E (hM E ad μ) [.ref (ad 0), .int x1] (fun v : Int32 => (some (.int v), hM E ad μ)) (md_keptEntries μ x1) := by
  refine Ct.of2 (own := RX7) (L := [(0, .ref (ad 0)), (1, .int x1)]) rfl (by decide +kernel) (Nat.le_of_ble_eq_true rfl) rfl ?_
  unfold md_keptEntries
  refine b_sipush (n := 3) (v := 200) dX7_keptEntries_0 rfl (by decide) ?_
  refine b_aload_n (n := 4) 0 dX7_keptEntries_3 rfl rfl rfl ?_
  refine b_get (n := 7) (v := .ref (ad 5)) 0 f_X7_22 dX7_keptEntries_4 rfl hM_o0 rfl ?_
  refine b_iload_n (n := 8) 1 dX7_keptEntries_7 rfl rfl rfl ?_
  refine b_bipush (n := 10) (v := 9) dX7_keptEntries_8 rfl (by decide) ?_
  refine bSi (n := 13) (As := [.int x1, .int 9]) (rest := [.ref (ad 5), .int 200]) lk_X7_163 (c_md_of (Nat.le_refl _)) (by omega) rfl rfl (Nat.le_of_ble_eq_true rfl) dX7_keptEntries_10 rfl (fun k10 => ?_)
  refine b_iald (n := 14) 5 dX7_keptEntries_13 rfl hM_a5 (fun v13 => ?_)
  refine b_mmin (n := 17) mw_X7_250 (by omega) (Nat.le_of_ble_eq_true rfl) dX7_keptEntries_14 rfl ?_
  exact b_iret dX7_keptEntries_17 rfl rfl
def md_entry (μ : Mem) (x1 : Int32) (x2 : Int32) (x3 : Int32)  : Option (Int32) :=
  (md_isInstance μ x1).bind fun k2 =>
  if k2 = true then
    ((md_keptEntries μ x1).bind fun k12 =>
    (md_isIn x2 0 (k12 - 1)).bind fun k17 =>
    if k17 = true then
      ((md_isIn x3 0 2).bind fun k26 =>
      if k26 = true then
        ((md_of x1 ((22 + (3 * x2)) + x3)).bind fun k45 =>
        (rd 7593 (μ 5) k45).bind fun v48 =>
        some v48)
      else
        (some ((-1))))
    else
      (some ((-1))))
  else
    (some ((-1)))
set_option maxHeartbeats 400000 in
set_option maxRecDepth 100000 in
theorem c_md_entry {l : Launch} {E : Ev} {ad : Nat → Nat} {d : Nat}   {μ : Mem} {x1 : Int32} {x2 : Int32} {x3 : Int32}  (hd : 3 ≤ d) : Ct l yX7_entry cX7_entry 4 (some .int) d E (hM E ad μ) [.ref (ad 0), .int x1, .int x2, .int x3] (fun v : Int32 => (some (.int v), hM E ad μ)) (md_entry μ x1 x2 x3) := by
  refine Ct.of2 (own := RX7) (L := [(0, .ref (ad 0)), (1, .int x1), (2, .int x2), (3, .int x3)]) rfl (by decide +kernel) (Nat.le_of_ble_eq_true rfl) rfl ?_
  unfold md_entry
  refine b_aload_n (n := 1) 0 dX7_entry_0 rfl rfl rfl ?_
  refine b_iload_n (n := 2) 1 dX7_entry_1 rfl rfl rfl ?_
  refine bV0b (n := 5) (As := [.int x1]) (rest := []) 0 lk_X7_243 (c_md_isInstance (Nat.le_refl _)) (by omega) rfl rfl rfl rfl (Nat.le_of_ble_eq_true rfl) dX7_entry_2 rfl (fun k2 => ?_)
  refine b_bz (n := 8) (tgt := 52) dX7_entry_5 (by decide) rfl (fun h5 => ?_) (fun h5 => ?_)
  · refine b_iload_n (n := 9) 2 dX7_entry_8 rfl rfl rfl ?_
    refine b_iconst (n := 10) (v := 0) dX7_entry_9 rfl (by decide) ?_
    refine b_aload_n (n := 11) 0 dX7_entry_10 rfl rfl rfl ?_
    refine b_iload_n (n := 12) 1 dX7_entry_11 rfl rfl rfl ?_
    refine bV0i (n := 15) (As := [.int x1]) (rest := [.int 0, .int x2]) 0 lk_X7_253 (c_md_keptEntries (Nat.le_refl _)) (by omega) rfl rfl rfl rfl (Nat.le_of_ble_eq_true rfl) dX7_entry_12 rfl (fun k12 => ?_)
    refine b_iconst (n := 16) (v := 1) dX7_entry_15 rfl (by decide) ?_
    refine b_isub (n := 17) dX7_entry_16 rfl ?_
    refine bSb (n := 20) (As := [.int x2, .int 0, .int (k12 - 1)]) (rest := []) lk_X7_38 (c_md_isIn (Nat.le_refl _)) (by omega) rfl rfl (Nat.le_of_ble_eq_true rfl) dX7_entry_17 rfl (fun k17 => ?_)
    refine b_bz (n := 23) (tgt := 52) dX7_entry_20 (by decide) rfl (fun h20 => ?_) (fun h20 => ?_)
    · refine b_iload_n (n := 24) 3 dX7_entry_23 rfl rfl rfl ?_
      refine b_iconst (n := 25) (v := 0) dX7_entry_24 rfl (by decide) ?_
      refine b_iconst (n := 26) (v := 2) dX7_entry_25 rfl (by decide) ?_
      refine bSb (n := 29) (As := [.int x3, .int 0, .int 2]) (rest := []) lk_X7_38 (c_md_isIn (Nat.le_refl _)) (by omega) rfl rfl (Nat.le_of_ble_eq_true rfl) dX7_entry_26 rfl (fun k26 => ?_)
      refine b_bz (n := 32) (tgt := 52) dX7_entry_29 (by decide) rfl (fun h29 => ?_) (fun h29 => ?_)
      · refine b_aload_n (n := 33) 0 dX7_entry_32 rfl rfl rfl ?_
        refine b_get (n := 36) (v := .ref (ad 5)) 0 f_X7_22 dX7_entry_33 rfl hM_o0 rfl ?_
        refine b_iload_n (n := 37) 1 dX7_entry_36 rfl rfl rfl ?_
        refine b_bipush (n := 39) (v := 22) dX7_entry_37 rfl (by decide) ?_
        refine b_iconst (n := 40) (v := 3) dX7_entry_39 rfl (by decide) ?_
        refine b_iload_n (n := 41) 2 dX7_entry_40 rfl rfl rfl ?_
        refine b_imul (n := 42) dX7_entry_41 rfl ?_
        refine b_iadd (n := 43) dX7_entry_42 rfl ?_
        refine b_iload_n (n := 44) 3 dX7_entry_43 rfl rfl rfl ?_
        refine b_iadd (n := 45) dX7_entry_44 rfl ?_
        refine bSi (n := 48) (As := [.int x1, .int ((22 + (3 * x2)) + x3)]) (rest := [.ref (ad 5)]) lk_X7_163 (c_md_of (Nat.le_refl _)) (by omega) rfl rfl (Nat.le_of_ble_eq_true rfl) dX7_entry_45 rfl (fun k45 => ?_)
        refine b_iald (n := 49) 5 dX7_entry_48 rfl hM_a5 (fun v48 => ?_)
        refine b_goto (n := 53) dX7_entry_49 (by decide) ?_
        exact b_iret dX7_entry_53 rfl rfl
      · refine b_iconst (n := 53) (v := -1) dX7_entry_52 rfl (by decide) ?_
        exact b_iret dX7_entry_53 rfl rfl
    · refine b_iconst (n := 53) (v := -1) dX7_entry_52 rfl (by decide) ?_
      exact b_iret dX7_entry_53 rfl rfl
  · refine b_iconst (n := 53) (v := -1) dX7_entry_52 rfl (by decide) ?_
    exact b_iret dX7_entry_53 rfl rfl
def md_runs (μ : Mem) (x1 : Int32) (x2 : Int32)  : Option (Bool) :=
  (md_nodePart μ x1 x2 0).bind fun k4 =>
  (md_isIn k4 1 3).bind fun k9 =>
  if k9 = true then
    ((md_at x1 x2 0).bind fun k22 =>
    (rd 7593 (μ 5) k22).bind fun v25 =>
    if v25 = 1 then
      (some true)
    else
      (some false))
  else
    (some false)
set_option maxHeartbeats 400000 in
set_option maxRecDepth 100000 in
theorem c_md_runs {l : Launch} {E : Ev} {ad : Nat → Nat} {d : Nat}   {μ : Mem} {x1 : Int32} {x2 : Int32}  (hd : 4 ≤ d) : Ct l yX7_runs cX7_runs 3 (some .boolean) d E (hM E ad μ) [.ref (ad 0), .int x1, .int x2] (fun v : Bool => (some (.int (b2i v)), hM E ad μ)) (md_runs μ x1 x2) := by
  refine Ct.of2 (own := RX7) (L := [(0, .ref (ad 0)), (1, .int x1), (2, .int x2)]) rfl (by decide +kernel) (Nat.le_of_ble_eq_true rfl) rfl ?_
  unfold md_runs
  refine b_aload_n (n := 1) 0 dX7_runs_0 rfl rfl rfl ?_
  refine b_iload_n (n := 2) 1 dX7_runs_1 rfl rfl rfl ?_
  refine b_iload_n (n := 3) 2 dX7_runs_2 rfl rfl rfl ?_
  refine b_iconst (n := 4) (v := 0) dX7_runs_3 rfl (by decide) ?_
  refine bV0i (n := 7) (As := [.int x1, .int x2, .int 0]) (rest := []) 0 lk_X7_171 (c_md_nodePart (Nat.le_refl _)) (by omega) rfl rfl rfl rfl (Nat.le_of_ble_eq_true rfl) dX7_runs_4 rfl (fun k4 => ?_)
  refine b_iconst (n := 8) (v := 1) dX7_runs_7 rfl (by decide) ?_
  refine b_iconst (n := 9) (v := 3) dX7_runs_8 rfl (by decide) ?_
  refine bSb (n := 12) (As := [.int k4, .int 1, .int 3]) (rest := []) lk_X7_38 (c_md_isIn (Nat.le_refl _)) (by omega) rfl rfl (Nat.le_of_ble_eq_true rfl) dX7_runs_9 rfl (fun k9 => ?_)
  refine b_bz (n := 15) (tgt := 34) dX7_runs_12 (by decide) rfl (fun h12 => ?_) (fun h12 => ?_)
  · refine b_aload_n (n := 16) 0 dX7_runs_15 rfl rfl rfl ?_
    refine b_get (n := 19) (v := .ref (ad 5)) 0 f_X7_22 dX7_runs_16 rfl hM_o0 rfl ?_
    refine b_iload_n (n := 20) 1 dX7_runs_19 rfl rfl rfl ?_
    refine b_iload_n (n := 21) 2 dX7_runs_20 rfl rfl rfl ?_
    refine b_iconst (n := 22) (v := 0) dX7_runs_21 rfl (by decide) ?_
    refine bSi (n := 25) (As := [.int x1, .int x2, .int 0]) (rest := [.ref (ad 5)]) lk_X7_169 (c_md_at (Nat.le_refl _)) (by omega) rfl rfl (Nat.le_of_ble_eq_true rfl) dX7_runs_22 rfl (fun k22 => ?_)
    refine b_iald (n := 26) 5 dX7_runs_25 rfl hM_a5 (fun v25 => ?_)
    refine b_iconst (n := 27) (v := 1) dX7_runs_26 rfl (by decide) ?_
    refine b_cmp_ne (n := 30) (tgt := 34) dX7_runs_27 (by decide) rfl (fun h27 => ?_) (fun h27 => ?_)
    · refine b_iconst (n := 31) (v := 1) dX7_runs_30 rfl (by decide) ?_
      refine b_goto (n := 35) dX7_runs_31 (by decide) ?_
      exact b_zret (b := true) dX7_runs_35 rfl rfl
    · refine b_iconst (n := 35) (v := 0) dX7_runs_34 rfl (by decide) ?_
      exact b_zret (b := false) dX7_runs_35 rfl rfl
  · refine b_iconst (n := 35) (v := 0) dX7_runs_34 rfl (by decide) ?_
    exact b_zret (b := false) dX7_runs_35 rfl rfl
def md_running_15 (N : Nat) (μ : Mem)  : Nat → Int32 → Int32 → Int32 → Int32 → Option (Int32)
  | 0, _, _, _, _ => none
  | n + 1, y1, y2, y3, y4 =>
    (md_versionOf μ y1).bind fun k24 =>
    (rd 68 (μ 3) (4 * k24)).bind fun v28 =>
    if y4 < v28 then
      ((md_runs μ y1 y4).bind fun k36 =>
      if k36 = true then
        (if y3 = y2 then
          ((md_nodePart μ y1 y4 7).bind fun k53 =>
          some k53)
        else
          (md_running_15 N μ n y1 y2 (y3 + 1) (y4 + 1)))
      else
        (md_running_15 N μ n y1 y2 y3 (y4 + 1)))
    else
      (if y2 = (-1) then
        (some y3)
      else
        (some ((-1))))
set_option maxHeartbeats 400000 in
set_option maxRecDepth 100000 in
theorem w_md_running_15 {l : Launch} {E : Ev} {ad : Nat → Nat} {A : Nat → Prop} {d : Nat} {N : Nat}  {μ : Mem}  (hd : 5 ≤ d)  (n : Nat) : ∀ (y1 : Int32) (y2 : Int32) (y3 : Int32) (y4 : Int32), Bd l E A RX7 cX7_running 5 (some .int) d (fun v : Int32 => (some (.int v), hM E ad μ)) 15 [(0, .ref (ad 0)), (1, .int y1), (2, .int y2), (3, .int y3), (4, .int y4)] [] (hM E ad μ) (md_running_15 N μ n y1 y2 y3 y4) := by
  induction n with
  | zero => intro y1 y2 y3 y4; exact b_none
  | succ n ih =>
    intro y1 y2 y3 y4
    rw [md_running_15]
    refine b_iload (n := 17) 4 dX7_running_15 rfl rfl ?_
    refine b_aload_n (n := 18) 0 dX7_running_17 rfl rfl rfl ?_
    refine b_get (n := 21) (v := .ref (ad 3)) 0 f_X7_16 dX7_running_18 rfl hM_o0 rfl ?_
    refine b_iconst (n := 22) (v := 4) dX7_running_21 rfl (by decide) ?_
    refine b_aload_n (n := 23) 0 dX7_running_22 rfl rfl rfl ?_
    refine b_iload_n (n := 24) 1 dX7_running_23 rfl rfl rfl ?_
    refine bV0i (n := 27) (As := [.int y1]) (rest := [.int 4, .ref (ad 3), .int y4]) 0 lk_X7_166 (c_md_versionOf (Nat.le_refl _)) (by omega) rfl rfl rfl rfl (Nat.le_of_ble_eq_true rfl) dX7_running_24 rfl (fun k24 => ?_)
    refine b_imul (n := 28) dX7_running_27 rfl ?_
    refine b_iald (n := 29) 3 dX7_running_28 rfl hM_a3 (fun v28 => ?_)
    refine b_cmp_ge (n := 32) (tgt := 66) dX7_running_29 (by decide) rfl (fun h29 => ?_) (fun h29 => ?_)
    · refine b_aload_n (n := 33) 0 dX7_running_32 rfl rfl rfl ?_
      refine b_iload_n (n := 34) 1 dX7_running_33 rfl rfl rfl ?_
      refine b_iload (n := 36) 4 dX7_running_34 rfl rfl ?_
      refine bV0b (n := 39) (As := [.int y1, .int y4]) (rest := []) 0 lk_X7_256 (c_md_runs (Nat.le_refl _)) (by omega) rfl rfl rfl rfl (Nat.le_of_ble_eq_true rfl) dX7_running_36 rfl (fun k36 => ?_)
      refine b_bz (n := 42) (tgt := 60) dX7_running_39 (by decide) rfl (fun h39 => ?_) (fun h39 => ?_)
      · refine b_iload_n (n := 43) 3 dX7_running_42 rfl rfl rfl ?_
        refine b_iload_n (n := 44) 2 dX7_running_43 rfl rfl rfl ?_
        refine b_cmp_ne (n := 47) (tgt := 57) dX7_running_44 (by decide) rfl (fun h44 => ?_) (fun h44 => ?_)
        · refine b_aload_n (n := 48) 0 dX7_running_47 rfl rfl rfl ?_
          refine b_iload_n (n := 49) 1 dX7_running_48 rfl rfl rfl ?_
          refine b_iload (n := 51) 4 dX7_running_49 rfl rfl ?_
          refine b_bipush (n := 53) (v := 7) dX7_running_51 rfl (by decide) ?_
          refine bV0i (n := 56) (As := [.int y1, .int y4, .int 7]) (rest := []) 0 lk_X7_171 (c_md_nodePart (Nat.le_refl _)) (by omega) rfl rfl rfl rfl (Nat.le_of_ble_eq_true rfl) dX7_running_53 rfl (fun k53 => ?_)
          exact b_iret dX7_running_56 rfl rfl
        · refine b_iinc (n := 60) (L' := [(3, .int (y3 + 1)), (0, .ref (ad 0)), (1, .int y1), (2, .int y2), (4, .int y4)]) 3 1 dX7_running_57 rfl rfl (by decide) (Nat.le_of_ble_eq_true rfl) rfl ?_
          refine b_iinc (n := 63) (L' := [(4, .int (y4 + 1)), (3, .int (y3 + 1)), (0, .ref (ad 0)), (1, .int y1), (2, .int y2)]) 4 1 dX7_running_60 rfl rfl (by decide) (Nat.le_of_ble_eq_true rfl) rfl ?_
          refine b_goto (n := 15) dX7_running_63 (by decide) ?_
          refine Bd.sub (L' := [(0, .ref (ad 0)), (1, .int y1), (2, .int y2), (3, .int (y3 + 1)), (4, .int (y4 + 1))]) [2, 3, 4, 1, 0] rfl ?_
          exact ih _ _ _ _
      · refine b_iinc (n := 63) (L' := [(4, .int (y4 + 1)), (0, .ref (ad 0)), (1, .int y1), (2, .int y2), (3, .int y3)]) 4 1 dX7_running_60 rfl rfl (by decide) (Nat.le_of_ble_eq_true rfl) rfl ?_
        refine b_goto (n := 15) dX7_running_63 (by decide) ?_
        refine Bd.sub (L' := [(0, .ref (ad 0)), (1, .int y1), (2, .int y2), (3, .int y3), (4, .int (y4 + 1))]) [1, 2, 3, 4, 0] rfl ?_
        exact ih _ _ _ _
    · refine b_iload_n (n := 67) 2 dX7_running_66 rfl rfl rfl ?_
      refine b_iconst (n := 68) (v := -1) dX7_running_67 rfl (by decide) ?_
      refine b_cmp_ne (n := 71) (tgt := 75) dX7_running_68 (by decide) rfl (fun h68 => ?_) (fun h68 => ?_)
      · refine b_iload_n (n := 72) 3 dX7_running_71 rfl rfl rfl ?_
        refine b_goto (n := 76) dX7_running_72 (by decide) ?_
        exact b_iret dX7_running_76 rfl rfl
      · refine b_iconst (n := 76) (v := -1) dX7_running_75 rfl (by decide) ?_
        exact b_iret dX7_running_76 rfl rfl
def md_running (N : Nat) (μ : Mem) (x1 : Int32) (x2 : Int32)  : Option (Int32) :=
  (md_isInstance μ x1).bind fun k2 =>
  if k2 = true then
    (md_running_15 N μ N x1 x2 0 0)
  else
    (some ((-1)))
set_option maxHeartbeats 400000 in
set_option maxRecDepth 100000 in
theorem c_md_running {l : Launch} {E : Ev} {ad : Nat → Nat} {d : Nat} {N : Nat}  {μ : Mem} {x1 : Int32} {x2 : Int32}  (hd : 5 ≤ d) : Ct l yX7_running cX7_running 5 (some .int) d E (hM E ad μ) [.ref (ad 0), .int x1, .int x2] (fun v : Int32 => (some (.int v), hM E ad μ)) (md_running N μ x1 x2) := by
  refine Ct.of2 (own := RX7) (L := [(0, .ref (ad 0)), (1, .int x1), (2, .int x2)]) rfl (by decide +kernel) (Nat.le_of_ble_eq_true rfl) rfl ?_
  unfold md_running
  refine b_aload_n (n := 1) 0 dX7_running_0 rfl rfl rfl ?_
  refine b_iload_n (n := 2) 1 dX7_running_1 rfl rfl rfl ?_
  refine bV0b (n := 5) (As := [.int x1]) (rest := []) 0 lk_X7_243 (c_md_isInstance (Nat.le_refl _)) (by omega) rfl rfl rfl rfl (Nat.le_of_ble_eq_true rfl) dX7_running_2 rfl (fun k2 => ?_)
  refine b_bnz (n := 8) (tgt := 10) dX7_running_5 (by decide) rfl (fun h5 => ?_) (fun h5 => ?_)
  · refine b_iconst (n := 11) (v := 0) dX7_running_10 rfl (by decide) ?_
    refine b_istore_n (n := 12) (L' := [(3, .int 0), (0, .ref (ad 0)), (1, .int x1), (2, .int x2)]) dX7_running_11 rfl rfl (Nat.le_of_ble_eq_true rfl) rfl ?_
    refine b_iconst (n := 13) (v := 0) dX7_running_12 rfl (by decide) ?_
    refine b_istore (n := 15) (L' := [(4, .int 0), (3, .int 0), (0, .ref (ad 0)), (1, .int x1), (2, .int x2)]) dX7_running_13 rfl (Nat.le_of_ble_eq_true rfl) rfl ?_
    refine Bd.sub (L' := [(0, .ref (ad 0)), (1, .int x1), (2, .int x2), (3, .int 0), (4, .int 0)]) [2, 3, 4, 1, 0] rfl ?_
    exact w_md_running_15 hd _ _ _ _ _
  · refine b_iconst (n := 9) (v := -1) dX7_running_8 rfl (by decide) ?_
    exact b_iret dX7_running_9 rfl rfl
def md_dueAt (μ : Mem) (x1 : Int32) (x2 : Int32)  : Option (Int32) :=
  (md_at x1 x2 1).bind fun k7 =>
  (rd 7593 (μ 5) k7).bind fun v10 =>
  (md_at x1 x2 7).bind fun k20 =>
  (rd 7593 (μ 5) k20).bind fun v23 =>
  if v23 < 0 then
    ((md_runs μ x1 x2).bind fun k43 =>
    if k43 = true then
      ((md_nodePart μ x1 x2 0).bind fun k55 =>
      if k55 = 1 then
        ((md_at x1 x2 3).bind fun k91 =>
        (rd 7593 (μ 5) k91).bind fun v94 =>
        if v94 < 0 then
          ((md_at x1 x2 4).bind fun k119 =>
          (rd 7593 (μ 5) k119).bind fun v122 =>
          some v122)
        else
          ((md_at x1 x2 3).bind fun k105 =>
          (rd 7593 (μ 5) k105).bind fun v108 =>
          some v108))
      else if k55 = 2 then
        ((md_nodePart μ x1 x2 1).bind fun k129 =>
        some (v10 + k129))
      else 
        ((md_nodePart μ x1 x2 2).bind fun k138 =>
        if k138 < 0 then
          (some ((-1)))
        else
          ((md_nodePart μ x1 x2 2).bind fun k153 =>
          some (v10 + k153))))
    else
      (some ((-1))))
  else
    ((md_at x1 x2 9).bind fun k35 =>
    (rd 7593 (μ 5) k35).bind fun v38 =>
    some v38)
set_option maxHeartbeats 400000 in
set_option maxRecDepth 100000 in
theorem c_md_dueAt {l : Launch} {E : Ev} {ad : Nat → Nat} {d : Nat}   {μ : Mem} {x1 : Int32} {x2 : Int32}  (hd : 5 ≤ d) : Ct l yX7_dueAt cX7_dueAt 4 (some .int) d E (hM E ad μ) [.ref (ad 0), .int x1, .int x2] (fun v : Int32 => (some (.int v), hM E ad μ)) (md_dueAt μ x1 x2) := by
  refine Ct.of2 (own := RX7) (L := [(0, .ref (ad 0)), (1, .int x1), (2, .int x2)]) rfl (by decide +kernel) (Nat.le_of_ble_eq_true rfl) rfl ?_
  unfold md_dueAt
  refine b_aload_n (n := 1) 0 dX7_dueAt_0 rfl rfl rfl ?_
  refine b_get (n := 4) (v := .ref (ad 5)) 0 f_X7_22 dX7_dueAt_1 rfl hM_o0 rfl ?_
  refine b_iload_n (n := 5) 1 dX7_dueAt_4 rfl rfl rfl ?_
  refine b_iload_n (n := 6) 2 dX7_dueAt_5 rfl rfl rfl ?_
  refine b_iconst (n := 7) (v := 1) dX7_dueAt_6 rfl (by decide) ?_
  refine bSi (n := 10) (As := [.int x1, .int x2, .int 1]) (rest := [.ref (ad 5)]) lk_X7_169 (c_md_at (Nat.le_refl _)) (by omega) rfl rfl (Nat.le_of_ble_eq_true rfl) dX7_dueAt_7 rfl (fun k7 => ?_)
  refine b_iald (n := 11) 5 dX7_dueAt_10 rfl hM_a5 (fun v10 => ?_)
  refine b_istore_n (n := 12) (L' := [(3, .int v10), (0, .ref (ad 0)), (1, .int x1), (2, .int x2)]) dX7_dueAt_11 rfl rfl (Nat.le_of_ble_eq_true rfl) rfl ?_
  refine b_aload_n (n := 13) 1 dX7_dueAt_12 rfl rfl rfl ?_
  refine b_get (n := 16) (v := .ref (ad 5)) 0 f_X7_22 dX7_dueAt_13 rfl hM_o0 rfl ?_
  refine b_iload_n (n := 17) 2 dX7_dueAt_16 rfl rfl rfl ?_
  refine b_iload_n (n := 18) 3 dX7_dueAt_17 rfl rfl rfl ?_
  refine b_bipush (n := 20) (v := 7) dX7_dueAt_18 rfl (by decide) ?_
  refine bSi (n := 23) (As := [.int x1, .int x2, .int 7]) (rest := [.ref (ad 5)]) lk_X7_169 (c_md_at (Nat.le_refl _)) (by omega) rfl rfl (Nat.le_of_ble_eq_true rfl) dX7_dueAt_20 rfl (fun k20 => ?_)
  refine b_iald (n := 24) 5 dX7_dueAt_23 rfl hM_a5 (fun v23 => ?_)
  refine b_if_lt (n := 27) (tgt := 40) dX7_dueAt_24 (by decide) rfl (fun h24 => ?_) (fun h24 => ?_)
  · refine b_aload_n (n := 41) 1 dX7_dueAt_40 rfl rfl rfl ?_
    refine b_iload_n (n := 42) 2 dX7_dueAt_41 rfl rfl rfl ?_
    refine b_iload_n (n := 43) 3 dX7_dueAt_42 rfl rfl rfl ?_
    refine bV0b (n := 46) (As := [.int x1, .int x2]) (rest := []) 0 lk_X7_256 (c_md_runs (Nat.le_refl _)) (by omega) rfl rfl rfl rfl (Nat.le_of_ble_eq_true rfl) dX7_dueAt_43 rfl (fun k43 => ?_)
    refine b_bnz (n := 49) (tgt := 51) dX7_dueAt_46 (by decide) rfl (fun h46 => ?_) (fun h46 => ?_)
    · refine b_aload_n (n := 52) 1 dX7_dueAt_51 rfl rfl rfl ?_
      refine b_iload_n (n := 53) 2 dX7_dueAt_52 rfl rfl rfl ?_
      refine b_iload_n (n := 54) 3 dX7_dueAt_53 rfl rfl rfl ?_
      refine b_iconst (n := 55) (v := 0) dX7_dueAt_54 rfl (by decide) ?_
      refine bV0i (n := 58) (As := [.int x1, .int x2, .int 0]) (rest := []) 0 lk_X7_171 (c_md_nodePart (Nat.le_refl _)) (by omega) rfl rfl rfl rfl (Nat.le_of_ble_eq_true rfl) dX7_dueAt_55 rfl (fun k55 => ?_)
      refine b_if (fun h58_1 => ?_) (fun h58_1 => ?_)
      · refine b_lsw (n := 84) (off := 26) dX7_dueAt_58 (by decide) (by rw [h58_1]; decide) (by decide) ?_
        refine b_aload_n (n := 85) 1 dX7_dueAt_84 rfl rfl rfl ?_
        refine b_get (n := 88) (v := .ref (ad 5)) 0 f_X7_22 dX7_dueAt_85 rfl hM_o0 rfl ?_
        refine b_iload_n (n := 89) 2 dX7_dueAt_88 rfl rfl rfl ?_
        refine b_iload_n (n := 90) 3 dX7_dueAt_89 rfl rfl rfl ?_
        refine b_iconst (n := 91) (v := 3) dX7_dueAt_90 rfl (by decide) ?_
        refine bSi (n := 94) (As := [.int x1, .int x2, .int 3]) (rest := [.ref (ad 5)]) lk_X7_169 (c_md_at (Nat.le_refl _)) (by omega) rfl rfl (Nat.le_of_ble_eq_true rfl) dX7_dueAt_91 rfl (fun k91 => ?_)
        refine b_iald (n := 95) 5 dX7_dueAt_94 rfl hM_a5 (fun v94 => ?_)
        refine b_if_lt (n := 98) (tgt := 112) dX7_dueAt_95 (by decide) rfl (fun h95 => ?_) (fun h95 => ?_)
        · refine b_aload_n (n := 113) 1 dX7_dueAt_112 rfl rfl rfl ?_
          refine b_get (n := 116) (v := .ref (ad 5)) 0 f_X7_22 dX7_dueAt_113 rfl hM_o0 rfl ?_
          refine b_iload_n (n := 117) 2 dX7_dueAt_116 rfl rfl rfl ?_
          refine b_iload_n (n := 118) 3 dX7_dueAt_117 rfl rfl rfl ?_
          refine b_iconst (n := 119) (v := 4) dX7_dueAt_118 rfl (by decide) ?_
          refine bSi (n := 122) (As := [.int x1, .int x2, .int 4]) (rest := [.ref (ad 5)]) lk_X7_169 (c_md_at (Nat.le_refl _)) (by omega) rfl rfl (Nat.le_of_ble_eq_true rfl) dX7_dueAt_119 rfl (fun k119 => ?_)
          refine b_iald (n := 123) 5 dX7_dueAt_122 rfl hM_a5 (fun v122 => ?_)
          exact b_iret dX7_dueAt_123 rfl rfl
        · refine b_aload_n (n := 99) 1 dX7_dueAt_98 rfl rfl rfl ?_
          refine b_get (n := 102) (v := .ref (ad 5)) 0 f_X7_22 dX7_dueAt_99 rfl hM_o0 rfl ?_
          refine b_iload_n (n := 103) 2 dX7_dueAt_102 rfl rfl rfl ?_
          refine b_iload_n (n := 104) 3 dX7_dueAt_103 rfl rfl rfl ?_
          refine b_iconst (n := 105) (v := 3) dX7_dueAt_104 rfl (by decide) ?_
          refine bSi (n := 108) (As := [.int x1, .int x2, .int 3]) (rest := [.ref (ad 5)]) lk_X7_169 (c_md_at (Nat.le_refl _)) (by omega) rfl rfl (Nat.le_of_ble_eq_true rfl) dX7_dueAt_105 rfl (fun k105 => ?_)
          refine b_iald (n := 109) 5 dX7_dueAt_108 rfl hM_a5 (fun v108 => ?_)
          refine b_goto (n := 123) dX7_dueAt_109 (by decide) ?_
          exact b_iret dX7_dueAt_123 rfl rfl
      refine b_if (fun h58_2 => ?_) (fun h58_2 => ?_)
      · refine b_lsw (n := 124) (off := 66) dX7_dueAt_58 (by decide) (by rw [h58_2]; decide) (by decide) ?_
        refine b_iload_n (n := 125) 0 dX7_dueAt_124 rfl rfl rfl ?_
        refine b_aload_n (n := 126) 1 dX7_dueAt_125 rfl rfl rfl ?_
        refine b_iload_n (n := 127) 2 dX7_dueAt_126 rfl rfl rfl ?_
        refine b_iload_n (n := 128) 3 dX7_dueAt_127 rfl rfl rfl ?_
        refine b_iconst (n := 129) (v := 1) dX7_dueAt_128 rfl (by decide) ?_
        refine bV0i (n := 132) (As := [.int x1, .int x2, .int 1]) (rest := [.int v10]) 0 lk_X7_171 (c_md_nodePart (Nat.le_refl _)) (by omega) rfl rfl rfl rfl (Nat.le_of_ble_eq_true rfl) dX7_dueAt_129 rfl (fun k129 => ?_)
        refine b_iadd (n := 133) dX7_dueAt_132 rfl ?_
        exact b_iret dX7_dueAt_133 rfl rfl
      refine b_lsw (n := 134) (off := 76) dX7_dueAt_58 (by decide) (by have nh58_1 := i32_ne (k := 1) h58_1 (by decide); have nh58_2 := i32_ne (k := 2) h58_2 (by decide); simp_all [Op.lookupswitch.offset] <;> (repeat rw [if_neg (by omega)])) (by decide) ?_
      refine b_aload_n (n := 135) 1 dX7_dueAt_134 rfl rfl rfl ?_
      refine b_iload_n (n := 136) 2 dX7_dueAt_135 rfl rfl rfl ?_
      refine b_iload_n (n := 137) 3 dX7_dueAt_136 rfl rfl rfl ?_
      refine b_iconst (n := 138) (v := 2) dX7_dueAt_137 rfl (by decide) ?_
      refine bV0i (n := 141) (As := [.int x1, .int x2, .int 2]) (rest := []) 0 lk_X7_171 (c_md_nodePart (Nat.le_refl _)) (by omega) rfl rfl rfl rfl (Nat.le_of_ble_eq_true rfl) dX7_dueAt_138 rfl (fun k138 => ?_)
      refine b_if_ge (n := 144) (tgt := 148) dX7_dueAt_141 (by decide) rfl (fun h141 => ?_) (fun h141 => ?_)
      · refine b_iconst (n := 145) (v := -1) dX7_dueAt_144 rfl (by decide) ?_
        refine b_goto (n := 157) dX7_dueAt_145 (by decide) ?_
        exact b_iret dX7_dueAt_157 rfl rfl
      · refine b_iload_n (n := 149) 0 dX7_dueAt_148 rfl rfl rfl ?_
        refine b_aload_n (n := 150) 1 dX7_dueAt_149 rfl rfl rfl ?_
        refine b_iload_n (n := 151) 2 dX7_dueAt_150 rfl rfl rfl ?_
        refine b_iload_n (n := 152) 3 dX7_dueAt_151 rfl rfl rfl ?_
        refine b_iconst (n := 153) (v := 2) dX7_dueAt_152 rfl (by decide) ?_
        refine bV0i (n := 156) (As := [.int x1, .int x2, .int 2]) (rest := [.int v10]) 0 lk_X7_171 (c_md_nodePart (Nat.le_refl _)) (by omega) rfl rfl rfl rfl (Nat.le_of_ble_eq_true rfl) dX7_dueAt_153 rfl (fun k153 => ?_)
        refine b_iadd (n := 157) dX7_dueAt_156 rfl ?_
        exact b_iret dX7_dueAt_157 rfl rfl
    · refine b_iconst (n := 50) (v := -1) dX7_dueAt_49 rfl (by decide) ?_
      exact b_iret dX7_dueAt_50 rfl rfl
  · refine b_aload_n (n := 28) 1 dX7_dueAt_27 rfl rfl rfl ?_
    refine b_get (n := 31) (v := .ref (ad 5)) 0 f_X7_22 dX7_dueAt_28 rfl hM_o0 rfl ?_
    refine b_iload_n (n := 32) 2 dX7_dueAt_31 rfl rfl rfl ?_
    refine b_iload_n (n := 33) 3 dX7_dueAt_32 rfl rfl rfl ?_
    refine b_bipush (n := 35) (v := 9) dX7_dueAt_33 rfl (by decide) ?_
    refine bSi (n := 38) (As := [.int x1, .int x2, .int 9]) (rest := [.ref (ad 5)]) lk_X7_169 (c_md_at (Nat.le_refl _)) (by omega) rfl rfl (Nat.le_of_ble_eq_true rfl) dX7_dueAt_35 rfl (fun k35 => ?_)
    refine b_iald (n := 39) 5 dX7_dueAt_38 rfl hM_a5 (fun v38 => ?_)
    exact b_iret dX7_dueAt_39 rfl rfl
