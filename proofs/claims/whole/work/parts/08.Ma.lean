/-! the reference: partial pure functions, and the walk of each method (0) -/
def md_isIn  (x0 : Int32) (x1 : Int32) (x2 : Int32)  : Option (Bool) :=
  if x0 < x1 then
    (some false)
  else
    (if x2 < x0 then
      (some false)
    else
      (some true))
set_option maxHeartbeats 400000 in
set_option maxRecDepth 100000 in
theorem c_md_isIn {l : Launch} {E : Ev} {d : Nat}    {x0 : Int32} {x1 : Int32} {x2 : Int32}  (hd : 1 ≤ d) : Ct l yX7_isIn cX7_isIn 3 (some .boolean) d E ([]) [.int x0, .int x1, .int x2] (fun v : Bool => (some (.int (b2i v)), [])) (md_isIn x0 x1 x2) := by
  refine Ct.of2 (own := RX7) (L := [(0, .int x0), (1, .int x1), (2, .int x2)]) rfl (by decide +kernel) (Nat.le_of_ble_eq_true rfl) rfl ?_
  unfold md_isIn
  refine b_iload_n (n := 1) 0 dX7_isIn_0 rfl rfl rfl ?_
  refine b_iload_n (n := 2) 1 dX7_isIn_1 rfl rfl rfl ?_
  refine b_cmp_lt (n := 5) (tgt := 14) dX7_isIn_2 (by decide) rfl (fun h2 => ?_) (fun h2 => ?_)
  · refine b_iconst (n := 15) (v := 0) dX7_isIn_14 rfl (by decide) ?_
    exact b_zret (b := false) dX7_isIn_15 rfl rfl
  · refine b_iload_n (n := 6) 0 dX7_isIn_5 rfl rfl rfl ?_
    refine b_iload_n (n := 7) 2 dX7_isIn_6 rfl rfl rfl ?_
    refine b_cmp_gt (n := 10) (tgt := 14) dX7_isIn_7 (by decide) rfl (fun h7 => ?_) (fun h7 => ?_)
    · refine b_iconst (n := 15) (v := 0) dX7_isIn_14 rfl (by decide) ?_
      exact b_zret (b := false) dX7_isIn_15 rfl rfl
    · refine b_iconst (n := 11) (v := 1) dX7_isIn_10 rfl (by decide) ?_
      refine b_goto (n := 15) dX7_isIn_11 (by decide) ?_
      exact b_zret (b := true) dX7_isIn_15 rfl rfl
def md_isCode  (x0 : Int32)  : Option (Bool) :=
  (md_isIn x0 0 7).bind fun k4 =>
  some k4
set_option maxHeartbeats 400000 in
set_option maxRecDepth 100000 in
theorem c_md_isCode {l : Launch} {E : Ev} {d : Nat}    {x0 : Int32}  (hd : 2 ≤ d) : Ct l yX7_isCode cX7_isCode 1 (some .boolean) d E ([]) [.int x0] (fun v : Bool => (some (.int (b2i v)), [])) (md_isCode x0) := by
  refine Ct.of2 (own := RX7) (L := [(0, .int x0)]) rfl (by decide +kernel) (Nat.le_of_ble_eq_true rfl) rfl ?_
  unfold md_isCode
  refine b_iload_n (n := 1) 0 dX7_isCode_0 rfl rfl rfl ?_
  refine b_iconst (n := 2) (v := 0) dX7_isCode_1 rfl (by decide) ?_
  refine b_bipush (n := 4) (v := 7) dX7_isCode_2 rfl (by decide) ?_
  refine bSb (n := 7) (As := [.int x0, .int 0, .int 7]) (rest := []) lk_X7_38 (c_md_isIn (Nat.le_refl _)) (by omega) rfl rfl (Nat.le_of_ble_eq_true rfl) dX7_isCode_4 rfl (fun k4 => ?_)
  exact b_zret (b := k4) dX7_isCode_7 rfl rfl
def md_isWorkflow  (x0 : Int32)  : Option (Bool) :=
  (md_isIn x0 0 3).bind fun k3 =>
  some k3
set_option maxHeartbeats 400000 in
set_option maxRecDepth 100000 in
theorem c_md_isWorkflow {l : Launch} {E : Ev} {d : Nat}    {x0 : Int32}  (hd : 2 ≤ d) : Ct l yX7_isWorkflow cX7_isWorkflow 1 (some .boolean) d E ([]) [.int x0] (fun v : Bool => (some (.int (b2i v)), [])) (md_isWorkflow x0) := by
  refine Ct.of2 (own := RX7) (L := [(0, .int x0)]) rfl (by decide +kernel) (Nat.le_of_ble_eq_true rfl) rfl ?_
  unfold md_isWorkflow
  refine b_iload_n (n := 1) 0 dX7_isWorkflow_0 rfl rfl rfl ?_
  refine b_iconst (n := 2) (v := 0) dX7_isWorkflow_1 rfl (by decide) ?_
  refine b_iconst (n := 3) (v := 3) dX7_isWorkflow_2 rfl (by decide) ?_
  refine bSb (n := 6) (As := [.int x0, .int 0, .int 3]) (rest := []) lk_X7_38 (c_md_isIn (Nat.le_refl _)) (by omega) rfl rfl (Nat.le_of_ble_eq_true rfl) dX7_isWorkflow_3 rfl (fun k3 => ?_)
  exact b_zret (b := k3) dX7_isWorkflow_6 rfl rfl
def md_feed  (x1 : Int32) (μ : Mem) : Option (Int32 × Mem) :=
  (md_isIn x1 0 127).bind fun k4 =>
  if k4 = true then
    (if μ 0 9 = 80 then
      (some ((-4), μ))
    else
      (ck 80 (μ 0 9) <|
      some ((μ 0 9) + 1, up (up μ 8 (μ 0 9).toNatClampNeg x1) 0 9 ((μ 0 9) + 1))))
  else
    (some ((-2), μ))
set_option maxHeartbeats 400000 in
set_option maxRecDepth 100000 in
theorem c_md_feed {l : Launch} {E : Ev} {ad : Nat → Nat} {d : Nat}    {x1 : Int32} {μ : Mem} (hd : 2 ≤ d) : Ct l yX7_feed cX7_feed 2 (some .int) d E (hM E ad μ) [.ref (ad 0), .int x1] (fun q : Int32 × Mem => (some (.int q.1), hM E ad q.2)) (md_feed x1 μ) := by
  refine Ct.of2 (own := RX7) (L := [(0, .ref (ad 0)), (1, .int x1)]) rfl (by decide +kernel) (Nat.le_of_ble_eq_true rfl) rfl ?_
  unfold md_feed
  refine b_iload_n (n := 1) 1 dX7_feed_0 rfl rfl rfl ?_
  refine b_iconst (n := 2) (v := 0) dX7_feed_1 rfl (by decide) ?_
  refine b_bipush (n := 4) (v := 127) dX7_feed_2 rfl (by decide) ?_
  refine bSb (n := 7) (As := [.int x1, .int 0, .int 127]) (rest := []) lk_X7_38 (c_md_isIn (Nat.le_refl _)) (by omega) rfl rfl (Nat.le_of_ble_eq_true rfl) dX7_feed_4 rfl (fun k4 => ?_)
  refine b_bnz (n := 10) (tgt := 13) dX7_feed_7 (by decide) rfl (fun h7 => ?_) (fun h7 => ?_)
  · refine b_aload_n (n := 14) 0 dX7_feed_13 rfl rfl rfl ?_
    refine b_get (n := 17) (v := .int (μ 0 9)) 0 f_X7_42 dX7_feed_14 rfl hM_o0 rfl ?_
    refine b_bipush (n := 19) (v := 80) dX7_feed_17 rfl (by decide) ?_
    refine b_cmp_ne (n := 22) (tgt := 25) dX7_feed_19 (by decide) rfl (fun h19 => ?_) (fun h19 => ?_)
    · refine b_bipush (n := 24) (v := -4) dX7_feed_22 rfl (by decide) ?_
      exact b_iret dX7_feed_24 rfl rfl
    · refine b_aload_n (n := 26) 0 dX7_feed_25 rfl rfl rfl ?_
      refine b_get (n := 29) (v := .ref (ad 8)) 0 f_X7_31 dX7_feed_26 rfl hM_o0 rfl ?_
      refine b_aload_n (n := 30) 0 dX7_feed_29 rfl rfl rfl ?_
      refine b_get (n := 33) (v := .int (μ 0 9)) 0 f_X7_42 dX7_feed_30 rfl hM_o0 rfl ?_
      refine b_iload_n (n := 34) 1 dX7_feed_33 rfl rfl rfl ?_
      refine b_iast (n := 35) (ws' := hM E ad (up μ 8 (μ 0 9).toNatClampNeg x1)) 8 dX7_feed_34 rfl hM_a8 hM_s8 ?_
      refine b_aload_n (n := 36) 0 dX7_feed_35 rfl rfl rfl ?_
      refine b_dup (n := 37) dX7_feed_36 rfl rfl ?_
      refine b_get (n := 40) (v := .int (μ 0 9)) 0 f_X7_42 dX7_feed_37 rfl hM_o0 rfl ?_
      refine b_iconst (n := 41) (v := 1) dX7_feed_40 rfl (by decide) ?_
      refine b_iadd (n := 42) dX7_feed_41 rfl ?_
      refine b_put (n := 45) (ws' := hM E ad (up (up μ 8 (μ 0 9).toNatClampNeg x1) 0 9 ((μ 0 9) + 1))) 0 fp_X7_42 dX7_feed_42 rfl hM_o0 rfl rfl (Nat.le_of_ble_eq_true rfl) hM_p0_9 ?_
      refine b_aload_n (n := 46) 0 dX7_feed_45 rfl rfl rfl ?_
      refine b_get (n := 49) (v := .int ((μ 0 9) + 1)) 0 f_X7_42 dX7_feed_46 rfl hM_o0 rfl ?_
      exact b_iret dX7_feed_49 rfl rfl
  · refine b_bipush (n := 12) (v := -2) dX7_feed_10 rfl (by decide) ?_
    exact b_iret dX7_feed_12 rfl rfl
def md_here (μ : Mem)   : Option (Int32) :=
  if μ 0 12 < μ 0 9 then
    ((rd 80 (μ 8) (μ 0 12)).bind fun v19 =>
    some v19)
  else
    (some ((-1)))
set_option maxHeartbeats 400000 in
set_option maxRecDepth 100000 in
theorem c_md_here {l : Launch} {E : Ev} {ad : Nat → Nat} {d : Nat}   {μ : Mem}   (hd : 1 ≤ d) : Ct l yX7_here cX7_here 1 (some .int) d E (hM E ad μ) [.ref (ad 0)] (fun v : Int32 => (some (.int v), hM E ad μ)) (md_here μ) := by
  refine Ct.of2 (own := RX7) (L := [(0, .ref (ad 0))]) rfl (by decide +kernel) (Nat.le_of_ble_eq_true rfl) rfl ?_
  unfold md_here
  refine b_aload_n (n := 1) 0 dX7_here_0 rfl rfl rfl ?_
  refine b_get (n := 4) (v := .int (μ 0 12)) 0 f_X7_45 dX7_here_1 rfl hM_o0 rfl ?_
  refine b_aload_n (n := 5) 0 dX7_here_4 rfl rfl rfl ?_
  refine b_get (n := 8) (v := .int (μ 0 9)) 0 f_X7_42 dX7_here_5 rfl hM_o0 rfl ?_
  refine b_cmp_ge (n := 11) (tgt := 23) dX7_here_8 (by decide) rfl (fun h8 => ?_) (fun h8 => ?_)
  · refine b_aload_n (n := 12) 0 dX7_here_11 rfl rfl rfl ?_
    refine b_get (n := 15) (v := .ref (ad 8)) 0 f_X7_31 dX7_here_12 rfl hM_o0 rfl ?_
    refine b_aload_n (n := 16) 0 dX7_here_15 rfl rfl rfl ?_
    refine b_get (n := 19) (v := .int (μ 0 12)) 0 f_X7_45 dX7_here_16 rfl hM_o0 rfl ?_
    refine b_iald (n := 20) 8 dX7_here_19 rfl hM_a8 (fun v19 => ?_)
    refine b_goto (n := 24) dX7_here_20 (by decide) ?_
    exact b_iret dX7_here_24 rfl rfl
  · refine b_iconst (n := 24) (v := -1) dX7_here_23 rfl (by decide) ?_
    exact b_iret dX7_here_24 rfl rfl
def md_takes  (x1 : Int32) (μ : Mem) : Option (Bool × Mem) :=
  (md_here μ).bind fun k1 =>
  if k1 = x1 then
    (some (true, up μ 0 12 ((μ 0 12) + 1)))
  else
    (some (false, μ))
set_option maxHeartbeats 400000 in
set_option maxRecDepth 100000 in
theorem c_md_takes {l : Launch} {E : Ev} {ad : Nat → Nat} {d : Nat}    {x1 : Int32} {μ : Mem} (hd : 2 ≤ d) : Ct l yX7_takes cX7_takes 2 (some .boolean) d E (hM E ad μ) [.ref (ad 0), .int x1] (fun q : Bool × Mem => (some (.int (b2i q.1)), hM E ad q.2)) (md_takes x1 μ) := by
  refine Ct.of2 (own := RX7) (L := [(0, .ref (ad 0)), (1, .int x1)]) rfl (by decide +kernel) (Nat.le_of_ble_eq_true rfl) rfl ?_
  unfold md_takes
  refine b_aload_n (n := 1) 0 dX7_takes_0 rfl rfl rfl ?_
  refine bV0i (n := 4) (As := []) (rest := []) 0 lk_X7_48 (c_md_here (Nat.le_refl _)) (by omega) rfl rfl rfl rfl (Nat.le_of_ble_eq_true rfl) dX7_takes_1 rfl (fun k1 => ?_)
  refine b_iload_n (n := 5) 1 dX7_takes_4 rfl rfl rfl ?_
  refine b_cmp_eq (n := 8) (tgt := 10) dX7_takes_5 (by decide) rfl (fun h5 => ?_) (fun h5 => ?_)
  · refine b_aload_n (n := 11) 0 dX7_takes_10 rfl rfl rfl ?_
    refine b_dup (n := 12) dX7_takes_11 rfl rfl ?_
    refine b_get (n := 15) (v := .int (μ 0 12)) 0 f_X7_45 dX7_takes_12 rfl hM_o0 rfl ?_
    refine b_iconst (n := 16) (v := 1) dX7_takes_15 rfl (by decide) ?_
    refine b_iadd (n := 17) dX7_takes_16 rfl ?_
    refine b_put (n := 20) (ws' := hM E ad (up μ 0 12 ((μ 0 12) + 1))) 0 fp_X7_45 dX7_takes_17 rfl hM_o0 rfl rfl (Nat.le_of_ble_eq_true rfl) hM_p0_12 ?_
    refine b_iconst (n := 21) (v := 1) dX7_takes_20 rfl (by decide) ?_
    exact b_zret (b := true) dX7_takes_21 rfl rfl
  · refine b_iconst (n := 9) (v := 0) dX7_takes_8 rfl (by decide) ?_
    exact b_zret (b := false) dX7_takes_9 rfl rfl
def md_takesDigit  (x1 : Int32) (x2 : Int32) (μ : Mem) : Option (Bool × Mem) :=
  (md_here μ).bind fun k1 =>
  (md_isIn k1 (48 + x1) (48 + x2)).bind fun k12 =>
  if k12 = true then
    ((md_here μ).bind fun k22 =>
    some (true, up (up μ 0 18 (k22 - 48)) 0 12 ((μ 0 12) + 1)))
  else
    (some (false, μ))
set_option maxHeartbeats 400000 in
set_option maxRecDepth 100000 in
theorem c_md_takesDigit {l : Launch} {E : Ev} {ad : Nat → Nat} {d : Nat}    {x1 : Int32} {x2 : Int32} {μ : Mem} (hd : 2 ≤ d) : Ct l yX7_takesDigit cX7_takesDigit 3 (some .boolean) d E (hM E ad μ) [.ref (ad 0), .int x1, .int x2] (fun q : Bool × Mem => (some (.int (b2i q.1)), hM E ad q.2)) (md_takesDigit x1 x2 μ) := by
  refine Ct.of2 (own := RX7) (L := [(0, .ref (ad 0)), (1, .int x1), (2, .int x2)]) rfl (by decide +kernel) (Nat.le_of_ble_eq_true rfl) rfl ?_
  unfold md_takesDigit
  refine b_aload_n (n := 1) 0 dX7_takesDigit_0 rfl rfl rfl ?_
  refine bV0i (n := 4) (As := []) (rest := []) 0 lk_X7_48 (c_md_here (Nat.le_refl _)) (by omega) rfl rfl rfl rfl (Nat.le_of_ble_eq_true rfl) dX7_takesDigit_1 rfl (fun k1 => ?_)
  refine b_bipush (n := 6) (v := 48) dX7_takesDigit_4 rfl (by decide) ?_
  refine b_iload_n (n := 7) 1 dX7_takesDigit_6 rfl rfl rfl ?_
  refine b_iadd (n := 8) dX7_takesDigit_7 rfl ?_
  refine b_bipush (n := 10) (v := 48) dX7_takesDigit_8 rfl (by decide) ?_
  refine b_iload_n (n := 11) 2 dX7_takesDigit_10 rfl rfl rfl ?_
  refine b_iadd (n := 12) dX7_takesDigit_11 rfl ?_
  refine bSb (n := 15) (As := [.int k1, .int (48 + x1), .int (48 + x2)]) (rest := []) lk_X7_38 (c_md_isIn (Nat.le_refl _)) (by omega) rfl rfl (Nat.le_of_ble_eq_true rfl) dX7_takesDigit_12 rfl (fun k12 => ?_)
  refine b_bnz (n := 18) (tgt := 20) dX7_takesDigit_15 (by decide) rfl (fun h15 => ?_) (fun h15 => ?_)
  · refine b_aload_n (n := 21) 0 dX7_takesDigit_20 rfl rfl rfl ?_
    refine b_aload_n (n := 22) 0 dX7_takesDigit_21 rfl rfl rfl ?_
    refine bV0i (n := 25) (As := []) (rest := [.ref (ad 0)]) 0 lk_X7_48 (c_md_here (Nat.le_refl _)) (by omega) rfl rfl rfl rfl (Nat.le_of_ble_eq_true rfl) dX7_takesDigit_22 rfl (fun k22 => ?_)
    refine b_bipush (n := 27) (v := 48) dX7_takesDigit_25 rfl (by decide) ?_
    refine b_isub (n := 28) dX7_takesDigit_27 rfl ?_
    refine b_put (n := 31) (ws' := hM E ad (up μ 0 18 (k22 - 48))) 0 fp_X7_52 dX7_takesDigit_28 rfl hM_o0 rfl rfl (Nat.le_of_ble_eq_true rfl) hM_p0_18 ?_
    refine b_aload_n (n := 32) 0 dX7_takesDigit_31 rfl rfl rfl ?_
    refine b_dup (n := 33) dX7_takesDigit_32 rfl rfl ?_
    refine b_get (n := 36) (v := .int (μ 0 12)) 0 f_X7_45 dX7_takesDigit_33 rfl hM_o0 rfl ?_
    refine b_iconst (n := 37) (v := 1) dX7_takesDigit_36 rfl (by decide) ?_
    refine b_iadd (n := 38) dX7_takesDigit_37 rfl ?_
    refine b_put (n := 41) (ws' := hM E ad (up (up μ 0 18 (k22 - 48)) 0 12 ((μ 0 12) + 1))) 0 fp_X7_45 dX7_takesDigit_38 rfl hM_o0 rfl rfl (Nat.le_of_ble_eq_true rfl) hM_p0_12 ?_
    refine b_iconst (n := 42) (v := 1) dX7_takesDigit_41 rfl (by decide) ?_
    exact b_zret (b := true) dX7_takesDigit_42 rfl rfl
  · refine b_iconst (n := 19) (v := 0) dX7_takesDigit_18 rfl (by decide) ?_
    exact b_zret (b := false) dX7_takesDigit_19 rfl rfl
def md_takesNumber_19 (N : Nat)  : Nat → Int32 → Int32 → Mem → Option (Bool × Mem)
  | 0, _, _, _ => none
  | n + 1, y1, y2, μ =>
    if y2 < 3 then
      (if 0 < y1 then
        ((md_here μ).bind fun k29 =>
        (md_isIn k29 48 57).bind fun k36 =>
        if k36 = true then
          ((md_here μ).bind fun k47 =>
          md_takesNumber_19 N n (((10 * y1) + k47) - 48) (y2 + 1) (up μ 0 12 ((μ 0 12) + 1)))
        else
          (some (true, up μ 0 18 y1)))
      else
        (some (true, up μ 0 18 y1)))
    else
      (some (true, up μ 0 18 y1))
set_option maxHeartbeats 400000 in
set_option maxRecDepth 100000 in
theorem w_md_takesNumber_19 {l : Launch} {E : Ev} {ad : Nat → Nat} {A : Nat → Prop} {d : Nat} {N : Nat}    (hd : 3 ≤ d)  (n : Nat) : ∀ (y1 : Int32) (y2 : Int32) (μ : Mem), Bd l E A RX7 cX7_takesNumber 3 (some .boolean) d (fun q : Bool × Mem => (some (.int (b2i q.1)), hM E ad q.2)) 19 [(0, .ref (ad 0)), (1, .int y1), (2, .int y2)] [] (hM E ad μ) (md_takesNumber_19 N n y1 y2 μ) := by
  induction n with
  | zero => intro y1 y2 μ; exact b_none
  | succ n ih =>
    intro y1 y2 μ
    rw [md_takesNumber_19]
    refine b_iload_n (n := 20) 2 dX7_takesNumber_19 rfl rfl rfl ?_
    refine b_iconst (n := 21) (v := 3) dX7_takesNumber_20 rfl (by decide) ?_
    refine b_cmp_ge (n := 24) (tgt := 71) dX7_takesNumber_21 (by decide) rfl (fun h21 => ?_) (fun h21 => ?_)
    · refine b_iload_n (n := 25) 1 dX7_takesNumber_24 rfl rfl rfl ?_
      refine b_if_le (n := 28) (tgt := 71) dX7_takesNumber_25 (by decide) rfl (fun h25 => ?_) (fun h25 => ?_)
      · refine b_aload_n (n := 29) 0 dX7_takesNumber_28 rfl rfl rfl ?_
        refine bV0i (n := 32) (As := []) (rest := []) 0 lk_X7_48 (c_md_here (Nat.le_refl _)) (by omega) rfl rfl rfl rfl (Nat.le_of_ble_eq_true rfl) dX7_takesNumber_29 rfl (fun k29 => ?_)
        refine b_bipush (n := 34) (v := 48) dX7_takesNumber_32 rfl (by decide) ?_
        refine b_bipush (n := 36) (v := 57) dX7_takesNumber_34 rfl (by decide) ?_
        refine bSb (n := 39) (As := [.int k29, .int 48, .int 57]) (rest := []) lk_X7_38 (c_md_isIn (Nat.le_refl _)) (by omega) rfl rfl (Nat.le_of_ble_eq_true rfl) dX7_takesNumber_36 rfl (fun k36 => ?_)
        refine b_bz (n := 42) (tgt := 71) dX7_takesNumber_39 (by decide) rfl (fun h39 => ?_) (fun h39 => ?_)
        · refine b_bipush (n := 44) (v := 10) dX7_takesNumber_42 rfl (by decide) ?_
          refine b_iload_n (n := 45) 1 dX7_takesNumber_44 rfl rfl rfl ?_
          refine b_imul (n := 46) dX7_takesNumber_45 rfl ?_
          refine b_aload_n (n := 47) 0 dX7_takesNumber_46 rfl rfl rfl ?_
          refine bV0i (n := 50) (As := []) (rest := [.int (10 * y1)]) 0 lk_X7_48 (c_md_here (Nat.le_refl _)) (by omega) rfl rfl rfl rfl (Nat.le_of_ble_eq_true rfl) dX7_takesNumber_47 rfl (fun k47 => ?_)
          refine b_iadd (n := 51) dX7_takesNumber_50 rfl ?_
          refine b_bipush (n := 53) (v := 48) dX7_takesNumber_51 rfl (by decide) ?_
          refine b_isub (n := 54) dX7_takesNumber_53 rfl ?_
          refine b_istore_n (n := 55) (L' := [(1, .int (((10 * y1) + k47) - 48)), (0, .ref (ad 0)), (2, .int y2)]) dX7_takesNumber_54 rfl rfl (Nat.le_of_ble_eq_true rfl) rfl ?_
          refine b_aload_n (n := 56) 1 dX7_takesNumber_55 rfl rfl rfl ?_
          refine b_dup (n := 57) dX7_takesNumber_56 rfl rfl ?_
          refine b_get (n := 60) (v := .int (μ 0 12)) 0 f_X7_45 dX7_takesNumber_57 rfl hM_o0 rfl ?_
          refine b_iconst (n := 61) (v := 1) dX7_takesNumber_60 rfl (by decide) ?_
          refine b_iadd (n := 62) dX7_takesNumber_61 rfl ?_
          refine b_put (n := 65) (ws' := hM E ad (up μ 0 12 ((μ 0 12) + 1))) 0 fp_X7_45 dX7_takesNumber_62 rfl hM_o0 rfl rfl (Nat.le_of_ble_eq_true rfl) hM_p0_12 ?_
          refine b_iinc (n := 68) (L' := [(2, .int (y2 + 1)), (1, .int (((10 * y1) + k47) - 48)), (0, .ref (ad 0))]) 2 1 dX7_takesNumber_65 rfl rfl (by decide) (Nat.le_of_ble_eq_true rfl) rfl ?_
          refine b_goto (n := 19) dX7_takesNumber_68 (by decide) ?_
          refine Bd.sub (L' := [(0, .ref (ad 0)), (1, .int (((10 * y1) + k47) - 48)), (2, .int (y2 + 1))]) [2, 1, 0] rfl ?_
          exact ih _ _ _
        · refine b_aload_n (n := 72) 0 dX7_takesNumber_71 rfl rfl rfl ?_
          refine b_iload_n (n := 73) 1 dX7_takesNumber_72 rfl rfl rfl ?_
          refine b_put (n := 76) (ws' := hM E ad (up μ 0 18 y1)) 0 fp_X7_52 dX7_takesNumber_73 rfl hM_o0 rfl rfl (Nat.le_of_ble_eq_true rfl) hM_p0_18 ?_
          refine b_iconst (n := 77) (v := 1) dX7_takesNumber_76 rfl (by decide) ?_
          exact b_zret (b := true) dX7_takesNumber_77 rfl rfl
      · refine b_aload_n (n := 72) 0 dX7_takesNumber_71 rfl rfl rfl ?_
        refine b_iload_n (n := 73) 1 dX7_takesNumber_72 rfl rfl rfl ?_
        refine b_put (n := 76) (ws' := hM E ad (up μ 0 18 y1)) 0 fp_X7_52 dX7_takesNumber_73 rfl hM_o0 rfl rfl (Nat.le_of_ble_eq_true rfl) hM_p0_18 ?_
        refine b_iconst (n := 77) (v := 1) dX7_takesNumber_76 rfl (by decide) ?_
        exact b_zret (b := true) dX7_takesNumber_77 rfl rfl
    · refine b_aload_n (n := 72) 0 dX7_takesNumber_71 rfl rfl rfl ?_
      refine b_iload_n (n := 73) 1 dX7_takesNumber_72 rfl rfl rfl ?_
      refine b_put (n := 76) (ws' := hM E ad (up μ 0 18 y1)) 0 fp_X7_52 dX7_takesNumber_73 rfl hM_o0 rfl rfl (Nat.le_of_ble_eq_true rfl) hM_p0_18 ?_
      refine b_iconst (n := 77) (v := 1) dX7_takesNumber_76 rfl (by decide) ?_
      exact b_zret (b := true) dX7_takesNumber_77 rfl rfl
def md_takesNumber (N : Nat)  (μ : Mem) : Option (Bool × Mem) :=
  (md_takesDigit 0 9 μ).bind fun (k4, μ4) =>
  if k4 = true then
    (md_takesNumber_19 N N (μ4 0 18) 1 μ4)
  else
    (some (false, μ4))
set_option maxHeartbeats 400000 in
set_option maxRecDepth 100000 in
theorem c_md_takesNumber {l : Launch} {E : Ev} {ad : Nat → Nat} {d : Nat} {N : Nat}    {μ : Mem} (hd : 3 ≤ d) : Ct l yX7_takesNumber cX7_takesNumber 3 (some .boolean) d E (hM E ad μ) [.ref (ad 0)] (fun q : Bool × Mem => (some (.int (b2i q.1)), hM E ad q.2)) (md_takesNumber N μ) := by
  refine Ct.of2 (own := RX7) (L := [(0, .ref (ad 0))]) rfl (by decide +kernel) (Nat.le_of_ble_eq_true rfl) rfl ?_
  unfold md_takesNumber
  refine b_aload_n (n := 1) 0 dX7_takesNumber_0 rfl rfl rfl ?_
  refine b_iconst (n := 2) (v := 0) dX7_takesNumber_1 rfl (by decide) ?_
  refine b_bipush (n := 4) (v := 9) dX7_takesNumber_2 rfl (by decide) ?_
  refine bV0wb (n := 7) (hh := (fun s : Mem => hM E ad s)) (As := [.int 0, .int 9]) (rest := []) 0 lk_X7_55 (c_md_takesDigit (Nat.le_refl _)) (by omega) (fun _ => rfl) rfl rfl rfl rfl (Nat.le_of_ble_eq_true rfl) dX7_takesNumber_4 rfl ?_
  rintro k4 μ4
  try dsimp only
  refine b_bnz (n := 10) (tgt := 12) dX7_takesNumber_7 (by decide) rfl (fun h7 => ?_) (fun h7 => ?_)
  · refine b_aload_n (n := 13) 0 dX7_takesNumber_12 rfl rfl rfl ?_
    refine b_get (n := 16) (v := .int (μ4 0 18)) 0 f_X7_52 dX7_takesNumber_13 rfl hM_o0 rfl ?_
    refine b_istore_n (n := 17) (L' := [(1, .int (μ4 0 18)), (0, .ref (ad 0))]) dX7_takesNumber_16 rfl rfl (Nat.le_of_ble_eq_true rfl) rfl ?_
    refine b_iconst (n := 18) (v := 1) dX7_takesNumber_17 rfl (by decide) ?_
    refine b_istore_n (n := 19) (L' := [(2, .int 1), (1, .int (μ4 0 18)), (0, .ref (ad 0))]) dX7_takesNumber_18 rfl rfl (Nat.le_of_ble_eq_true rfl) rfl ?_
    refine Bd.sub (L' := [(0, .ref (ad 0)), (1, .int (μ4 0 18)), (2, .int 1)]) [2, 1, 0] rfl ?_
    exact w_md_takesNumber_19 hd _ _ _ _
  · refine b_iconst (n := 11) (v := 0) dX7_takesNumber_10 rfl (by decide) ?_
    exact b_zret (b := false) dX7_takesNumber_11 rfl rfl
def md_takesSigned (N : Nat)  (μ : Mem) : Option (Bool × Mem) :=
  (md_takes 45 μ).bind fun (k3, μ3) =>
  (md_takesNumber N μ3).bind fun (k8, μ8) =>
  if k8 = true then
    (if k3 = true then
      (some (true, up μ8 0 18 (-(μ8 0 18))))
    else
      (some (true, up μ8 0 18 (μ8 0 18))))
  else
    (some (false, μ8))
set_option maxHeartbeats 400000 in
set_option maxRecDepth 100000 in
theorem c_md_takesSigned {l : Launch} {E : Ev} {ad : Nat → Nat} {d : Nat} {N : Nat}    {μ : Mem} (hd : 4 ≤ d) : Ct l yX7_takesSigned cX7_takesSigned 2 (some .boolean) d E (hM E ad μ) [.ref (ad 0)] (fun q : Bool × Mem => (some (.int (b2i q.1)), hM E ad q.2)) (md_takesSigned N μ) := by
  refine Ct.of2 (own := RX7) (L := [(0, .ref (ad 0))]) rfl (by decide +kernel) (Nat.le_of_ble_eq_true rfl) rfl ?_
  unfold md_takesSigned
  refine b_aload_n (n := 1) 0 dX7_takesSigned_0 rfl rfl rfl ?_
  refine b_bipush (n := 3) (v := 45) dX7_takesSigned_1 rfl (by decide) ?_
  refine bV0wb (n := 6) (hh := (fun s : Mem => hM E ad s)) (As := [.int 45]) (rest := []) 0 lk_X7_59 (c_md_takes (Nat.le_refl _)) (by omega) (fun _ => rfl) rfl rfl rfl rfl (Nat.le_of_ble_eq_true rfl) dX7_takesSigned_3 rfl ?_
  rintro k3 μ3
  try dsimp only
  refine b_istore_n (n := 7) (L' := [(1, .int (b2i k3)), (0, .ref (ad 0))]) dX7_takesSigned_6 rfl rfl (Nat.le_of_ble_eq_true rfl) rfl ?_
  refine b_aload_n (n := 8) 1 dX7_takesSigned_7 rfl rfl rfl ?_
  refine bV0wb (n := 11) (hh := (fun s : Mem => hM E ad s)) (As := []) (rest := []) 0 lk_X7_63 (c_md_takesNumber (Nat.le_refl _)) (by omega) (fun _ => rfl) rfl rfl rfl rfl (Nat.le_of_ble_eq_true rfl) dX7_takesSigned_8 rfl ?_
  rintro k8 μ8
  try dsimp only
  refine b_bnz (n := 14) (tgt := 16) dX7_takesSigned_11 (by decide) rfl (fun h11 => ?_) (fun h11 => ?_)
  · refine b_aload_n (n := 17) 1 dX7_takesSigned_16 rfl rfl rfl ?_
    refine b_iload_n (n := 18) 0 dX7_takesSigned_17 rfl rfl rfl ?_
    refine b_bz (n := 21) (tgt := 29) dX7_takesSigned_18 (by decide) rfl (fun h18 => ?_) (fun h18 => ?_)
    · refine b_aload_n (n := 22) 1 dX7_takesSigned_21 rfl rfl rfl ?_
      refine b_get (n := 25) (v := .int (μ8 0 18)) 0 f_X7_52 dX7_takesSigned_22 rfl hM_o0 rfl ?_
      refine b_ineg (n := 26) dX7_takesSigned_25 rfl ?_
      refine b_goto (n := 33) dX7_takesSigned_26 (by decide) ?_
      refine b_put (n := 36) (ws' := hM E ad (up μ8 0 18 (-(μ8 0 18)))) 0 fp_X7_52 dX7_takesSigned_33 rfl hM_o0 rfl rfl (Nat.le_of_ble_eq_true rfl) hM_p0_18 ?_
      refine b_iconst (n := 37) (v := 1) dX7_takesSigned_36 rfl (by decide) ?_
      exact b_zret (b := true) dX7_takesSigned_37 rfl rfl
    · refine b_aload_n (n := 30) 1 dX7_takesSigned_29 rfl rfl rfl ?_
      refine b_get (n := 33) (v := .int (μ8 0 18)) 0 f_X7_52 dX7_takesSigned_30 rfl hM_o0 rfl ?_
      refine b_put (n := 36) (ws' := hM E ad (up μ8 0 18 (μ8 0 18))) 0 fp_X7_52 dX7_takesSigned_33 rfl hM_o0 rfl rfl (Nat.le_of_ble_eq_true rfl) hM_p0_18 ?_
      refine b_iconst (n := 37) (v := 1) dX7_takesSigned_36 rfl (by decide) ?_
      exact b_zret (b := true) dX7_takesSigned_37 rfl rfl
  · refine b_iconst (n := 15) (v := 0) dX7_takesSigned_14 rfl (by decide) ?_
    exact b_zret (b := false) dX7_takesSigned_15 rfl rfl
def md_takesCode   (μ : Mem) : Option (Bool × Mem) :=
  (md_here μ).bind fun k1 =>
  (md_isIn k1 97 104).bind fun k8 =>
  if k8 = true then
    ((md_here μ).bind fun k18 =>
    some (true, up (up μ 0 18 (k18 - 97)) 0 12 ((μ 0 12) + 1)))
  else
    (some (false, μ))
set_option maxHeartbeats 400000 in
set_option maxRecDepth 100000 in
theorem c_md_takesCode {l : Launch} {E : Ev} {ad : Nat → Nat} {d : Nat}     {μ : Mem} (hd : 2 ≤ d) : Ct l yX7_takesCode cX7_takesCode 1 (some .boolean) d E (hM E ad μ) [.ref (ad 0)] (fun q : Bool × Mem => (some (.int (b2i q.1)), hM E ad q.2)) (md_takesCode μ) := by
  refine Ct.of2 (own := RX7) (L := [(0, .ref (ad 0))]) rfl (by decide +kernel) (Nat.le_of_ble_eq_true rfl) rfl ?_
  unfold md_takesCode
  refine b_aload_n (n := 1) 0 dX7_takesCode_0 rfl rfl rfl ?_
  refine bV0i (n := 4) (As := []) (rest := []) 0 lk_X7_48 (c_md_here (Nat.le_refl _)) (by omega) rfl rfl rfl rfl (Nat.le_of_ble_eq_true rfl) dX7_takesCode_1 rfl (fun k1 => ?_)
  refine b_bipush (n := 6) (v := 97) dX7_takesCode_4 rfl (by decide) ?_
  refine b_bipush (n := 8) (v := 104) dX7_takesCode_6 rfl (by decide) ?_
  refine bSb (n := 11) (As := [.int k1, .int 97, .int 104]) (rest := []) lk_X7_38 (c_md_isIn (Nat.le_refl _)) (by omega) rfl rfl (Nat.le_of_ble_eq_true rfl) dX7_takesCode_8 rfl (fun k8 => ?_)
  refine b_bnz (n := 14) (tgt := 16) dX7_takesCode_11 (by decide) rfl (fun h11 => ?_) (fun h11 => ?_)
  · refine b_aload_n (n := 17) 0 dX7_takesCode_16 rfl rfl rfl ?_
    refine b_aload_n (n := 18) 0 dX7_takesCode_17 rfl rfl rfl ?_
    refine bV0i (n := 21) (As := []) (rest := [.ref (ad 0)]) 0 lk_X7_48 (c_md_here (Nat.le_refl _)) (by omega) rfl rfl rfl rfl (Nat.le_of_ble_eq_true rfl) dX7_takesCode_18 rfl (fun k18 => ?_)
    refine b_bipush (n := 23) (v := 97) dX7_takesCode_21 rfl (by decide) ?_
    refine b_isub (n := 24) dX7_takesCode_23 rfl ?_
    refine b_put (n := 27) (ws' := hM E ad (up μ 0 18 (k18 - 97))) 0 fp_X7_52 dX7_takesCode_24 rfl hM_o0 rfl rfl (Nat.le_of_ble_eq_true rfl) hM_p0_18 ?_
    refine b_aload_n (n := 28) 0 dX7_takesCode_27 rfl rfl rfl ?_
    refine b_dup (n := 29) dX7_takesCode_28 rfl rfl ?_
    refine b_get (n := 32) (v := .int (μ 0 12)) 0 f_X7_45 dX7_takesCode_29 rfl hM_o0 rfl ?_
    refine b_iconst (n := 33) (v := 1) dX7_takesCode_32 rfl (by decide) ?_
    refine b_iadd (n := 34) dX7_takesCode_33 rfl ?_
    refine b_put (n := 37) (ws' := hM E ad (up (up μ 0 18 (k18 - 97)) 0 12 ((μ 0 12) + 1))) 0 fp_X7_45 dX7_takesCode_34 rfl hM_o0 rfl rfl (Nat.le_of_ble_eq_true rfl) hM_p0_12 ?_
    refine b_iconst (n := 38) (v := 1) dX7_takesCode_37 rfl (by decide) ?_
    exact b_zret (b := true) dX7_takesCode_38 rfl rfl
  · refine b_iconst (n := 15) (v := 0) dX7_takesCode_14 rfl (by decide) ?_
    exact b_zret (b := false) dX7_takesCode_15 rfl rfl
def md_part  (x0 : Int32) (x1 : Int32) (x2 : Int32)  : Option (Int32) :=
  some ((((64 * x0) + x1) * 9) + x2)
set_option maxHeartbeats 400000 in
set_option maxRecDepth 100000 in
theorem c_md_part {l : Launch} {E : Ev} {d : Nat}    {x0 : Int32} {x1 : Int32} {x2 : Int32}  (hd : 1 ≤ d) : Ct l yX7_part cX7_part 3 (some .int) d E ([]) [.int x0, .int x1, .int x2] (fun v : Int32 => (some (.int v), [])) (md_part x0 x1 x2) := by
  refine Ct.of2 (own := RX7) (L := [(0, .int x0), (1, .int x1), (2, .int x2)]) rfl (by decide +kernel) (Nat.le_of_ble_eq_true rfl) rfl ?_
  unfold md_part
  refine b_bipush (n := 2) (v := 64) dX7_part_0 rfl (by decide) ?_
  refine b_iload_n (n := 3) 0 dX7_part_2 rfl rfl rfl ?_
  refine b_imul (n := 4) dX7_part_3 rfl ?_
  refine b_iload_n (n := 5) 1 dX7_part_4 rfl rfl rfl ?_
  refine b_iadd (n := 6) dX7_part_5 rfl ?_
  refine b_bipush (n := 8) (v := 9) dX7_part_6 rfl (by decide) ?_
  refine b_imul (n := 9) dX7_part_8 rfl ?_
  refine b_iload_n (n := 10) 2 dX7_part_9 rfl rfl rfl ?_
  refine b_iadd (n := 11) dX7_part_10 rfl ?_
  exact b_iret dX7_part_11 rfl rfl
def md_put  (x1 : Int32) (x2 : Int32) (x3 : Int32) (μ : Mem) : Option (Mem) :=
  (md_part 16 x1 x2).bind fun k8 =>
  ck 9792 k8 <|
  some (up μ 1 k8.toNatClampNeg x3)
set_option maxHeartbeats 400000 in
set_option maxRecDepth 100000 in
theorem c_md_put {l : Launch} {E : Ev} {ad : Nat → Nat} {d : Nat}    {x1 : Int32} {x2 : Int32} {x3 : Int32} {μ : Mem} (hd : 2 ≤ d) : Ct l yX7_put cX7_put 4 none d E (hM E ad μ) [.ref (ad 0), .int x1, .int x2, .int x3] (fun q : Mem => (none, hM E ad q)) (md_put x1 x2 x3 μ) := by
  refine Ct.of2 (own := RX7) (L := [(0, .ref (ad 0)), (1, .int x1), (2, .int x2), (3, .int x3)]) rfl (by decide +kernel) (Nat.le_of_ble_eq_true rfl) rfl ?_
  unfold md_put
  refine b_aload_n (n := 1) 0 dX7_put_0 rfl rfl rfl ?_
  refine b_get (n := 4) (v := .ref (ad 1)) 0 f_X7_9 dX7_put_1 rfl hM_o0 rfl ?_
  refine b_bipush (n := 6) (v := 16) dX7_put_4 rfl (by decide) ?_
  refine b_iload_n (n := 7) 1 dX7_put_6 rfl rfl rfl ?_
  refine b_iload_n (n := 8) 2 dX7_put_7 rfl rfl rfl ?_
  refine bSi (n := 11) (As := [.int 16, .int x1, .int x2]) (rest := [.ref (ad 1)]) lk_X7_67 (c_md_part (Nat.le_refl _)) (by omega) rfl rfl (Nat.le_of_ble_eq_true rfl) dX7_put_8 rfl (fun k8 => ?_)
  refine b_iload_n (n := 12) 3 dX7_put_11 rfl rfl rfl ?_
  refine b_iast (n := 13) (ws' := hM E ad (up μ 1 k8.toNatClampNeg x3)) 1 dX7_put_12 rfl hM_a1 hM_s1 ?_
  exact b_vret dX7_put_13 rfl rfl
def md_makes_18 (N : Nat)  : Nat → Int32 → Int32 → Int32 → Int32 → Mem → Option (Int32 × Mem)
  | 0, _, _, _, _, _ => none
  | n + 1, y1, y2, y3, y4, μ =>
    if y4 < 9 then
      ((md_put y3 y4 ((-1)) μ).bind fun μ30 =>
      md_makes_18 N n y1 y2 y3 (y4 + 1) μ30)
    else
      ((md_put y3 0 y1 μ).bind fun μ43 =>
      (md_put y3 7 (μ43 0 12) μ43).bind fun μ54 =>
      (md_put y3 8 y2 μ54).bind fun μ62 =>
      some (y3, μ62))
set_option maxHeartbeats 400000 in
set_option maxRecDepth 100000 in
theorem w_md_makes_18 {l : Launch} {E : Ev} {ad : Nat → Nat} {A : Nat → Prop} {d : Nat} {N : Nat}    (hd : 3 ≤ d)  (n : Nat) : ∀ (y1 : Int32) (y2 : Int32) (y3 : Int32) (y4 : Int32) (μ : Mem), Bd l E A RX7 cX7_makes 5 (some .int) d (fun q : Int32 × Mem => (some (.int q.1), hM E ad q.2)) 18 [(0, .ref (ad 0)), (1, .int y1), (2, .int y2), (3, .int y3), (4, .int y4)] [] (hM E ad μ) (md_makes_18 N n y1 y2 y3 y4 μ) := by
  induction n with
  | zero => intro y1 y2 y3 y4 μ; exact b_none
  | succ n ih =>
    intro y1 y2 y3 y4 μ
    rw [md_makes_18]
    refine b_iload (n := 20) 4 dX7_makes_18 rfl rfl ?_
    refine b_bipush (n := 22) (v := 9) dX7_makes_20 rfl (by decide) ?_
    refine b_cmp_ge (n := 25) (tgt := 39) dX7_makes_22 (by decide) rfl (fun h22 => ?_) (fun h22 => ?_)
    · refine b_aload_n (n := 26) 0 dX7_makes_25 rfl rfl rfl ?_
      refine b_iload_n (n := 27) 3 dX7_makes_26 rfl rfl rfl ?_
      refine b_iload (n := 29) 4 dX7_makes_27 rfl rfl ?_
      refine b_iconst (n := 30) (v := -1) dX7_makes_29 rfl (by decide) ?_
      refine bV0wv (n := 33) (hh := (fun s : Mem => hM E ad s)) (As := [.int y3, .int y4, .int ((-1))]) (rest := []) 0 lk_X7_74 (c_md_put (Nat.le_refl _)) (by omega) (fun _ => rfl) rfl rfl rfl rfl (Nat.le_of_ble_eq_true rfl) dX7_makes_30 rfl ?_
      rintro μ30
      try dsimp only
      refine b_iinc (n := 36) (L' := [(4, .int (y4 + 1)), (0, .ref (ad 0)), (1, .int y1), (2, .int y2), (3, .int y3)]) 4 1 dX7_makes_33 rfl rfl (by decide) (Nat.le_of_ble_eq_true rfl) rfl ?_
      refine b_goto (n := 18) dX7_makes_36 (by decide) ?_
      refine Bd.sub (L' := [(0, .ref (ad 0)), (1, .int y1), (2, .int y2), (3, .int y3), (4, .int (y4 + 1))]) [1, 2, 3, 4, 0] rfl ?_
      exact ih _ _ _ _ _
    · refine b_aload_n (n := 40) 0 dX7_makes_39 rfl rfl rfl ?_
      refine b_iload_n (n := 41) 3 dX7_makes_40 rfl rfl rfl ?_
      refine b_iconst (n := 42) (v := 0) dX7_makes_41 rfl (by decide) ?_
      refine b_iload_n (n := 43) 1 dX7_makes_42 rfl rfl rfl ?_
      refine bV0wv (n := 46) (hh := (fun s : Mem => hM E ad s)) (As := [.int y3, .int 0, .int y1]) (rest := []) 0 lk_X7_74 (c_md_put (Nat.le_refl _)) (by omega) (fun _ => rfl) rfl rfl rfl rfl (Nat.le_of_ble_eq_true rfl) dX7_makes_43 rfl ?_
      rintro μ43
      try dsimp only
      refine b_aload_n (n := 47) 0 dX7_makes_46 rfl rfl rfl ?_
      refine b_iload_n (n := 48) 3 dX7_makes_47 rfl rfl rfl ?_
      refine b_bipush (n := 50) (v := 7) dX7_makes_48 rfl (by decide) ?_
      refine b_aload_n (n := 51) 0 dX7_makes_50 rfl rfl rfl ?_
      refine b_get (n := 54) (v := .int (μ43 0 12)) 0 f_X7_45 dX7_makes_51 rfl hM_o0 rfl ?_
      refine bV0wv (n := 57) (hh := (fun s : Mem => hM E ad s)) (As := [.int y3, .int 7, .int (μ43 0 12)]) (rest := []) 0 lk_X7_74 (c_md_put (Nat.le_refl _)) (by omega) (fun _ => rfl) rfl rfl rfl rfl (Nat.le_of_ble_eq_true rfl) dX7_makes_54 rfl ?_
      rintro μ54
      try dsimp only
      refine b_aload_n (n := 58) 0 dX7_makes_57 rfl rfl rfl ?_
      refine b_iload_n (n := 59) 3 dX7_makes_58 rfl rfl rfl ?_
      refine b_bipush (n := 61) (v := 8) dX7_makes_59 rfl (by decide) ?_
      refine b_iload_n (n := 62) 2 dX7_makes_61 rfl rfl rfl ?_
      refine bV0wv (n := 65) (hh := (fun s : Mem => hM E ad s)) (As := [.int y3, .int 8, .int y2]) (rest := []) 0 lk_X7_74 (c_md_put (Nat.le_refl _)) (by omega) (fun _ => rfl) rfl rfl rfl rfl (Nat.le_of_ble_eq_true rfl) dX7_makes_62 rfl ?_
      rintro μ62
      try dsimp only
      refine b_iload_n (n := 66) 3 dX7_makes_65 rfl rfl rfl ?_
      exact b_iret dX7_makes_66 rfl rfl
def md_makes (N : Nat) (x1 : Int32) (x2 : Int32) (μ : Mem) : Option (Int32 × Mem) :=
  md_makes_18 N N x1 x2 (μ 0 14) 0 (up μ 0 14 ((μ 0 14) + 1))
set_option maxHeartbeats 400000 in
set_option maxRecDepth 100000 in
theorem c_md_makes {l : Launch} {E : Ev} {ad : Nat → Nat} {d : Nat} {N : Nat}   {x1 : Int32} {x2 : Int32} {μ : Mem} (hd : 3 ≤ d) : Ct l yX7_makes cX7_makes 5 (some .int) d E (hM E ad μ) [.ref (ad 0), .int x1, .int x2] (fun q : Int32 × Mem => (some (.int q.1), hM E ad q.2)) (md_makes N x1 x2 μ) := by
  refine Ct.of2 (own := RX7) (L := [(0, .ref (ad 0)), (1, .int x1), (2, .int x2)]) rfl (by decide +kernel) (Nat.le_of_ble_eq_true rfl) rfl ?_
  unfold md_makes
  refine b_aload_n (n := 1) 0 dX7_makes_0 rfl rfl rfl ?_
  refine b_get (n := 4) (v := .int (μ 0 14)) 0 f_X7_71 dX7_makes_1 rfl hM_o0 rfl ?_
  refine b_istore_n (n := 5) (L' := [(3, .int (μ 0 14)), (0, .ref (ad 0)), (1, .int x1), (2, .int x2)]) dX7_makes_4 rfl rfl (Nat.le_of_ble_eq_true rfl) rfl ?_
  refine b_aload_n (n := 6) 1 dX7_makes_5 rfl rfl rfl ?_
  refine b_dup (n := 7) dX7_makes_6 rfl rfl ?_
  refine b_get (n := 10) (v := .int (μ 0 14)) 0 f_X7_71 dX7_makes_7 rfl hM_o0 rfl ?_
  refine b_iconst (n := 11) (v := 1) dX7_makes_10 rfl (by decide) ?_
  refine b_iadd (n := 12) dX7_makes_11 rfl ?_
  refine b_put (n := 15) (ws' := hM E ad (up μ 0 14 ((μ 0 14) + 1))) 0 fp_X7_71 dX7_makes_12 rfl hM_o0 rfl rfl (Nat.le_of_ble_eq_true rfl) hM_p0_14 ?_
  refine b_iconst (n := 16) (v := 0) dX7_makes_15 rfl (by decide) ?_
  refine b_istore (n := 18) (L' := [(4, .int 0), (3, .int (μ 0 14)), (0, .ref (ad 0)), (1, .int x1), (2, .int x2)]) dX7_makes_16 rfl (Nat.le_of_ble_eq_true rfl) rfl ?_
  refine Bd.sub (L' := [(0, .ref (ad 0)), (1, .int x1), (2, .int x2), (3, .int (μ 0 14)), (4, .int 0)]) [2, 3, 4, 1, 0] rfl ?_
  exact w_md_makes_18 hd _ _ _ _ _ _
def md_beginsItem  (x0 : Int32)  : Option (Bool) :=
  if x0 = 116 then
    (some true)
  else
    (if x0 = 119 then
      (some true)
    else
      (if x0 = 115 then
        (some true)
      else
        (if x0 = 120 then
          (some true)
        else
          (if x0 = 91 then
            (some true)
          else
            (if x0 = 40 then
              (some true)
            else
              (some false))))))
set_option maxHeartbeats 400000 in
set_option maxRecDepth 100000 in
theorem c_md_beginsItem {l : Launch} {E : Ev} {d : Nat}    {x0 : Int32}  (hd : 1 ≤ d) : Ct l yX7_beginsItem cX7_beginsItem 1 (some .boolean) d E ([]) [.int x0] (fun v : Bool => (some (.int (b2i v)), [])) (md_beginsItem x0) := by
  refine Ct.of2 (own := RX7) (L := [(0, .int x0)]) rfl (by decide +kernel) (Nat.le_of_ble_eq_true rfl) rfl ?_
  unfold md_beginsItem
  refine b_iload_n (n := 1) 0 dX7_beginsItem_0 rfl rfl rfl ?_
  refine b_bipush (n := 3) (v := 116) dX7_beginsItem_1 rfl (by decide) ?_
  refine b_cmp_eq (n := 6) (tgt := 36) dX7_beginsItem_3 (by decide) rfl (fun h3 => ?_) (fun h3 => ?_)
  · refine b_iconst (n := 37) (v := 1) dX7_beginsItem_36 rfl (by decide) ?_
    refine b_goto (n := 41) dX7_beginsItem_37 (by decide) ?_
    exact b_zret (b := true) dX7_beginsItem_41 rfl rfl
  · refine b_iload_n (n := 7) 0 dX7_beginsItem_6 rfl rfl rfl ?_
    refine b_bipush (n := 9) (v := 119) dX7_beginsItem_7 rfl (by decide) ?_
    refine b_cmp_eq (n := 12) (tgt := 36) dX7_beginsItem_9 (by decide) rfl (fun h9 => ?_) (fun h9 => ?_)
    · refine b_iconst (n := 37) (v := 1) dX7_beginsItem_36 rfl (by decide) ?_
      refine b_goto (n := 41) dX7_beginsItem_37 (by decide) ?_
      exact b_zret (b := true) dX7_beginsItem_41 rfl rfl
    · refine b_iload_n (n := 13) 0 dX7_beginsItem_12 rfl rfl rfl ?_
      refine b_bipush (n := 15) (v := 115) dX7_beginsItem_13 rfl (by decide) ?_
      refine b_cmp_eq (n := 18) (tgt := 36) dX7_beginsItem_15 (by decide) rfl (fun h15 => ?_) (fun h15 => ?_)
      · refine b_iconst (n := 37) (v := 1) dX7_beginsItem_36 rfl (by decide) ?_
        refine b_goto (n := 41) dX7_beginsItem_37 (by decide) ?_
        exact b_zret (b := true) dX7_beginsItem_41 rfl rfl
      · refine b_iload_n (n := 19) 0 dX7_beginsItem_18 rfl rfl rfl ?_
        refine b_bipush (n := 21) (v := 120) dX7_beginsItem_19 rfl (by decide) ?_
        refine b_cmp_eq (n := 24) (tgt := 36) dX7_beginsItem_21 (by decide) rfl (fun h21 => ?_) (fun h21 => ?_)
        · refine b_iconst (n := 37) (v := 1) dX7_beginsItem_36 rfl (by decide) ?_
          refine b_goto (n := 41) dX7_beginsItem_37 (by decide) ?_
          exact b_zret (b := true) dX7_beginsItem_41 rfl rfl
        · refine b_iload_n (n := 25) 0 dX7_beginsItem_24 rfl rfl rfl ?_
          refine b_bipush (n := 27) (v := 91) dX7_beginsItem_25 rfl (by decide) ?_
          refine b_cmp_eq (n := 30) (tgt := 36) dX7_beginsItem_27 (by decide) rfl (fun h27 => ?_) (fun h27 => ?_)
          · refine b_iconst (n := 37) (v := 1) dX7_beginsItem_36 rfl (by decide) ?_
            refine b_goto (n := 41) dX7_beginsItem_37 (by decide) ?_
            exact b_zret (b := true) dX7_beginsItem_41 rfl rfl
          · refine b_iload_n (n := 31) 0 dX7_beginsItem_30 rfl rfl rfl ?_
            refine b_bipush (n := 33) (v := 40) dX7_beginsItem_31 rfl (by decide) ?_
            refine b_cmp_ne (n := 36) (tgt := 40) dX7_beginsItem_33 (by decide) rfl (fun h33 => ?_) (fun h33 => ?_)
            · refine b_iconst (n := 37) (v := 1) dX7_beginsItem_36 rfl (by decide) ?_
              refine b_goto (n := 41) dX7_beginsItem_37 (by decide) ?_
              exact b_zret (b := true) dX7_beginsItem_41 rfl rfl
            · refine b_iconst (n := 41) (v := 0) dX7_beginsItem_40 rfl (by decide) ?_
              exact b_zret (b := false) dX7_beginsItem_41 rfl rfl
def md_isTooMuch   (μ : Mem) : Option (Bool × Mem) :=
  some (false, up μ 0 13 2)
set_option maxHeartbeats 400000 in
set_option maxRecDepth 100000 in
theorem c_md_isTooMuch {l : Launch} {E : Ev} {ad : Nat → Nat} {d : Nat}     {μ : Mem} (hd : 1 ≤ d) : Ct l yX7_isTooMuch cX7_isTooMuch 1 (some .boolean) d E (hM E ad μ) [.ref (ad 0)] (fun q : Bool × Mem => (some (.int (b2i q.1)), hM E ad q.2)) (md_isTooMuch μ) := by
  refine Ct.of2 (own := RX7) (L := [(0, .ref (ad 0))]) rfl (by decide +kernel) (Nat.le_of_ble_eq_true rfl) rfl ?_
  unfold md_isTooMuch
  refine b_aload_n (n := 1) 0 dX7_isTooMuch_0 rfl rfl rfl ?_
  refine b_iconst (n := 2) (v := 2) dX7_isTooMuch_1 rfl (by decide) ?_
  refine b_put (n := 5) (ws' := hM E ad (up μ 0 13 2)) 0 fp_X7_78 dX7_isTooMuch_2 rfl hM_o0 rfl rfl (Nat.le_of_ble_eq_true rfl) hM_p0_13 ?_
  refine b_iconst (n := 6) (v := 0) dX7_isTooMuch_5 rfl (by decide) ?_
  exact b_zret (b := false) dX7_isTooMuch_6 rfl rfl
