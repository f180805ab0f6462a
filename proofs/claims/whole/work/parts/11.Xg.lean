/-! the class: partial pure functions, and the walk of each method (6) -/
def re_takes (t : Mem) (x1 : Int32) (r : Mem) : Option (Bool × Mem) :=
  if r 0 4 = 0 then
    ((re_sign t r).bind fun k8 =>
    if k8 = x1 then
      (some (true, up r 0 5 ((r 0 5) + 1)))
    else
      (some (false, r)))
  else
    (some (false, r))
set_option maxHeartbeats 400000 in
set_option maxRecDepth 100000 in
theorem c_re_takes {l : Launch} {E : Ev} {ad : Nat → Nat} {d : Nat}   {t : Mem} {p : Mem} {x1 : Int32} {r : Mem} (hd : 2 ≤ d) : Ct l yX3_takes cX3_takes 2 (some .boolean) d E (hR E ad r t p) [.ref (ad 0), .int x1] (fun q : Bool × Mem => (some (.int (b2i q.1)), hR E ad q.2 t p)) (re_takes t x1 r) := by
  refine Ct.of2 (own := RX3) (L := [(0, .ref (ad 0)), (1, .int x1)]) rfl (by decide +kernel) (Nat.le_of_ble_eq_true rfl) rfl ?_
  unfold re_takes
  refine b_aload_n (n := 1) 0 dX3_takes_0 rfl rfl rfl ?_
  refine b_get (n := 4) (v := .int (r 0 4)) 0 f_X3_32 dX3_takes_1 rfl hR_o0 rfl ?_
  refine b_if_ne (n := 7) (tgt := 15) dX3_takes_4 (by decide) rfl (fun h4 => ?_) (fun h4 => ?_)
  · refine b_aload_n (n := 8) 0 dX3_takes_7 rfl rfl rfl ?_
    refine bV0i (n := 11) (As := []) (rest := []) 0 lk_X3_71 (c_re_sign (Nat.le_refl _)) (by omega) rfl rfl rfl rfl (Nat.le_of_ble_eq_true rfl) dX3_takes_8 rfl (fun k8 => ?_)
    refine b_iload_n (n := 12) 1 dX3_takes_11 rfl rfl rfl ?_
    refine b_cmp_eq (n := 15) (tgt := 17) dX3_takes_12 (by decide) rfl (fun h12 => ?_) (fun h12 => ?_)
    · refine b_aload_n (n := 18) 0 dX3_takes_17 rfl rfl rfl ?_
      refine b_dup (n := 19) dX3_takes_18 rfl rfl ?_
      refine b_get (n := 22) (v := .int (r 0 5)) 0 f_X3_35 dX3_takes_19 rfl hR_o0 rfl ?_
      refine b_iconst (n := 23) (v := 1) dX3_takes_22 rfl (by decide) ?_
      refine b_iadd (n := 24) dX3_takes_23 rfl ?_
      refine b_put (n := 27) (ws' := hR E ad (up r 0 5 ((r 0 5) + 1)) t p) 0 fp_X3_35 dX3_takes_24 rfl hR_o0 rfl rfl (Nat.le_of_ble_eq_true rfl) hR_p0_5 ?_
      refine b_iconst (n := 28) (v := 1) dX3_takes_27 rfl (by decide) ?_
      exact b_zret (b := true) dX3_takes_28 rfl rfl
    · refine b_iconst (n := 16) (v := 0) dX3_takes_15 rfl (by decide) ?_
      exact b_zret (b := false) dX3_takes_16 rfl rfl
  · refine b_iconst (n := 16) (v := 0) dX3_takes_15 rfl (by decide) ?_
    exact b_zret (b := false) dX3_takes_16 rfl rfl
def re_fail  (x1 : Int32) (r : Mem) : Option (Mem) :=
  if r 0 4 = 0 then
    (some (up r 0 4 x1))
  else
    (some r)
set_option maxHeartbeats 400000 in
set_option maxRecDepth 100000 in
theorem c_re_fail {l : Launch} {E : Ev} {ad : Nat → Nat} {d : Nat}   {t : Mem} {p : Mem} {x1 : Int32} {r : Mem} (hd : 1 ≤ d) : Ct l yX3_fail cX3_fail 2 none d E (hR E ad r t p) [.ref (ad 0), .int x1] (fun q : Mem => (none, hR E ad q t p)) (re_fail x1 r) := by
  refine Ct.of2 (own := RX3) (L := [(0, .ref (ad 0)), (1, .int x1)]) rfl (by decide +kernel) (Nat.le_of_ble_eq_true rfl) rfl ?_
  unfold re_fail
  refine b_aload_n (n := 1) 0 dX3_fail_0 rfl rfl rfl ?_
  refine b_get (n := 4) (v := .int (r 0 4)) 0 f_X3_32 dX3_fail_1 rfl hR_o0 rfl ?_
  refine b_if_ne (n := 7) (tgt := 12) dX3_fail_4 (by decide) rfl (fun h4 => ?_) (fun h4 => ?_)
  · refine b_aload_n (n := 8) 0 dX3_fail_7 rfl rfl rfl ?_
    refine b_iload_n (n := 9) 1 dX3_fail_8 rfl rfl rfl ?_
    refine b_put (n := 12) (ws' := hR E ad (up r 0 4 x1) t p) 0 fp_X3_32 dX3_fail_9 rfl hR_o0 rfl rfl (Nat.le_of_ble_eq_true rfl) hR_p0_4 ?_
    exact b_vret dX3_fail_12 rfl rfl
  · exact b_vret dX3_fail_12 rfl rfl
def re_kindOf  (x0 : Int32)  : Option (Int32) :=
  if x0 = 40 then
    (some 5)
  else if x0 = 91 then
    (some 4)
  else if x0 = 115 then
    (some 2)
  else if x0 = 116 then
    (some 0)
  else if x0 = 119 then
    (some 1)
  else if x0 = 120 then
    (some 3)
  else 
    (some ((-1)))
set_option maxHeartbeats 400000 in
set_option maxRecDepth 100000 in
theorem c_re_kindOf {l : Launch} {E : Ev} {d : Nat}    {x0 : Int32}  (hd : 1 ≤ d) : Ct l yX3_kindOf cX3_kindOf 1 (some .int) d E ([]) [.int x0] (fun v : Int32 => (some (.int v), [])) (re_kindOf x0) := by
  refine Ct.of2 (own := RX3) (L := [(0, .int x0)]) rfl (by decide +kernel) (Nat.le_of_ble_eq_true rfl) rfl ?_
  unfold re_kindOf
  refine b_iload_n (n := 1) 0 dX3_kindOf_0 rfl rfl rfl ?_
  refine b_if (fun h1_40 => ?_) (fun h1_40 => ?_)
  · refine b_lsw (n := 70) (off := 69) dX3_kindOf_1 (by decide) (by rw [h1_40]; decide) (by decide) ?_
    refine b_iconst (n := 71) (v := 5) dX3_kindOf_70 rfl (by decide) ?_
    exact b_iret dX3_kindOf_71 rfl rfl
  refine b_if (fun h1_91 => ?_) (fun h1_91 => ?_)
  · refine b_lsw (n := 68) (off := 67) dX3_kindOf_1 (by decide) (by rw [h1_91]; decide) (by decide) ?_
    refine b_iconst (n := 69) (v := 4) dX3_kindOf_68 rfl (by decide) ?_
    exact b_iret dX3_kindOf_69 rfl rfl
  refine b_if (fun h1_115 => ?_) (fun h1_115 => ?_)
  · refine b_lsw (n := 64) (off := 63) dX3_kindOf_1 (by decide) (by rw [h1_115]; decide) (by decide) ?_
    refine b_iconst (n := 65) (v := 2) dX3_kindOf_64 rfl (by decide) ?_
    exact b_iret dX3_kindOf_65 rfl rfl
  refine b_if (fun h1_116 => ?_) (fun h1_116 => ?_)
  · refine b_lsw (n := 60) (off := 59) dX3_kindOf_1 (by decide) (by rw [h1_116]; decide) (by decide) ?_
    refine b_iconst (n := 61) (v := 0) dX3_kindOf_60 rfl (by decide) ?_
    exact b_iret dX3_kindOf_61 rfl rfl
  refine b_if (fun h1_119 => ?_) (fun h1_119 => ?_)
  · refine b_lsw (n := 62) (off := 61) dX3_kindOf_1 (by decide) (by rw [h1_119]; decide) (by decide) ?_
    refine b_iconst (n := 63) (v := 1) dX3_kindOf_62 rfl (by decide) ?_
    exact b_iret dX3_kindOf_63 rfl rfl
  refine b_if (fun h1_120 => ?_) (fun h1_120 => ?_)
  · refine b_lsw (n := 66) (off := 65) dX3_kindOf_1 (by decide) (by rw [h1_120]; decide) (by decide) ?_
    refine b_iconst (n := 67) (v := 3) dX3_kindOf_66 rfl (by decide) ?_
    exact b_iret dX3_kindOf_67 rfl rfl
  refine b_lsw (n := 72) (off := 71) dX3_kindOf_1 (by decide) (by have nh1_40 := i32_ne (k := 40) h1_40 (by decide); have nh1_91 := i32_ne (k := 91) h1_91 (by decide); have nh1_115 := i32_ne (k := 115) h1_115 (by decide); have nh1_116 := i32_ne (k := 116) h1_116 (by decide); have nh1_119 := i32_ne (k := 119) h1_119 (by decide); have nh1_120 := i32_ne (k := 120) h1_120 (by decide); simp_all [Op.lookupswitch.offset] <;> (repeat rw [if_neg (by omega)])) (by decide) ?_
  refine b_iconst (n := 73) (v := -1) dX3_kindOf_72 rfl (by decide) ?_
  exact b_iret dX3_kindOf_73 rfl rfl
def re_isDigit  (x0 : Int32)  : Option (Bool) :=
  if x0 < 48 then
    (some false)
  else
    (if 57 < x0 then
      (some false)
    else
      (some true))
set_option maxHeartbeats 400000 in
set_option maxRecDepth 100000 in
theorem c_re_isDigit {l : Launch} {E : Ev} {d : Nat}    {x0 : Int32}  (hd : 1 ≤ d) : Ct l yX3_isDigit cX3_isDigit 1 (some .boolean) d E ([]) [.int x0] (fun v : Bool => (some (.int (b2i v)), [])) (re_isDigit x0) := by
  refine Ct.of2 (own := RX3) (L := [(0, .int x0)]) rfl (by decide +kernel) (Nat.le_of_ble_eq_true rfl) rfl ?_
  unfold re_isDigit
  refine b_iload_n (n := 1) 0 dX3_isDigit_0 rfl rfl rfl ?_
  refine b_bipush (n := 3) (v := 48) dX3_isDigit_1 rfl (by decide) ?_
  refine b_cmp_lt (n := 6) (tgt := 16) dX3_isDigit_3 (by decide) rfl (fun h3 => ?_) (fun h3 => ?_)
  · refine b_iconst (n := 17) (v := 0) dX3_isDigit_16 rfl (by decide) ?_
    exact b_zret (b := false) dX3_isDigit_17 rfl rfl
  · refine b_iload_n (n := 7) 0 dX3_isDigit_6 rfl rfl rfl ?_
    refine b_bipush (n := 9) (v := 57) dX3_isDigit_7 rfl (by decide) ?_
    refine b_cmp_gt (n := 12) (tgt := 16) dX3_isDigit_9 (by decide) rfl (fun h9 => ?_) (fun h9 => ?_)
    · refine b_iconst (n := 17) (v := 0) dX3_isDigit_16 rfl (by decide) ?_
      exact b_zret (b := false) dX3_isDigit_17 rfl rfl
    · refine b_iconst (n := 13) (v := 1) dX3_isDigit_12 rfl (by decide) ?_
      refine b_goto (n := 17) dX3_isDigit_13 (by decide) ?_
      exact b_zret (b := true) dX3_isDigit_17 rfl rfl
def re_readBetween_22 (t : Mem)   (r : Mem) : Option (Int32 × Mem) :=
  (re_fail 1 r).bind fun r24 =>
  some (0, r24)
set_option maxHeartbeats 400000 in
set_option maxRecDepth 100000 in
theorem w_re_readBetween_22 {l : Launch} {E : Ev} {ad : Nat → Nat} {A : Nat → Prop} {d : Nat}   {t : Mem} {p : Mem}  (hd : 2 ≤ d)  (r : Mem) : Bd l E A RX3 cX3_readBetween 4 (some .int) d (fun q : Int32 × Mem => (some (.int q.1), hR E ad q.2 t p)) 22 [(0, .ref (ad 0))] [] (hR E ad r t p) (re_readBetween_22 t r) := by
  unfold re_readBetween_22
  refine b_aload_n (n := 23) 0 dX3_readBetween_22 rfl rfl rfl ?_
  refine b_iconst (n := 24) (v := 1) dX3_readBetween_23 rfl (by decide) ?_
  refine bV0wv (n := 27) (hh := (fun s : Mem => hR E ad s t p)) (As := [.int 1]) (rest := []) 0 lk_X3_51 (c_re_fail (Nat.le_refl _)) (by omega) (fun _ => rfl) rfl rfl rfl rfl (Nat.le_of_ble_eq_true rfl) dX3_readBetween_24 rfl ?_
  rintro r24
  try dsimp only
  refine b_iconst (n := 28) (v := 0) dX3_readBetween_27 rfl (by decide) ?_
  exact b_iret dX3_readBetween_28 rfl rfl
def re_readBetween (t : Mem) (x1 : Int32) (x2 : Int32) (r : Mem) : Option (Int32 × Mem) :=
  (re_sign t r).bind fun k1 =>
  if r 0 4 = 0 then
    (if k1 < x1 then
      (re_readBetween_22 t r)
    else
      (if x2 < k1 then
        (re_readBetween_22 t r)
      else
        (some (k1 - x1, up r 0 5 ((r 0 5) + 1)))))
  else
    (re_readBetween_22 t r)
set_option maxHeartbeats 400000 in
set_option maxRecDepth 100000 in
theorem c_re_readBetween {l : Launch} {E : Ev} {ad : Nat → Nat} {d : Nat}   {t : Mem} {p : Mem} {x1 : Int32} {x2 : Int32} {r : Mem} (hd : 2 ≤ d) : Ct l yX3_readBetween cX3_readBetween 4 (some .int) d E (hR E ad r t p) [.ref (ad 0), .int x1, .int x2] (fun q : Int32 × Mem => (some (.int q.1), hR E ad q.2 t p)) (re_readBetween t x1 x2 r) := by
  refine Ct.of2 (own := RX3) (L := [(0, .ref (ad 0)), (1, .int x1), (2, .int x2)]) rfl (by decide +kernel) (Nat.le_of_ble_eq_true rfl) rfl ?_
  unfold re_readBetween
  refine b_aload_n (n := 1) 0 dX3_readBetween_0 rfl rfl rfl ?_
  refine bV0i (n := 4) (As := []) (rest := []) 0 lk_X3_71 (c_re_sign (Nat.le_refl _)) (by omega) rfl rfl rfl rfl (Nat.le_of_ble_eq_true rfl) dX3_readBetween_1 rfl (fun k1 => ?_)
  refine b_istore_n (n := 5) (L' := [(3, .int k1), (0, .ref (ad 0)), (1, .int x1), (2, .int x2)]) dX3_readBetween_4 rfl rfl (Nat.le_of_ble_eq_true rfl) rfl ?_
  refine b_aload_n (n := 6) 1 dX3_readBetween_5 rfl rfl rfl ?_
  refine b_get (n := 9) (v := .int (r 0 4)) 0 f_X3_32 dX3_readBetween_6 rfl hR_o0 rfl ?_
  refine b_if_ne (n := 12) (tgt := 22) dX3_readBetween_9 (by decide) rfl (fun h9 => ?_) (fun h9 => ?_)
  · refine b_iload_n (n := 13) 0 dX3_readBetween_12 rfl rfl rfl ?_
    refine b_iload_n (n := 14) 2 dX3_readBetween_13 rfl rfl rfl ?_
    refine b_cmp_lt (n := 17) (tgt := 22) dX3_readBetween_14 (by decide) rfl (fun h14 => ?_) (fun h14 => ?_)
    · refine Bd.sub (L' := [(0, .ref (ad 0))]) [1] rfl ?_
      exact w_re_readBetween_22 hd _
    · refine b_iload_n (n := 18) 0 dX3_readBetween_17 rfl rfl rfl ?_
      refine b_iload_n (n := 19) 3 dX3_readBetween_18 rfl rfl rfl ?_
      refine b_cmp_le (n := 22) (tgt := 29) dX3_readBetween_19 (by decide) rfl (fun h19 => ?_) (fun h19 => ?_)
      · refine Bd.sub (L' := [(0, .ref (ad 0))]) [1] rfl ?_
        exact w_re_readBetween_22 hd _
      · refine b_aload_n (n := 30) 1 dX3_readBetween_29 rfl rfl rfl ?_
        refine b_dup (n := 31) dX3_readBetween_30 rfl rfl ?_
        refine b_get (n := 34) (v := .int (r 0 5)) 0 f_X3_35 dX3_readBetween_31 rfl hR_o0 rfl ?_
        refine b_iconst (n := 35) (v := 1) dX3_readBetween_34 rfl (by decide) ?_
        refine b_iadd (n := 36) dX3_readBetween_35 rfl ?_
        refine b_put (n := 39) (ws' := hR E ad (up r 0 5 ((r 0 5) + 1)) t p) 0 fp_X3_35 dX3_readBetween_36 rfl hR_o0 rfl rfl (Nat.le_of_ble_eq_true rfl) hR_p0_5 ?_
        refine b_iload_n (n := 40) 0 dX3_readBetween_39 rfl rfl rfl ?_
        refine b_iload_n (n := 41) 2 dX3_readBetween_40 rfl rfl rfl ?_
        refine b_isub (n := 42) dX3_readBetween_41 rfl ?_
        exact b_iret dX3_readBetween_42 rfl rfl
  · refine Bd.sub (L' := [(0, .ref (ad 0))]) [1] rfl ?_
    exact w_re_readBetween_22 hd _
def re_readNumber_11 (N : Nat) (t : Mem)  : Nat → Int32 → Int32 → Mem → Option (Int32 × Mem)
  | 0, _, _, _ => none
  | n + 1, y1, y2, r =>
    if y2 < 3 then
      (if 0 < y1 then
        ((re_sign t r).bind fun k21 =>
        (re_isDigit k21).bind fun k24 =>
        if k24 = true then
          ((re_readBetween t 48 57 r).bind fun (k39, r39) =>
          re_readNumber_11 N t n ((10 * y1) + k39) (y2 + 1) r39)
        else
          (some (y1, r)))
      else
        (some (y1, r)))
    else
      (some (y1, r))
set_option maxHeartbeats 400000 in
set_option maxRecDepth 100000 in
theorem w_re_readNumber_11 {l : Launch} {E : Ev} {ad : Nat → Nat} {A : Nat → Prop} {d : Nat} {N : Nat}  {t : Mem} {p : Mem}  (hd : 3 ≤ d)  (n : Nat) : ∀ (y1 : Int32) (y2 : Int32) (r : Mem), Bd l E A RX3 cX3_readNumber 3 (some .int) d (fun q : Int32 × Mem => (some (.int q.1), hR E ad q.2 t p)) 11 [(0, .ref (ad 0)), (1, .int y1), (2, .int y2)] [] (hR E ad r t p) (re_readNumber_11 N t n y1 y2 r) := by
  induction n with
  | zero => intro y1 y2 r; exact b_none
  | succ n ih =>
    intro y1 y2 r
    rw [re_readNumber_11]
    refine b_iload_n (n := 12) 2 dX3_readNumber_11 rfl rfl rfl ?_
    refine b_iconst (n := 13) (v := 3) dX3_readNumber_12 rfl (by decide) ?_
    refine b_cmp_ge (n := 16) (tgt := 50) dX3_readNumber_13 (by decide) rfl (fun h13 => ?_) (fun h13 => ?_)
    · refine b_iload_n (n := 17) 1 dX3_readNumber_16 rfl rfl rfl ?_
      refine b_if_le (n := 20) (tgt := 50) dX3_readNumber_17 (by decide) rfl (fun h17 => ?_) (fun h17 => ?_)
      · refine b_aload_n (n := 21) 0 dX3_readNumber_20 rfl rfl rfl ?_
        refine bV0i (n := 24) (As := []) (rest := []) 0 lk_X3_71 (c_re_sign (Nat.le_refl _)) (by omega) rfl rfl rfl rfl (Nat.le_of_ble_eq_true rfl) dX3_readNumber_21 rfl (fun k21 => ?_)
        refine bSb (n := 27) (As := [.int k21]) (rest := []) lk_X3_140 (c_re_isDigit (Nat.le_refl _)) (by omega) rfl rfl (Nat.le_of_ble_eq_true rfl) dX3_readNumber_24 rfl (fun k24 => ?_)
        refine b_bz (n := 30) (tgt := 50) dX3_readNumber_27 (by decide) rfl (fun h27 => ?_) (fun h27 => ?_)
        · refine b_bipush (n := 32) (v := 10) dX3_readNumber_30 rfl (by decide) ?_
          refine b_iload_n (n := 33) 1 dX3_readNumber_32 rfl rfl rfl ?_
          refine b_imul (n := 34) dX3_readNumber_33 rfl ?_
          refine b_aload_n (n := 35) 0 dX3_readNumber_34 rfl rfl rfl ?_
          refine b_bipush (n := 37) (v := 48) dX3_readNumber_35 rfl (by decide) ?_
          refine b_bipush (n := 39) (v := 57) dX3_readNumber_37 rfl (by decide) ?_
          refine bV0wi (n := 42) (hh := (fun s : Mem => hR E ad s t p)) (As := [.int 48, .int 57]) (rest := [.int (10 * y1)]) 0 lk_X3_121 (c_re_readBetween (Nat.le_refl _)) (by omega) (fun _ => rfl) rfl rfl rfl rfl (Nat.le_of_ble_eq_true rfl) dX3_readNumber_39 rfl ?_
          rintro k39 r39
          try dsimp only
          refine b_iadd (n := 43) dX3_readNumber_42 rfl ?_
          refine b_istore_n (n := 44) (L' := [(1, .int ((10 * y1) + k39)), (0, .ref (ad 0)), (2, .int y2)]) dX3_readNumber_43 rfl rfl (Nat.le_of_ble_eq_true rfl) rfl ?_
          refine b_iinc (n := 47) (L' := [(2, .int (y2 + 1)), (1, .int ((10 * y1) + k39)), (0, .ref (ad 0))]) 2 1 dX3_readNumber_44 rfl rfl (by decide) (Nat.le_of_ble_eq_true rfl) rfl ?_
          refine b_goto (n := 11) dX3_readNumber_47 (by decide) ?_
          refine Bd.sub (L' := [(0, .ref (ad 0)), (1, .int ((10 * y1) + k39)), (2, .int (y2 + 1))]) [2, 1, 0] rfl ?_
          exact ih _ _ _
        · refine b_iload_n (n := 51) 1 dX3_readNumber_50 rfl rfl rfl ?_
          exact b_iret dX3_readNumber_51 rfl rfl
      · refine b_iload_n (n := 51) 1 dX3_readNumber_50 rfl rfl rfl ?_
        exact b_iret dX3_readNumber_51 rfl rfl
    · refine b_iload_n (n := 51) 1 dX3_readNumber_50 rfl rfl rfl ?_
      exact b_iret dX3_readNumber_51 rfl rfl
def re_readNumber (N : Nat) (t : Mem)  (r : Mem) : Option (Int32 × Mem) :=
  (re_readBetween t 48 57 r).bind fun (k5, r5) =>
  re_readNumber_11 N t N k5 1 r5
set_option maxHeartbeats 400000 in
set_option maxRecDepth 100000 in
theorem c_re_readNumber {l : Launch} {E : Ev} {ad : Nat → Nat} {d : Nat} {N : Nat}  {t : Mem} {p : Mem}  {r : Mem} (hd : 3 ≤ d) : Ct l yX3_readNumber cX3_readNumber 3 (some .int) d E (hR E ad r t p) [.ref (ad 0)] (fun q : Int32 × Mem => (some (.int q.1), hR E ad q.2 t p)) (re_readNumber N t r) := by
  refine Ct.of2 (own := RX3) (L := [(0, .ref (ad 0))]) rfl (by decide +kernel) (Nat.le_of_ble_eq_true rfl) rfl ?_
  unfold re_readNumber
  refine b_aload_n (n := 1) 0 dX3_readNumber_0 rfl rfl rfl ?_
  refine b_bipush (n := 3) (v := 48) dX3_readNumber_1 rfl (by decide) ?_
  refine b_bipush (n := 5) (v := 57) dX3_readNumber_3 rfl (by decide) ?_
  refine bV0wi (n := 8) (hh := (fun s : Mem => hR E ad s t p)) (As := [.int 48, .int 57]) (rest := []) 0 lk_X3_121 (c_re_readBetween (Nat.le_refl _)) (by omega) (fun _ => rfl) rfl rfl rfl rfl (Nat.le_of_ble_eq_true rfl) dX3_readNumber_5 rfl ?_
  rintro k5 r5
  try dsimp only
  refine b_istore_n (n := 9) (L' := [(1, .int k5), (0, .ref (ad 0))]) dX3_readNumber_8 rfl rfl (Nat.le_of_ble_eq_true rfl) rfl ?_
  refine b_iconst (n := 10) (v := 1) dX3_readNumber_9 rfl (by decide) ?_
  refine b_istore_n (n := 11) (L' := [(2, .int 1), (1, .int k5), (0, .ref (ad 0))]) dX3_readNumber_10 rfl rfl (Nat.le_of_ble_eq_true rfl) rfl ?_
  refine Bd.sub (L' := [(0, .ref (ad 0)), (1, .int k5), (2, .int 1)]) [2, 1, 0] rfl ?_
  exact w_re_readNumber_11 hd _ _ _ _
def re_expect (t : Mem) (x1 : Int32) (r : Mem) : Option (Mem) :=
  (re_takes t x1 r).bind fun (k2, r2) =>
  if k2 = true then
    (some r2)
  else
    ((re_fail 1 r2).bind fun r10 =>
    some r10)
set_option maxHeartbeats 400000 in
set_option maxRecDepth 100000 in
theorem c_re_expect {l : Launch} {E : Ev} {ad : Nat → Nat} {d : Nat}   {t : Mem} {p : Mem} {x1 : Int32} {r : Mem} (hd : 3 ≤ d) : Ct l yX3_expect cX3_expect 2 none d E (hR E ad r t p) [.ref (ad 0), .int x1] (fun q : Mem => (none, hR E ad q t p)) (re_expect t x1 r) := by
  refine Ct.of2 (own := RX3) (L := [(0, .ref (ad 0)), (1, .int x1)]) rfl (by decide +kernel) (Nat.le_of_ble_eq_true rfl) rfl ?_
  unfold re_expect
  refine b_aload_n (n := 1) 0 dX3_expect_0 rfl rfl rfl ?_
  refine b_iload_n (n := 2) 1 dX3_expect_1 rfl rfl rfl ?_
  refine bV0wb (n := 5) (hh := (fun s : Mem => hR E ad s t p)) (As := [.int x1]) (rest := []) 0 lk_X3_67 (c_re_takes (Nat.le_refl _)) (by omega) (fun _ => rfl) rfl rfl rfl rfl (Nat.le_of_ble_eq_true rfl) dX3_expect_2 rfl ?_
  rintro k2 r2
  try dsimp only
  refine b_bnz (n := 8) (tgt := 13) dX3_expect_5 (by decide) rfl (fun h5 => ?_) (fun h5 => ?_)
  · exact b_vret dX3_expect_13 rfl rfl
  · refine b_aload_n (n := 9) 0 dX3_expect_8 rfl rfl rfl ?_
    refine b_iconst (n := 10) (v := 1) dX3_expect_9 rfl (by decide) ?_
    refine bV0wv (n := 13) (hh := (fun s : Mem => hR E ad s t p)) (As := [.int 1]) (rest := []) 0 lk_X3_51 (c_re_fail (Nat.le_refl _)) (by omega) (fun _ => rfl) rfl rfl rfl rfl (Nat.le_of_ble_eq_true rfl) dX3_expect_10 rfl ?_
    rintro r10
    try dsimp only
    exact b_vret dX3_expect_13 rfl rfl
def re_readVariable (t : Mem)  (r : Mem) : Option (Int32 × Mem) :=
  (re_readBetween t 48 51 r).bind fun (k5, r5) =>
  some (k5, r5)
set_option maxHeartbeats 400000 in
set_option maxRecDepth 100000 in
theorem c_re_readVariable {l : Launch} {E : Ev} {ad : Nat → Nat} {d : Nat}   {t : Mem} {p : Mem}  {r : Mem} (hd : 3 ≤ d) : Ct l yX3_readVariable cX3_readVariable 1 (some .int) d E (hR E ad r t p) [.ref (ad 0)] (fun q : Int32 × Mem => (some (.int q.1), hR E ad q.2 t p)) (re_readVariable t r) := by
  refine Ct.of2 (own := RX3) (L := [(0, .ref (ad 0))]) rfl (by decide +kernel) (Nat.le_of_ble_eq_true rfl) rfl ?_
  unfold re_readVariable
  refine b_aload_n (n := 1) 0 dX3_readVariable_0 rfl rfl rfl ?_
  refine b_bipush (n := 3) (v := 48) dX3_readVariable_1 rfl (by decide) ?_
  refine b_bipush (n := 5) (v := 51) dX3_readVariable_3 rfl (by decide) ?_
  refine bV0wi (n := 8) (hh := (fun s : Mem => hR E ad s t p)) (As := [.int 48, .int 51]) (rest := []) 0 lk_X3_121 (c_re_readBetween (Nat.le_refl _)) (by omega) (fun _ => rfl) rfl rfl rfl rfl (Nat.le_of_ble_eq_true rfl) dX3_readVariable_5 rfl ?_
  rintro k5 r5
  try dsimp only
  exact b_iret dX3_readVariable_8 rfl rfl
def re_readSet_41 (N : Nat) (t : Mem)  (y1 : Int32) (r : Mem) (p : Mem) : Option (Mem × Mem) :=
  (re_takes t 45 r).bind fun (k52, r52) =>
  if k52 = true then
    ((re_readNumber N t r52).bind fun (k59, r59) =>
    ck 24 y1 <|
    some (r59, up p 10 y1.toNatClampNeg (-k59)))
  else
    ((re_readNumber N t r52).bind fun (k67, r67) =>
    ck 24 y1 <|
    some (r67, up p 10 y1.toNatClampNeg k67))
set_option maxHeartbeats 400000 in
set_option maxRecDepth 100000 in
theorem w_re_readSet_41 {l : Launch} {E : Ev} {ad : Nat → Nat} {A : Nat → Prop} {d : Nat} {N : Nat}  {t : Mem}  (hd : 4 ≤ d)  (y1 : Int32) (r : Mem) (p : Mem) : Bd l E A RX3 cX3_readSet 2 none d (fun q : Mem × Mem => (none, hR E ad q.1 t q.2)) 41 [(0, .ref (ad 0)), (1, .int y1)] [] (hR E ad r t p) (re_readSet_41 N t y1 r p) := by
  unfold re_readSet_41
  refine b_aload_n (n := 42) 0 dX3_readSet_41 rfl rfl rfl ?_
  refine b_get (n := 45) (v := .ref (ad 6)) 0 f_X3_28 dX3_readSet_42 rfl hR_o0 rfl ?_
  refine b_get (n := 48) (v := .ref (ad 10)) 3 f_X3_90 dX3_readSet_45 rfl hR_o6 rfl ?_
  refine b_iload_n (n := 49) 1 dX3_readSet_48 rfl rfl rfl ?_
  refine b_aload_n (n := 50) 0 dX3_readSet_49 rfl rfl rfl ?_
  refine b_bipush (n := 52) (v := 45) dX3_readSet_50 rfl (by decide) ?_
  refine bV0wb (n := 55) (hh := (fun s : Mem => hR E ad s t p)) (As := [.int 45]) (rest := [.int y1, .ref (ad 10)]) 0 lk_X3_67 (c_re_takes (Nat.le_refl _)) (by omega) (fun _ => rfl) rfl rfl rfl rfl (Nat.le_of_ble_eq_true rfl) dX3_readSet_52 rfl ?_
  rintro k52 r52
  try dsimp only
  refine b_bz (n := 58) (tgt := 66) dX3_readSet_55 (by decide) rfl (fun h55 => ?_) (fun h55 => ?_)
  · refine b_aload_n (n := 59) 0 dX3_readSet_58 rfl rfl rfl ?_
    refine bV0wi (n := 62) (hh := (fun s : Mem => hR E ad s t p)) (As := []) (rest := [.int y1, .ref (ad 10)]) 0 lk_X3_93 (c_re_readNumber (Nat.le_refl _)) (by omega) (fun _ => rfl) rfl rfl rfl rfl (Nat.le_of_ble_eq_true rfl) dX3_readSet_59 rfl ?_
    rintro k59 r59
    try dsimp only
    refine b_ineg (n := 63) dX3_readSet_62 rfl ?_
    refine b_goto (n := 70) dX3_readSet_63 (by decide) ?_
    refine b_iast (n := 71) (ws' := hR E ad r59 t (up p 10 y1.toNatClampNeg (-k59))) 7 dX3_readSet_70 rfl hR_a10 hR_s10 ?_
    exact b_vret dX3_readSet_71 rfl rfl
  · refine b_aload_n (n := 67) 0 dX3_readSet_66 rfl rfl rfl ?_
    refine bV0wi (n := 70) (hh := (fun s : Mem => hR E ad s t p)) (As := []) (rest := [.int y1, .ref (ad 10)]) 0 lk_X3_93 (c_re_readNumber (Nat.le_refl _)) (by omega) (fun _ => rfl) rfl rfl rfl rfl (Nat.le_of_ble_eq_true rfl) dX3_readSet_67 rfl ?_
    rintro k67 r67
    try dsimp only
    refine b_iast (n := 71) (ws' := hR E ad r67 t (up p 10 y1.toNatClampNeg k67)) 7 dX3_readSet_70 rfl hR_a10 hR_s10 ?_
    exact b_vret dX3_readSet_71 rfl rfl
def re_readSet (N : Nat) (t : Mem) (x1 : Int32) (r : Mem) (p : Mem) : Option (Mem × Mem) :=
  (re_readVariable t r).bind fun (k9, r9) =>
  ck 24 x1 <|
  (re_takes t 43 r9).bind fun (k16, r16) =>
  if k16 = true then
    (ck 24 x1 <|
    re_readSet_41 N t x1 r16 (up (up p 9 x1.toNatClampNeg k9) 11 x1.toNatClampNeg 1))
  else
    ((re_expect t 61 r16).bind fun r38 =>
    re_readSet_41 N t x1 r38 (up p 9 x1.toNatClampNeg k9))
set_option maxHeartbeats 400000 in
set_option maxRecDepth 100000 in
theorem c_re_readSet {l : Launch} {E : Ev} {ad : Nat → Nat} {d : Nat} {N : Nat}  {t : Mem} {x1 : Int32} {r : Mem} {p : Mem} (hd : 4 ≤ d) : Ct l yX3_readSet cX3_readSet 2 none d E (hR E ad r t p) [.ref (ad 0), .int x1] (fun q : Mem × Mem => (none, hR E ad q.1 t q.2)) (re_readSet N t x1 r p) := by
  refine Ct.of2 (own := RX3) (L := [(0, .ref (ad 0)), (1, .int x1)]) rfl (by decide +kernel) (Nat.le_of_ble_eq_true rfl) rfl ?_
  unfold re_readSet
  refine b_aload_n (n := 1) 0 dX3_readSet_0 rfl rfl rfl ?_
  refine b_get (n := 4) (v := .ref (ad 6)) 0 f_X3_28 dX3_readSet_1 rfl hR_o0 rfl ?_
  refine b_get (n := 7) (v := .ref (ad 9)) 3 f_X3_112 dX3_readSet_4 rfl hR_o6 rfl ?_
  refine b_iload_n (n := 8) 1 dX3_readSet_7 rfl rfl rfl ?_
  refine b_aload_n (n := 9) 0 dX3_readSet_8 rfl rfl rfl ?_
  refine bV0wi (n := 12) (hh := (fun s : Mem => hR E ad s t p)) (As := []) (rest := [.int x1, .ref (ad 9)]) 0 lk_X3_127 (c_re_readVariable (Nat.le_refl _)) (by omega) (fun _ => rfl) rfl rfl rfl rfl (Nat.le_of_ble_eq_true rfl) dX3_readSet_9 rfl ?_
  rintro k9 r9
  try dsimp only
  refine b_iast (n := 13) (ws' := hR E ad r9 t (up p 9 x1.toNatClampNeg k9)) 6 dX3_readSet_12 rfl hR_a9 hR_s9 ?_
  refine b_aload_n (n := 14) 0 dX3_readSet_13 rfl rfl rfl ?_
  refine b_bipush (n := 16) (v := 43) dX3_readSet_14 rfl (by decide) ?_
  refine bV0wb (n := 19) (hh := (fun s : Mem => hR E ad s t (up p 9 x1.toNatClampNeg k9))) (As := [.int 43]) (rest := []) 0 lk_X3_67 (c_re_takes (Nat.le_refl _)) (by omega) (fun _ => rfl) rfl rfl rfl rfl (Nat.le_of_ble_eq_true rfl) dX3_readSet_16 rfl ?_
  rintro k16 r16
  try dsimp only
  refine b_bz (n := 22) (tgt := 35) dX3_readSet_19 (by decide) rfl (fun h19 => ?_) (fun h19 => ?_)
  · refine b_aload_n (n := 23) 0 dX3_readSet_22 rfl rfl rfl ?_
    refine b_get (n := 26) (v := .ref (ad 6)) 0 f_X3_28 dX3_readSet_23 rfl hR_o0 rfl ?_
    refine b_get (n := 29) (v := .ref (ad 11)) 3 f_X3_118 dX3_readSet_26 rfl hR_o6 rfl ?_
    refine b_iload_n (n := 30) 1 dX3_readSet_29 rfl rfl rfl ?_
    refine b_iconst (n := 31) (v := 1) dX3_readSet_30 rfl (by decide) ?_
    refine b_iast (n := 32) (ws' := hR E ad r16 t (up (up p 9 x1.toNatClampNeg k9) 11 x1.toNatClampNeg 1)) 8 dX3_readSet_31 rfl hR_a11 hR_s11 ?_
    refine b_goto (n := 41) dX3_readSet_32 (by decide) ?_
    exact w_re_readSet_41 hd _ _ _
  · refine b_aload_n (n := 36) 0 dX3_readSet_35 rfl rfl rfl ?_
    refine b_bipush (n := 38) (v := 61) dX3_readSet_36 rfl (by decide) ?_
    refine bV0wv (n := 41) (hh := (fun s : Mem => hR E ad s t (up p 9 x1.toNatClampNeg k9))) (As := [.int 61]) (rest := []) 0 lk_X3_130 (c_re_expect (Nat.le_refl _)) (by omega) (fun _ => rfl) rfl rfl rfl rfl (Nat.le_of_ble_eq_true rfl) dX3_readSet_38 rfl ?_
    rintro r38
    try dsimp only
    exact w_re_readSet_41 hd _ _ _
def re_readCode (t : Mem)  (r : Mem) : Option (Int32 × Mem) :=
  (re_readBetween t 97 104 r).bind fun (k5, r5) =>
  some (k5, r5)
set_option maxHeartbeats 400000 in
set_option maxRecDepth 100000 in
theorem c_re_readCode {l : Launch} {E : Ev} {ad : Nat → Nat} {d : Nat}   {t : Mem} {p : Mem}  {r : Mem} (hd : 3 ≤ d) : Ct l yX3_readCode cX3_readCode 1 (some .int) d E (hR E ad r t p) [.ref (ad 0)] (fun q : Int32 × Mem => (some (.int q.1), hR E ad q.2 t p)) (re_readCode t r) := by
  refine Ct.of2 (own := RX3) (L := [(0, .ref (ad 0))]) rfl (by decide +kernel) (Nat.le_of_ble_eq_true rfl) rfl ?_
  unfold re_readCode
  refine b_aload_n (n := 1) 0 dX3_readCode_0 rfl rfl rfl ?_
  refine b_bipush (n := 3) (v := 97) dX3_readCode_1 rfl (by decide) ?_
  refine b_bipush (n := 5) (v := 104) dX3_readCode_3 rfl (by decide) ?_
  refine bV0wi (n := 8) (hh := (fun s : Mem => hR E ad s t p)) (As := [.int 97, .int 104]) (rest := []) 0 lk_X3_121 (c_re_readBetween (Nat.le_refl _)) (by omega) (fun _ => rfl) rfl rfl rfl rfl (Nat.le_of_ble_eq_true rfl) dX3_readCode_5 rfl ?_
  rintro k5 r5
  try dsimp only
  exact b_iret dX3_readCode_8 rfl rfl
def re_readSignal (N : Nat) (t : Mem) (x1 : Int32) (r : Mem) (p : Mem) : Option (Mem × Mem) :=
  (re_readCode t r).bind fun (k9, r9) =>
  ck 24 x1 <|
  (re_takes t 44 r9).bind fun (k16, r16) =>
  if k16 = true then
    ((re_readNumber N t r16).bind fun (k31, r31) =>
    ck 24 x1 <|
    some (r31, up (up p 9 x1.toNatClampNeg k9) 10 x1.toNatClampNeg k31))
  else
    (some (r16, up p 9 x1.toNatClampNeg k9))
set_option maxHeartbeats 400000 in
set_option maxRecDepth 100000 in
theorem c_re_readSignal {l : Launch} {E : Ev} {ad : Nat → Nat} {d : Nat} {N : Nat}  {t : Mem} {x1 : Int32} {r : Mem} {p : Mem} (hd : 4 ≤ d) : Ct l yX3_readSignal cX3_readSignal 2 none d E (hR E ad r t p) [.ref (ad 0), .int x1] (fun q : Mem × Mem => (none, hR E ad q.1 t q.2)) (re_readSignal N t x1 r p) := by
  refine Ct.of2 (own := RX3) (L := [(0, .ref (ad 0)), (1, .int x1)]) rfl (by decide +kernel) (Nat.le_of_ble_eq_true rfl) rfl ?_
  unfold re_readSignal
  refine b_aload_n (n := 1) 0 dX3_readSignal_0 rfl rfl rfl ?_
  refine b_get (n := 4) (v := .ref (ad 6)) 0 f_X3_28 dX3_readSignal_1 rfl hR_o0 rfl ?_
  refine b_get (n := 7) (v := .ref (ad 9)) 3 f_X3_112 dX3_readSignal_4 rfl hR_o6 rfl ?_
  refine b_iload_n (n := 8) 1 dX3_readSignal_7 rfl rfl rfl ?_
  refine b_aload_n (n := 9) 0 dX3_readSignal_8 rfl rfl rfl ?_
  refine bV0wi (n := 12) (hh := (fun s : Mem => hR E ad s t p)) (As := []) (rest := [.int x1, .ref (ad 9)]) 0 lk_X3_115 (c_re_readCode (Nat.le_refl _)) (by omega) (fun _ => rfl) rfl rfl rfl rfl (Nat.le_of_ble_eq_true rfl) dX3_readSignal_9 rfl ?_
  rintro k9 r9
  try dsimp only
  refine b_iast (n := 13) (ws' := hR E ad r9 t (up p 9 x1.toNatClampNeg k9)) 6 dX3_readSignal_12 rfl hR_a9 hR_s9 ?_
  refine b_aload_n (n := 14) 0 dX3_readSignal_13 rfl rfl rfl ?_
  refine b_bipush (n := 16) (v := 44) dX3_readSignal_14 rfl (by decide) ?_
  refine bV0wb (n := 19) (hh := (fun s : Mem => hR E ad s t (up p 9 x1.toNatClampNeg k9))) (As := [.int 44]) (rest := []) 0 lk_X3_67 (c_re_takes (Nat.le_refl _)) (by omega) (fun _ => rfl) rfl rfl rfl rfl (Nat.le_of_ble_eq_true rfl) dX3_readSignal_16 rfl ?_
  rintro k16 r16
  try dsimp only
  refine b_bz (n := 22) (tgt := 35) dX3_readSignal_19 (by decide) rfl (fun h19 => ?_) (fun h19 => ?_)
  · refine b_aload_n (n := 23) 0 dX3_readSignal_22 rfl rfl rfl ?_
    refine b_get (n := 26) (v := .ref (ad 6)) 0 f_X3_28 dX3_readSignal_23 rfl hR_o0 rfl ?_
    refine b_get (n := 29) (v := .ref (ad 10)) 3 f_X3_90 dX3_readSignal_26 rfl hR_o6 rfl ?_
    refine b_iload_n (n := 30) 1 dX3_readSignal_29 rfl rfl rfl ?_
    refine b_aload_n (n := 31) 0 dX3_readSignal_30 rfl rfl rfl ?_
    refine bV0wi (n := 34) (hh := (fun s : Mem => hR E ad s t (up p 9 x1.toNatClampNeg k9))) (As := []) (rest := [.int x1, .ref (ad 10)]) 0 lk_X3_93 (c_re_readNumber (Nat.le_refl _)) (by omega) (fun _ => rfl) rfl rfl rfl rfl (Nat.le_of_ble_eq_true rfl) dX3_readSignal_31 rfl ?_
    rintro k31 r31
    try dsimp only
    refine b_iast (n := 35) (ws' := hR E ad r31 t (up (up p 9 x1.toNatClampNeg k9) 10 x1.toNatClampNeg k31)) 7 dX3_readSignal_34 rfl hR_a10 hR_s10 ?_
    exact b_vret dX3_readSignal_35 rfl rfl
  · exact b_vret dX3_readSignal_35 rfl rfl
def re_readTask_61 (N : Nat) (t : Mem)  (y1 : Int32) (r : Mem) (p : Mem) : Option (Mem × Mem) :=
  (re_takes t 99 r).bind fun (k64, r64) =>
  if k64 = true then
    ((re_readCode t r64).bind fun (k79, r79) =>
    ck 24 y1 <|
    some (r79, up p 12 y1.toNatClampNeg k79))
  else
    (some (r64, p))
set_option maxHeartbeats 400000 in
set_option maxRecDepth 100000 in
theorem w_re_readTask_61 {l : Launch} {E : Ev} {ad : Nat → Nat} {A : Nat → Prop} {d : Nat} {N : Nat}  {t : Mem}  (hd : 4 ≤ d)  (y1 : Int32) (r : Mem) (p : Mem) : Bd l E A RX3 cX3_readTask 2 none d (fun q : Mem × Mem => (none, hR E ad q.1 t q.2)) 61 [(0, .ref (ad 0)), (1, .int y1)] [] (hR E ad r t p) (re_readTask_61 N t y1 r p) := by
  unfold re_readTask_61
  refine b_aload_n (n := 62) 0 dX3_readTask_61 rfl rfl rfl ?_
  refine b_bipush (n := 64) (v := 99) dX3_readTask_62 rfl (by decide) ?_
  refine bV0wb (n := 67) (hh := (fun s : Mem => hR E ad s t p)) (As := [.int 99]) (rest := []) 0 lk_X3_67 (c_re_takes (Nat.le_refl _)) (by omega) (fun _ => rfl) rfl rfl rfl rfl (Nat.le_of_ble_eq_true rfl) dX3_readTask_64 rfl ?_
  rintro k64 r64
  try dsimp only
  refine b_bz (n := 70) (tgt := 83) dX3_readTask_67 (by decide) rfl (fun h67 => ?_) (fun h67 => ?_)
  · refine b_aload_n (n := 71) 0 dX3_readTask_70 rfl rfl rfl ?_
    refine b_get (n := 74) (v := .ref (ad 6)) 0 f_X3_28 dX3_readTask_71 rfl hR_o0 rfl ?_
    refine b_get (n := 77) (v := .ref (ad 12)) 3 f_X3_124 dX3_readTask_74 rfl hR_o6 rfl ?_
    refine b_iload_n (n := 78) 1 dX3_readTask_77 rfl rfl rfl ?_
    refine b_aload_n (n := 79) 0 dX3_readTask_78 rfl rfl rfl ?_
    refine bV0wi (n := 82) (hh := (fun s : Mem => hR E ad s t p)) (As := []) (rest := [.int y1, .ref (ad 12)]) 0 lk_X3_115 (c_re_readCode (Nat.le_refl _)) (by omega) (fun _ => rfl) rfl rfl rfl rfl (Nat.le_of_ble_eq_true rfl) dX3_readTask_79 rfl ?_
    rintro k79 r79
    try dsimp only
    refine b_iast (n := 83) (ws' := hR E ad r79 t (up p 12 y1.toNatClampNeg k79)) 9 dX3_readTask_82 rfl hR_a12 hR_s12 ?_
    exact b_vret dX3_readTask_83 rfl rfl
  · exact b_vret dX3_readTask_83 rfl rfl
def re_readTask (N : Nat) (t : Mem) (x1 : Int32) (r : Mem) (p : Mem) : Option (Mem × Mem) :=
  (re_readCode t r).bind fun (k9, r9) =>
  ck 24 x1 <|
  (re_takes t 114 r9).bind fun (k16, r16) =>
  if k16 = true then
    ((re_readBetween t 48 57 r16).bind fun (k35, r35) =>
    ck 24 x1 <|
    (re_takes t 43 r35).bind fun (k42, r42) =>
    if k42 = true then
      ((re_readNumber N t r42).bind fun (k57, r57) =>
      ck 24 x1 <|
      re_readTask_61 N t x1 r57 (up (up (up p 9 x1.toNatClampNeg k9) 11 x1.toNatClampNeg k35) 10 x1.toNatClampNeg k57))
    else
      (re_readTask_61 N t x1 r42 (up (up p 9 x1.toNatClampNeg k9) 11 x1.toNatClampNeg k35)))
  else
    (re_readTask_61 N t x1 r16 (up p 9 x1.toNatClampNeg k9))
set_option maxHeartbeats 400000 in
set_option maxRecDepth 100000 in
theorem c_re_readTask {l : Launch} {E : Ev} {ad : Nat → Nat} {d : Nat} {N : Nat}  {t : Mem} {x1 : Int32} {r : Mem} {p : Mem} (hd : 4 ≤ d) : Ct l yX3_readTask cX3_readTask 2 none d E (hR E ad r t p) [.ref (ad 0), .int x1] (fun q : Mem × Mem => (none, hR E ad q.1 t q.2)) (re_readTask N t x1 r p) := by
  refine Ct.of2 (own := RX3) (L := [(0, .ref (ad 0)), (1, .int x1)]) rfl (by decide +kernel) (Nat.le_of_ble_eq_true rfl) rfl ?_
  unfold re_readTask
  refine b_aload_n (n := 1) 0 dX3_readTask_0 rfl rfl rfl ?_
  refine b_get (n := 4) (v := .ref (ad 6)) 0 f_X3_28 dX3_readTask_1 rfl hR_o0 rfl ?_
  refine b_get (n := 7) (v := .ref (ad 9)) 3 f_X3_112 dX3_readTask_4 rfl hR_o6 rfl ?_
  refine b_iload_n (n := 8) 1 dX3_readTask_7 rfl rfl rfl ?_
  refine b_aload_n (n := 9) 0 dX3_readTask_8 rfl rfl rfl ?_
  refine bV0wi (n := 12) (hh := (fun s : Mem => hR E ad s t p)) (As := []) (rest := [.int x1, .ref (ad 9)]) 0 lk_X3_115 (c_re_readCode (Nat.le_refl _)) (by omega) (fun _ => rfl) rfl rfl rfl rfl (Nat.le_of_ble_eq_true rfl) dX3_readTask_9 rfl ?_
  rintro k9 r9
  try dsimp only
  refine b_iast (n := 13) (ws' := hR E ad r9 t (up p 9 x1.toNatClampNeg k9)) 6 dX3_readTask_12 rfl hR_a9 hR_s9 ?_
  refine b_aload_n (n := 14) 0 dX3_readTask_13 rfl rfl rfl ?_
  refine b_bipush (n := 16) (v := 114) dX3_readTask_14 rfl (by decide) ?_
  refine bV0wb (n := 19) (hh := (fun s : Mem => hR E ad s t (up p 9 x1.toNatClampNeg k9))) (As := [.int 114]) (rest := []) 0 lk_X3_67 (c_re_takes (Nat.le_refl _)) (by omega) (fun _ => rfl) rfl rfl rfl rfl (Nat.le_of_ble_eq_true rfl) dX3_readTask_16 rfl ?_
  rintro k16 r16
  try dsimp only
  refine b_bz (n := 22) (tgt := 61) dX3_readTask_19 (by decide) rfl (fun h19 => ?_) (fun h19 => ?_)
  · refine b_aload_n (n := 23) 0 dX3_readTask_22 rfl rfl rfl ?_
    refine b_get (n := 26) (v := .ref (ad 6)) 0 f_X3_28 dX3_readTask_23 rfl hR_o0 rfl ?_
    refine b_get (n := 29) (v := .ref (ad 11)) 3 f_X3_118 dX3_readTask_26 rfl hR_o6 rfl ?_
    refine b_iload_n (n := 30) 1 dX3_readTask_29 rfl rfl rfl ?_
    refine b_aload_n (n := 31) 0 dX3_readTask_30 rfl rfl rfl ?_
    refine b_bipush (n := 33) (v := 48) dX3_readTask_31 rfl (by decide) ?_
    refine b_bipush (n := 35) (v := 57) dX3_readTask_33 rfl (by decide) ?_
    refine bV0wi (n := 38) (hh := (fun s : Mem => hR E ad s t (up p 9 x1.toNatClampNeg k9))) (As := [.int 48, .int 57]) (rest := [.int x1, .ref (ad 11)]) 0 lk_X3_121 (c_re_readBetween (Nat.le_refl _)) (by omega) (fun _ => rfl) rfl rfl rfl rfl (Nat.le_of_ble_eq_true rfl) dX3_readTask_35 rfl ?_
    rintro k35 r35
    try dsimp only
    refine b_iast (n := 39) (ws' := hR E ad r35 t (up (up p 9 x1.toNatClampNeg k9) 11 x1.toNatClampNeg k35)) 8 dX3_readTask_38 rfl hR_a11 hR_s11 ?_
    refine b_aload_n (n := 40) 0 dX3_readTask_39 rfl rfl rfl ?_
    refine b_bipush (n := 42) (v := 43) dX3_readTask_40 rfl (by decide) ?_
    refine bV0wb (n := 45) (hh := (fun s : Mem => hR E ad s t (up (up p 9 x1.toNatClampNeg k9) 11 x1.toNatClampNeg k35))) (As := [.int 43]) (rest := []) 0 lk_X3_67 (c_re_takes (Nat.le_refl _)) (by omega) (fun _ => rfl) rfl rfl rfl rfl (Nat.le_of_ble_eq_true rfl) dX3_readTask_42 rfl ?_
    rintro k42 r42
    try dsimp only
    refine b_bz (n := 48) (tgt := 61) dX3_readTask_45 (by decide) rfl (fun h45 => ?_) (fun h45 => ?_)
    · refine b_aload_n (n := 49) 0 dX3_readTask_48 rfl rfl rfl ?_
      refine b_get (n := 52) (v := .ref (ad 6)) 0 f_X3_28 dX3_readTask_49 rfl hR_o0 rfl ?_
      refine b_get (n := 55) (v := .ref (ad 10)) 3 f_X3_90 dX3_readTask_52 rfl hR_o6 rfl ?_
      refine b_iload_n (n := 56) 1 dX3_readTask_55 rfl rfl rfl ?_
      refine b_aload_n (n := 57) 0 dX3_readTask_56 rfl rfl rfl ?_
      refine bV0wi (n := 60) (hh := (fun s : Mem => hR E ad s t (up (up p 9 x1.toNatClampNeg k9) 11 x1.toNatClampNeg k35))) (As := []) (rest := [.int x1, .ref (ad 10)]) 0 lk_X3_93 (c_re_readNumber (Nat.le_refl _)) (by omega) (fun _ => rfl) rfl rfl rfl rfl (Nat.le_of_ble_eq_true rfl) dX3_readTask_57 rfl ?_
      rintro k57 r57
      try dsimp only
      refine b_iast (n := 61) (ws' := hR E ad r57 t (up (up (up p 9 x1.toNatClampNeg k9) 11 x1.toNatClampNeg k35) 10 x1.toNatClampNeg k57)) 7 dX3_readTask_60 rfl hR_a10 hR_s10 ?_
      exact w_re_readTask_61 hd _ _ _
    · exact w_re_readTask_61 hd _ _ _
  · exact w_re_readTask_61 hd _ _ _
def re_readBodyOf (N : Nat) (t : Mem) (B : Int32 → Mem → Mem → Option (Int32 × Mem × Mem)) (x1 : Int32) (x2 : Int32) (x3 : Int32) (r : Mem) (p : Mem) : Option (Int32 × Mem × Mem) :=
  ck 96 ((x1 * 4) + x2) <|
  (B x3 r (up p 15 ((x1 * 4) + x2).toNatClampNeg (p 6 11))).bind fun (k22, r22, p22) =>
  some (k22, r22, p22)
set_option maxHeartbeats 400000 in
set_option maxRecDepth 100000 in
theorem c_re_readBodyOf {l : Launch} {E : Ev} {ad : Nat → Nat} {d : Nat} {N : Nat}  {t : Mem} {B : Int32 → Mem → Mem → Option (Int32 × Mem × Mem)} {dB : Nat} {x1 : Int32} {x2 : Int32} {x3 : Int32} {r : Mem} {p : Mem} (hd : dB + 1 ≤ d) (hdB : 5 ≤ dB) (hB : ∀ (x1 : Int32) (r : Mem) (p : Mem), Ct l yX3_readBody cX3_readBody 7 (some .int) dB E (hR E ad r t p) [.ref (ad 0), .int x1] (fun q : Int32 × Mem × Mem => (some (.int q.1), hR E ad q.2.1 t q.2.2)) (B x1 r p)) : Ct l yX3_readBodyOf cX3_readBodyOf 4 (some .int) d E (hR E ad r t p) [.ref (ad 0), .int x1, .int x2, .int x3] (fun q : Int32 × Mem × Mem => (some (.int q.1), hR E ad q.2.1 t q.2.2)) (re_readBodyOf N t B x1 x2 x3 r p) := by
  refine Ct.of2 (own := RX3) (L := [(0, .ref (ad 0)), (1, .int x1), (2, .int x2), (3, .int x3)]) rfl (by decide +kernel) (Nat.le_of_ble_eq_true rfl) rfl ?_
  unfold re_readBodyOf
  refine b_aload_n (n := 1) 0 dX3_readBodyOf_0 rfl rfl rfl ?_
  refine b_get (n := 4) (v := .ref (ad 6)) 0 f_X3_28 dX3_readBodyOf_1 rfl hR_o0 rfl ?_
  refine b_get (n := 7) (v := .ref (ad 15)) 3 f_X3_137 dX3_readBodyOf_4 rfl hR_o6 rfl ?_
  refine b_iload_n (n := 8) 1 dX3_readBodyOf_7 rfl rfl rfl ?_
  refine b_iconst (n := 9) (v := 4) dX3_readBodyOf_8 rfl (by decide) ?_
  refine b_imul (n := 10) dX3_readBodyOf_9 rfl ?_
  refine b_iload_n (n := 11) 2 dX3_readBodyOf_10 rfl rfl rfl ?_
  refine b_iadd (n := 12) dX3_readBodyOf_11 rfl ?_
  refine b_aload_n (n := 13) 0 dX3_readBodyOf_12 rfl rfl rfl ?_
  refine b_get (n := 16) (v := .ref (ad 6)) 0 f_X3_28 dX3_readBodyOf_13 rfl hR_o0 rfl ?_
  refine b_get (n := 19) (v := .int (p 6 11)) 3 f_X3_78 dX3_readBodyOf_16 rfl hR_o6 rfl ?_
  refine b_iast (n := 20) (ws' := hR E ad r t (up p 15 ((x1 * 4) + x2).toNatClampNeg (p 6 11))) 12 dX3_readBodyOf_19 rfl hR_a15 hR_s15 ?_
  refine b_aload_n (n := 21) 0 dX3_readBodyOf_20 rfl rfl rfl ?_
  refine b_iload_n (n := 22) 3 dX3_readBodyOf_21 rfl rfl rfl ?_
  refine bV0wi (n := 25) (hh := (fun s : Mem × Mem => hR E ad s.1 t s.2)) (As := [.int x3]) (rest := []) 0 lk_X3_44 (hB _ _ _) (by omega) (fun _ => rfl) rfl rfl rfl rfl (Nat.le_of_ble_eq_true rfl) dX3_readBodyOf_22 rfl ?_
  rintro k22 ⟨r22, p22⟩
  try dsimp only
  exact b_iret dX3_readBodyOf_25 rfl rfl
