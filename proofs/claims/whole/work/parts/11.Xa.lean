/-! the class: partial pure functions, and the walk of each method (0) -/
def xs_isInside  (x0 : Int32) (x1 : Int32)  : Option (Bool) :=
  if x0 < 0 then
    (some false)
  else
    (if x0 < x1 then
      (some true)
    else
      (some false))
set_option maxHeartbeats 400000 in
set_option maxRecDepth 100000 in
theorem c_xs_isInside {l : Launch} {E : Ev} {d : Nat}    {x0 : Int32} {x1 : Int32}  (hd : 1 ≤ d) : Ct l yX6_isInside cX6_isInside 2 (some .boolean) d E ([]) [.int x0, .int x1] (fun v : Bool => (some (.int (b2i v)), [])) (xs_isInside x0 x1) := by
  refine Ct.of2 (own := RX6) (L := [(0, .int x0), (1, .int x1)]) rfl (by decide +kernel) (Nat.le_of_ble_eq_true rfl) rfl ?_
  unfold xs_isInside
  refine b_iload_n (n := 1) 0 dX6_isInside_0 rfl rfl rfl ?_
  refine b_if_lt (n := 4) (tgt := 13) dX6_isInside_1 (by decide) rfl (fun h1 => ?_) (fun h1 => ?_)
  · refine b_iconst (n := 14) (v := 0) dX6_isInside_13 rfl (by decide) ?_
    exact b_zret (b := false) dX6_isInside_14 rfl rfl
  · refine b_iload_n (n := 5) 0 dX6_isInside_4 rfl rfl rfl ?_
    refine b_iload_n (n := 6) 1 dX6_isInside_5 rfl rfl rfl ?_
    refine b_cmp_ge (n := 9) (tgt := 13) dX6_isInside_6 (by decide) rfl (fun h6 => ?_) (fun h6 => ?_)
    · refine b_iconst (n := 10) (v := 1) dX6_isInside_9 rfl (by decide) ?_
      refine b_goto (n := 14) dX6_isInside_10 (by decide) ?_
      exact b_zret (b := true) dX6_isInside_14 rfl rfl
    · refine b_iconst (n := 14) (v := 0) dX6_isInside_13 rfl (by decide) ?_
      exact b_zret (b := false) dX6_isInside_14 rfl rfl
def en_endOfAttempt (e : Mem) (x1 : Int32)  : Option (Int32) :=
  if x1 < 0 then
    (some (e 1 2))
  else
    (if x1 < 8 then
      ((rd 8 (e 2) x1).bind fun v19 =>
      some ((e 1 2) + v19))
    else
      (some (e 1 2)))
set_option maxHeartbeats 400000 in
set_option maxRecDepth 100000 in
theorem c_en_endOfAttempt {l : Launch} {E : Ev} {ad : Nat → Nat} {d : Nat}   {e : Mem} {x1 : Int32}  (hd : 1 ≤ d) : Ct l yX0_endOfAttempt cX0_endOfAttempt 2 (some .int) d E (hE E ad e) [.ref (ad 1), .int x1] (fun v : Int32 => (some (.int v), hE E ad e)) (en_endOfAttempt e x1) := by
  refine Ct.of2 (own := RX0) (L := [(0, .ref (ad 1)), (1, .int x1)]) rfl (by decide +kernel) (Nat.le_of_ble_eq_true rfl) rfl ?_
  unfold en_endOfAttempt
  refine b_iload_n (n := 1) 1 dX0_endOfAttempt_0 rfl rfl rfl ?_
  refine b_if_lt (n := 4) (tgt := 24) dX0_endOfAttempt_1 (by decide) rfl (fun h1 => ?_) (fun h1 => ?_)
  · refine b_aload_n (n := 25) 0 dX0_endOfAttempt_24 rfl rfl rfl ?_
    refine b_get (n := 28) (v := .int (e 1 2)) 0 f_X0_24 dX0_endOfAttempt_25 rfl hE_o1 rfl ?_
    exact b_iret dX0_endOfAttempt_28 rfl rfl
  · refine b_iload_n (n := 5) 1 dX0_endOfAttempt_4 rfl rfl rfl ?_
    refine b_bipush (n := 7) (v := 8) dX0_endOfAttempt_5 rfl (by decide) ?_
    refine b_cmp_ge (n := 10) (tgt := 24) dX0_endOfAttempt_7 (by decide) rfl (fun h7 => ?_) (fun h7 => ?_)
    · refine b_aload_n (n := 11) 0 dX0_endOfAttempt_10 rfl rfl rfl ?_
      refine b_get (n := 14) (v := .int (e 1 2)) 0 f_X0_24 dX0_endOfAttempt_11 rfl hE_o1 rfl ?_
      refine b_aload_n (n := 15) 0 dX0_endOfAttempt_14 rfl rfl rfl ?_
      refine b_get (n := 18) (v := .ref (ad 2)) 0 f_X0_9 dX0_endOfAttempt_15 rfl hE_o1 rfl ?_
      refine b_iload_n (n := 19) 1 dX0_endOfAttempt_18 rfl rfl rfl ?_
      refine b_iald (n := 20) 1 dX0_endOfAttempt_19 rfl hE_a2 (fun v19 => ?_)
      refine b_iadd (n := 21) dX0_endOfAttempt_20 rfl ?_
      refine b_goto (n := 28) dX0_endOfAttempt_21 (by decide) ?_
      exact b_iret dX0_endOfAttempt_28 rfl rfl
    · refine b_aload_n (n := 25) 0 dX0_endOfAttempt_24 rfl rfl rfl ?_
      refine b_get (n := 28) (v := .int (e 1 2)) 0 f_X0_24 dX0_endOfAttempt_25 rfl hE_o1 rfl ?_
      exact b_iret dX0_endOfAttempt_28 rfl rfl
def en_succeeds  (x1 : Int32) (e : Mem) : Option (Bool × Mem) :=
  if x1 < 0 then
    (some (true, e))
  else
    (if x1 < 8 then
      ((rd 8 (e 3) x1).bind fun v15 =>
      if 0 < v15 then
        ((rd 8 (e 3) x1).bind fun v27 =>
        ck 8 x1 <|
        some (false, up e 3 x1.toNatClampNeg (v27 - 1)))
      else
        (some (true, e)))
    else
      (some (true, e)))
set_option maxHeartbeats 400000 in
set_option maxRecDepth 100000 in
theorem c_en_succeeds {l : Launch} {E : Ev} {ad : Nat → Nat} {d : Nat}    {x1 : Int32} {e : Mem} (hd : 1 ≤ d) : Ct l yX0_succeeds cX0_succeeds 2 (some .boolean) d E (hE E ad e) [.ref (ad 1), .int x1] (fun q : Bool × Mem => (some (.int (b2i q.1)), hE E ad q.2)) (en_succeeds x1 e) := by
  refine Ct.of2 (own := RX0) (L := [(0, .ref (ad 1)), (1, .int x1)]) rfl (by decide +kernel) (Nat.le_of_ble_eq_true rfl) rfl ?_
  unfold en_succeeds
  refine b_iload_n (n := 1) 1 dX0_succeeds_0 rfl rfl rfl ?_
  refine b_if_lt (n := 4) (tgt := 19) dX0_succeeds_1 (by decide) rfl (fun h1 => ?_) (fun h1 => ?_)
  · refine b_iconst (n := 20) (v := 1) dX0_succeeds_19 rfl (by decide) ?_
    exact b_zret (b := true) dX0_succeeds_20 rfl rfl
  · refine b_iload_n (n := 5) 1 dX0_succeeds_4 rfl rfl rfl ?_
    refine b_bipush (n := 7) (v := 8) dX0_succeeds_5 rfl (by decide) ?_
    refine b_cmp_ge (n := 10) (tgt := 19) dX0_succeeds_7 (by decide) rfl (fun h7 => ?_) (fun h7 => ?_)
    · refine b_aload_n (n := 11) 0 dX0_succeeds_10 rfl rfl rfl ?_
      refine b_get (n := 14) (v := .ref (ad 3)) 0 f_X0_15 dX0_succeeds_11 rfl hE_o1 rfl ?_
      refine b_iload_n (n := 15) 1 dX0_succeeds_14 rfl rfl rfl ?_
      refine b_iald (n := 16) 2 dX0_succeeds_15 rfl hE_a3 (fun v15 => ?_)
      refine b_if_gt (n := 19) (tgt := 21) dX0_succeeds_16 (by decide) rfl (fun h16 => ?_) (fun h16 => ?_)
      · refine b_aload_n (n := 22) 0 dX0_succeeds_21 rfl rfl rfl ?_
        refine b_get (n := 25) (v := .ref (ad 3)) 0 f_X0_15 dX0_succeeds_22 rfl hE_o1 rfl ?_
        refine b_iload_n (n := 26) 1 dX0_succeeds_25 rfl rfl rfl ?_
        refine b_dup2 (n := 27) dX0_succeeds_26 rfl rfl rfl ?_
        refine b_iald (n := 28) 2 dX0_succeeds_27 rfl hE_a3 (fun v27 => ?_)
        refine b_iconst (n := 29) (v := 1) dX0_succeeds_28 rfl (by decide) ?_
        refine b_isub (n := 30) dX0_succeeds_29 rfl ?_
        refine b_iast (n := 31) (ws' := hE E ad (up e 3 x1.toNatClampNeg (v27 - 1))) 2 dX0_succeeds_30 rfl hE_a3 hE_s3 ?_
        refine b_iconst (n := 32) (v := 0) dX0_succeeds_31 rfl (by decide) ?_
        exact b_zret (b := false) dX0_succeeds_32 rfl rfl
      · refine b_iconst (n := 20) (v := 1) dX0_succeeds_19 rfl (by decide) ?_
        exact b_zret (b := true) dX0_succeeds_20 rfl rfl
    · refine b_iconst (n := 20) (v := 1) dX0_succeeds_19 rfl (by decide) ?_
      exact b_zret (b := true) dX0_succeeds_20 rfl rfl
def hi_add (rl : Nat) (e : Mem) (x1 : Int32) (x2 : Int32) (h : Mem) : Option (Mem) :=
  if h 4 2 < 0 then
    (some (up h 4 2 ((h 4 2) + 1)))
  else
    (if h 4 2 < Int32.ofNat rl then
      (ck rl (h 4 2) <|
      some (up (up h 5 (h 4 2).toNatClampNeg (((((e 1 2) <<< (4 &&& 31)) ||| x1) <<< (3 &&& 31)) ||| x2)) 4 2 ((h 4 2) + 1)))
    else
      (some (up h 4 2 ((h 4 2) + 1))))
set_option maxHeartbeats 400000 in
set_option maxRecDepth 100000 in
theorem c_hi_add {l : Launch} {E : Ev} {ad : Nat → Nat} {d : Nat}  {rl : Nat} {e : Mem} {x1 : Int32} {x2 : Int32} {h : Mem} (hd : 1 ≤ d) : Ct l yX1_add cX1_add 3 none d E (hH E ad rl h e) [.ref (ad 4), .int x1, .int x2] (fun q : Mem => (none, hH E ad rl q e)) (hi_add rl e x1 x2 h) := by
  refine Ct.of2 (own := RX1) (L := [(0, .ref (ad 4)), (1, .int x1), (2, .int x2)]) rfl (by decide +kernel) (Nat.le_of_ble_eq_true rfl) rfl ?_
  unfold hi_add
  refine b_aload_n (n := 1) 0 dX1_add_0 rfl rfl rfl ?_
  refine b_get (n := 4) (v := .int (h 4 2)) 0 f_X1_25 dX1_add_1 rfl hH_o4 rfl ?_
  refine b_if_lt (n := 7) (tgt := 43) dX1_add_4 (by decide) rfl (fun h4 => ?_) (fun h4 => ?_)
  · refine b_aload_n (n := 44) 0 dX1_add_43 rfl rfl rfl ?_
    refine b_dup (n := 45) dX1_add_44 rfl rfl ?_
    refine b_get (n := 48) (v := .int (h 4 2)) 0 f_X1_25 dX1_add_45 rfl hH_o4 rfl ?_
    refine b_iconst (n := 49) (v := 1) dX1_add_48 rfl (by decide) ?_
    refine b_iadd (n := 50) dX1_add_49 rfl ?_
    refine b_put (n := 53) (ws' := hH E ad rl (up h 4 2 ((h 4 2) + 1)) e) 0 fp_X1_25 dX1_add_50 rfl hH_o4 rfl rfl (Nat.le_of_ble_eq_true rfl) hH_p4_2 ?_
    exact b_vret dX1_add_53 rfl rfl
  · refine b_aload_n (n := 8) 0 dX1_add_7 rfl rfl rfl ?_
    refine b_get (n := 11) (v := .int (h 4 2)) 0 f_X1_25 dX1_add_8 rfl hH_o4 rfl ?_
    refine b_aload_n (n := 12) 0 dX1_add_11 rfl rfl rfl ?_
    refine b_get (n := 15) (v := .ref (ad 5)) 0 f_X1_21 dX1_add_12 rfl hH_o4 rfl ?_
    refine b_alen (n := 16) (v := Int32.ofNat rl) 1 dX1_add_15 rfl hH_a5 rfl ?_
    refine b_cmp_ge (n := 19) (tgt := 43) dX1_add_16 (by decide) rfl (fun h16 => ?_) (fun h16 => ?_)
    · refine b_aload_n (n := 20) 0 dX1_add_19 rfl rfl rfl ?_
      refine b_get (n := 23) (v := .ref (ad 5)) 0 f_X1_21 dX1_add_20 rfl hH_o4 rfl ?_
      refine b_aload_n (n := 24) 0 dX1_add_23 rfl rfl rfl ?_
      refine b_get (n := 27) (v := .int (h 4 2)) 0 f_X1_25 dX1_add_24 rfl hH_o4 rfl ?_
      refine b_aload_n (n := 28) 0 dX1_add_27 rfl rfl rfl ?_
      refine b_get (n := 31) (v := .ref (ad 1)) 0 f_X1_9 dX1_add_28 rfl hH_o4 rfl ?_
      refine b_get (n := 34) (v := .int (e 1 2)) 2 f_X1_42 dX1_add_31 rfl hH_o1 rfl ?_
      refine b_iconst (n := 35) (v := 4) dX1_add_34 rfl (by decide) ?_
      refine b_ishl (n := 36) dX1_add_35 rfl ?_
      refine b_iload_n (n := 37) 1 dX1_add_36 rfl rfl rfl ?_
      refine b_ior (n := 38) dX1_add_37 rfl ?_
      refine b_iconst (n := 39) (v := 3) dX1_add_38 rfl (by decide) ?_
      refine b_ishl (n := 40) dX1_add_39 rfl ?_
      refine b_iload_n (n := 41) 2 dX1_add_40 rfl rfl rfl ?_
      refine b_ior (n := 42) dX1_add_41 rfl ?_
      refine b_iast (n := 43) (ws' := hH E ad rl (up h 5 (h 4 2).toNatClampNeg (((((e 1 2) <<< (4 &&& 31)) ||| x1) <<< (3 &&& 31)) ||| x2)) e) 1 dX1_add_42 rfl hH_a5 hH_s5 ?_
      refine b_aload_n (n := 44) 0 dX1_add_43 rfl rfl rfl ?_
      refine b_dup (n := 45) dX1_add_44 rfl rfl ?_
      refine b_get (n := 48) (v := .int (h 4 2)) 0 f_X1_25 dX1_add_45 rfl hH_o4 rfl ?_
      refine b_iconst (n := 49) (v := 1) dX1_add_48 rfl (by decide) ?_
      refine b_iadd (n := 50) dX1_add_49 rfl ?_
      refine b_put (n := 53) (ws' := hH E ad rl (up (up h 5 (h 4 2).toNatClampNeg (((((e 1 2) <<< (4 &&& 31)) ||| x1) <<< (3 &&& 31)) ||| x2)) 4 2 ((h 4 2) + 1)) e) 0 fp_X1_25 dX1_add_50 rfl hH_o4 rfl rfl (Nat.le_of_ble_eq_true rfl) hH_p4_2 ?_
      exact b_vret dX1_add_53 rfl rfl
    · refine b_aload_n (n := 44) 0 dX1_add_43 rfl rfl rfl ?_
      refine b_dup (n := 45) dX1_add_44 rfl rfl ?_
      refine b_get (n := 48) (v := .int (h 4 2)) 0 f_X1_25 dX1_add_45 rfl hH_o4 rfl ?_
      refine b_iconst (n := 49) (v := 1) dX1_add_48 rfl (by decide) ?_
      refine b_iadd (n := 50) dX1_add_49 rfl ?_
      refine b_put (n := 53) (ws' := hH E ad rl (up h 4 2 ((h 4 2) + 1)) e) 0 fp_X1_25 dX1_add_50 rfl hH_o4 rfl rfl (Nat.le_of_ble_eq_true rfl) hH_p4_2 ?_
      exact b_vret dX1_add_53 rfl rfl
def hi_kept (rl : Nat) (h : Mem)   : Option (Int32) :=
  some (if Int32.ofNat rl < h 4 2 then Int32.ofNat rl else h 4 2)
set_option maxHeartbeats 400000 in
set_option maxRecDepth 100000 in
theorem c_hi_kept {l : Launch} {E : Ev} {ad : Nat → Nat} {d : Nat}  {rl : Nat} {h : Mem} {e : Mem}   (hd : 1 ≤ d) : Ct l yX1_kept cX1_kept 1 (some .int) d E (hH E ad rl h e) [.ref (ad 4)] (fun v : Int32 => (some (.int v), hH E ad rl h e)) (hi_kept rl h) := by
  refine Ct.of2 (own := RX1) (L := [(0, .ref (ad 4))]) rfl (by decide +kernel) (Nat.le_of_ble_eq_true rfl) rfl ?_
  unfold hi_kept
  refine b_aload_n (n := 1) 0 dX1_kept_0 rfl rfl rfl ?_
  refine b_get (n := 4) (v := .int (h 4 2)) 0 f_X1_25 dX1_kept_1 rfl hH_o4 rfl ?_
  refine b_aload_n (n := 5) 0 dX1_kept_4 rfl rfl rfl ?_
  refine b_get (n := 8) (v := .ref (ad 5)) 0 f_X1_21 dX1_kept_5 rfl hH_o4 rfl ?_
  refine b_alen (n := 9) (v := Int32.ofNat rl) 1 dX1_kept_8 rfl hH_a5 rfl ?_
  refine b_mmin (n := 12) mw_X1_33 (by omega) (Nat.le_of_ble_eq_true rfl) dX1_kept_9 rfl ?_
  exact b_iret dX1_kept_12 rfl rfl
def hi_minuteOf (rl : Nat) (h : Mem) (x1 : Int32)  : Option (Int32) :=
  (xs_isInside x1 (Int32.ofNat rl)).bind fun k6 =>
  if k6 = true then
    ((rd rl (h 5) x1).bind fun v17 =>
    some (v17 >>> (7 &&& 31)))
  else
    (some 0)
set_option maxHeartbeats 400000 in
set_option maxRecDepth 100000 in
theorem c_hi_minuteOf {l : Launch} {E : Ev} {ad : Nat → Nat} {d : Nat}  {rl : Nat} {h : Mem} {e : Mem} {x1 : Int32}  (hd : 2 ≤ d) : Ct l yX1_minuteOf cX1_minuteOf 2 (some .int) d E (hH E ad rl h e) [.ref (ad 4), .int x1] (fun v : Int32 => (some (.int v), hH E ad rl h e)) (hi_minuteOf rl h x1) := by
  refine Ct.of2 (own := RX1) (L := [(0, .ref (ad 4)), (1, .int x1)]) rfl (by decide +kernel) (Nat.le_of_ble_eq_true rfl) rfl ?_
  unfold hi_minuteOf
  refine b_iload_n (n := 1) 1 dX1_minuteOf_0 rfl rfl rfl ?_
  refine b_aload_n (n := 2) 0 dX1_minuteOf_1 rfl rfl rfl ?_
  refine b_get (n := 5) (v := .ref (ad 5)) 0 f_X1_21 dX1_minuteOf_2 rfl hH_o4 rfl ?_
  refine b_alen (n := 6) (v := Int32.ofNat rl) 1 dX1_minuteOf_5 rfl hH_a5 rfl ?_
  refine bNb (n := 9) (As := [.int x1, .int (Int32.ofNat rl)]) (rest := []) lk_X1_47 (c_xs_isInside (Nat.le_refl _)) (by omega) rfl rfl (Nat.le_of_ble_eq_true rfl) dX1_minuteOf_6 rfl (fun k6 => ?_)
  refine b_bz (n := 12) (tgt := 24) dX1_minuteOf_9 (by decide) rfl (fun h9 => ?_) (fun h9 => ?_)
  · refine b_aload_n (n := 13) 0 dX1_minuteOf_12 rfl rfl rfl ?_
    refine b_get (n := 16) (v := .ref (ad 5)) 0 f_X1_21 dX1_minuteOf_13 rfl hH_o4 rfl ?_
    refine b_iload_n (n := 17) 1 dX1_minuteOf_16 rfl rfl rfl ?_
    refine b_iald (n := 18) 1 dX1_minuteOf_17 rfl hH_a5 (fun v17 => ?_)
    refine b_bipush (n := 20) (v := 7) dX1_minuteOf_18 rfl (by decide) ?_
    refine b_ishr (n := 21) dX1_minuteOf_20 rfl ?_
    refine b_goto (n := 25) dX1_minuteOf_21 (by decide) ?_
    exact b_iret dX1_minuteOf_25 rfl rfl
  · refine b_iconst (n := 25) (v := 0) dX1_minuteOf_24 rfl (by decide) ?_
    exact b_iret dX1_minuteOf_25 rfl rfl
def hi_kindOf (rl : Nat) (h : Mem) (x1 : Int32)  : Option (Int32) :=
  (xs_isInside x1 (Int32.ofNat rl)).bind fun k6 =>
  if k6 = true then
    ((rd rl (h 5) x1).bind fun v17 =>
    some ((v17 >>> (3 &&& 31)) &&& 15))
  else
    (some 0)
set_option maxHeartbeats 400000 in
set_option maxRecDepth 100000 in
theorem c_hi_kindOf {l : Launch} {E : Ev} {ad : Nat → Nat} {d : Nat}  {rl : Nat} {h : Mem} {e : Mem} {x1 : Int32}  (hd : 2 ≤ d) : Ct l yX1_kindOf cX1_kindOf 2 (some .int) d E (hH E ad rl h e) [.ref (ad 4), .int x1] (fun v : Int32 => (some (.int v), hH E ad rl h e)) (hi_kindOf rl h x1) := by
  refine Ct.of2 (own := RX1) (L := [(0, .ref (ad 4)), (1, .int x1)]) rfl (by decide +kernel) (Nat.le_of_ble_eq_true rfl) rfl ?_
  unfold hi_kindOf
  refine b_iload_n (n := 1) 1 dX1_kindOf_0 rfl rfl rfl ?_
  refine b_aload_n (n := 2) 0 dX1_kindOf_1 rfl rfl rfl ?_
  refine b_get (n := 5) (v := .ref (ad 5)) 0 f_X1_21 dX1_kindOf_2 rfl hH_o4 rfl ?_
  refine b_alen (n := 6) (v := Int32.ofNat rl) 1 dX1_kindOf_5 rfl hH_a5 rfl ?_
  refine bNb (n := 9) (As := [.int x1, .int (Int32.ofNat rl)]) (rest := []) lk_X1_47 (c_xs_isInside (Nat.le_refl _)) (by omega) rfl rfl (Nat.le_of_ble_eq_true rfl) dX1_kindOf_6 rfl (fun k6 => ?_)
  refine b_bz (n := 12) (tgt := 26) dX1_kindOf_9 (by decide) rfl (fun h9 => ?_) (fun h9 => ?_)
  · refine b_aload_n (n := 13) 0 dX1_kindOf_12 rfl rfl rfl ?_
    refine b_get (n := 16) (v := .ref (ad 5)) 0 f_X1_21 dX1_kindOf_13 rfl hH_o4 rfl ?_
    refine b_iload_n (n := 17) 1 dX1_kindOf_16 rfl rfl rfl ?_
    refine b_iald (n := 18) 1 dX1_kindOf_17 rfl hH_a5 (fun v17 => ?_)
    refine b_iconst (n := 19) (v := 3) dX1_kindOf_18 rfl (by decide) ?_
    refine b_ishr (n := 20) dX1_kindOf_19 rfl ?_
    refine b_bipush (n := 22) (v := 15) dX1_kindOf_20 rfl (by decide) ?_
    refine b_iand (n := 23) dX1_kindOf_22 rfl ?_
    refine b_goto (n := 27) dX1_kindOf_23 (by decide) ?_
    exact b_iret dX1_kindOf_27 rfl rfl
  · refine b_iconst (n := 27) (v := 0) dX1_kindOf_26 rfl (by decide) ?_
    exact b_iret dX1_kindOf_27 rfl rfl
def hi_valueOf (rl : Nat) (h : Mem) (x1 : Int32)  : Option (Int32) :=
  (xs_isInside x1 (Int32.ofNat rl)).bind fun k6 =>
  if k6 = true then
    ((rd rl (h 5) x1).bind fun v17 =>
    some (v17 &&& 7))
  else
    (some 0)
set_option maxHeartbeats 400000 in
set_option maxRecDepth 100000 in
theorem c_hi_valueOf {l : Launch} {E : Ev} {ad : Nat → Nat} {d : Nat}  {rl : Nat} {h : Mem} {e : Mem} {x1 : Int32}  (hd : 2 ≤ d) : Ct l yX1_valueOf cX1_valueOf 2 (some .int) d E (hH E ad rl h e) [.ref (ad 4), .int x1] (fun v : Int32 => (some (.int v), hH E ad rl h e)) (hi_valueOf rl h x1) := by
  refine Ct.of2 (own := RX1) (L := [(0, .ref (ad 4)), (1, .int x1)]) rfl (by decide +kernel) (Nat.le_of_ble_eq_true rfl) rfl ?_
  unfold hi_valueOf
  refine b_iload_n (n := 1) 1 dX1_valueOf_0 rfl rfl rfl ?_
  refine b_aload_n (n := 2) 0 dX1_valueOf_1 rfl rfl rfl ?_
  refine b_get (n := 5) (v := .ref (ad 5)) 0 f_X1_21 dX1_valueOf_2 rfl hH_o4 rfl ?_
  refine b_alen (n := 6) (v := Int32.ofNat rl) 1 dX1_valueOf_5 rfl hH_a5 rfl ?_
  refine bNb (n := 9) (As := [.int x1, .int (Int32.ofNat rl)]) (rest := []) lk_X1_47 (c_xs_isInside (Nat.le_refl _)) (by omega) rfl rfl (Nat.le_of_ble_eq_true rfl) dX1_valueOf_6 rfl (fun k6 => ?_)
  refine b_bz (n := 12) (tgt := 24) dX1_valueOf_9 (by decide) rfl (fun h9 => ?_) (fun h9 => ?_)
  · refine b_aload_n (n := 13) 0 dX1_valueOf_12 rfl rfl rfl ?_
    refine b_get (n := 16) (v := .ref (ad 5)) 0 f_X1_21 dX1_valueOf_13 rfl hH_o4 rfl ?_
    refine b_iload_n (n := 17) 1 dX1_valueOf_16 rfl rfl rfl ?_
    refine b_iald (n := 18) 1 dX1_valueOf_17 rfl hH_a5 (fun v17 => ?_)
    refine b_bipush (n := 20) (v := 7) dX1_valueOf_18 rfl (by decide) ?_
    refine b_iand (n := 21) dX1_valueOf_20 rfl ?_
    refine b_goto (n := 25) dX1_valueOf_21 (by decide) ?_
    exact b_iret dX1_valueOf_25 rfl rfl
  · refine b_iconst (n := 25) (v := 0) dX1_valueOf_24 rfl (by decide) ?_
    exact b_iret dX1_valueOf_25 rfl rfl
def hi_entriesOf_4 (N : Nat) (rl : Nat) (h : Mem)  : Nat → Int32 → Int32 → Int32 → Option (Int32)
  | 0, _, _, _ => none
  | n + 1, y1, y2, y3 =>
    (hi_kept rl h).bind fun k6 =>
    if y3 < k6 then
      ((hi_kindOf rl h y3).bind fun k14 =>
      if k14 = y1 then
        (hi_entriesOf_4 N rl h n y1 (y2 + 1) (y3 + 1))
      else
        (hi_entriesOf_4 N rl h n y1 y2 (y3 + 1)))
    else
      (some y2)
set_option maxHeartbeats 400000 in
set_option maxRecDepth 100000 in
theorem w_hi_entriesOf_4 {l : Launch} {E : Ev} {ad : Nat → Nat} {A : Nat → Prop} {d : Nat} {N : Nat} {rl : Nat} {h : Mem} {e : Mem}  (hd : 3 ≤ d)  (n : Nat) : ∀ (y1 : Int32) (y2 : Int32) (y3 : Int32), Bd l E A RX1 cX1_entriesOf 4 (some .int) d (fun v : Int32 => (some (.int v), hH E ad rl h e)) 4 [(0, .ref (ad 4)), (1, .int y1), (2, .int y2), (3, .int y3)] [] (hH E ad rl h e) (hi_entriesOf_4 N rl h n y1 y2 y3) := by
  induction n with
  | zero => intro y1 y2 y3; exact b_none
  | succ n ih =>
    intro y1 y2 y3
    rw [hi_entriesOf_4]
    refine b_iload_n (n := 5) 3 dX1_entriesOf_4 rfl rfl rfl ?_
    refine b_aload_n (n := 6) 0 dX1_entriesOf_5 rfl rfl rfl ?_
    refine bV0i (n := 9) (As := []) (rest := [.int y3]) 0 lk_X1_29 (c_hi_kept (Nat.le_refl _)) (by omega) rfl rfl rfl rfl (Nat.le_of_ble_eq_true rfl) dX1_entriesOf_6 rfl (fun k6 => ?_)
    refine b_cmp_ge (n := 12) (tgt := 30) dX1_entriesOf_9 (by decide) rfl (fun h9 => ?_) (fun h9 => ?_)
    · refine b_aload_n (n := 13) 0 dX1_entriesOf_12 rfl rfl rfl ?_
      refine b_iload_n (n := 14) 3 dX1_entriesOf_13 rfl rfl rfl ?_
      refine bV0i (n := 17) (As := [.int y3]) (rest := []) 0 lk_X1_51 (c_hi_kindOf (Nat.le_refl _)) (by omega) rfl rfl rfl rfl (Nat.le_of_ble_eq_true rfl) dX1_entriesOf_14 rfl (fun k14 => ?_)
      refine b_iload_n (n := 18) 1 dX1_entriesOf_17 rfl rfl rfl ?_
      refine b_cmp_ne (n := 21) (tgt := 24) dX1_entriesOf_18 (by decide) rfl (fun h18 => ?_) (fun h18 => ?_)
      · refine b_iinc (n := 24) (L' := [(2, .int (y2 + 1)), (0, .ref (ad 4)), (1, .int y1), (3, .int y3)]) 2 1 dX1_entriesOf_21 rfl rfl (by decide) (Nat.le_of_ble_eq_true rfl) rfl ?_
        refine b_iinc (n := 27) (L' := [(3, .int (y3 + 1)), (2, .int (y2 + 1)), (0, .ref (ad 4)), (1, .int y1)]) 3 1 dX1_entriesOf_24 rfl rfl (by decide) (Nat.le_of_ble_eq_true rfl) rfl ?_
        refine b_goto (n := 4) dX1_entriesOf_27 (by decide) ?_
        refine Bd.sub (L' := [(0, .ref (ad 4)), (1, .int y1), (2, .int (y2 + 1)), (3, .int (y3 + 1))]) [2, 3, 1, 0] rfl ?_
        exact ih _ _ _
      · refine b_iinc (n := 27) (L' := [(3, .int (y3 + 1)), (0, .ref (ad 4)), (1, .int y1), (2, .int y2)]) 3 1 dX1_entriesOf_24 rfl rfl (by decide) (Nat.le_of_ble_eq_true rfl) rfl ?_
        refine b_goto (n := 4) dX1_entriesOf_27 (by decide) ?_
        refine Bd.sub (L' := [(0, .ref (ad 4)), (1, .int y1), (2, .int y2), (3, .int (y3 + 1))]) [1, 2, 3, 0] rfl ?_
        exact ih _ _ _
    · refine b_iload_n (n := 31) 2 dX1_entriesOf_30 rfl rfl rfl ?_
      exact b_iret dX1_entriesOf_31 rfl rfl
def hi_entriesOf (N : Nat) (rl : Nat) (h : Mem) (x1 : Int32)  : Option (Int32) :=
  hi_entriesOf_4 N rl h N x1 0 0
set_option maxHeartbeats 400000 in
set_option maxRecDepth 100000 in
theorem c_hi_entriesOf {l : Launch} {E : Ev} {ad : Nat → Nat} {d : Nat} {N : Nat} {rl : Nat} {h : Mem} {e : Mem} {x1 : Int32}  (hd : 3 ≤ d) : Ct l yX1_entriesOf cX1_entriesOf 4 (some .int) d E (hH E ad rl h e) [.ref (ad 4), .int x1] (fun v : Int32 => (some (.int v), hH E ad rl h e)) (hi_entriesOf N rl h x1) := by
  refine Ct.of2 (own := RX1) (L := [(0, .ref (ad 4)), (1, .int x1)]) rfl (by decide +kernel) (Nat.le_of_ble_eq_true rfl) rfl ?_
  unfold hi_entriesOf
  refine b_iconst (n := 1) (v := 0) dX1_entriesOf_0 rfl (by decide) ?_
  refine b_istore_n (n := 2) (L' := [(2, .int 0), (0, .ref (ad 4)), (1, .int x1)]) dX1_entriesOf_1 rfl rfl (Nat.le_of_ble_eq_true rfl) rfl ?_
  refine b_iconst (n := 3) (v := 0) dX1_entriesOf_2 rfl (by decide) ?_
  refine b_istore_n (n := 4) (L' := [(3, .int 0), (2, .int 0), (0, .ref (ad 4)), (1, .int x1)]) dX1_entriesOf_3 rfl rfl (Nat.le_of_ble_eq_true rfl) rfl ?_
  refine Bd.sub (L' := [(0, .ref (ad 4)), (1, .int x1), (2, .int 0), (3, .int 0)]) [2, 3, 1, 0] rfl ?_
  exact w_hi_entriesOf_4 hd _ _ _ _
def hi_attempts (N : Nat) (rl : Nat) (h : Mem)   : Option (Int32) :=
  (hi_entriesOf N rl h 0).bind fun k2 =>
  (hi_entriesOf N rl h 5).bind fun k7 =>
  some (k2 + k7)
set_option maxHeartbeats 400000 in
set_option maxRecDepth 100000 in
theorem c_hi_attempts {l : Launch} {E : Ev} {ad : Nat → Nat} {d : Nat} {N : Nat} {rl : Nat} {h : Mem} {e : Mem}   (hd : 4 ≤ d) : Ct l yX1_attempts cX1_attempts 1 (some .int) d E (hH E ad rl h e) [.ref (ad 4)] (fun v : Int32 => (some (.int v), hH E ad rl h e)) (hi_attempts N rl h) := by
  refine Ct.of2 (own := RX1) (L := [(0, .ref (ad 4))]) rfl (by decide +kernel) (Nat.le_of_ble_eq_true rfl) rfl ?_
  unfold hi_attempts
  refine b_aload_n (n := 1) 0 dX1_attempts_0 rfl rfl rfl ?_
  refine b_iconst (n := 2) (v := 0) dX1_attempts_1 rfl (by decide) ?_
  refine bV0i (n := 5) (As := [.int 0]) (rest := []) 0 lk_X1_55 (c_hi_entriesOf (Nat.le_refl _)) (by omega) rfl rfl rfl rfl (Nat.le_of_ble_eq_true rfl) dX1_attempts_2 rfl (fun k2 => ?_)
  refine b_aload_n (n := 6) 0 dX1_attempts_5 rfl rfl rfl ?_
  refine b_iconst (n := 7) (v := 5) dX1_attempts_6 rfl (by decide) ?_
  refine bV0i (n := 10) (As := [.int 5]) (rest := [.int k2]) 0 lk_X1_55 (c_hi_entriesOf (Nat.le_refl _)) (by omega) rfl rfl rfl rfl (Nat.le_of_ble_eq_true rfl) dX1_attempts_7 rfl (fun k7 => ?_)
  refine b_iadd (n := 11) dX1_attempts_10 rfl ?_
  exact b_iret dX1_attempts_11 rfl rfl
def hi_lastStatus_4 (N : Nat) (rl : Nat) (h : Mem)  : Nat → Int32 → Int32 → Option (Int32)
  | 0, _, _ => none
  | n + 1, y1, y2 =>
    (hi_kept rl h).bind fun k6 =>
    if y2 < k6 then
      ((hi_kindOf rl h y2).bind fun k14 =>
      if k14 = 11 then
        ((hi_valueOf rl h y2).bind fun k24 =>
        hi_lastStatus_4 N rl h n k24 (y2 + 1))
      else
        (hi_lastStatus_4 N rl h n y1 (y2 + 1)))
    else
      (some y1)
set_option maxHeartbeats 400000 in
set_option maxRecDepth 100000 in
theorem w_hi_lastStatus_4 {l : Launch} {E : Ev} {ad : Nat → Nat} {A : Nat → Prop} {d : Nat} {N : Nat} {rl : Nat} {h : Mem} {e : Mem}  (hd : 3 ≤ d)  (n : Nat) : ∀ (y1 : Int32) (y2 : Int32), Bd l E A RX1 cX1_lastStatus 3 (some .int) d (fun v : Int32 => (some (.int v), hH E ad rl h e)) 4 [(0, .ref (ad 4)), (1, .int y1), (2, .int y2)] [] (hH E ad rl h e) (hi_lastStatus_4 N rl h n y1 y2) := by
  induction n with
  | zero => intro y1 y2; exact b_none
  | succ n ih =>
    intro y1 y2
    rw [hi_lastStatus_4]
    refine b_iload_n (n := 5) 2 dX1_lastStatus_4 rfl rfl rfl ?_
    refine b_aload_n (n := 6) 0 dX1_lastStatus_5 rfl rfl rfl ?_
    refine bV0i (n := 9) (As := []) (rest := [.int y2]) 0 lk_X1_29 (c_hi_kept (Nat.le_refl _)) (by omega) rfl rfl rfl rfl (Nat.le_of_ble_eq_true rfl) dX1_lastStatus_6 rfl (fun k6 => ?_)
    refine b_cmp_ge (n := 12) (tgt := 34) dX1_lastStatus_9 (by decide) rfl (fun h9 => ?_) (fun h9 => ?_)
    · refine b_aload_n (n := 13) 0 dX1_lastStatus_12 rfl rfl rfl ?_
      refine b_iload_n (n := 14) 2 dX1_lastStatus_13 rfl rfl rfl ?_
      refine bV0i (n := 17) (As := [.int y2]) (rest := []) 0 lk_X1_51 (c_hi_kindOf (Nat.le_refl _)) (by omega) rfl rfl rfl rfl (Nat.le_of_ble_eq_true rfl) dX1_lastStatus_14 rfl (fun k14 => ?_)
      refine b_bipush (n := 19) (v := 11) dX1_lastStatus_17 rfl (by decide) ?_
      refine b_cmp_ne (n := 22) (tgt := 28) dX1_lastStatus_19 (by decide) rfl (fun h19 => ?_) (fun h19 => ?_)
      · refine b_aload_n (n := 23) 0 dX1_lastStatus_22 rfl rfl rfl ?_
        refine b_iload_n (n := 24) 2 dX1_lastStatus_23 rfl rfl rfl ?_
        refine bV0i (n := 27) (As := [.int y2]) (rest := []) 0 lk_X1_58 (c_hi_valueOf (Nat.le_refl _)) (by omega) rfl rfl rfl rfl (Nat.le_of_ble_eq_true rfl) dX1_lastStatus_24 rfl (fun k24 => ?_)
        refine b_istore_n (n := 28) (L' := [(1, .int k24), (0, .ref (ad 4)), (2, .int y2)]) dX1_lastStatus_27 rfl rfl (Nat.le_of_ble_eq_true rfl) rfl ?_
        refine b_iinc (n := 31) (L' := [(2, .int (y2 + 1)), (1, .int k24), (0, .ref (ad 4))]) 2 1 dX1_lastStatus_28 rfl rfl (by decide) (Nat.le_of_ble_eq_true rfl) rfl ?_
        refine b_goto (n := 4) dX1_lastStatus_31 (by decide) ?_
        refine Bd.sub (L' := [(0, .ref (ad 4)), (1, .int k24), (2, .int (y2 + 1))]) [2, 1, 0] rfl ?_
        exact ih _ _
      · refine b_iinc (n := 31) (L' := [(2, .int (y2 + 1)), (0, .ref (ad 4)), (1, .int y1)]) 2 1 dX1_lastStatus_28 rfl rfl (by decide) (Nat.le_of_ble_eq_true rfl) rfl ?_
        refine b_goto (n := 4) dX1_lastStatus_31 (by decide) ?_
        refine Bd.sub (L' := [(0, .ref (ad 4)), (1, .int y1), (2, .int (y2 + 1))]) [1, 2, 0] rfl ?_
        exact ih _ _
    · refine b_iload_n (n := 35) 1 dX1_lastStatus_34 rfl rfl rfl ?_
      exact b_iret dX1_lastStatus_35 rfl rfl
def hi_lastStatus (N : Nat) (rl : Nat) (h : Mem)   : Option (Int32) :=
  hi_lastStatus_4 N rl h N 0 0
set_option maxHeartbeats 400000 in
set_option maxRecDepth 100000 in
theorem c_hi_lastStatus {l : Launch} {E : Ev} {ad : Nat → Nat} {d : Nat} {N : Nat} {rl : Nat} {h : Mem} {e : Mem}   (hd : 3 ≤ d) : Ct l yX1_lastStatus cX1_lastStatus 3 (some .int) d E (hH E ad rl h e) [.ref (ad 4)] (fun v : Int32 => (some (.int v), hH E ad rl h e)) (hi_lastStatus N rl h) := by
  refine Ct.of2 (own := RX1) (L := [(0, .ref (ad 4))]) rfl (by decide +kernel) (Nat.le_of_ble_eq_true rfl) rfl ?_
  unfold hi_lastStatus
  refine b_iconst (n := 1) (v := 0) dX1_lastStatus_0 rfl (by decide) ?_
  refine b_istore_n (n := 2) (L' := [(1, .int 0), (0, .ref (ad 4))]) dX1_lastStatus_1 rfl rfl (Nat.le_of_ble_eq_true rfl) rfl ?_
  refine b_iconst (n := 3) (v := 0) dX1_lastStatus_2 rfl (by decide) ?_
  refine b_istore_n (n := 4) (L' := [(2, .int 0), (1, .int 0), (0, .ref (ad 4))]) dX1_lastStatus_3 rfl rfl (Nat.le_of_ble_eq_true rfl) rfl ?_
  refine Bd.sub (L' := [(0, .ref (ad 4)), (1, .int 0), (2, .int 0)]) [2, 1, 0] rfl ?_
  exact w_hi_lastStatus_4 hd _ _ _
def ve_clear  (x1 : Int32) (p : Mem) : Option (Mem) :=
  some (up (up (up (up p 6 11 0) 6 12 0) 6 13 0) 6 14 x1)
set_option maxHeartbeats 400000 in
set_option maxRecDepth 100000 in
theorem c_ve_clear {l : Launch} {E : Ev} {ad : Nat → Nat} {d : Nat}    {x1 : Int32} {p : Mem} (hd : 1 ≤ d) : Ct l yX4_clear cX4_clear 2 none d E (hV E ad p) [.ref (ad 6), .int x1] (fun q : Mem => (none, hV E ad q)) (ve_clear x1 p) := by
  refine Ct.of2 (own := RX4) (L := [(0, .ref (ad 6)), (1, .int x1)]) rfl (by decide +kernel) (Nat.le_of_ble_eq_true rfl) rfl ?_
  unfold ve_clear
  refine b_aload_n (n := 1) 0 dX4_clear_0 rfl rfl rfl ?_
  refine b_iconst (n := 2) (v := 0) dX4_clear_1 rfl (by decide) ?_
  refine b_put (n := 5) (ws' := hV E ad (up p 6 11 0)) 0 fp_X4_46 dX4_clear_2 rfl hV_o6 rfl rfl (Nat.le_of_ble_eq_true rfl) hV_p6_11 ?_
  refine b_aload_n (n := 6) 0 dX4_clear_5 rfl rfl rfl ?_
  refine b_iconst (n := 7) (v := 0) dX4_clear_6 rfl (by decide) ?_
  refine b_put (n := 10) (ws' := hV E ad (up (up p 6 11 0) 6 12 0)) 0 fp_X4_49 dX4_clear_7 rfl hV_o6 rfl rfl (Nat.le_of_ble_eq_true rfl) hV_p6_12 ?_
  refine b_aload_n (n := 11) 0 dX4_clear_10 rfl rfl rfl ?_
  refine b_iconst (n := 12) (v := 0) dX4_clear_11 rfl (by decide) ?_
  refine b_put (n := 15) (ws' := hV E ad (up (up (up p 6 11 0) 6 12 0) 6 13 0)) 0 fp_X4_52 dX4_clear_12 rfl hV_o6 rfl rfl (Nat.le_of_ble_eq_true rfl) hV_p6_13 ?_
  refine b_aload_n (n := 16) 0 dX4_clear_15 rfl rfl rfl ?_
  refine b_iload_n (n := 17) 1 dX4_clear_16 rfl rfl rfl ?_
  refine b_put (n := 20) (ws' := hV E ad (up (up (up (up p 6 11 0) 6 12 0) 6 13 0) 6 14 x1)) 0 fp_X4_55 dX4_clear_17 rfl hV_o6 rfl rfl (Nat.le_of_ble_eq_true rfl) hV_p6_14 ?_
  exact b_vret dX4_clear_20 rfl rfl
def ve_add_66 (N : Nat)  : Nat → Int32 → Int32 → Int32 → Mem → Option (Int32 × Mem)
  | 0, _, _, _, _ => none
  | n + 1, y1, y3, y4, p =>
    if y4 < 4 then
      (ck 96 ((y3 * 4) + y4) <|
      ve_add_66 N n y1 y3 (y4 + 1) (up p 15 ((y3 * 4) + y4).toNatClampNeg ((-1))))
    else
      (if y1 = 0 then
        (some (y3, up (up p 6 11 ((p 6 11) + 1)) 6 12 ((p 6 12) + 1)))
      else
        (some (y3, up p 6 11 ((p 6 11) + 1))))
set_option maxHeartbeats 400000 in
set_option maxRecDepth 100000 in
theorem w_ve_add_66 {l : Launch} {E : Ev} {ad : Nat → Nat} {A : Nat → Prop} {d : Nat} {N : Nat}    (hd : 1 ≤ d)  (n : Nat) : ∀ (y1 : Int32) (y3 : Int32) (y4 : Int32) (p : Mem), Bd l E A RX4 cX4_add 5 (some .int) d (fun q : Int32 × Mem => (some (.int q.1), hV E ad q.2)) 66 [(0, .ref (ad 6)), (1, .int y1), (3, .int y3), (4, .int y4)] [] (hV E ad p) (ve_add_66 N n y1 y3 y4 p) := by
  induction n with
  | zero => intro y1 y3 y4 p; exact b_none
  | succ n ih =>
    intro y1 y3 y4 p
    rw [ve_add_66]
    refine b_iload (n := 68) 3 dX4_add_66 rfl rfl ?_
    refine b_iconst (n := 69) (v := 4) dX4_add_68 rfl (by decide) ?_
    refine b_cmp_ge (n := 72) (tgt := 90) dX4_add_69 (by decide) rfl (fun h69 => ?_) (fun h69 => ?_)
    · refine b_aload_n (n := 73) 0 dX4_add_72 rfl rfl rfl ?_
      refine b_get (n := 76) (v := .ref (ad 15)) 0 f_X4_36 dX4_add_73 rfl hV_o6 rfl ?_
      refine b_iload_n (n := 77) 2 dX4_add_76 rfl rfl rfl ?_
      refine b_iconst (n := 78) (v := 4) dX4_add_77 rfl (by decide) ?_
      refine b_imul (n := 79) dX4_add_78 rfl ?_
      refine b_iload (n := 81) 3 dX4_add_79 rfl rfl ?_
      refine b_iadd (n := 82) dX4_add_81 rfl ?_
      refine b_iconst (n := 83) (v := -1) dX4_add_82 rfl (by decide) ?_
      refine b_iast (n := 84) (ws' := hV E ad (up p 15 ((y3 * 4) + y4).toNatClampNeg ((-1)))) 9 dX4_add_83 rfl hV_a15 hV_s15 ?_
      refine b_iinc (n := 87) (L' := [(4, .int (y4 + 1)), (0, .ref (ad 6)), (1, .int y1), (3, .int y3)]) 3 1 dX4_add_84 rfl rfl (by decide) (Nat.le_of_ble_eq_true rfl) rfl ?_
      refine b_goto (n := 66) dX4_add_87 (by decide) ?_
      refine Bd.sub (L' := [(0, .ref (ad 6)), (1, .int y1), (3, .int y3), (4, .int (y4 + 1))]) [1, 2, 3, 0] rfl ?_
      exact ih _ _ _ _
    · refine b_aload_n (n := 91) 0 dX4_add_90 rfl rfl rfl ?_
      refine b_dup (n := 92) dX4_add_91 rfl rfl ?_
      refine b_get (n := 95) (v := .int (p 6 11)) 0 f_X4_46 dX4_add_92 rfl hV_o6 rfl ?_
      refine b_iconst (n := 96) (v := 1) dX4_add_95 rfl (by decide) ?_
      refine b_iadd (n := 97) dX4_add_96 rfl ?_
      refine b_put (n := 100) (ws' := hV E ad (up p 6 11 ((p 6 11) + 1))) 0 fp_X4_46 dX4_add_97 rfl hV_o6 rfl rfl (Nat.le_of_ble_eq_true rfl) hV_p6_11 ?_
      refine b_iload_n (n := 101) 1 dX4_add_100 rfl rfl rfl ?_
      refine b_if_ne (n := 104) (tgt := 114) dX4_add_101 (by decide) rfl (fun h101 => ?_) (fun h101 => ?_)
      · refine b_aload_n (n := 105) 0 dX4_add_104 rfl rfl rfl ?_
        refine b_dup (n := 106) dX4_add_105 rfl rfl ?_
        refine b_get (n := 109) (v := .int (p 6 12)) 0 f_X4_49 dX4_add_106 rfl hV_o6 rfl ?_
        refine b_iconst (n := 110) (v := 1) dX4_add_109 rfl (by decide) ?_
        refine b_iadd (n := 111) dX4_add_110 rfl ?_
        refine b_put (n := 114) (ws' := hV E ad (up (up p 6 11 ((p 6 11) + 1)) 6 12 ((p 6 12) + 1))) 0 fp_X4_49 dX4_add_111 rfl hV_o6 rfl rfl (Nat.le_of_ble_eq_true rfl) hV_p6_12 ?_
        refine b_iload_n (n := 115) 2 dX4_add_114 rfl rfl rfl ?_
        exact b_iret dX4_add_115 rfl rfl
      · refine b_iload_n (n := 115) 2 dX4_add_114 rfl rfl rfl ?_
        exact b_iret dX4_add_115 rfl rfl
def ve_add_41 (N : Nat)  (y1 : Int32) (y3 : Int32) (z0 : Int32) (z1 : Int32) (p : Mem) : Option (Int32 × Mem) :=
  ck 24 z1 <|
  ck 24 y3 <|
  ck 24 y3 <|
  ck 24 y3 <|
  ve_add_66 N N y1 y3 0 (up (up (up (up p 10 z1.toNatClampNeg z0) 11 y3.toNatClampNeg 0) 12 y3.toNatClampNeg ((-1))) 13 y3.toNatClampNeg ((-1)))
set_option maxHeartbeats 400000 in
set_option maxRecDepth 100000 in
theorem w_ve_add_41 {l : Launch} {E : Ev} {ad : Nat → Nat} {A : Nat → Prop} {d : Nat} {N : Nat}    (hd : 1 ≤ d)  (y1 : Int32) (y3 : Int32) (z0 : Int32) (z1 : Int32) (p : Mem) : Bd l E A RX4 cX4_add 5 (some .int) d (fun q : Int32 × Mem => (some (.int q.1), hV E ad q.2)) 41 [(0, .ref (ad 6)), (1, .int y1), (3, .int y3)] [.int z0, .int z1, .ref (ad 10)] (hV E ad p) (ve_add_41 N y1 y3 z0 z1 p) := by
  unfold ve_add_41
  refine b_iast (n := 42) (ws' := hV E ad (up p 10 z1.toNatClampNeg z0)) 4 dX4_add_41 rfl hV_a10 hV_s10 ?_
  refine b_aload_n (n := 43) 0 dX4_add_42 rfl rfl rfl ?_
  refine b_get (n := 46) (v := .ref (ad 11)) 0 f_X4_24 dX4_add_43 rfl hV_o6 rfl ?_
  refine b_iload_n (n := 47) 2 dX4_add_46 rfl rfl rfl ?_
  refine b_iconst (n := 48) (v := 0) dX4_add_47 rfl (by decide) ?_
  refine b_iast (n := 49) (ws' := hV E ad (up (up p 10 z1.toNatClampNeg z0) 11 y3.toNatClampNeg 0)) 5 dX4_add_48 rfl hV_a11 hV_s11 ?_
  refine b_aload_n (n := 50) 0 dX4_add_49 rfl rfl rfl ?_
  refine b_get (n := 53) (v := .ref (ad 12)) 0 f_X4_27 dX4_add_50 rfl hV_o6 rfl ?_
  refine b_iload_n (n := 54) 2 dX4_add_53 rfl rfl rfl ?_
  refine b_iconst (n := 55) (v := -1) dX4_add_54 rfl (by decide) ?_
  refine b_iast (n := 56) (ws' := hV E ad (up (up (up p 10 z1.toNatClampNeg z0) 11 y3.toNatClampNeg 0) 12 y3.toNatClampNeg ((-1)))) 6 dX4_add_55 rfl hV_a12 hV_s12 ?_
  refine b_aload_n (n := 57) 0 dX4_add_56 rfl rfl rfl ?_
  refine b_get (n := 60) (v := .ref (ad 13)) 0 f_X4_30 dX4_add_57 rfl hV_o6 rfl ?_
  refine b_iload_n (n := 61) 2 dX4_add_60 rfl rfl rfl ?_
  refine b_iconst (n := 62) (v := -1) dX4_add_61 rfl (by decide) ?_
  refine b_iast (n := 63) (ws' := hV E ad (up (up (up (up p 10 z1.toNatClampNeg z0) 11 y3.toNatClampNeg 0) 12 y3.toNatClampNeg ((-1))) 13 y3.toNatClampNeg ((-1)))) 7 dX4_add_62 rfl hV_a13 hV_s13 ?_
  refine b_iconst (n := 64) (v := 0) dX4_add_63 rfl (by decide) ?_
  refine b_istore (n := 66) (L' := [(4, .int 0), (0, .ref (ad 6)), (1, .int y1), (3, .int y3)]) dX4_add_64 rfl (Nat.le_of_ble_eq_true rfl) rfl ?_
  refine Bd.sub (L' := [(0, .ref (ad 6)), (1, .int y1), (3, .int y3), (4, .int 0)]) [1, 2, 3, 0] rfl ?_
  exact w_ve_add_66 hd _ _ _ _ _
def ve_add (N : Nat) (x1 : Int32) (x2 : Int32) (p : Mem) : Option (Int32 × Mem) :=
  ck 24 (p 6 11) <|
  ck 24 (p 6 11) <|
  ck 24 (p 6 11) <|
  if x1 = 2 then
    (ve_add_41 N x1 (p 6 11) ((-1)) (p 6 11) (up (up (up p 7 (p 6 11).toNatClampNeg x1) 8 (p 6 11).toNatClampNeg x2) 9 (p 6 11).toNatClampNeg 0))
  else
    (ve_add_41 N x1 (p 6 11) 0 (p 6 11) (up (up (up p 7 (p 6 11).toNatClampNeg x1) 8 (p 6 11).toNatClampNeg x2) 9 (p 6 11).toNatClampNeg 0))
set_option maxHeartbeats 400000 in
set_option maxRecDepth 100000 in
theorem c_ve_add {l : Launch} {E : Ev} {ad : Nat → Nat} {d : Nat} {N : Nat}   {x1 : Int32} {x2 : Int32} {p : Mem} (hd : 1 ≤ d) : Ct l yX4_add cX4_add 5 (some .int) d E (hV E ad p) [.ref (ad 6), .int x1, .int x2] (fun q : Int32 × Mem => (some (.int q.1), hV E ad q.2)) (ve_add N x1 x2 p) := by
  refine Ct.of2 (own := RX4) (L := [(0, .ref (ad 6)), (1, .int x1), (2, .int x2)]) rfl (by decide +kernel) (Nat.le_of_ble_eq_true rfl) rfl ?_
  unfold ve_add
  refine b_aload_n (n := 1) 0 dX4_add_0 rfl rfl rfl ?_
  refine b_get (n := 4) (v := .int (p 6 11)) 0 f_X4_46 dX4_add_1 rfl hV_o6 rfl ?_
  refine b_istore_n (n := 5) (L' := [(3, .int (p 6 11)), (0, .ref (ad 6)), (1, .int x1), (2, .int x2)]) dX4_add_4 rfl rfl (Nat.le_of_ble_eq_true rfl) rfl ?_
  refine b_aload_n (n := 6) 1 dX4_add_5 rfl rfl rfl ?_
  refine b_get (n := 9) (v := .ref (ad 7)) 0 f_X4_9 dX4_add_6 rfl hV_o6 rfl ?_
  refine b_iload_n (n := 10) 0 dX4_add_9 rfl rfl rfl ?_
  refine b_iload_n (n := 11) 2 dX4_add_10 rfl rfl rfl ?_
  refine b_iast (n := 12) (ws' := hV E ad (up p 7 (p 6 11).toNatClampNeg x1)) 1 dX4_add_11 rfl hV_a7 hV_s7 ?_
  refine b_aload_n (n := 13) 1 dX4_add_12 rfl rfl rfl ?_
  refine b_get (n := 16) (v := .ref (ad 8)) 0 f_X4_15 dX4_add_13 rfl hV_o6 rfl ?_
  refine b_iload_n (n := 17) 0 dX4_add_16 rfl rfl rfl ?_
  refine b_iload_n (n := 18) 3 dX4_add_17 rfl rfl rfl ?_
  refine b_iast (n := 19) (ws' := hV E ad (up (up p 7 (p 6 11).toNatClampNeg x1) 8 (p 6 11).toNatClampNeg x2)) 2 dX4_add_18 rfl hV_a8 hV_s8 ?_
  refine b_aload_n (n := 20) 1 dX4_add_19 rfl rfl rfl ?_
  refine b_get (n := 23) (v := .ref (ad 9)) 0 f_X4_18 dX4_add_20 rfl hV_o6 rfl ?_
  refine b_iload_n (n := 24) 0 dX4_add_23 rfl rfl rfl ?_
  refine b_iconst (n := 25) (v := 0) dX4_add_24 rfl (by decide) ?_
  refine b_iast (n := 26) (ws' := hV E ad (up (up (up p 7 (p 6 11).toNatClampNeg x1) 8 (p 6 11).toNatClampNeg x2) 9 (p 6 11).toNatClampNeg 0)) 3 dX4_add_25 rfl hV_a9 hV_s9 ?_
  refine b_aload_n (n := 27) 1 dX4_add_26 rfl rfl rfl ?_
  refine b_get (n := 30) (v := .ref (ad 10)) 0 f_X4_21 dX4_add_27 rfl hV_o6 rfl ?_
  refine b_iload_n (n := 31) 0 dX4_add_30 rfl rfl rfl ?_
  refine b_iload_n (n := 32) 2 dX4_add_31 rfl rfl rfl ?_
  refine b_iconst (n := 33) (v := 2) dX4_add_32 rfl (by decide) ?_
  refine b_cmp_ne (n := 36) (tgt := 40) dX4_add_33 (by decide) rfl (fun h33 => ?_) (fun h33 => ?_)
  · refine b_iconst (n := 37) (v := -1) dX4_add_36 rfl (by decide) ?_
    refine b_goto (n := 41) dX4_add_37 (by decide) ?_
    refine Bd.sub (L' := [(0, .ref (ad 6)), (1, .int x1), (3, .int (p 6 11))]) [1, 2, 0] rfl ?_
    exact w_ve_add_41 hd _ _ _ _ _
  · refine b_iconst (n := 41) (v := 0) dX4_add_40 rfl (by decide) ?_
    refine Bd.sub (L' := [(0, .ref (ad 6)), (1, .int x1), (3, .int (p 6 11))]) [1, 2, 0] rfl ?_
    exact w_ve_add_41 hd _ _ _ _ _
def ve_body (p : Mem) (x1 : Int32) (x2 : Int32)  : Option (Int32) :=
  if x2 < 0 then
    (some ((-1)))
  else
    (if x2 < 4 then
      (if (x1 * 4) + x2 < 0 then
        (some ((-1)))
      else
        (if (x1 * 4) + x2 < 96 then
          ((rd 96 (p 15) ((x1 * 4) + x2)).bind fun v30 =>
          some v30)
        else
          (some ((-1)))))
    else
      (some ((-1))))
set_option maxHeartbeats 400000 in
set_option maxRecDepth 100000 in
theorem c_ve_body {l : Launch} {E : Ev} {ad : Nat → Nat} {d : Nat}   {p : Mem} {x1 : Int32} {x2 : Int32}  (hd : 1 ≤ d) : Ct l yX4_body cX4_body 4 (some .int) d E (hV E ad p) [.ref (ad 6), .int x1, .int x2] (fun v : Int32 => (some (.int v), hV E ad p)) (ve_body p x1 x2) := by
  refine Ct.of2 (own := RX4) (L := [(0, .ref (ad 6)), (1, .int x1), (2, .int x2)]) rfl (by decide +kernel) (Nat.le_of_ble_eq_true rfl) rfl ?_
  unfold ve_body
  refine b_iload_n (n := 1) 1 dX4_body_0 rfl rfl rfl ?_
  refine b_iconst (n := 2) (v := 4) dX4_body_1 rfl (by decide) ?_
  refine b_imul (n := 3) dX4_body_2 rfl ?_
  refine b_iload_n (n := 4) 2 dX4_body_3 rfl rfl rfl ?_
  refine b_iadd (n := 5) dX4_body_4 rfl ?_
  refine b_istore_n (n := 6) (L' := [(3, .int ((x1 * 4) + x2)), (0, .ref (ad 6)), (1, .int x1), (2, .int x2)]) dX4_body_5 rfl rfl (Nat.le_of_ble_eq_true rfl) rfl ?_
  refine b_iload_n (n := 7) 3 dX4_body_6 rfl rfl rfl ?_
  refine b_if_lt (n := 10) (tgt := 34) dX4_body_7 (by decide) rfl (fun h7 => ?_) (fun h7 => ?_)
  · refine b_iconst (n := 35) (v := -1) dX4_body_34 rfl (by decide) ?_
    exact b_iret dX4_body_35 rfl rfl
  · refine b_iload_n (n := 11) 3 dX4_body_10 rfl rfl rfl ?_
    refine b_iconst (n := 12) (v := 4) dX4_body_11 rfl (by decide) ?_
    refine b_cmp_ge (n := 15) (tgt := 34) dX4_body_12 (by decide) rfl (fun h12 => ?_) (fun h12 => ?_)
    · refine b_iload_n (n := 16) 0 dX4_body_15 rfl rfl rfl ?_
      refine b_if_lt (n := 19) (tgt := 34) dX4_body_16 (by decide) rfl (fun h16 => ?_) (fun h16 => ?_)
      · refine b_iconst (n := 35) (v := -1) dX4_body_34 rfl (by decide) ?_
        exact b_iret dX4_body_35 rfl rfl
      · refine b_iload_n (n := 20) 0 dX4_body_19 rfl rfl rfl ?_
        refine b_bipush (n := 22) (v := 96) dX4_body_20 rfl (by decide) ?_
        refine b_cmp_ge (n := 25) (tgt := 34) dX4_body_22 (by decide) rfl (fun h22 => ?_) (fun h22 => ?_)
        · refine b_aload_n (n := 26) 1 dX4_body_25 rfl rfl rfl ?_
          refine b_get (n := 29) (v := .ref (ad 15)) 0 f_X4_36 dX4_body_26 rfl hV_o6 rfl ?_
          refine b_iload_n (n := 30) 0 dX4_body_29 rfl rfl rfl ?_
          refine b_iald (n := 31) 9 dX4_body_30 rfl hV_a15 (fun v30 => ?_)
          refine b_goto (n := 35) dX4_body_31 (by decide) ?_
          exact b_iret dX4_body_35 rfl rfl
        · refine b_iconst (n := 35) (v := -1) dX4_body_34 rfl (by decide) ?_
          exact b_iret dX4_body_35 rfl rfl
    · refine b_iconst (n := 35) (v := -1) dX4_body_34 rfl (by decide) ?_
      exact b_iret dX4_body_35 rfl rfl
def in_hasEnded (o : Mem)   : Option (Bool) :=
  if o 0 3 = 1 then
    (some true)
  else
    (if o 0 3 = 3 then
      (some true)
    else
      (if o 0 3 = 4 then
        (some true)
      else
        (some false)))
set_option maxHeartbeats 400000 in
set_option maxRecDepth 100000 in
theorem c_in_hasEnded {l : Launch} {E : Ev} {ad : Nat → Nat} {d : Nat}  {rl : Nat} {o : Mem} {h : Mem} {e : Mem} {p : Mem}   (hd : 1 ≤ d) : Ct l yX2_hasEnded cX2_hasEnded 1 (some .boolean) d E (hI E ad rl o h e p) [.ref (ad 0)] (fun v : Bool => (some (.int (b2i v)), hI E ad rl o h e p)) (in_hasEnded o) := by
  refine Ct.of2 (own := RX2) (L := [(0, .ref (ad 0))]) rfl (by decide +kernel) (Nat.le_of_ble_eq_true rfl) rfl ?_
  unfold in_hasEnded
  refine b_aload_n (n := 1) 0 dX2_hasEnded_0 rfl rfl rfl ?_
  refine b_get (n := 4) (v := .int (o 0 3)) 0 f_X2_9 dX2_hasEnded_1 rfl hI_o0 rfl ?_
  refine b_iconst (n := 5) (v := 1) dX2_hasEnded_4 rfl (by decide) ?_
  refine b_cmp_eq (n := 8) (tgt := 24) dX2_hasEnded_5 (by decide) rfl (fun h5 => ?_) (fun h5 => ?_)
  · refine b_iconst (n := 25) (v := 1) dX2_hasEnded_24 rfl (by decide) ?_
    refine b_goto (n := 29) dX2_hasEnded_25 (by decide) ?_
    exact b_zret (b := true) dX2_hasEnded_29 rfl rfl
  · refine b_aload_n (n := 9) 0 dX2_hasEnded_8 rfl rfl rfl ?_
    refine b_get (n := 12) (v := .int (o 0 3)) 0 f_X2_9 dX2_hasEnded_9 rfl hI_o0 rfl ?_
    refine b_iconst (n := 13) (v := 3) dX2_hasEnded_12 rfl (by decide) ?_
    refine b_cmp_eq (n := 16) (tgt := 24) dX2_hasEnded_13 (by decide) rfl (fun h13 => ?_) (fun h13 => ?_)
    · refine b_iconst (n := 25) (v := 1) dX2_hasEnded_24 rfl (by decide) ?_
      refine b_goto (n := 29) dX2_hasEnded_25 (by decide) ?_
      exact b_zret (b := true) dX2_hasEnded_29 rfl rfl
    · refine b_aload_n (n := 17) 0 dX2_hasEnded_16 rfl rfl rfl ?_
      refine b_get (n := 20) (v := .int (o 0 3)) 0 f_X2_9 dX2_hasEnded_17 rfl hI_o0 rfl ?_
      refine b_iconst (n := 21) (v := 4) dX2_hasEnded_20 rfl (by decide) ?_
      refine b_cmp_ne (n := 24) (tgt := 28) dX2_hasEnded_21 (by decide) rfl (fun h21 => ?_) (fun h21 => ?_)
      · refine b_iconst (n := 25) (v := 1) dX2_hasEnded_24 rfl (by decide) ?_
        refine b_goto (n := 29) dX2_hasEnded_25 (by decide) ?_
        exact b_zret (b := true) dX2_hasEnded_29 rfl rfl
      · refine b_iconst (n := 29) (v := 0) dX2_hasEnded_28 rfl (by decide) ?_
        exact b_zret (b := false) dX2_hasEnded_29 rfl rfl
