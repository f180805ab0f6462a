/-! the class: partial pure functions, and the walk of each method (1) -/
def in_become_23 (rl : Nat) (e : Mem)  (y1 : Int32) (o : Mem) (h : Mem) : Option (Mem × Mem) :=
  (hi_add rl e 11 y1 h).bind fun h30 =>
  some (o, h30)
set_option maxHeartbeats 400000 in
set_option maxRecDepth 100000 in
theorem w_in_become_23 {l : Launch} {E : Ev} {ad : Nat → Nat} {A : Nat → Prop} {d : Nat}  {rl : Nat} {e : Mem} {p : Mem}  (hd : 2 ≤ d)  (y1 : Int32) (o : Mem) (h : Mem) : Bd l E A RX2 cX2_become 2 none d (fun q : Mem × Mem => (none, hI E ad rl q.1 q.2 e p)) 23 [(0, .ref (ad 0)), (1, .int y1)] [] (hI E ad rl o h e p) (in_become_23 rl e y1 o h) := by
  unfold in_become_23
  refine b_aload_n (n := 24) 0 dX2_become_23 rfl rfl rfl ?_
  refine b_get (n := 27) (v := .ref (ad 4)) 0 f_X2_56 dX2_become_24 rfl hI_o0 rfl ?_
  refine b_bipush (n := 29) (v := 11) dX2_become_27 rfl (by decide) ?_
  refine b_iload_n (n := 30) 1 dX2_become_29 rfl rfl rfl ?_
  refine bVwv (n := 33) (hh := (fun s : Mem => hH E ad rl s e)) (As := [.int 11, .int y1]) (rest := []) (fun s : Mem => hI E ad rl o s e p) 4 [4, 5, 1, 2, 3] lk_X2_122 (c_hi_add (Nat.le_refl _)) (by omega) rfl (by decide) (fun _ => rfl) (fun _ => rfl) rfl rfl rfl rfl (Nat.le_of_ble_eq_true rfl) dX2_become_30 rfl ?_
  rintro h30
  try dsimp only
  exact b_vret dX2_become_33 rfl rfl
def in_become (rl : Nat) (e : Mem) (x1 : Int32) (o : Mem) (h : Mem) : Option (Mem × Mem) :=
  (in_hasEnded (up o 0 3 x1)).bind fun k6 =>
  if k6 = true then
    (in_become_23 rl e x1 (up (up o 0 3 x1) 0 5 (e 1 2)) h)
  else
    (in_become_23 rl e x1 (up o 0 3 x1) h)
set_option maxHeartbeats 400000 in
set_option maxRecDepth 100000 in
theorem c_in_become {l : Launch} {E : Ev} {ad : Nat → Nat} {d : Nat}  {rl : Nat} {e : Mem} {p : Mem} {x1 : Int32} {o : Mem} {h : Mem} (hd : 2 ≤ d) : Ct l yX2_become cX2_become 2 none d E (hI E ad rl o h e p) [.ref (ad 0), .int x1] (fun q : Mem × Mem => (none, hI E ad rl q.1 q.2 e p)) (in_become rl e x1 o h) := by
  refine Ct.of2 (own := RX2) (L := [(0, .ref (ad 0)), (1, .int x1)]) rfl (by decide +kernel) (Nat.le_of_ble_eq_true rfl) rfl ?_
  unfold in_become
  refine b_aload_n (n := 1) 0 dX2_become_0 rfl rfl rfl ?_
  refine b_iload_n (n := 2) 1 dX2_become_1 rfl rfl rfl ?_
  refine b_put (n := 5) (ws' := hI E ad rl (up o 0 3 x1) h e p) 0 fp_X2_9 dX2_become_2 rfl hI_o0 rfl rfl (Nat.le_of_ble_eq_true rfl) hI_p0_3 ?_
  refine b_aload_n (n := 6) 0 dX2_become_5 rfl rfl rfl ?_
  refine bV0b (n := 9) (As := []) (rest := []) 0 lk_X2_118 (c_in_hasEnded (Nat.le_refl _)) (by omega) rfl rfl rfl rfl (Nat.le_of_ble_eq_true rfl) dX2_become_6 rfl (fun k6 => ?_)
  refine b_bz (n := 12) (tgt := 23) dX2_become_9 (by decide) rfl (fun h9 => ?_) (fun h9 => ?_)
  · refine b_aload_n (n := 13) 0 dX2_become_12 rfl rfl rfl ?_
    refine b_aload_n (n := 14) 0 dX2_become_13 rfl rfl rfl ?_
    refine b_get (n := 17) (v := .ref (ad 1)) 0 f_X2_43 dX2_become_14 rfl hI_o0 rfl ?_
    refine b_get (n := 20) (v := .int (e 1 2)) 1 f_X2_83 dX2_become_17 rfl hI_o1 rfl ?_
    refine b_put (n := 23) (ws' := hI E ad rl (up (up o 0 3 x1) 0 5 (e 1 2)) h e p) 0 fp_X2_63 dX2_become_20 rfl hI_o0 rfl rfl (Nat.le_of_ble_eq_true rfl) hI_p0_5 ?_
    exact w_in_become_23 hd _ _ _
  · exact w_in_become_23 hd _ _ _
def in_goesOn (o : Mem) (x1 : Int32)  : Option (Bool) :=
  (rd 24 (o 18) x1).bind fun v5 =>
  if v5 < 1 then
    (some false)
  else
    ((rd 24 (o 18) x1).bind fun v15 =>
    if 3 < v15 then
      (some false)
    else
      (some true))
set_option maxHeartbeats 400000 in
set_option maxRecDepth 100000 in
theorem c_in_goesOn {l : Launch} {E : Ev} {ad : Nat → Nat} {d : Nat}  {rl : Nat} {o : Mem} {h : Mem} {e : Mem} {p : Mem} {x1 : Int32}  (hd : 1 ≤ d) : Ct l yX2_goesOn cX2_goesOn 2 (some .boolean) d E (hI E ad rl o h e p) [.ref (ad 0), .int x1] (fun v : Bool => (some (.int (b2i v)), hI E ad rl o h e p)) (in_goesOn o x1) := by
  refine Ct.of2 (own := RX2) (L := [(0, .ref (ad 0)), (1, .int x1)]) rfl (by decide +kernel) (Nat.le_of_ble_eq_true rfl) rfl ?_
  unfold in_goesOn
  refine b_aload_n (n := 1) 0 dX2_goesOn_0 rfl rfl rfl ?_
  refine b_get (n := 4) (v := .ref (ad 18)) 0 f_X2_22 dX2_goesOn_1 rfl hI_o0 rfl ?_
  refine b_iload_n (n := 5) 1 dX2_goesOn_4 rfl rfl rfl ?_
  refine b_iald (n := 6) 8 dX2_goesOn_5 rfl hI_a18 (fun v5 => ?_)
  refine b_iconst (n := 7) (v := 1) dX2_goesOn_6 rfl (by decide) ?_
  refine b_cmp_lt (n := 10) (tgt := 24) dX2_goesOn_7 (by decide) rfl (fun h7 => ?_) (fun h7 => ?_)
  · refine b_iconst (n := 25) (v := 0) dX2_goesOn_24 rfl (by decide) ?_
    exact b_zret (b := false) dX2_goesOn_25 rfl rfl
  · refine b_aload_n (n := 11) 0 dX2_goesOn_10 rfl rfl rfl ?_
    refine b_get (n := 14) (v := .ref (ad 18)) 0 f_X2_22 dX2_goesOn_11 rfl hI_o0 rfl ?_
    refine b_iload_n (n := 15) 1 dX2_goesOn_14 rfl rfl rfl ?_
    refine b_iald (n := 16) 8 dX2_goesOn_15 rfl hI_a18 (fun v15 => ?_)
    refine b_iconst (n := 17) (v := 3) dX2_goesOn_16 rfl (by decide) ?_
    refine b_cmp_gt (n := 20) (tgt := 24) dX2_goesOn_17 (by decide) rfl (fun h17 => ?_) (fun h17 => ?_)
    · refine b_iconst (n := 25) (v := 0) dX2_goesOn_24 rfl (by decide) ?_
      exact b_zret (b := false) dX2_goesOn_25 rfl rfl
    · refine b_iconst (n := 21) (v := 1) dX2_goesOn_20 rfl (by decide) ?_
      refine b_goto (n := 25) dX2_goesOn_21 (by decide) ?_
      exact b_zret (b := true) dX2_goesOn_25 rfl rfl
def in_beginAttempt (rl : Nat) (p : Mem) (e : Mem) (x1 : Int32) (o : Mem) (h : Mem) : Option (Mem × Mem) :=
  (rd 24 (p 9) x1).bind fun v8 =>
  ck 24 x1 <|
  (rd 25 (o 23) x1).bind fun v23 =>
  ck 25 x1 <|
  (en_endOfAttempt e v8).bind fun k37 =>
  ck 25 x1 <|
  (hi_add rl e 0 v8 h).bind fun h47 =>
  some (up (up (up o 18 x1.toNatClampNeg 1) 23 x1.toNatClampNeg (v23 + 1)) 22 x1.toNatClampNeg k37, h47)
set_option maxHeartbeats 400000 in
set_option maxRecDepth 100000 in
theorem c_in_beginAttempt {l : Launch} {E : Ev} {ad : Nat → Nat} {d : Nat}  {rl : Nat} {e : Mem} {p : Mem} {x1 : Int32} {o : Mem} {h : Mem} (hd : 2 ≤ d) : Ct l yX2_beginAttempt cX2_beginAttempt 3 none d E (hI E ad rl o h e p) [.ref (ad 0), .int x1] (fun q : Mem × Mem => (none, hI E ad rl q.1 q.2 e p)) (in_beginAttempt rl p e x1 o h) := by
  refine Ct.of2 (own := RX2) (L := [(0, .ref (ad 0)), (1, .int x1)]) rfl (by decide +kernel) (Nat.le_of_ble_eq_true rfl) rfl ?_
  unfold in_beginAttempt
  refine b_aload_n (n := 1) 0 dX2_beginAttempt_0 rfl rfl rfl ?_
  refine b_get (n := 4) (v := .ref (ad 6)) 0 f_X2_47 dX2_beginAttempt_1 rfl hI_o0 rfl ?_
  refine b_get (n := 7) (v := .ref (ad 9)) 15 f_X2_167 dX2_beginAttempt_4 rfl hI_o6 rfl ?_
  refine b_iload_n (n := 8) 1 dX2_beginAttempt_7 rfl rfl rfl ?_
  refine b_iald (n := 9) 18 dX2_beginAttempt_8 rfl hI_a9 (fun v8 => ?_)
  refine b_istore_n (n := 10) (L' := [(2, .int v8), (0, .ref (ad 0)), (1, .int x1)]) dX2_beginAttempt_9 rfl rfl (Nat.le_of_ble_eq_true rfl) rfl ?_
  refine b_aload_n (n := 11) 1 dX2_beginAttempt_10 rfl rfl rfl ?_
  refine b_get (n := 14) (v := .ref (ad 18)) 0 f_X2_22 dX2_beginAttempt_11 rfl hI_o0 rfl ?_
  refine b_iload_n (n := 15) 2 dX2_beginAttempt_14 rfl rfl rfl ?_
  refine b_iconst (n := 16) (v := 1) dX2_beginAttempt_15 rfl (by decide) ?_
  refine b_iast (n := 17) (ws' := hI E ad rl (up o 18 x1.toNatClampNeg 1) h e p) 8 dX2_beginAttempt_16 rfl hI_a18 hI_s18 ?_
  refine b_aload_n (n := 18) 1 dX2_beginAttempt_17 rfl rfl rfl ?_
  refine b_get (n := 21) (v := .ref (ad 23)) 0 f_X2_37 dX2_beginAttempt_18 rfl hI_o0 rfl ?_
  refine b_iload_n (n := 22) 2 dX2_beginAttempt_21 rfl rfl rfl ?_
  refine b_dup2 (n := 23) dX2_beginAttempt_22 rfl rfl rfl ?_
  refine b_iald (n := 24) 13 dX2_beginAttempt_23 rfl hI_a23 (fun v23 => ?_)
  refine b_iconst (n := 25) (v := 1) dX2_beginAttempt_24 rfl (by decide) ?_
  refine b_iadd (n := 26) dX2_beginAttempt_25 rfl ?_
  refine b_iast (n := 27) (ws' := hI E ad rl (up (up o 18 x1.toNatClampNeg 1) 23 x1.toNatClampNeg (v23 + 1)) h e p) 13 dX2_beginAttempt_26 rfl hI_a23 hI_s23 ?_
  refine b_aload_n (n := 28) 1 dX2_beginAttempt_27 rfl rfl rfl ?_
  refine b_get (n := 31) (v := .ref (ad 22)) 0 f_X2_34 dX2_beginAttempt_28 rfl hI_o0 rfl ?_
  refine b_iload_n (n := 32) 2 dX2_beginAttempt_31 rfl rfl rfl ?_
  refine b_aload_n (n := 33) 1 dX2_beginAttempt_32 rfl rfl rfl ?_
  refine b_get (n := 36) (v := .ref (ad 1)) 0 f_X2_43 dX2_beginAttempt_33 rfl hI_o0 rfl ?_
  refine b_iload_n (n := 37) 0 dX2_beginAttempt_36 rfl rfl rfl ?_
  refine bVi (n := 40) (As := [.int v8]) (rest := [.int x1, .ref (ad 22)]) 1 [1, 2, 3] lk_X2_170 (c_en_endOfAttempt (Nat.le_refl _)) (by omega) rfl (by decide) rfl rfl rfl rfl (Nat.le_of_ble_eq_true rfl) dX2_beginAttempt_37 rfl (fun k37 => ?_)
  refine b_iast (n := 41) (ws' := hI E ad rl (up (up (up o 18 x1.toNatClampNeg 1) 23 x1.toNatClampNeg (v23 + 1)) 22 x1.toNatClampNeg k37) h e p) 12 dX2_beginAttempt_40 rfl hI_a22 hI_s22 ?_
  refine b_aload_n (n := 42) 1 dX2_beginAttempt_41 rfl rfl rfl ?_
  refine b_get (n := 45) (v := .ref (ad 4)) 0 f_X2_56 dX2_beginAttempt_42 rfl hI_o0 rfl ?_
  refine b_iconst (n := 46) (v := 0) dX2_beginAttempt_45 rfl (by decide) ?_
  refine b_iload_n (n := 47) 0 dX2_beginAttempt_46 rfl rfl rfl ?_
  refine bVwv (n := 50) (hh := (fun s : Mem => hH E ad rl s e)) (As := [.int 0, .int v8]) (rest := []) (fun s : Mem => hI E ad rl (up (up (up o 18 x1.toNatClampNeg 1) 23 x1.toNatClampNeg (v23 + 1)) 22 x1.toNatClampNeg k37) s e p) 4 [4, 5, 1, 2, 3] lk_X2_122 (c_hi_add (Nat.le_refl _)) (by omega) rfl (by decide) (fun _ => rfl) (fun _ => rfl) rfl rfl rfl rfl (Nat.le_of_ble_eq_true rfl) dX2_beginAttempt_47 rfl ?_
  rintro h47
  try dsimp only
  exact b_vret dX2_beginAttempt_50 rfl rfl
def in_beginSignal (p : Mem) (e : Mem) (x1 : Int32) (o : Mem) : Option (Mem) :=
  (rd 24 (p 10) x1).bind fun v8 =>
  if v8 < 0 then
    (some o)
  else
    ((rd 24 (p 10) x1).bind fun v32 =>
    ck 25 x1 <|
    some (up o 22 x1.toNatClampNeg ((e 1 2) + v32)))
set_option maxHeartbeats 400000 in
set_option maxRecDepth 100000 in
theorem c_in_beginSignal {l : Launch} {E : Ev} {ad : Nat → Nat} {d : Nat}  {rl : Nat} {h : Mem} {e : Mem} {p : Mem} {x1 : Int32} {o : Mem} (hd : 1 ≤ d) : Ct l yX2_beginSignal cX2_beginSignal 2 none d E (hI E ad rl o h e p) [.ref (ad 0), .int x1] (fun q : Mem => (none, hI E ad rl q h e p)) (in_beginSignal p e x1 o) := by
  refine Ct.of2 (own := RX2) (L := [(0, .ref (ad 0)), (1, .int x1)]) rfl (by decide +kernel) (Nat.le_of_ble_eq_true rfl) rfl ?_
  unfold in_beginSignal
  refine b_aload_n (n := 1) 0 dX2_beginSignal_0 rfl rfl rfl ?_
  refine b_get (n := 4) (v := .ref (ad 6)) 0 f_X2_47 dX2_beginSignal_1 rfl hI_o0 rfl ?_
  refine b_get (n := 7) (v := .ref (ad 10)) 15 f_X2_150 dX2_beginSignal_4 rfl hI_o6 rfl ?_
  refine b_iload_n (n := 8) 1 dX2_beginSignal_7 rfl rfl rfl ?_
  refine b_iald (n := 9) 19 dX2_beginSignal_8 rfl hI_a10 (fun v8 => ?_)
  refine b_if_lt (n := 12) (tgt := 35) dX2_beginSignal_9 (by decide) rfl (fun h9 => ?_) (fun h9 => ?_)
  · exact b_vret dX2_beginSignal_35 rfl rfl
  · refine b_aload_n (n := 13) 0 dX2_beginSignal_12 rfl rfl rfl ?_
    refine b_get (n := 16) (v := .ref (ad 22)) 0 f_X2_34 dX2_beginSignal_13 rfl hI_o0 rfl ?_
    refine b_iload_n (n := 17) 1 dX2_beginSignal_16 rfl rfl rfl ?_
    refine b_aload_n (n := 18) 0 dX2_beginSignal_17 rfl rfl rfl ?_
    refine b_get (n := 21) (v := .ref (ad 1)) 0 f_X2_43 dX2_beginSignal_18 rfl hI_o0 rfl ?_
    refine b_get (n := 24) (v := .int (e 1 2)) 1 f_X2_83 dX2_beginSignal_21 rfl hI_o1 rfl ?_
    refine b_aload_n (n := 25) 0 dX2_beginSignal_24 rfl rfl rfl ?_
    refine b_get (n := 28) (v := .ref (ad 6)) 0 f_X2_47 dX2_beginSignal_25 rfl hI_o0 rfl ?_
    refine b_get (n := 31) (v := .ref (ad 10)) 15 f_X2_150 dX2_beginSignal_28 rfl hI_o6 rfl ?_
    refine b_iload_n (n := 32) 1 dX2_beginSignal_31 rfl rfl rfl ?_
    refine b_iald (n := 33) 19 dX2_beginSignal_32 rfl hI_a10 (fun v32 => ?_)
    refine b_iadd (n := 34) dX2_beginSignal_33 rfl ?_
    refine b_iast (n := 35) (ws' := hI E ad rl (up o 22 x1.toNatClampNeg ((e 1 2) + v32)) h e p) 12 dX2_beginSignal_34 rfl hI_a22 hI_s22 ?_
    exact b_vret dX2_beginSignal_35 rfl rfl
def in_chosenBody_41 (p : Mem) (o : Mem)  (y1 : Int32) (z0 : Int32)  : Option (Int32) :=
  if z0 = 0 then
    ((ve_body p y1 1).bind fun k56 =>
    some k56)
  else
    ((ve_body p y1 0).bind fun k56 =>
    some k56)
set_option maxHeartbeats 400000 in
set_option maxRecDepth 100000 in
theorem w_in_chosenBody_41 {l : Launch} {E : Ev} {ad : Nat → Nat} {A : Nat → Prop} {d : Nat}  {rl : Nat} {o : Mem} {h : Mem} {e : Mem} {p : Mem}  (hd : 2 ≤ d)  (y1 : Int32) (z0 : Int32) : Bd l E A RX2 cX2_chosenBody 4 (some .int) d (fun v : Int32 => (some (.int v), hI E ad rl o h e p)) 41 [(0, .ref (ad 0)), (1, .int y1)] [.int z0] (hI E ad rl o h e p) (in_chosenBody_41 p o y1 z0) := by
  unfold in_chosenBody_41
  refine b_istore_n (n := 42) (L' := [(3, .int z0), (0, .ref (ad 0)), (1, .int y1)]) dX2_chosenBody_41 rfl rfl (Nat.le_of_ble_eq_true rfl) rfl ?_
  refine b_aload_n (n := 43) 1 dX2_chosenBody_42 rfl rfl rfl ?_
  refine b_get (n := 46) (v := .ref (ad 6)) 0 f_X2_47 dX2_chosenBody_43 rfl hI_o0 rfl ?_
  refine b_iload_n (n := 47) 2 dX2_chosenBody_46 rfl rfl rfl ?_
  refine b_iload_n (n := 48) 0 dX2_chosenBody_47 rfl rfl rfl ?_
  refine b_if_eq (n := 51) (tgt := 55) dX2_chosenBody_48 (by decide) rfl (fun h48 => ?_) (fun h48 => ?_)
  · refine b_iconst (n := 56) (v := 1) dX2_chosenBody_55 rfl (by decide) ?_
    refine bVi (n := 59) (As := [.int y1, .int 1]) (rest := []) 15 [15, 16, 17, 18, 19, 20, 21, 22, 23, 24] lk_X2_163 (c_ve_body (Nat.le_refl _)) (by omega) rfl (by decide) rfl rfl rfl rfl (Nat.le_of_ble_eq_true rfl) dX2_chosenBody_56 rfl (fun k56 => ?_)
    exact b_iret dX2_chosenBody_59 rfl rfl
  · refine b_iconst (n := 52) (v := 0) dX2_chosenBody_51 rfl (by decide) ?_
    refine b_goto (n := 56) dX2_chosenBody_52 (by decide) ?_
    refine bVi (n := 59) (As := [.int y1, .int 0]) (rest := []) 15 [15, 16, 17, 18, 19, 20, 21, 22, 23, 24] lk_X2_163 (c_ve_body (Nat.le_refl _)) (by omega) rfl (by decide) rfl rfl rfl rfl (Nat.le_of_ble_eq_true rfl) dX2_chosenBody_56 rfl (fun k56 => ?_)
    exact b_iret dX2_chosenBody_59 rfl rfl
def in_chosenBody (p : Mem) (o : Mem) (x1 : Int32)  : Option (Int32) :=
  (rd 24 (p 9) x1).bind fun v8 =>
  (xs_isInside v8 4).bind fun k12 =>
  if k12 = true then
    ((rd 4 (o 16) v8).bind fun v23 =>
    (rd 24 (p 10) x1).bind fun v32 =>
    if v23 < v32 then
      (in_chosenBody_41 p o x1 1)
    else
      (in_chosenBody_41 p o x1 0))
  else
    (in_chosenBody_41 p o x1 0)
set_option maxHeartbeats 400000 in
set_option maxRecDepth 100000 in
theorem c_in_chosenBody {l : Launch} {E : Ev} {ad : Nat → Nat} {d : Nat}  {rl : Nat} {o : Mem} {h : Mem} {e : Mem} {p : Mem} {x1 : Int32}  (hd : 2 ≤ d) : Ct l yX2_chosenBody cX2_chosenBody 4 (some .int) d E (hI E ad rl o h e p) [.ref (ad 0), .int x1] (fun v : Int32 => (some (.int v), hI E ad rl o h e p)) (in_chosenBody p o x1) := by
  refine Ct.of2 (own := RX2) (L := [(0, .ref (ad 0)), (1, .int x1)]) rfl (by decide +kernel) (Nat.le_of_ble_eq_true rfl) rfl ?_
  unfold in_chosenBody
  refine b_aload_n (n := 1) 0 dX2_chosenBody_0 rfl rfl rfl ?_
  refine b_get (n := 4) (v := .ref (ad 6)) 0 f_X2_47 dX2_chosenBody_1 rfl hI_o0 rfl ?_
  refine b_get (n := 7) (v := .ref (ad 9)) 15 f_X2_167 dX2_chosenBody_4 rfl hI_o6 rfl ?_
  refine b_iload_n (n := 8) 1 dX2_chosenBody_7 rfl rfl rfl ?_
  refine b_iald (n := 9) 18 dX2_chosenBody_8 rfl hI_a9 (fun v8 => ?_)
  refine b_istore_n (n := 10) (L' := [(2, .int v8), (0, .ref (ad 0)), (1, .int x1)]) dX2_chosenBody_9 rfl rfl (Nat.le_of_ble_eq_true rfl) rfl ?_
  refine b_iload_n (n := 11) 0 dX2_chosenBody_10 rfl rfl rfl ?_
  refine b_iconst (n := 12) (v := 4) dX2_chosenBody_11 rfl (by decide) ?_
  refine bNb (n := 15) (As := [.int v8, .int 4]) (rest := []) lk_X2_125 (c_xs_isInside (Nat.le_refl _)) (by omega) rfl rfl (Nat.le_of_ble_eq_true rfl) dX2_chosenBody_12 rfl (fun k12 => ?_)
  refine b_bz (n := 18) (tgt := 40) dX2_chosenBody_15 (by decide) rfl (fun h15 => ?_) (fun h15 => ?_)
  · refine b_aload_n (n := 19) 1 dX2_chosenBody_18 rfl rfl rfl ?_
    refine b_get (n := 22) (v := .ref (ad 16)) 0 f_X2_15 dX2_chosenBody_19 rfl hI_o0 rfl ?_
    refine b_iload_n (n := 23) 0 dX2_chosenBody_22 rfl rfl rfl ?_
    refine b_iald (n := 24) 6 dX2_chosenBody_23 rfl hI_a16 (fun v23 => ?_)
    refine b_aload_n (n := 25) 1 dX2_chosenBody_24 rfl rfl rfl ?_
    refine b_get (n := 28) (v := .ref (ad 6)) 0 f_X2_47 dX2_chosenBody_25 rfl hI_o0 rfl ?_
    refine b_get (n := 31) (v := .ref (ad 10)) 15 f_X2_150 dX2_chosenBody_28 rfl hI_o6 rfl ?_
    refine b_iload_n (n := 32) 2 dX2_chosenBody_31 rfl rfl rfl ?_
    refine b_iald (n := 33) 19 dX2_chosenBody_32 rfl hI_a10 (fun v32 => ?_)
    refine b_cmp_ge (n := 36) (tgt := 40) dX2_chosenBody_33 (by decide) rfl (fun h33 => ?_) (fun h33 => ?_)
    · refine b_iconst (n := 37) (v := 1) dX2_chosenBody_36 rfl (by decide) ?_
      refine b_goto (n := 41) dX2_chosenBody_37 (by decide) ?_
      refine Bd.sub (L' := [(0, .ref (ad 0)), (1, .int x1)]) [1, 2] rfl ?_
      exact w_in_chosenBody_41 hd _ _
    · refine b_iconst (n := 41) (v := 0) dX2_chosenBody_40 rfl (by decide) ?_
      refine Bd.sub (L' := [(0, .ref (ad 0)), (1, .int x1)]) [1, 2] rfl ?_
      exact w_in_chosenBody_41 hd _ _
  · refine b_iconst (n := 41) (v := 0) dX2_chosenBody_40 rfl (by decide) ?_
    refine Bd.sub (L' := [(0, .ref (ad 0)), (1, .int x1)]) [1, 2] rfl ?_
    exact w_in_chosenBody_41 hd _ _
def in_changeVariable_41 (rl : Nat) (p : Mem) (e : Mem)  (y1 : Int32) (y2 : Int32) (z0 : Int32) (o : Mem) (h : Mem) : Option (Mem × Mem) :=
  (rd 24 (p 10) y1).bind fun v56 =>
  ck 4 y2 <|
  (hi_add rl e 8 y2 h).bind fun h66 =>
  ck 24 y1 <|
  some (up (up o 16 y2.toNatClampNeg (z0 + v56)) 18 y1.toNatClampNeg 4, h66)
set_option maxHeartbeats 400000 in
set_option maxRecDepth 100000 in
theorem w_in_changeVariable_41 {l : Launch} {E : Ev} {ad : Nat → Nat} {A : Nat → Prop} {d : Nat}  {rl : Nat} {e : Mem} {p : Mem}  (hd : 2 ≤ d)  (y1 : Int32) (y2 : Int32) (z0 : Int32) (o : Mem) (h : Mem) : Bd l E A RX2 cX2_changeVariable 4 none d (fun q : Mem × Mem => (none, hI E ad rl q.1 q.2 e p)) 41 [(0, .ref (ad 0)), (1, .int y1), (2, .int y2)] [.int z0] (hI E ad rl o h e p) (in_changeVariable_41 rl p e y1 y2 z0 o h) := by
  unfold in_changeVariable_41
  refine b_istore_n (n := 42) (L' := [(3, .int z0), (0, .ref (ad 0)), (1, .int y1), (2, .int y2)]) dX2_changeVariable_41 rfl rfl (Nat.le_of_ble_eq_true rfl) rfl ?_
  refine b_aload_n (n := 43) 1 dX2_changeVariable_42 rfl rfl rfl ?_
  refine b_get (n := 46) (v := .ref (ad 16)) 0 f_X2_15 dX2_changeVariable_43 rfl hI_o0 rfl ?_
  refine b_iload_n (n := 47) 3 dX2_changeVariable_46 rfl rfl rfl ?_
  refine b_iload_n (n := 48) 0 dX2_changeVariable_47 rfl rfl rfl ?_
  refine b_aload_n (n := 49) 1 dX2_changeVariable_48 rfl rfl rfl ?_
  refine b_get (n := 52) (v := .ref (ad 6)) 0 f_X2_47 dX2_changeVariable_49 rfl hI_o0 rfl ?_
  refine b_get (n := 55) (v := .ref (ad 10)) 15 f_X2_150 dX2_changeVariable_52 rfl hI_o6 rfl ?_
  refine b_iload_n (n := 56) 2 dX2_changeVariable_55 rfl rfl rfl ?_
  refine b_iald (n := 57) 19 dX2_changeVariable_56 rfl hI_a10 (fun v56 => ?_)
  refine b_iadd (n := 58) dX2_changeVariable_57 rfl ?_
  refine b_iast (n := 59) (ws' := hI E ad rl (up o 16 y2.toNatClampNeg (z0 + v56)) h e p) 6 dX2_changeVariable_58 rfl hI_a16 hI_s16 ?_
  refine b_aload_n (n := 60) 1 dX2_changeVariable_59 rfl rfl rfl ?_
  refine b_get (n := 63) (v := .ref (ad 4)) 0 f_X2_56 dX2_changeVariable_60 rfl hI_o0 rfl ?_
  refine b_bipush (n := 65) (v := 8) dX2_changeVariable_63 rfl (by decide) ?_
  refine b_iload_n (n := 66) 3 dX2_changeVariable_65 rfl rfl rfl ?_
  refine bVwv (n := 69) (hh := (fun s : Mem => hH E ad rl s e)) (As := [.int 8, .int y2]) (rest := []) (fun s : Mem => hI E ad rl (up o 16 y2.toNatClampNeg (z0 + v56)) s e p) 4 [4, 5, 1, 2, 3] lk_X2_122 (c_hi_add (Nat.le_refl _)) (by omega) rfl (by decide) (fun _ => rfl) (fun _ => rfl) rfl rfl rfl rfl (Nat.le_of_ble_eq_true rfl) dX2_changeVariable_66 rfl ?_
  rintro h66
  try dsimp only
  refine b_aload_n (n := 70) 1 dX2_changeVariable_69 rfl rfl rfl ?_
  refine b_get (n := 73) (v := .ref (ad 18)) 0 f_X2_22 dX2_changeVariable_70 rfl hI_o0 rfl ?_
  refine b_iload_n (n := 74) 2 dX2_changeVariable_73 rfl rfl rfl ?_
  refine b_iconst (n := 75) (v := 4) dX2_changeVariable_74 rfl (by decide) ?_
  refine b_iast (n := 76) (ws' := hI E ad rl (up (up o 16 y2.toNatClampNeg (z0 + v56)) 18 y1.toNatClampNeg 4) h66 e p) 8 dX2_changeVariable_75 rfl hI_a18 hI_s18 ?_
  exact b_vret dX2_changeVariable_76 rfl rfl
def in_changeVariable (rl : Nat) (p : Mem) (e : Mem) (x1 : Int32) (o : Mem) (h : Mem) : Option (Mem × Mem) :=
  (rd 24 (p 9) x1).bind fun v8 =>
  (xs_isInside v8 4).bind fun k12 =>
  if k12 = true then
    ((rd 24 (p 11) x1).bind fun v26 =>
    if v26 = 1 then
      ((rd 4 (o 16) v8).bind fun v36 =>
      in_changeVariable_41 rl p e x1 v8 v36 o h)
    else
      (in_changeVariable_41 rl p e x1 v8 0 o h))
  else
    (ck 24 x1 <|
    some (up o 18 x1.toNatClampNeg 4, h))
set_option maxHeartbeats 400000 in
set_option maxRecDepth 100000 in
theorem c_in_changeVariable {l : Launch} {E : Ev} {ad : Nat → Nat} {d : Nat}  {rl : Nat} {e : Mem} {p : Mem} {x1 : Int32} {o : Mem} {h : Mem} (hd : 2 ≤ d) : Ct l yX2_changeVariable cX2_changeVariable 4 none d E (hI E ad rl o h e p) [.ref (ad 0), .int x1] (fun q : Mem × Mem => (none, hI E ad rl q.1 q.2 e p)) (in_changeVariable rl p e x1 o h) := by
  refine Ct.of2 (own := RX2) (L := [(0, .ref (ad 0)), (1, .int x1)]) rfl (by decide +kernel) (Nat.le_of_ble_eq_true rfl) rfl ?_
  unfold in_changeVariable
  refine b_aload_n (n := 1) 0 dX2_changeVariable_0 rfl rfl rfl ?_
  refine b_get (n := 4) (v := .ref (ad 6)) 0 f_X2_47 dX2_changeVariable_1 rfl hI_o0 rfl ?_
  refine b_get (n := 7) (v := .ref (ad 9)) 15 f_X2_167 dX2_changeVariable_4 rfl hI_o6 rfl ?_
  refine b_iload_n (n := 8) 1 dX2_changeVariable_7 rfl rfl rfl ?_
  refine b_iald (n := 9) 18 dX2_changeVariable_8 rfl hI_a9 (fun v8 => ?_)
  refine b_istore_n (n := 10) (L' := [(2, .int v8), (0, .ref (ad 0)), (1, .int x1)]) dX2_changeVariable_9 rfl rfl (Nat.le_of_ble_eq_true rfl) rfl ?_
  refine b_iload_n (n := 11) 0 dX2_changeVariable_10 rfl rfl rfl ?_
  refine b_iconst (n := 12) (v := 4) dX2_changeVariable_11 rfl (by decide) ?_
  refine bNb (n := 15) (As := [.int v8, .int 4]) (rest := []) lk_X2_125 (c_xs_isInside (Nat.le_refl _)) (by omega) rfl rfl (Nat.le_of_ble_eq_true rfl) dX2_changeVariable_12 rfl (fun k12 => ?_)
  refine b_bz (n := 18) (tgt := 69) dX2_changeVariable_15 (by decide) rfl (fun h15 => ?_) (fun h15 => ?_)
  · refine b_aload_n (n := 19) 1 dX2_changeVariable_18 rfl rfl rfl ?_
    refine b_get (n := 22) (v := .ref (ad 6)) 0 f_X2_47 dX2_changeVariable_19 rfl hI_o0 rfl ?_
    refine b_get (n := 25) (v := .ref (ad 11)) 15 f_X2_197 dX2_changeVariable_22 rfl hI_o6 rfl ?_
    refine b_iload_n (n := 26) 2 dX2_changeVariable_25 rfl rfl rfl ?_
    refine b_iald (n := 27) 20 dX2_changeVariable_26 rfl hI_a11 (fun v26 => ?_)
    refine b_iconst (n := 28) (v := 1) dX2_changeVariable_27 rfl (by decide) ?_
    refine b_cmp_ne (n := 31) (tgt := 40) dX2_changeVariable_28 (by decide) rfl (fun h28 => ?_) (fun h28 => ?_)
    · refine b_aload_n (n := 32) 1 dX2_changeVariable_31 rfl rfl rfl ?_
      refine b_get (n := 35) (v := .ref (ad 16)) 0 f_X2_15 dX2_changeVariable_32 rfl hI_o0 rfl ?_
      refine b_iload_n (n := 36) 0 dX2_changeVariable_35 rfl rfl rfl ?_
      refine b_iald (n := 37) 6 dX2_changeVariable_36 rfl hI_a16 (fun v36 => ?_)
      refine b_goto (n := 41) dX2_changeVariable_37 (by decide) ?_
      refine Bd.sub (L' := [(0, .ref (ad 0)), (1, .int x1), (2, .int v8)]) [1, 2, 0] rfl ?_
      exact w_in_changeVariable_41 hd _ _ _ _ _
    · refine b_iconst (n := 41) (v := 0) dX2_changeVariable_40 rfl (by decide) ?_
      refine Bd.sub (L' := [(0, .ref (ad 0)), (1, .int x1), (2, .int v8)]) [1, 2, 0] rfl ?_
      exact w_in_changeVariable_41 hd _ _ _ _ _
  · refine b_aload_n (n := 70) 1 dX2_changeVariable_69 rfl rfl rfl ?_
    refine b_get (n := 73) (v := .ref (ad 18)) 0 f_X2_22 dX2_changeVariable_70 rfl hI_o0 rfl ?_
    refine b_iload_n (n := 74) 2 dX2_changeVariable_73 rfl rfl rfl ?_
    refine b_iconst (n := 75) (v := 4) dX2_changeVariable_74 rfl (by decide) ?_
    refine b_iast (n := 76) (ws' := hI E ad rl (up o 18 x1.toNatClampNeg 4) h e p) 8 dX2_changeVariable_75 rfl hI_a18 hI_s18 ?_
    exact b_vret dX2_changeVariable_76 rfl rfl
def in_lookAtSignal_57 (rl : Nat) (p : Mem) (e : Mem)  (y1 : Int32) (y2 : Int32) (o : Mem) (h : Mem) : Option (Mem × Mem) :=
  (rd 25 (o 22) y1).bind fun v62 =>
  if e 1 2 < v62 then
    (some (o, h))
  else
    (ck 24 y1 <|
    (hi_add rl e 4 y2 h).bind fun h86 =>
    some (up o 18 y1.toNatClampNeg 5, h86))
set_option maxHeartbeats 400000 in
set_option maxRecDepth 100000 in
theorem w_in_lookAtSignal_57 {l : Launch} {E : Ev} {ad : Nat → Nat} {A : Nat → Prop} {d : Nat}  {rl : Nat} {e : Mem} {p : Mem}  (hd : 2 ≤ d)  (y1 : Int32) (y2 : Int32) (o : Mem) (h : Mem) : Bd l E A RX2 cX2_lookAtSignal 3 none d (fun q : Mem × Mem => (none, hI E ad rl q.1 q.2 e p)) 57 [(0, .ref (ad 0)), (1, .int y1), (2, .int y2)] [] (hI E ad rl o h e p) (in_lookAtSignal_57 rl p e y1 y2 o h) := by
  unfold in_lookAtSignal_57
  refine b_aload_n (n := 58) 0 dX2_lookAtSignal_57 rfl rfl rfl ?_
  refine b_get (n := 61) (v := .ref (ad 22)) 0 f_X2_34 dX2_lookAtSignal_58 rfl hI_o0 rfl ?_
  refine b_iload_n (n := 62) 1 dX2_lookAtSignal_61 rfl rfl rfl ?_
  refine b_iald (n := 63) 12 dX2_lookAtSignal_62 rfl hI_a22 (fun v62 => ?_)
  refine b_aload_n (n := 64) 0 dX2_lookAtSignal_63 rfl rfl rfl ?_
  refine b_get (n := 67) (v := .ref (ad 1)) 0 f_X2_43 dX2_lookAtSignal_64 rfl hI_o0 rfl ?_
  refine b_get (n := 70) (v := .int (e 1 2)) 1 f_X2_83 dX2_lookAtSignal_67 rfl hI_o1 rfl ?_
  refine b_cmp_gt (n := 73) (tgt := 89) dX2_lookAtSignal_70 (by decide) rfl (fun h70 => ?_) (fun h70 => ?_)
  · exact b_vret dX2_lookAtSignal_89 rfl rfl
  · refine b_aload_n (n := 74) 0 dX2_lookAtSignal_73 rfl rfl rfl ?_
    refine b_get (n := 77) (v := .ref (ad 18)) 0 f_X2_22 dX2_lookAtSignal_74 rfl hI_o0 rfl ?_
    refine b_iload_n (n := 78) 1 dX2_lookAtSignal_77 rfl rfl rfl ?_
    refine b_iconst (n := 79) (v := 5) dX2_lookAtSignal_78 rfl (by decide) ?_
    refine b_iast (n := 80) (ws' := hI E ad rl (up o 18 y1.toNatClampNeg 5) h e p) 8 dX2_lookAtSignal_79 rfl hI_a18 hI_s18 ?_
    refine b_aload_n (n := 81) 0 dX2_lookAtSignal_80 rfl rfl rfl ?_
    refine b_get (n := 84) (v := .ref (ad 4)) 0 f_X2_56 dX2_lookAtSignal_81 rfl hI_o0 rfl ?_
    refine b_iconst (n := 85) (v := 4) dX2_lookAtSignal_84 rfl (by decide) ?_
    refine b_iload_n (n := 86) 2 dX2_lookAtSignal_85 rfl rfl rfl ?_
    refine bVwv (n := 89) (hh := (fun s : Mem => hH E ad rl s e)) (As := [.int 4, .int y2]) (rest := []) (fun s : Mem => hI E ad rl (up o 18 y1.toNatClampNeg 5) s e p) 4 [4, 5, 1, 2, 3] lk_X2_122 (c_hi_add (Nat.le_refl _)) (by omega) rfl (by decide) (fun _ => rfl) (fun _ => rfl) rfl rfl rfl rfl (Nat.le_of_ble_eq_true rfl) dX2_lookAtSignal_86 rfl ?_
    rintro h86
    try dsimp only
    exact b_vret dX2_lookAtSignal_89 rfl rfl
def in_lookAtSignal (rl : Nat) (p : Mem) (e : Mem) (x1 : Int32) (o : Mem) (h : Mem) : Option (Mem × Mem) :=
  (rd 24 (p 9) x1).bind fun v8 =>
  (xs_isInside v8 8).bind fun k13 =>
  if k13 = true then
    ((rd 8 (o 17) v8).bind fun v24 =>
    if 0 < v24 then
      ((rd 8 (o 17) v8).bind fun v34 =>
      ck 8 v8 <|
      ck 24 x1 <|
      (hi_add rl e 3 v8 h).bind fun h51 =>
      some (up (up o 17 v8.toNatClampNeg (v34 - 1)) 18 x1.toNatClampNeg 4, h51))
    else
      (in_lookAtSignal_57 rl p e x1 v8 o h))
  else
    (in_lookAtSignal_57 rl p e x1 v8 o h)
set_option maxHeartbeats 400000 in
set_option maxRecDepth 100000 in
theorem c_in_lookAtSignal {l : Launch} {E : Ev} {ad : Nat → Nat} {d : Nat}  {rl : Nat} {e : Mem} {p : Mem} {x1 : Int32} {o : Mem} {h : Mem} (hd : 2 ≤ d) : Ct l yX2_lookAtSignal cX2_lookAtSignal 3 none d E (hI E ad rl o h e p) [.ref (ad 0), .int x1] (fun q : Mem × Mem => (none, hI E ad rl q.1 q.2 e p)) (in_lookAtSignal rl p e x1 o h) := by
  refine Ct.of2 (own := RX2) (L := [(0, .ref (ad 0)), (1, .int x1)]) rfl (by decide +kernel) (Nat.le_of_ble_eq_true rfl) rfl ?_
  unfold in_lookAtSignal
  refine b_aload_n (n := 1) 0 dX2_lookAtSignal_0 rfl rfl rfl ?_
  refine b_get (n := 4) (v := .ref (ad 6)) 0 f_X2_47 dX2_lookAtSignal_1 rfl hI_o0 rfl ?_
  refine b_get (n := 7) (v := .ref (ad 9)) 15 f_X2_167 dX2_lookAtSignal_4 rfl hI_o6 rfl ?_
  refine b_iload_n (n := 8) 1 dX2_lookAtSignal_7 rfl rfl rfl ?_
  refine b_iald (n := 9) 18 dX2_lookAtSignal_8 rfl hI_a9 (fun v8 => ?_)
  refine b_istore_n (n := 10) (L' := [(2, .int v8), (0, .ref (ad 0)), (1, .int x1)]) dX2_lookAtSignal_9 rfl rfl (Nat.le_of_ble_eq_true rfl) rfl ?_
  refine b_iload_n (n := 11) 0 dX2_lookAtSignal_10 rfl rfl rfl ?_
  refine b_bipush (n := 13) (v := 8) dX2_lookAtSignal_11 rfl (by decide) ?_
  refine bNb (n := 16) (As := [.int v8, .int 8]) (rest := []) lk_X2_125 (c_xs_isInside (Nat.le_refl _)) (by omega) rfl rfl (Nat.le_of_ble_eq_true rfl) dX2_lookAtSignal_13 rfl (fun k13 => ?_)
  refine b_bz (n := 19) (tgt := 57) dX2_lookAtSignal_16 (by decide) rfl (fun h16 => ?_) (fun h16 => ?_)
  · refine b_aload_n (n := 20) 1 dX2_lookAtSignal_19 rfl rfl rfl ?_
    refine b_get (n := 23) (v := .ref (ad 17)) 0 f_X2_19 dX2_lookAtSignal_20 rfl hI_o0 rfl ?_
    refine b_iload_n (n := 24) 0 dX2_lookAtSignal_23 rfl rfl rfl ?_
    refine b_iald (n := 25) 7 dX2_lookAtSignal_24 rfl hI_a17 (fun v24 => ?_)
    refine b_if_le (n := 28) (tgt := 57) dX2_lookAtSignal_25 (by decide) rfl (fun h25 => ?_) (fun h25 => ?_)
    · refine b_aload_n (n := 29) 1 dX2_lookAtSignal_28 rfl rfl rfl ?_
      refine b_get (n := 32) (v := .ref (ad 17)) 0 f_X2_19 dX2_lookAtSignal_29 rfl hI_o0 rfl ?_
      refine b_iload_n (n := 33) 0 dX2_lookAtSignal_32 rfl rfl rfl ?_
      refine b_dup2 (n := 34) dX2_lookAtSignal_33 rfl rfl rfl ?_
      refine b_iald (n := 35) 7 dX2_lookAtSignal_34 rfl hI_a17 (fun v34 => ?_)
      refine b_iconst (n := 36) (v := 1) dX2_lookAtSignal_35 rfl (by decide) ?_
      refine b_isub (n := 37) dX2_lookAtSignal_36 rfl ?_
      refine b_iast (n := 38) (ws' := hI E ad rl (up o 17 v8.toNatClampNeg (v34 - 1)) h e p) 7 dX2_lookAtSignal_37 rfl hI_a17 hI_s17 ?_
      refine b_aload_n (n := 39) 1 dX2_lookAtSignal_38 rfl rfl rfl ?_
      refine b_get (n := 42) (v := .ref (ad 18)) 0 f_X2_22 dX2_lookAtSignal_39 rfl hI_o0 rfl ?_
      refine b_iload_n (n := 43) 2 dX2_lookAtSignal_42 rfl rfl rfl ?_
      refine b_iconst (n := 44) (v := 4) dX2_lookAtSignal_43 rfl (by decide) ?_
      refine b_iast (n := 45) (ws' := hI E ad rl (up (up o 17 v8.toNatClampNeg (v34 - 1)) 18 x1.toNatClampNeg 4) h e p) 8 dX2_lookAtSignal_44 rfl hI_a18 hI_s18 ?_
      refine b_aload_n (n := 46) 1 dX2_lookAtSignal_45 rfl rfl rfl ?_
      refine b_get (n := 49) (v := .ref (ad 4)) 0 f_X2_56 dX2_lookAtSignal_46 rfl hI_o0 rfl ?_
      refine b_iconst (n := 50) (v := 3) dX2_lookAtSignal_49 rfl (by decide) ?_
      refine b_iload_n (n := 51) 0 dX2_lookAtSignal_50 rfl rfl rfl ?_
      refine bVwv (n := 54) (hh := (fun s : Mem => hH E ad rl s e)) (As := [.int 3, .int v8]) (rest := []) (fun s : Mem => hI E ad rl (up (up o 17 v8.toNatClampNeg (v34 - 1)) 18 x1.toNatClampNeg 4) s e p) 4 [4, 5, 1, 2, 3] lk_X2_122 (c_hi_add (Nat.le_refl _)) (by omega) rfl (by decide) (fun _ => rfl) (fun _ => rfl) rfl rfl rfl rfl (Nat.le_of_ble_eq_true rfl) dX2_lookAtSignal_51 rfl ?_
      rintro h51
      try dsimp only
      refine b_goto (n := 89) dX2_lookAtSignal_54 (by decide) ?_
      exact b_vret dX2_lookAtSignal_89 rfl rfl
    · refine Bd.sub (L' := [(0, .ref (ad 0)), (1, .int x1), (2, .int v8)]) [1, 2, 0] rfl ?_
      exact w_in_lookAtSignal_57 hd _ _ _ _
  · refine Bd.sub (L' := [(0, .ref (ad 0)), (1, .int x1), (2, .int v8)]) [1, 2, 0] rfl ?_
    exact w_in_lookAtSignal_57 hd _ _ _ _
def in_endAttempt_60 (rl : Nat) (p : Mem)  (y2 : Int32) (o : Mem) (h : Mem) (e : Mem) : Option (Mem × Mem × Mem) :=
  (hi_add rl e 2 y2 h).bind fun h66 =>
  some (o, h66, e)
set_option maxHeartbeats 400000 in
set_option maxRecDepth 100000 in
theorem w_in_endAttempt_60 {l : Launch} {E : Ev} {ad : Nat → Nat} {A : Nat → Prop} {d : Nat}  {rl : Nat} {p : Mem}  (hd : 2 ≤ d)  (y2 : Int32) (o : Mem) (h : Mem) (e : Mem) : Bd l E A RX2 cX2_endAttempt 3 none d (fun q : Mem × Mem × Mem => (none, hI E ad rl q.1 q.2.1 q.2.2 p)) 60 [(0, .ref (ad 0)), (2, .int y2)] [] (hI E ad rl o h e p) (in_endAttempt_60 rl p y2 o h e) := by
  unfold in_endAttempt_60
  refine b_aload_n (n := 61) 0 dX2_endAttempt_60 rfl rfl rfl ?_
  refine b_get (n := 64) (v := .ref (ad 4)) 0 f_X2_56 dX2_endAttempt_61 rfl hI_o0 rfl ?_
  refine b_iconst (n := 65) (v := 2) dX2_endAttempt_64 rfl (by decide) ?_
  refine b_iload_n (n := 66) 1 dX2_endAttempt_65 rfl rfl rfl ?_
  refine bVwv (n := 69) (hh := (fun s : Mem => hH E ad rl s e)) (As := [.int 2, .int y2]) (rest := []) (fun s : Mem => hI E ad rl o s e p) 4 [4, 5, 1, 2, 3] lk_X2_122 (c_hi_add (Nat.le_refl _)) (by omega) rfl (by decide) (fun _ => rfl) (fun _ => rfl) rfl rfl rfl rfl (Nat.le_of_ble_eq_true rfl) dX2_endAttempt_66 rfl ?_
  rintro h66
  try dsimp only
  exact b_vret dX2_endAttempt_69 rfl rfl
def in_endAttempt (rl : Nat) (p : Mem) (x1 : Int32) (o : Mem) (h : Mem) (e : Mem) : Option (Mem × Mem × Mem) :=
  (rd 24 (p 9) x1).bind fun v8 =>
  (en_succeeds v8 e).bind fun (k15, e15) =>
  if k15 = true then
    (ck 24 x1 <|
    (xs_isInside (o 0 6) 24).bind fun k34 =>
    if k34 = true then
      (ck 24 (o 0 6) <|
      in_endAttempt_60 rl p v8 (up (up (up o 18 x1.toNatClampNeg 4) 21 (o 0 6).toNatClampNeg x1) 0 6 ((o 0 6) + 1)) h e15)
    else
      (in_endAttempt_60 rl p v8 (up o 18 x1.toNatClampNeg 4) h e15))
  else
    ((hi_add rl e15 1 v8 h).bind fun h76 =>
    (rd 25 (o 23) x1).bind fun v84 =>
    (rd 24 (p 11) x1).bind fun v93 =>
    if v93 < v84 then
      (ck 24 x1 <|
      some (up o 18 x1.toNatClampNeg 5, h76, e15))
    else
      (ck 24 x1 <|
      (rd 25 (o 22) x1).bind fun v118 =>
      (rd 24 (p 10) x1).bind fun v127 =>
      (rd 25 (o 23) x1).bind fun v133 =>
      ck 25 x1 <|
      some (up (up o 18 x1.toNatClampNeg 2) 22 x1.toNatClampNeg (v118 + (v127 <<< ((v133 - 1) &&& 31))), h76, e15)))
set_option maxHeartbeats 400000 in
set_option maxRecDepth 100000 in
theorem c_in_endAttempt {l : Launch} {E : Ev} {ad : Nat → Nat} {d : Nat}  {rl : Nat} {p : Mem} {x1 : Int32} {o : Mem} {h : Mem} {e : Mem} (hd : 2 ≤ d) : Ct l yX2_endAttempt cX2_endAttempt 3 none d E (hI E ad rl o h e p) [.ref (ad 0), .int x1] (fun q : Mem × Mem × Mem => (none, hI E ad rl q.1 q.2.1 q.2.2 p)) (in_endAttempt rl p x1 o h e) := by
  refine Ct.of2 (own := RX2) (L := [(0, .ref (ad 0)), (1, .int x1)]) rfl (by decide +kernel) (Nat.le_of_ble_eq_true rfl) rfl ?_
  unfold in_endAttempt
  refine b_aload_n (n := 1) 0 dX2_endAttempt_0 rfl rfl rfl ?_
  refine b_get (n := 4) (v := .ref (ad 6)) 0 f_X2_47 dX2_endAttempt_1 rfl hI_o0 rfl ?_
  refine b_get (n := 7) (v := .ref (ad 9)) 15 f_X2_167 dX2_endAttempt_4 rfl hI_o6 rfl ?_
  refine b_iload_n (n := 8) 1 dX2_endAttempt_7 rfl rfl rfl ?_
  refine b_iald (n := 9) 18 dX2_endAttempt_8 rfl hI_a9 (fun v8 => ?_)
  refine b_istore_n (n := 10) (L' := [(2, .int v8), (0, .ref (ad 0)), (1, .int x1)]) dX2_endAttempt_9 rfl rfl (Nat.le_of_ble_eq_true rfl) rfl ?_
  refine b_aload_n (n := 11) 1 dX2_endAttempt_10 rfl rfl rfl ?_
  refine b_get (n := 14) (v := .ref (ad 1)) 0 f_X2_43 dX2_endAttempt_11 rfl hI_o0 rfl ?_
  refine b_iload_n (n := 15) 0 dX2_endAttempt_14 rfl rfl rfl ?_
  refine bVwb (n := 18) (hh := (fun s : Mem => hE E ad s)) (As := [.int v8]) (rest := []) (fun s : Mem => hI E ad rl o h s p) 1 [1, 2, 3] lk_X2_194 (c_en_succeeds (Nat.le_refl _)) (by omega) rfl (by decide) (fun _ => rfl) (fun _ => rfl) rfl rfl rfl rfl (Nat.le_of_ble_eq_true rfl) dX2_endAttempt_15 rfl ?_
  rintro k15 e15
  try dsimp only
  refine b_bz (n := 21) (tgt := 70) dX2_endAttempt_18 (by decide) rfl (fun h18 => ?_) (fun h18 => ?_)
  · refine b_aload_n (n := 22) 1 dX2_endAttempt_21 rfl rfl rfl ?_
    refine b_get (n := 25) (v := .ref (ad 18)) 0 f_X2_22 dX2_endAttempt_22 rfl hI_o0 rfl ?_
    refine b_iload_n (n := 26) 2 dX2_endAttempt_25 rfl rfl rfl ?_
    refine b_iconst (n := 27) (v := 4) dX2_endAttempt_26 rfl (by decide) ?_
    refine b_iast (n := 28) (ws' := hI E ad rl (up o 18 x1.toNatClampNeg 4) h e15 p) 8 dX2_endAttempt_27 rfl hI_a18 hI_s18 ?_
    refine b_aload_n (n := 29) 1 dX2_endAttempt_28 rfl rfl rfl ?_
    refine b_get (n := 32) (v := .int (o 0 6)) 0 f_X2_66 dX2_endAttempt_29 rfl hI_o0 rfl ?_
    refine b_bipush (n := 34) (v := 24) dX2_endAttempt_32 rfl (by decide) ?_
    refine bNb (n := 37) (As := [.int (o 0 6), .int 24]) (rest := []) lk_X2_125 (c_xs_isInside (Nat.le_refl _)) (by omega) rfl rfl (Nat.le_of_ble_eq_true rfl) dX2_endAttempt_34 rfl (fun k34 => ?_)
    refine b_bz (n := 40) (tgt := 60) dX2_endAttempt_37 (by decide) rfl (fun h37 => ?_) (fun h37 => ?_)
    · refine b_aload_n (n := 41) 1 dX2_endAttempt_40 rfl rfl rfl ?_
      refine b_get (n := 44) (v := .ref (ad 21)) 0 f_X2_31 dX2_endAttempt_41 rfl hI_o0 rfl ?_
      refine b_aload_n (n := 45) 1 dX2_endAttempt_44 rfl rfl rfl ?_
      refine b_get (n := 48) (v := .int (o 0 6)) 0 f_X2_66 dX2_endAttempt_45 rfl hI_o0 rfl ?_
      refine b_iload_n (n := 49) 2 dX2_endAttempt_48 rfl rfl rfl ?_
      refine b_iast (n := 50) (ws' := hI E ad rl (up (up o 18 x1.toNatClampNeg 4) 21 (o 0 6).toNatClampNeg x1) h e15 p) 11 dX2_endAttempt_49 rfl hI_a21 hI_s21 ?_
      refine b_aload_n (n := 51) 1 dX2_endAttempt_50 rfl rfl rfl ?_
      refine b_dup (n := 52) dX2_endAttempt_51 rfl rfl ?_
      refine b_get (n := 55) (v := .int (o 0 6)) 0 f_X2_66 dX2_endAttempt_52 rfl hI_o0 rfl ?_
      refine b_iconst (n := 56) (v := 1) dX2_endAttempt_55 rfl (by decide) ?_
      refine b_iadd (n := 57) dX2_endAttempt_56 rfl ?_
      refine b_put (n := 60) (ws' := hI E ad rl (up (up (up o 18 x1.toNatClampNeg 4) 21 (o 0 6).toNatClampNeg x1) 0 6 ((o 0 6) + 1)) h e15 p) 0 fp_X2_66 dX2_endAttempt_57 rfl hI_o0 rfl rfl (Nat.le_of_ble_eq_true rfl) hI_p0_6 ?_
      refine Bd.sub (L' := [(0, .ref (ad 0)), (2, .int v8)]) [1, 0] rfl ?_
      exact w_in_endAttempt_60 hd _ _ _ _
    · refine Bd.sub (L' := [(0, .ref (ad 0)), (2, .int v8)]) [1, 0] rfl ?_
      exact w_in_endAttempt_60 hd _ _ _ _
  · refine b_aload_n (n := 71) 1 dX2_endAttempt_70 rfl rfl rfl ?_
    refine b_get (n := 74) (v := .ref (ad 4)) 0 f_X2_56 dX2_endAttempt_71 rfl hI_o0 rfl ?_
    refine b_iconst (n := 75) (v := 1) dX2_endAttempt_74 rfl (by decide) ?_
    refine b_iload_n (n := 76) 0 dX2_endAttempt_75 rfl rfl rfl ?_
    refine bVwv (n := 79) (hh := (fun s : Mem => hH E ad rl s e15)) (As := [.int 1, .int v8]) (rest := []) (fun s : Mem => hI E ad rl o s e15 p) 4 [4, 5, 1, 2, 3] lk_X2_122 (c_hi_add (Nat.le_refl _)) (by omega) rfl (by decide) (fun _ => rfl) (fun _ => rfl) rfl rfl rfl rfl (Nat.le_of_ble_eq_true rfl) dX2_endAttempt_76 rfl ?_
    rintro h76
    try dsimp only
    refine b_aload_n (n := 80) 1 dX2_endAttempt_79 rfl rfl rfl ?_
    refine b_get (n := 83) (v := .ref (ad 23)) 0 f_X2_37 dX2_endAttempt_80 rfl hI_o0 rfl ?_
    refine b_iload_n (n := 84) 2 dX2_endAttempt_83 rfl rfl rfl ?_
    refine b_iald (n := 85) 13 dX2_endAttempt_84 rfl hI_a23 (fun v84 => ?_)
    refine b_aload_n (n := 86) 1 dX2_endAttempt_85 rfl rfl rfl ?_
    refine b_get (n := 89) (v := .ref (ad 6)) 0 f_X2_47 dX2_endAttempt_86 rfl hI_o0 rfl ?_
    refine b_get (n := 92) (v := .ref (ad 11)) 15 f_X2_197 dX2_endAttempt_89 rfl hI_o6 rfl ?_
    refine b_iload_n (n := 93) 2 dX2_endAttempt_92 rfl rfl rfl ?_
    refine b_iald (n := 94) 20 dX2_endAttempt_93 rfl hI_a11 (fun v93 => ?_)
    refine b_cmp_le (n := 97) (tgt := 105) dX2_endAttempt_94 (by decide) rfl (fun h94 => ?_) (fun h94 => ?_)
    · refine b_aload_n (n := 98) 1 dX2_endAttempt_97 rfl rfl rfl ?_
      refine b_get (n := 101) (v := .ref (ad 18)) 0 f_X2_22 dX2_endAttempt_98 rfl hI_o0 rfl ?_
      refine b_iload_n (n := 102) 2 dX2_endAttempt_101 rfl rfl rfl ?_
      refine b_iconst (n := 103) (v := 5) dX2_endAttempt_102 rfl (by decide) ?_
      refine b_iast (n := 104) (ws' := hI E ad rl (up o 18 x1.toNatClampNeg 5) h76 e15 p) 8 dX2_endAttempt_103 rfl hI_a18 hI_s18 ?_
      exact b_vret dX2_endAttempt_104 rfl rfl
    · refine b_aload_n (n := 106) 1 dX2_endAttempt_105 rfl rfl rfl ?_
      refine b_get (n := 109) (v := .ref (ad 18)) 0 f_X2_22 dX2_endAttempt_106 rfl hI_o0 rfl ?_
      refine b_iload_n (n := 110) 2 dX2_endAttempt_109 rfl rfl rfl ?_
      refine b_iconst (n := 111) (v := 2) dX2_endAttempt_110 rfl (by decide) ?_
      refine b_iast (n := 112) (ws' := hI E ad rl (up o 18 x1.toNatClampNeg 2) h76 e15 p) 8 dX2_endAttempt_111 rfl hI_a18 hI_s18 ?_
      refine b_aload_n (n := 113) 1 dX2_endAttempt_112 rfl rfl rfl ?_
      refine b_get (n := 116) (v := .ref (ad 22)) 0 f_X2_34 dX2_endAttempt_113 rfl hI_o0 rfl ?_
      refine b_iload_n (n := 117) 2 dX2_endAttempt_116 rfl rfl rfl ?_
      refine b_dup2 (n := 118) dX2_endAttempt_117 rfl rfl rfl ?_
      refine b_iald (n := 119) 12 dX2_endAttempt_118 rfl hI_a22 (fun v118 => ?_)
      refine b_aload_n (n := 120) 1 dX2_endAttempt_119 rfl rfl rfl ?_
      refine b_get (n := 123) (v := .ref (ad 6)) 0 f_X2_47 dX2_endAttempt_120 rfl hI_o0 rfl ?_
      refine b_get (n := 126) (v := .ref (ad 10)) 15 f_X2_150 dX2_endAttempt_123 rfl hI_o6 rfl ?_
      refine b_iload_n (n := 127) 2 dX2_endAttempt_126 rfl rfl rfl ?_
      refine b_iald (n := 128) 19 dX2_endAttempt_127 rfl hI_a10 (fun v127 => ?_)
      refine b_aload_n (n := 129) 1 dX2_endAttempt_128 rfl rfl rfl ?_
      refine b_get (n := 132) (v := .ref (ad 23)) 0 f_X2_37 dX2_endAttempt_129 rfl hI_o0 rfl ?_
      refine b_iload_n (n := 133) 2 dX2_endAttempt_132 rfl rfl rfl ?_
      refine b_iald (n := 134) 13 dX2_endAttempt_133 rfl hI_a23 (fun v133 => ?_)
      refine b_iconst (n := 135) (v := 1) dX2_endAttempt_134 rfl (by decide) ?_
      refine b_isub (n := 136) dX2_endAttempt_135 rfl ?_
      refine b_ishl (n := 137) dX2_endAttempt_136 rfl ?_
      refine b_iadd (n := 138) dX2_endAttempt_137 rfl ?_
      refine b_iast (n := 139) (ws' := hI E ad rl (up (up o 18 x1.toNatClampNeg 2) 22 x1.toNatClampNeg (v118 + (v127 <<< ((v133 - 1) &&& 31)))) h76 e15 p) 12 dX2_endAttempt_138 rfl hI_a22 hI_s22 ?_
      exact b_vret dX2_endAttempt_139 rfl rfl
