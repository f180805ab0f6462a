/-! the class: partial pure functions, and the walk of each method (2) -/
def in_lookAtTask_2 (N : Nat) (rl : Nat) (p : Mem)  : Nat → Int32 → Int32 → Mem → Mem → Mem → Option (Mem × Mem × Mem)
  | 0, _, _, _, _, _ => none
  | n + 1, y1, y2, o, h, e =>
    if y2 < 20 then
      ((in_goesOn o y1).bind fun k10 =>
      if k10 = true then
        ((rd 25 (o 22) y1).bind fun v21 =>
        if e 1 2 < v21 then
          (some (o, h, e))
        else
          ((rd 24 (o 18) y1).bind fun v38 =>
          if v38 = 2 then
            ((in_beginAttempt rl p e y1 o h).bind fun (o45, h45) =>
            in_lookAtTask_2 N rl p n y1 (y2 + 1) o45 h45 e)
          else
            ((in_endAttempt rl p y1 o h e).bind fun (o53, h53, e53) =>
            in_lookAtTask_2 N rl p n y1 (y2 + 1) o53 h53 e53)))
      else
        (some (o, h, e)))
    else
      (some (o, h, e))
set_option maxHeartbeats 400000 in
set_option maxRecDepth 100000 in
theorem w_in_lookAtTask_2 {l : Launch} {E : Ev} {ad : Nat → Nat} {A : Nat → Prop} {d : Nat} {N : Nat} {rl : Nat} {p : Mem}  (hd : 3 ≤ d)  (n : Nat) : ∀ (y1 : Int32) (y2 : Int32) (o : Mem) (h : Mem) (e : Mem), Bd l E A RX2 cX2_lookAtTask 3 none d (fun q : Mem × Mem × Mem => (none, hI E ad rl q.1 q.2.1 q.2.2 p)) 2 [(0, .ref (ad 0)), (1, .int y1), (2, .int y2)] [] (hI E ad rl o h e p) (in_lookAtTask_2 N rl p n y1 y2 o h e) := by
  induction n with
  | zero => intro y1 y2 o h e; exact b_none
  | succ n ih =>
    intro y1 y2 o h e
    rw [in_lookAtTask_2]
    refine b_iload_n (n := 3) 2 dX2_lookAtTask_2 rfl rfl rfl ?_
    refine b_bipush (n := 5) (v := 20) dX2_lookAtTask_3 rfl (by decide) ?_
    refine b_cmp_ge (n := 8) (tgt := 62) dX2_lookAtTask_5 (by decide) rfl (fun h5 => ?_) (fun h5 => ?_)
    · refine b_aload_n (n := 9) 0 dX2_lookAtTask_8 rfl rfl rfl ?_
      refine b_iload_n (n := 10) 1 dX2_lookAtTask_9 rfl rfl rfl ?_
      refine bV0b (n := 13) (As := [.int y1]) (rest := []) 0 lk_X2_135 (c_in_goesOn (Nat.le_refl _)) (by omega) rfl rfl rfl rfl (Nat.le_of_ble_eq_true rfl) dX2_lookAtTask_10 rfl (fun k10 => ?_)
      refine b_bz (n := 16) (tgt := 62) dX2_lookAtTask_13 (by decide) rfl (fun h13 => ?_) (fun h13 => ?_)
      · refine b_aload_n (n := 17) 0 dX2_lookAtTask_16 rfl rfl rfl ?_
        refine b_get (n := 20) (v := .ref (ad 22)) 0 f_X2_34 dX2_lookAtTask_17 rfl hI_o0 rfl ?_
        refine b_iload_n (n := 21) 1 dX2_lookAtTask_20 rfl rfl rfl ?_
        refine b_iald (n := 22) 12 dX2_lookAtTask_21 rfl hI_a22 (fun v21 => ?_)
        refine b_aload_n (n := 23) 0 dX2_lookAtTask_22 rfl rfl rfl ?_
        refine b_get (n := 26) (v := .ref (ad 1)) 0 f_X2_43 dX2_lookAtTask_23 rfl hI_o0 rfl ?_
        refine b_get (n := 29) (v := .int (e 1 2)) 1 f_X2_83 dX2_lookAtTask_26 rfl hI_o1 rfl ?_
        refine b_cmp_le (n := 32) (tgt := 33) dX2_lookAtTask_29 (by decide) rfl (fun h29 => ?_) (fun h29 => ?_)
        · exact b_vret dX2_lookAtTask_32 rfl rfl
        · refine b_aload_n (n := 34) 0 dX2_lookAtTask_33 rfl rfl rfl ?_
          refine b_get (n := 37) (v := .ref (ad 18)) 0 f_X2_22 dX2_lookAtTask_34 rfl hI_o0 rfl ?_
          refine b_iload_n (n := 38) 1 dX2_lookAtTask_37 rfl rfl rfl ?_
          refine b_iald (n := 39) 8 dX2_lookAtTask_38 rfl hI_a18 (fun v38 => ?_)
          refine b_iconst (n := 40) (v := 2) dX2_lookAtTask_39 rfl (by decide) ?_
          refine b_cmp_ne (n := 43) (tgt := 51) dX2_lookAtTask_40 (by decide) rfl (fun h40 => ?_) (fun h40 => ?_)
          · refine b_aload_n (n := 44) 0 dX2_lookAtTask_43 rfl rfl rfl ?_
            refine b_iload_n (n := 45) 1 dX2_lookAtTask_44 rfl rfl rfl ?_
            refine bV0wv (n := 48) (hh := (fun s : Mem × Mem => hI E ad rl s.1 s.2 e p)) (As := [.int y1]) (rest := []) 0 lk_X2_147 (c_in_beginAttempt (Nat.le_refl _)) (by omega) (fun _ => rfl) rfl rfl rfl rfl (Nat.le_of_ble_eq_true rfl) dX2_lookAtTask_45 rfl ?_
            rintro ⟨o45, h45⟩
            try dsimp only
            refine b_goto (n := 56) dX2_lookAtTask_48 (by decide) ?_
            refine b_iinc (n := 59) (L' := [(2, .int (y2 + 1)), (0, .ref (ad 0)), (1, .int y1)]) 2 1 dX2_lookAtTask_56 rfl rfl (by decide) (Nat.le_of_ble_eq_true rfl) rfl ?_
            refine b_goto (n := 2) dX2_lookAtTask_59 (by decide) ?_
            refine Bd.sub (L' := [(0, .ref (ad 0)), (1, .int y1), (2, .int (y2 + 1))]) [1, 2, 0] rfl ?_
            exact ih _ _ _ _ _
          · refine b_aload_n (n := 52) 0 dX2_lookAtTask_51 rfl rfl rfl ?_
            refine b_iload_n (n := 53) 1 dX2_lookAtTask_52 rfl rfl rfl ?_
            refine bV0wv (n := 56) (hh := (fun s : Mem × Mem × Mem => hI E ad rl s.1 s.2.1 s.2.2 p)) (As := [.int y1]) (rest := []) 0 lk_X2_191 (c_in_endAttempt (Nat.le_refl _)) (by omega) (fun _ => rfl) rfl rfl rfl rfl (Nat.le_of_ble_eq_true rfl) dX2_lookAtTask_53 rfl ?_
            rintro ⟨o53, h53, e53⟩
            try dsimp only
            refine b_iinc (n := 59) (L' := [(2, .int (y2 + 1)), (0, .ref (ad 0)), (1, .int y1)]) 2 1 dX2_lookAtTask_56 rfl rfl (by decide) (Nat.le_of_ble_eq_true rfl) rfl ?_
            refine b_goto (n := 2) dX2_lookAtTask_59 (by decide) ?_
            refine Bd.sub (L' := [(0, .ref (ad 0)), (1, .int y1), (2, .int (y2 + 1))]) [1, 2, 0] rfl ?_
            exact ih _ _ _ _ _
      · exact b_vret dX2_lookAtTask_62 rfl rfl
    · exact b_vret dX2_lookAtTask_62 rfl rfl
def in_lookAtTask (N : Nat) (rl : Nat) (p : Mem) (x1 : Int32) (o : Mem) (h : Mem) (e : Mem) : Option (Mem × Mem × Mem) :=
  in_lookAtTask_2 N rl p N x1 0 o h e
set_option maxHeartbeats 400000 in
set_option maxRecDepth 100000 in
theorem c_in_lookAtTask {l : Launch} {E : Ev} {ad : Nat → Nat} {d : Nat} {N : Nat} {rl : Nat} {p : Mem} {x1 : Int32} {o : Mem} {h : Mem} {e : Mem} (hd : 3 ≤ d) : Ct l yX2_lookAtTask cX2_lookAtTask 3 none d E (hI E ad rl o h e p) [.ref (ad 0), .int x1] (fun q : Mem × Mem × Mem => (none, hI E ad rl q.1 q.2.1 q.2.2 p)) (in_lookAtTask N rl p x1 o h e) := by
  refine Ct.of2 (own := RX2) (L := [(0, .ref (ad 0)), (1, .int x1)]) rfl (by decide +kernel) (Nat.le_of_ble_eq_true rfl) rfl ?_
  unfold in_lookAtTask
  refine b_iconst (n := 1) (v := 0) dX2_lookAtTask_0 rfl (by decide) ?_
  refine b_istore_n (n := 2) (L' := [(2, .int 0), (0, .ref (ad 0)), (1, .int x1)]) dX2_lookAtTask_1 rfl rfl (Nat.le_of_ble_eq_true rfl) rfl ?_
  refine Bd.sub (L' := [(0, .ref (ad 0)), (1, .int x1), (2, .int 0)]) [1, 2, 0] rfl ?_
  exact w_in_lookAtTask_2 hd _ _ _ _ _ _
def in_lookAtWait (e : Mem) (x1 : Int32) (o : Mem) : Option (Mem) :=
  (rd 25 (o 22) x1).bind fun v5 =>
  if e 1 2 < v5 then
    (some o)
  else
    (ck 24 x1 <|
    some (up o 18 x1.toNatClampNeg 4))
set_option maxHeartbeats 400000 in
set_option maxRecDepth 100000 in
theorem c_in_lookAtWait {l : Launch} {E : Ev} {ad : Nat → Nat} {d : Nat}  {rl : Nat} {h : Mem} {e : Mem} {p : Mem} {x1 : Int32} {o : Mem} (hd : 1 ≤ d) : Ct l yX2_lookAtWait cX2_lookAtWait 2 none d E (hI E ad rl o h e p) [.ref (ad 0), .int x1] (fun q : Mem => (none, hI E ad rl q h e p)) (in_lookAtWait e x1 o) := by
  refine Ct.of2 (own := RX2) (L := [(0, .ref (ad 0)), (1, .int x1)]) rfl (by decide +kernel) (Nat.le_of_ble_eq_true rfl) rfl ?_
  unfold in_lookAtWait
  refine b_aload_n (n := 1) 0 dX2_lookAtWait_0 rfl rfl rfl ?_
  refine b_get (n := 4) (v := .ref (ad 22)) 0 f_X2_34 dX2_lookAtWait_1 rfl hI_o0 rfl ?_
  refine b_iload_n (n := 5) 1 dX2_lookAtWait_4 rfl rfl rfl ?_
  refine b_iald (n := 6) 12 dX2_lookAtWait_5 rfl hI_a22 (fun v5 => ?_)
  refine b_aload_n (n := 7) 0 dX2_lookAtWait_6 rfl rfl rfl ?_
  refine b_get (n := 10) (v := .ref (ad 1)) 0 f_X2_43 dX2_lookAtWait_7 rfl hI_o0 rfl ?_
  refine b_get (n := 13) (v := .int (e 1 2)) 1 f_X2_83 dX2_lookAtWait_10 rfl hI_o1 rfl ?_
  refine b_cmp_gt (n := 16) (tgt := 23) dX2_lookAtWait_13 (by decide) rfl (fun h13 => ?_) (fun h13 => ?_)
  · exact b_vret dX2_lookAtWait_23 rfl rfl
  · refine b_aload_n (n := 17) 0 dX2_lookAtWait_16 rfl rfl rfl ?_
    refine b_get (n := 20) (v := .ref (ad 18)) 0 f_X2_22 dX2_lookAtWait_17 rfl hI_o0 rfl ?_
    refine b_iload_n (n := 21) 1 dX2_lookAtWait_20 rfl rfl rfl ?_
    refine b_iconst (n := 22) (v := 4) dX2_lookAtWait_21 rfl (by decide) ?_
    refine b_iast (n := 23) (ws' := hI E ad rl (up o 18 x1.toNatClampNeg 4) h e p) 8 dX2_lookAtWait_22 rfl hI_a18 hI_s18 ?_
    exact b_vret dX2_lookAtWait_23 rfl rfl
def in_bodiesWith_5 (N : Nat) (p : Mem) (o : Mem)  : Nat → Int32 → Int32 → Int32 → Int32 → Option (Int32)
  | 0, _, _, _, _ => none
  | n + 1, y1, y2, y3, y4 =>
    if y4 < 4 then
      ((ve_body p y1 y4).bind fun k18 =>
      (xs_isInside k18 24).bind fun k27 =>
      if k27 = true then
        ((rd 24 (o 19) k18).bind fun v39 =>
        if v39 = y2 then
          (in_bodiesWith_5 N p o n y1 y2 (y3 + 1) (y4 + 1))
        else
          (in_bodiesWith_5 N p o n y1 y2 y3 (y4 + 1)))
      else
        (in_bodiesWith_5 N p o n y1 y2 y3 (y4 + 1)))
    else
      (some y3)
set_option maxHeartbeats 400000 in
set_option maxRecDepth 100000 in
theorem w_in_bodiesWith_5 {l : Launch} {E : Ev} {ad : Nat → Nat} {A : Nat → Prop} {d : Nat} {N : Nat} {rl : Nat} {o : Mem} {h : Mem} {e : Mem} {p : Mem}  (hd : 2 ≤ d)  (n : Nat) : ∀ (y1 : Int32) (y2 : Int32) (y3 : Int32) (y4 : Int32), Bd l E A RX2 cX2_bodiesWith 6 (some .int) d (fun v : Int32 => (some (.int v), hI E ad rl o h e p)) 5 [(0, .ref (ad 0)), (1, .int y1), (2, .int y2), (3, .int y3), (4, .int y4)] [] (hI E ad rl o h e p) (in_bodiesWith_5 N p o n y1 y2 y3 y4) := by
  induction n with
  | zero => intro y1 y2 y3 y4; exact b_none
  | succ n ih =>
    intro y1 y2 y3 y4
    rw [in_bodiesWith_5]
    refine b_iload (n := 7) 4 dX2_bodiesWith_5 rfl rfl ?_
    refine b_iconst (n := 8) (v := 4) dX2_bodiesWith_7 rfl (by decide) ?_
    refine b_cmp_ge (n := 11) (tgt := 53) dX2_bodiesWith_8 (by decide) rfl (fun h8 => ?_) (fun h8 => ?_)
    · refine b_aload_n (n := 12) 0 dX2_bodiesWith_11 rfl rfl rfl ?_
      refine b_get (n := 15) (v := .ref (ad 6)) 0 f_X2_47 dX2_bodiesWith_12 rfl hI_o0 rfl ?_
      refine b_iload_n (n := 16) 1 dX2_bodiesWith_15 rfl rfl rfl ?_
      refine b_iload (n := 18) 4 dX2_bodiesWith_16 rfl rfl ?_
      refine bVi (n := 21) (As := [.int y1, .int y4]) (rest := []) 15 [15, 16, 17, 18, 19, 20, 21, 22, 23, 24] lk_X2_163 (c_ve_body (Nat.le_refl _)) (by omega) rfl (by decide) rfl rfl rfl rfl (Nat.le_of_ble_eq_true rfl) dX2_bodiesWith_18 rfl (fun k18 => ?_)
      refine b_istore (n := 23) (L' := [(5, .int k18), (0, .ref (ad 0)), (1, .int y1), (2, .int y2), (3, .int y3), (4, .int y4)]) dX2_bodiesWith_21 rfl (Nat.le_of_ble_eq_true rfl) rfl ?_
      refine b_iload (n := 25) 0 dX2_bodiesWith_23 rfl rfl ?_
      refine b_bipush (n := 27) (v := 24) dX2_bodiesWith_25 rfl (by decide) ?_
      refine bNb (n := 30) (As := [.int k18, .int 24]) (rest := []) lk_X2_125 (c_xs_isInside (Nat.le_refl _)) (by omega) rfl rfl (Nat.le_of_ble_eq_true rfl) dX2_bodiesWith_27 rfl (fun k27 => ?_)
      refine b_bz (n := 33) (tgt := 47) dX2_bodiesWith_30 (by decide) rfl (fun h30 => ?_) (fun h30 => ?_)
      · refine b_aload_n (n := 34) 1 dX2_bodiesWith_33 rfl rfl rfl ?_
        refine b_get (n := 37) (v := .ref (ad 19)) 0 f_X2_25 dX2_bodiesWith_34 rfl hI_o0 rfl ?_
        refine b_iload (n := 39) 0 dX2_bodiesWith_37 rfl rfl ?_
        refine b_iald (n := 40) 9 dX2_bodiesWith_39 rfl hI_a19 (fun v39 => ?_)
        refine b_iload_n (n := 41) 3 dX2_bodiesWith_40 rfl rfl rfl ?_
        refine b_cmp_ne (n := 44) (tgt := 47) dX2_bodiesWith_41 (by decide) rfl (fun h41 => ?_) (fun h41 => ?_)
        · refine b_iinc (n := 47) (L' := [(3, .int (y3 + 1)), (5, .int k18), (0, .ref (ad 0)), (1, .int y1), (2, .int y2), (4, .int y4)]) 4 1 dX2_bodiesWith_44 rfl rfl (by decide) (Nat.le_of_ble_eq_true rfl) rfl ?_
          refine b_iinc (n := 50) (L' := [(4, .int (y4 + 1)), (3, .int (y3 + 1)), (5, .int k18), (0, .ref (ad 0)), (1, .int y1), (2, .int y2)]) 5 1 dX2_bodiesWith_47 rfl rfl (by decide) (Nat.le_of_ble_eq_true rfl) rfl ?_
          refine b_goto (n := 5) dX2_bodiesWith_50 (by decide) ?_
          refine Bd.sub (L' := [(0, .ref (ad 0)), (1, .int y1), (2, .int y2), (3, .int (y3 + 1)), (4, .int (y4 + 1))]) [3, 4, 5, 1, 0] rfl ?_
          exact ih _ _ _ _
        · refine b_iinc (n := 50) (L' := [(4, .int (y4 + 1)), (5, .int k18), (0, .ref (ad 0)), (1, .int y1), (2, .int y2), (3, .int y3)]) 5 1 dX2_bodiesWith_47 rfl rfl (by decide) (Nat.le_of_ble_eq_true rfl) rfl ?_
          refine b_goto (n := 5) dX2_bodiesWith_50 (by decide) ?_
          refine Bd.sub (L' := [(0, .ref (ad 0)), (1, .int y1), (2, .int y2), (3, .int y3), (4, .int (y4 + 1))]) [2, 3, 4, 5, 0] rfl ?_
          exact ih _ _ _ _
      · refine b_iinc (n := 50) (L' := [(4, .int (y4 + 1)), (5, .int k18), (0, .ref (ad 0)), (1, .int y1), (2, .int y2), (3, .int y3)]) 5 1 dX2_bodiesWith_47 rfl rfl (by decide) (Nat.le_of_ble_eq_true rfl) rfl ?_
        refine b_goto (n := 5) dX2_bodiesWith_50 (by decide) ?_
        refine Bd.sub (L' := [(0, .ref (ad 0)), (1, .int y1), (2, .int y2), (3, .int y3), (4, .int (y4 + 1))]) [2, 3, 4, 5, 0] rfl ?_
        exact ih _ _ _ _
    · refine b_iload_n (n := 54) 3 dX2_bodiesWith_53 rfl rfl rfl ?_
      exact b_iret dX2_bodiesWith_54 rfl rfl
def in_bodiesWith (N : Nat) (p : Mem) (o : Mem) (x1 : Int32) (x2 : Int32)  : Option (Int32) :=
  in_bodiesWith_5 N p o N x1 x2 0 0
set_option maxHeartbeats 400000 in
set_option maxRecDepth 100000 in
theorem c_in_bodiesWith {l : Launch} {E : Ev} {ad : Nat → Nat} {d : Nat} {N : Nat} {rl : Nat} {o : Mem} {h : Mem} {e : Mem} {p : Mem} {x1 : Int32} {x2 : Int32}  (hd : 2 ≤ d) : Ct l yX2_bodiesWith cX2_bodiesWith 6 (some .int) d E (hI E ad rl o h e p) [.ref (ad 0), .int x1, .int x2] (fun v : Int32 => (some (.int v), hI E ad rl o h e p)) (in_bodiesWith N p o x1 x2) := by
  refine Ct.of2 (own := RX2) (L := [(0, .ref (ad 0)), (1, .int x1), (2, .int x2)]) rfl (by decide +kernel) (Nat.le_of_ble_eq_true rfl) rfl ?_
  unfold in_bodiesWith
  refine b_iconst (n := 1) (v := 0) dX2_bodiesWith_0 rfl (by decide) ?_
  refine b_istore_n (n := 2) (L' := [(3, .int 0), (0, .ref (ad 0)), (1, .int x1), (2, .int x2)]) dX2_bodiesWith_1 rfl rfl (Nat.le_of_ble_eq_true rfl) rfl ?_
  refine b_iconst (n := 3) (v := 0) dX2_bodiesWith_2 rfl (by decide) ?_
  refine b_istore (n := 5) (L' := [(4, .int 0), (3, .int 0), (0, .ref (ad 0)), (1, .int x1), (2, .int x2)]) dX2_bodiesWith_3 rfl (Nat.le_of_ble_eq_true rfl) rfl ?_
  refine Bd.sub (L' := [(0, .ref (ad 0)), (1, .int x1), (2, .int x2), (3, .int 0), (4, .int 0)]) [2, 3, 4, 1, 0] rfl ?_
  exact w_in_bodiesWith_5 hd _ _ _ _ _
def in_cancel_2 (N : Nat)  : Nat → Int32 → Int32 → Mem → Option (Mem)
  | 0, _, _, _ => none
  | n + 1, y2, y3, o =>
    if y3 < y2 then
      ((xs_isInside y3 24).bind fun k10 =>
      if k10 = true then
        ((in_goesOn o y3).bind fun k18 =>
        if k18 = true then
          (ck 24 y3 <|
          in_cancel_2 N n y2 (y3 + 1) (up o 18 y3.toNatClampNeg 6))
        else
          (in_cancel_2 N n y2 (y3 + 1) o))
      else
        (some o))
    else
      (some o)
set_option maxHeartbeats 400000 in
set_option maxRecDepth 100000 in
theorem w_in_cancel_2 {l : Launch} {E : Ev} {ad : Nat → Nat} {A : Nat → Prop} {d : Nat} {N : Nat} {rl : Nat} {h : Mem} {e : Mem} {p : Mem}  (hd : 2 ≤ d)  (n : Nat) : ∀ (y2 : Int32) (y3 : Int32) (o : Mem), Bd l E A RX2 cX2_cancel 4 none d (fun q : Mem => (none, hI E ad rl q h e p)) 2 [(0, .ref (ad 0)), (2, .int y2), (3, .int y3)] [] (hI E ad rl o h e p) (in_cancel_2 N n y2 y3 o) := by
  induction n with
  | zero => intro y2 y3 o; exact b_none
  | succ n ih =>
    intro y2 y3 o
    rw [in_cancel_2]
    refine b_iload_n (n := 3) 2 dX2_cancel_2 rfl rfl rfl ?_
    refine b_iload_n (n := 4) 1 dX2_cancel_3 rfl rfl rfl ?_
    refine b_cmp_ge (n := 7) (tgt := 38) dX2_cancel_4 (by decide) rfl (fun h4 => ?_) (fun h4 => ?_)
    · refine b_iload_n (n := 8) 2 dX2_cancel_7 rfl rfl rfl ?_
      refine b_bipush (n := 10) (v := 24) dX2_cancel_8 rfl (by decide) ?_
      refine bNb (n := 13) (As := [.int y3, .int 24]) (rest := []) lk_X2_125 (c_xs_isInside (Nat.le_refl _)) (by omega) rfl rfl (Nat.le_of_ble_eq_true rfl) dX2_cancel_10 rfl (fun k10 => ?_)
      refine b_bz (n := 16) (tgt := 38) dX2_cancel_13 (by decide) rfl (fun h13 => ?_) (fun h13 => ?_)
      · refine b_aload_n (n := 17) 0 dX2_cancel_16 rfl rfl rfl ?_
        refine b_iload_n (n := 18) 2 dX2_cancel_17 rfl rfl rfl ?_
        refine bV0b (n := 21) (As := [.int y3]) (rest := []) 0 lk_X2_135 (c_in_goesOn (Nat.le_refl _)) (by omega) rfl rfl rfl rfl (Nat.le_of_ble_eq_true rfl) dX2_cancel_18 rfl (fun k18 => ?_)
        refine b_bz (n := 24) (tgt := 32) dX2_cancel_21 (by decide) rfl (fun h21 => ?_) (fun h21 => ?_)
        · refine b_aload_n (n := 25) 0 dX2_cancel_24 rfl rfl rfl ?_
          refine b_get (n := 28) (v := .ref (ad 18)) 0 f_X2_22 dX2_cancel_25 rfl hI_o0 rfl ?_
          refine b_iload_n (n := 29) 2 dX2_cancel_28 rfl rfl rfl ?_
          refine b_bipush (n := 31) (v := 6) dX2_cancel_29 rfl (by decide) ?_
          refine b_iast (n := 32) (ws' := hI E ad rl (up o 18 y3.toNatClampNeg 6) h e p) 8 dX2_cancel_31 rfl hI_a18 hI_s18 ?_
          refine b_iinc (n := 35) (L' := [(3, .int (y3 + 1)), (0, .ref (ad 0)), (2, .int y2)]) 2 1 dX2_cancel_32 rfl rfl (by decide) (Nat.le_of_ble_eq_true rfl) rfl ?_
          refine b_goto (n := 2) dX2_cancel_35 (by decide) ?_
          refine Bd.sub (L' := [(0, .ref (ad 0)), (2, .int y2), (3, .int (y3 + 1))]) [1, 2, 0] rfl ?_
          exact ih _ _ _
        · refine b_iinc (n := 35) (L' := [(3, .int (y3 + 1)), (0, .ref (ad 0)), (2, .int y2)]) 2 1 dX2_cancel_32 rfl rfl (by decide) (Nat.le_of_ble_eq_true rfl) rfl ?_
          refine b_goto (n := 2) dX2_cancel_35 (by decide) ?_
          refine Bd.sub (L' := [(0, .ref (ad 0)), (2, .int y2), (3, .int (y3 + 1))]) [1, 2, 0] rfl ?_
          exact ih _ _ _
      · exact b_vret dX2_cancel_38 rfl rfl
    · exact b_vret dX2_cancel_38 rfl rfl
def in_cancel (N : Nat) (x1 : Int32) (x2 : Int32) (o : Mem) : Option (Mem) :=
  in_cancel_2 N N x2 x1 o
set_option maxHeartbeats 400000 in
set_option maxRecDepth 100000 in
theorem c_in_cancel {l : Launch} {E : Ev} {ad : Nat → Nat} {d : Nat} {N : Nat} {rl : Nat} {h : Mem} {e : Mem} {p : Mem} {x1 : Int32} {x2 : Int32} {o : Mem} (hd : 2 ≤ d) : Ct l yX2_cancel cX2_cancel 4 none d E (hI E ad rl o h e p) [.ref (ad 0), .int x1, .int x2] (fun q : Mem => (none, hI E ad rl q h e p)) (in_cancel N x1 x2 o) := by
  refine Ct.of2 (own := RX2) (L := [(0, .ref (ad 0)), (1, .int x1), (2, .int x2)]) rfl (by decide +kernel) (Nat.le_of_ble_eq_true rfl) rfl ?_
  unfold in_cancel
  refine b_iload_n (n := 1) 1 dX2_cancel_0 rfl rfl rfl ?_
  refine b_istore_n (n := 2) (L' := [(3, .int x1), (0, .ref (ad 0)), (1, .int x1), (2, .int x2)]) dX2_cancel_1 rfl rfl (Nat.le_of_ble_eq_true rfl) rfl ?_
  refine Bd.sub (L' := [(0, .ref (ad 0)), (2, .int x2), (3, .int x1)]) [1, 3, 0] rfl ?_
  exact w_in_cancel_2 hd _ _ _ _
def in_cancelBodies_2 (N : Nat) (rl : Nat) (p : Mem) (e : Mem)  : Nat → Int32 → Int32 → Mem → Mem → Option (Mem × Mem)
  | 0, _, _, _, _ => none
  | n + 1, y1, y2, o, h =>
    if y2 < 4 then
      ((ve_body p y1 y2).bind fun k13 =>
      (xs_isInside k13 24).bind fun k20 =>
      if k20 = true then
        ((rd 24 (o 19) k13).bind fun v31 =>
        if v31 = 1 then
          (ck 24 k13 <|
          (hi_add rl e 10 y2 h).bind fun h51 =>
          in_cancelBodies_2 N rl p e n y1 (y2 + 1) (up o 19 k13.toNatClampNeg 6) h51)
        else
          (in_cancelBodies_2 N rl p e n y1 (y2 + 1) o h))
      else
        (in_cancelBodies_2 N rl p e n y1 (y2 + 1) o h))
    else
      ((rd 24 (p 14) y1).bind fun v72 =>
      (in_cancel N (y1 + 1) v72 o).bind fun o73 =>
      some (o73, h))
set_option maxHeartbeats 400000 in
set_option maxRecDepth 100000 in
theorem w_in_cancelBodies_2 {l : Launch} {E : Ev} {ad : Nat → Nat} {A : Nat → Prop} {d : Nat} {N : Nat} {rl : Nat} {e : Mem} {p : Mem}  (hd : 3 ≤ d)  (n : Nat) : ∀ (y1 : Int32) (y2 : Int32) (o : Mem) (h : Mem), Bd l E A RX2 cX2_cancelBodies 4 none d (fun q : Mem × Mem => (none, hI E ad rl q.1 q.2 e p)) 2 [(0, .ref (ad 0)), (1, .int y1), (2, .int y2)] [] (hI E ad rl o h e p) (in_cancelBodies_2 N rl p e n y1 y2 o h) := by
  induction n with
  | zero => intro y1 y2 o h; exact b_none
  | succ n ih =>
    intro y1 y2 o h
    rw [in_cancelBodies_2]
    refine b_iload_n (n := 3) 2 dX2_cancelBodies_2 rfl rfl rfl ?_
    refine b_iconst (n := 4) (v := 4) dX2_cancelBodies_3 rfl (by decide) ?_
    refine b_cmp_ge (n := 7) (tgt := 60) dX2_cancelBodies_4 (by decide) rfl (fun h4 => ?_) (fun h4 => ?_)
    · refine b_aload_n (n := 8) 0 dX2_cancelBodies_7 rfl rfl rfl ?_
      refine b_get (n := 11) (v := .ref (ad 6)) 0 f_X2_47 dX2_cancelBodies_8 rfl hI_o0 rfl ?_
      refine b_iload_n (n := 12) 1 dX2_cancelBodies_11 rfl rfl rfl ?_
      refine b_iload_n (n := 13) 2 dX2_cancelBodies_12 rfl rfl rfl ?_
      refine bVi (n := 16) (As := [.int y1, .int y2]) (rest := []) 15 [15, 16, 17, 18, 19, 20, 21, 22, 23, 24] lk_X2_163 (c_ve_body (Nat.le_refl _)) (by omega) rfl (by decide) rfl rfl rfl rfl (Nat.le_of_ble_eq_true rfl) dX2_cancelBodies_13 rfl (fun k13 => ?_)
      refine b_istore_n (n := 17) (L' := [(3, .int k13), (0, .ref (ad 0)), (1, .int y1), (2, .int y2)]) dX2_cancelBodies_16 rfl rfl (Nat.le_of_ble_eq_true rfl) rfl ?_
      refine b_iload_n (n := 18) 0 dX2_cancelBodies_17 rfl rfl rfl ?_
      refine b_bipush (n := 20) (v := 24) dX2_cancelBodies_18 rfl (by decide) ?_
      refine bNb (n := 23) (As := [.int k13, .int 24]) (rest := []) lk_X2_125 (c_xs_isInside (Nat.le_refl _)) (by omega) rfl rfl (Nat.le_of_ble_eq_true rfl) dX2_cancelBodies_20 rfl (fun k20 => ?_)
      refine b_bz (n := 26) (tgt := 54) dX2_cancelBodies_23 (by decide) rfl (fun h23 => ?_) (fun h23 => ?_)
      · refine b_aload_n (n := 27) 1 dX2_cancelBodies_26 rfl rfl rfl ?_
        refine b_get (n := 30) (v := .ref (ad 19)) 0 f_X2_25 dX2_cancelBodies_27 rfl hI_o0 rfl ?_
        refine b_iload_n (n := 31) 0 dX2_cancelBodies_30 rfl rfl rfl ?_
        refine b_iald (n := 32) 9 dX2_cancelBodies_31 rfl hI_a19 (fun v31 => ?_)
        refine b_iconst (n := 33) (v := 1) dX2_cancelBodies_32 rfl (by decide) ?_
        refine b_cmp_ne (n := 36) (tgt := 54) dX2_cancelBodies_33 (by decide) rfl (fun h33 => ?_) (fun h33 => ?_)
        · refine b_aload_n (n := 37) 1 dX2_cancelBodies_36 rfl rfl rfl ?_
          refine b_get (n := 40) (v := .ref (ad 19)) 0 f_X2_25 dX2_cancelBodies_37 rfl hI_o0 rfl ?_
          refine b_iload_n (n := 41) 0 dX2_cancelBodies_40 rfl rfl rfl ?_
          refine b_bipush (n := 43) (v := 6) dX2_cancelBodies_41 rfl (by decide) ?_
          refine b_iast (n := 44) (ws' := hI E ad rl (up o 19 k13.toNatClampNeg 6) h e p) 9 dX2_cancelBodies_43 rfl hI_a19 hI_s19 ?_
          refine b_aload_n (n := 45) 1 dX2_cancelBodies_44 rfl rfl rfl ?_
          refine b_get (n := 48) (v := .ref (ad 4)) 0 f_X2_56 dX2_cancelBodies_45 rfl hI_o0 rfl ?_
          refine b_bipush (n := 50) (v := 10) dX2_cancelBodies_48 rfl (by decide) ?_
          refine b_iload_n (n := 51) 3 dX2_cancelBodies_50 rfl rfl rfl ?_
          refine bVwv (n := 54) (hh := (fun s : Mem => hH E ad rl s e)) (As := [.int 10, .int y2]) (rest := []) (fun s : Mem => hI E ad rl (up o 19 k13.toNatClampNeg 6) s e p) 4 [4, 5, 1, 2, 3] lk_X2_122 (c_hi_add (Nat.le_refl _)) (by omega) rfl (by decide) (fun _ => rfl) (fun _ => rfl) rfl rfl rfl rfl (Nat.le_of_ble_eq_true rfl) dX2_cancelBodies_51 rfl ?_
          rintro h51
          try dsimp only
          refine b_iinc (n := 57) (L' := [(2, .int (y2 + 1)), (3, .int k13), (0, .ref (ad 0)), (1, .int y1)]) 3 1 dX2_cancelBodies_54 rfl rfl (by decide) (Nat.le_of_ble_eq_true rfl) rfl ?_
          refine b_goto (n := 2) dX2_cancelBodies_57 (by decide) ?_
          refine Bd.sub (L' := [(0, .ref (ad 0)), (1, .int y1), (2, .int (y2 + 1))]) [2, 3, 0] rfl ?_
          exact ih _ _ _ _
        · refine b_iinc (n := 57) (L' := [(2, .int (y2 + 1)), (3, .int k13), (0, .ref (ad 0)), (1, .int y1)]) 3 1 dX2_cancelBodies_54 rfl rfl (by decide) (Nat.le_of_ble_eq_true rfl) rfl ?_
          refine b_goto (n := 2) dX2_cancelBodies_57 (by decide) ?_
          refine Bd.sub (L' := [(0, .ref (ad 0)), (1, .int y1), (2, .int (y2 + 1))]) [2, 3, 0] rfl ?_
          exact ih _ _ _ _
      · refine b_iinc (n := 57) (L' := [(2, .int (y2 + 1)), (3, .int k13), (0, .ref (ad 0)), (1, .int y1)]) 3 1 dX2_cancelBodies_54 rfl rfl (by decide) (Nat.le_of_ble_eq_true rfl) rfl ?_
        refine b_goto (n := 2) dX2_cancelBodies_57 (by decide) ?_
        refine Bd.sub (L' := [(0, .ref (ad 0)), (1, .int y1), (2, .int (y2 + 1))]) [2, 3, 0] rfl ?_
        exact ih _ _ _ _
    · refine b_aload_n (n := 61) 0 dX2_cancelBodies_60 rfl rfl rfl ?_
      refine b_iload_n (n := 62) 1 dX2_cancelBodies_61 rfl rfl rfl ?_
      refine b_iconst (n := 63) (v := 1) dX2_cancelBodies_62 rfl (by decide) ?_
      refine b_iadd (n := 64) dX2_cancelBodies_63 rfl ?_
      refine b_aload_n (n := 65) 0 dX2_cancelBodies_64 rfl rfl rfl ?_
      refine b_get (n := 68) (v := .ref (ad 6)) 0 f_X2_47 dX2_cancelBodies_65 rfl hI_o0 rfl ?_
      refine b_get (n := 71) (v := .ref (ad 14)) 15 f_X2_209 dX2_cancelBodies_68 rfl hI_o6 rfl ?_
      refine b_iload_n (n := 72) 1 dX2_cancelBodies_71 rfl rfl rfl ?_
      refine b_iald (n := 73) 23 dX2_cancelBodies_72 rfl hI_a14 (fun v72 => ?_)
      refine bV0wv (n := 76) (hh := (fun s : Mem => hI E ad rl s h e p)) (As := [.int (y1 + 1), .int v72]) (rest := []) 0 lk_X2_115 (c_in_cancel (Nat.le_refl _)) (by omega) (fun _ => rfl) rfl rfl rfl rfl (Nat.le_of_ble_eq_true rfl) dX2_cancelBodies_73 rfl ?_
      rintro o73
      try dsimp only
      exact b_vret dX2_cancelBodies_76 rfl rfl
def in_cancelBodies (N : Nat) (rl : Nat) (p : Mem) (e : Mem) (x1 : Int32) (o : Mem) (h : Mem) : Option (Mem × Mem) :=
  in_cancelBodies_2 N rl p e N x1 0 o h
set_option maxHeartbeats 400000 in
set_option maxRecDepth 100000 in
theorem c_in_cancelBodies {l : Launch} {E : Ev} {ad : Nat → Nat} {d : Nat} {N : Nat} {rl : Nat} {e : Mem} {p : Mem} {x1 : Int32} {o : Mem} {h : Mem} (hd : 3 ≤ d) : Ct l yX2_cancelBodies cX2_cancelBodies 4 none d E (hI E ad rl o h e p) [.ref (ad 0), .int x1] (fun q : Mem × Mem => (none, hI E ad rl q.1 q.2 e p)) (in_cancelBodies N rl p e x1 o h) := by
  refine Ct.of2 (own := RX2) (L := [(0, .ref (ad 0)), (1, .int x1)]) rfl (by decide +kernel) (Nat.le_of_ble_eq_true rfl) rfl ?_
  unfold in_cancelBodies
  refine b_iconst (n := 1) (v := 0) dX2_cancelBodies_0 rfl (by decide) ?_
  refine b_istore_n (n := 2) (L' := [(2, .int 0), (0, .ref (ad 0)), (1, .int x1)]) dX2_cancelBodies_1 rfl rfl (Nat.le_of_ble_eq_true rfl) rfl ?_
  refine Bd.sub (L' := [(0, .ref (ad 0)), (1, .int x1), (2, .int 0)]) [1, 2, 0] rfl ?_
  exact w_in_cancelBodies_2 hd _ _ _ _ _
def in_join_35 (N : Nat) (rl : Nat) (p : Mem) (e : Mem)  (y1 : Int32) (y2 : Int32) (y3 : Int32) (o : Mem) (h : Mem) : Option (Mem × Mem) :=
  (in_cancelBodies N rl p e y1 o h).bind fun (o37, h37) =>
  if y3 < y2 then
    (ck 24 y1 <|
    ck 25 y1 <|
    some (up (up o37 18 y1.toNatClampNeg 5) 24 y1.toNatClampNeg ((-1)), h37))
  else
    (ck 24 y1 <|
    ck 25 y1 <|
    some (up (up o37 18 y1.toNatClampNeg 3) 24 y1.toNatClampNeg ((-1)), h37))
set_option maxHeartbeats 400000 in
set_option maxRecDepth 100000 in
theorem w_in_join_35 {l : Launch} {E : Ev} {ad : Nat → Nat} {A : Nat → Prop} {d : Nat} {N : Nat} {rl : Nat} {e : Mem} {p : Mem}  (hd : 4 ≤ d)  (y1 : Int32) (y2 : Int32) (y3 : Int32) (o : Mem) (h : Mem) : Bd l E A RX2 cX2_join 4 none d (fun q : Mem × Mem => (none, hI E ad rl q.1 q.2 e p)) 35 [(0, .ref (ad 0)), (1, .int y1), (2, .int y2), (3, .int y3)] [] (hI E ad rl o h e p) (in_join_35 N rl p e y1 y2 y3 o h) := by
  unfold in_join_35
  refine b_aload_n (n := 36) 0 dX2_join_35 rfl rfl rfl ?_
  refine b_iload_n (n := 37) 1 dX2_join_36 rfl rfl rfl ?_
  refine bV0wv (n := 40) (hh := (fun s : Mem × Mem => hI E ad rl s.1 s.2 e p)) (As := [.int y1]) (rest := []) 0 lk_X2_206 (c_in_cancelBodies (Nat.le_refl _)) (by omega) (fun _ => rfl) rfl rfl rfl rfl (Nat.le_of_ble_eq_true rfl) dX2_join_37 rfl ?_
  rintro ⟨o37, h37⟩
  try dsimp only
  refine b_aload_n (n := 41) 0 dX2_join_40 rfl rfl rfl ?_
  refine b_get (n := 44) (v := .ref (ad 18)) 0 f_X2_22 dX2_join_41 rfl hI_o0 rfl ?_
  refine b_iload_n (n := 45) 1 dX2_join_44 rfl rfl rfl ?_
  refine b_iload_n (n := 46) 3 dX2_join_45 rfl rfl rfl ?_
  refine b_iload_n (n := 47) 2 dX2_join_46 rfl rfl rfl ?_
  refine b_cmp_lt (n := 50) (tgt := 54) dX2_join_47 (by decide) rfl (fun h47 => ?_) (fun h47 => ?_)
  · refine b_iconst (n := 55) (v := 5) dX2_join_54 rfl (by decide) ?_
    refine b_iast (n := 56) (ws' := hI E ad rl (up o37 18 y1.toNatClampNeg 5) h37 e p) 8 dX2_join_55 rfl hI_a18 hI_s18 ?_
    refine b_aload_n (n := 57) 0 dX2_join_56 rfl rfl rfl ?_
    refine b_get (n := 60) (v := .ref (ad 24)) 0 f_X2_40 dX2_join_57 rfl hI_o0 rfl ?_
    refine b_iload_n (n := 61) 1 dX2_join_60 rfl rfl rfl ?_
    refine b_iconst (n := 62) (v := -1) dX2_join_61 rfl (by decide) ?_
    refine b_iast (n := 63) (ws' := hI E ad rl (up (up o37 18 y1.toNatClampNeg 5) 24 y1.toNatClampNeg ((-1))) h37 e p) 14 dX2_join_62 rfl hI_a24 hI_s24 ?_
    exact b_vret dX2_join_63 rfl rfl
  · refine b_iconst (n := 51) (v := 3) dX2_join_50 rfl (by decide) ?_
    refine b_goto (n := 55) dX2_join_51 (by decide) ?_
    refine b_iast (n := 56) (ws' := hI E ad rl (up o37 18 y1.toNatClampNeg 3) h37 e p) 8 dX2_join_55 rfl hI_a18 hI_s18 ?_
    refine b_aload_n (n := 57) 0 dX2_join_56 rfl rfl rfl ?_
    refine b_get (n := 60) (v := .ref (ad 24)) 0 f_X2_40 dX2_join_57 rfl hI_o0 rfl ?_
    refine b_iload_n (n := 61) 1 dX2_join_60 rfl rfl rfl ?_
    refine b_iconst (n := 62) (v := -1) dX2_join_61 rfl (by decide) ?_
    refine b_iast (n := 63) (ws' := hI E ad rl (up (up o37 18 y1.toNatClampNeg 3) 24 y1.toNatClampNeg ((-1))) h37 e p) 14 dX2_join_62 rfl hI_a24 hI_s24 ?_
    exact b_vret dX2_join_63 rfl rfl
def in_join (N : Nat) (rl : Nat) (p : Mem) (e : Mem) (x1 : Int32) (o : Mem) (h : Mem) : Option (Mem × Mem) :=
  (rd 24 (p 11) x1).bind fun v8 =>
  (in_bodiesWith N p o x1 4).bind fun k13 =>
  if k13 < v8 then
    ((in_bodiesWith N p o x1 1).bind fun k26 =>
    if k13 + k26 < v8 then
      (in_join_35 N rl p e x1 v8 k13 o h)
    else
      (some (o, h)))
  else
    (in_join_35 N rl p e x1 v8 k13 o h)
set_option maxHeartbeats 400000 in
set_option maxRecDepth 100000 in
theorem c_in_join {l : Launch} {E : Ev} {ad : Nat → Nat} {d : Nat} {N : Nat} {rl : Nat} {e : Mem} {p : Mem} {x1 : Int32} {o : Mem} {h : Mem} (hd : 4 ≤ d) : Ct l yX2_join cX2_join 4 none d E (hI E ad rl o h e p) [.ref (ad 0), .int x1] (fun q : Mem × Mem => (none, hI E ad rl q.1 q.2 e p)) (in_join N rl p e x1 o h) := by
  refine Ct.of2 (own := RX2) (L := [(0, .ref (ad 0)), (1, .int x1)]) rfl (by decide +kernel) (Nat.le_of_ble_eq_true rfl) rfl ?_
  unfold in_join
  refine b_aload_n (n := 1) 0 dX2_join_0 rfl rfl rfl ?_
  refine b_get (n := 4) (v := .ref (ad 6)) 0 f_X2_47 dX2_join_1 rfl hI_o0 rfl ?_
  refine b_get (n := 7) (v := .ref (ad 11)) 15 f_X2_197 dX2_join_4 rfl hI_o6 rfl ?_
  refine b_iload_n (n := 8) 1 dX2_join_7 rfl rfl rfl ?_
  refine b_iald (n := 9) 20 dX2_join_8 rfl hI_a11 (fun v8 => ?_)
  refine b_istore_n (n := 10) (L' := [(2, .int v8), (0, .ref (ad 0)), (1, .int x1)]) dX2_join_9 rfl rfl (Nat.le_of_ble_eq_true rfl) rfl ?_
  refine b_aload_n (n := 11) 1 dX2_join_10 rfl rfl rfl ?_
  refine b_iload_n (n := 12) 2 dX2_join_11 rfl rfl rfl ?_
  refine b_iconst (n := 13) (v := 4) dX2_join_12 rfl (by decide) ?_
  refine bV0i (n := 16) (As := [.int x1, .int 4]) (rest := []) 0 lk_X2_203 (c_in_bodiesWith (Nat.le_refl _)) (by omega) rfl rfl rfl rfl (Nat.le_of_ble_eq_true rfl) dX2_join_13 rfl (fun k13 => ?_)
  refine b_istore_n (n := 17) (L' := [(3, .int k13), (2, .int v8), (0, .ref (ad 0)), (1, .int x1)]) dX2_join_16 rfl rfl (Nat.le_of_ble_eq_true rfl) rfl ?_
  refine b_iload_n (n := 18) 0 dX2_join_17 rfl rfl rfl ?_
  refine b_iload_n (n := 19) 1 dX2_join_18 rfl rfl rfl ?_
  refine b_cmp_ge (n := 22) (tgt := 35) dX2_join_19 (by decide) rfl (fun h19 => ?_) (fun h19 => ?_)
  · refine b_iload_n (n := 23) 0 dX2_join_22 rfl rfl rfl ?_
    refine b_aload_n (n := 24) 2 dX2_join_23 rfl rfl rfl ?_
    refine b_iload_n (n := 25) 3 dX2_join_24 rfl rfl rfl ?_
    refine b_iconst (n := 26) (v := 1) dX2_join_25 rfl (by decide) ?_
    refine bV0i (n := 29) (As := [.int x1, .int 1]) (rest := [.int k13]) 0 lk_X2_203 (c_in_bodiesWith (Nat.le_refl _)) (by omega) rfl rfl rfl rfl (Nat.le_of_ble_eq_true rfl) dX2_join_26 rfl (fun k26 => ?_)
    refine b_iadd (n := 30) dX2_join_29 rfl ?_
    refine b_iload_n (n := 31) 1 dX2_join_30 rfl rfl rfl ?_
    refine b_cmp_lt (n := 34) (tgt := 35) dX2_join_31 (by decide) rfl (fun h31 => ?_) (fun h31 => ?_)
    · refine Bd.sub (L' := [(0, .ref (ad 0)), (1, .int x1), (2, .int v8), (3, .int k13)]) [2, 3, 1, 0] rfl ?_
      exact w_in_join_35 hd _ _ _ _ _
    · exact b_vret dX2_join_34 rfl rfl
  · refine Bd.sub (L' := [(0, .ref (ad 0)), (1, .int x1), (2, .int v8), (3, .int k13)]) [2, 3, 1, 0] rfl ?_
    exact w_in_join_35 hd _ _ _ _ _
def in_endReversal (rl : Nat) (p : Mem) (x1 : Int32) (x2 : Int32) (o : Mem) (h : Mem) (e : Mem) : Option (Mem × Mem × Mem) :=
  (xs_isInside x2 24).bind fun k3 =>
  if k3 = true then
    ((rd 24 (p 12) x2).bind fun v22 =>
    (en_succeeds v22 e).bind fun (k23, e23) =>
    if k23 = true then
      (ck 24 x2 <|
      ck 25 x1 <|
      (rd 24 (p 9) x2).bind fun v68 =>
      (hi_add rl e23 6 v68 h).bind fun h69 =>
      some (up (up (up o 18 x2.toNatClampNeg 7) 0 7 ((o 0 7) + 1)) 24 x1.toNatClampNeg ((-1)), h69, e23))
    else
      ((rd 25 (o 23) x1).bind fun v79 =>
      ck 25 x1 <|
      (rd 25 ((up o 23 x1.toNatClampNeg (v79 + 1)) 23) x1).bind fun v88 =>
      if v88 < 3 then
        (some (up o 23 x1.toNatClampNeg (v79 + 1), h, e23))
      else
        (ck 24 x2 <|
        ck 25 x1 <|
        (rd 24 (p 9) x2).bind fun v132 =>
        (hi_add rl e23 7 v132 h).bind fun h133 =>
        some (up (up (up (up o 23 x1.toNatClampNeg (v79 + 1)) 18 x2.toNatClampNeg 8) 0 8 ((o 0 8) + 1)) 24 x1.toNatClampNeg ((-1)), h133, e23))))
  else
    (some (o, h, e))
set_option maxHeartbeats 400000 in
set_option maxRecDepth 100000 in
theorem c_in_endReversal {l : Launch} {E : Ev} {ad : Nat → Nat} {d : Nat}  {rl : Nat} {p : Mem} {x1 : Int32} {x2 : Int32} {o : Mem} {h : Mem} {e : Mem} (hd : 2 ≤ d) : Ct l yX2_endReversal cX2_endReversal 3 none d E (hI E ad rl o h e p) [.ref (ad 0), .int x1, .int x2] (fun q : Mem × Mem × Mem => (none, hI E ad rl q.1 q.2.1 q.2.2 p)) (in_endReversal rl p x1 x2 o h e) := by
  refine Ct.of2 (own := RX2) (L := [(0, .ref (ad 0)), (1, .int x1), (2, .int x2)]) rfl (by decide +kernel) (Nat.le_of_ble_eq_true rfl) rfl ?_
  unfold in_endReversal
  refine b_iload_n (n := 1) 2 dX2_endReversal_0 rfl rfl rfl ?_
  refine b_bipush (n := 3) (v := 24) dX2_endReversal_1 rfl (by decide) ?_
  refine bNb (n := 6) (As := [.int x2, .int 24]) (rest := []) lk_X2_125 (c_xs_isInside (Nat.le_refl _)) (by omega) rfl rfl (Nat.le_of_ble_eq_true rfl) dX2_endReversal_3 rfl (fun k3 => ?_)
  refine b_bnz (n := 9) (tgt := 10) dX2_endReversal_6 (by decide) rfl (fun h6 => ?_) (fun h6 => ?_)
  · refine b_aload_n (n := 11) 0 dX2_endReversal_10 rfl rfl rfl ?_
    refine b_get (n := 14) (v := .ref (ad 1)) 0 f_X2_43 dX2_endReversal_11 rfl hI_o0 rfl ?_
    refine b_aload_n (n := 15) 0 dX2_endReversal_14 rfl rfl rfl ?_
    refine b_get (n := 18) (v := .ref (ad 6)) 0 f_X2_47 dX2_endReversal_15 rfl hI_o0 rfl ?_
    refine b_get (n := 21) (v := .ref (ad 12)) 15 f_X2_218 dX2_endReversal_18 rfl hI_o6 rfl ?_
    refine b_iload_n (n := 22) 2 dX2_endReversal_21 rfl rfl rfl ?_
    refine b_iald (n := 23) 21 dX2_endReversal_22 rfl hI_a12 (fun v22 => ?_)
    refine bVwb (n := 26) (hh := (fun s : Mem => hE E ad s)) (As := [.int v22]) (rest := []) (fun s : Mem => hI E ad rl o h s p) 1 [1, 2, 3] lk_X2_194 (c_en_succeeds (Nat.le_refl _)) (by omega) rfl (by decide) (fun _ => rfl) (fun _ => rfl) rfl rfl rfl rfl (Nat.le_of_ble_eq_true rfl) dX2_endReversal_23 rfl ?_
    rintro k23 e23
    try dsimp only
    refine b_bz (n := 29) (tgt := 73) dX2_endReversal_26 (by decide) rfl (fun h26 => ?_) (fun h26 => ?_)
    · refine b_aload_n (n := 30) 0 dX2_endReversal_29 rfl rfl rfl ?_
      refine b_get (n := 33) (v := .ref (ad 18)) 0 f_X2_22 dX2_endReversal_30 rfl hI_o0 rfl ?_
      refine b_iload_n (n := 34) 2 dX2_endReversal_33 rfl rfl rfl ?_
      refine b_bipush (n := 36) (v := 7) dX2_endReversal_34 rfl (by decide) ?_
      refine b_iast (n := 37) (ws' := hI E ad rl (up o 18 x2.toNatClampNeg 7) h e23 p) 8 dX2_endReversal_36 rfl hI_a18 hI_s18 ?_
      refine b_aload_n (n := 38) 0 dX2_endReversal_37 rfl rfl rfl ?_
      refine b_dup (n := 39) dX2_endReversal_38 rfl rfl ?_
      refine b_get (n := 42) (v := .int (o 0 7)) 0 f_X2_69 dX2_endReversal_39 rfl hI_o0 rfl ?_
      refine b_iconst (n := 43) (v := 1) dX2_endReversal_42 rfl (by decide) ?_
      refine b_iadd (n := 44) dX2_endReversal_43 rfl ?_
      refine b_put (n := 47) (ws' := hI E ad rl (up (up o 18 x2.toNatClampNeg 7) 0 7 ((o 0 7) + 1)) h e23 p) 0 fp_X2_69 dX2_endReversal_44 rfl hI_o0 rfl rfl (Nat.le_of_ble_eq_true rfl) hI_p0_7 ?_
      refine b_aload_n (n := 48) 0 dX2_endReversal_47 rfl rfl rfl ?_
      refine b_get (n := 51) (v := .ref (ad 24)) 0 f_X2_40 dX2_endReversal_48 rfl hI_o0 rfl ?_
      refine b_iload_n (n := 52) 1 dX2_endReversal_51 rfl rfl rfl ?_
      refine b_iconst (n := 53) (v := -1) dX2_endReversal_52 rfl (by decide) ?_
      refine b_iast (n := 54) (ws' := hI E ad rl (up (up (up o 18 x2.toNatClampNeg 7) 0 7 ((o 0 7) + 1)) 24 x1.toNatClampNeg ((-1))) h e23 p) 14 dX2_endReversal_53 rfl hI_a24 hI_s24 ?_
      refine b_aload_n (n := 55) 0 dX2_endReversal_54 rfl rfl rfl ?_
      refine b_get (n := 58) (v := .ref (ad 4)) 0 f_X2_56 dX2_endReversal_55 rfl hI_o0 rfl ?_
      refine b_bipush (n := 60) (v := 6) dX2_endReversal_58 rfl (by decide) ?_
      refine b_aload_n (n := 61) 0 dX2_endReversal_60 rfl rfl rfl ?_
      refine b_get (n := 64) (v := .ref (ad 6)) 0 f_X2_47 dX2_endReversal_61 rfl hI_o0 rfl ?_
      refine b_get (n := 67) (v := .ref (ad 9)) 15 f_X2_167 dX2_endReversal_64 rfl hI_o6 rfl ?_
      refine b_iload_n (n := 68) 2 dX2_endReversal_67 rfl rfl rfl ?_
      refine b_iald (n := 69) 18 dX2_endReversal_68 rfl hI_a9 (fun v68 => ?_)
      refine bVwv (n := 72) (hh := (fun s : Mem => hH E ad rl s e23)) (As := [.int 6, .int v68]) (rest := []) (fun s : Mem => hI E ad rl (up (up (up o 18 x2.toNatClampNeg 7) 0 7 ((o 0 7) + 1)) 24 x1.toNatClampNeg ((-1))) s e23 p) 4 [4, 5, 1, 2, 3] lk_X2_122 (c_hi_add (Nat.le_refl _)) (by omega) rfl (by decide) (fun _ => rfl) (fun _ => rfl) rfl rfl rfl rfl (Nat.le_of_ble_eq_true rfl) dX2_endReversal_69 rfl ?_
      rintro h69
      try dsimp only
      exact b_vret dX2_endReversal_72 rfl rfl
    · refine b_aload_n (n := 74) 0 dX2_endReversal_73 rfl rfl rfl ?_
      refine b_get (n := 77) (v := .ref (ad 23)) 0 f_X2_37 dX2_endReversal_74 rfl hI_o0 rfl ?_
      refine b_iload_n (n := 78) 1 dX2_endReversal_77 rfl rfl rfl ?_
      refine b_dup2 (n := 79) dX2_endReversal_78 rfl rfl rfl ?_
      refine b_iald (n := 80) 13 dX2_endReversal_79 rfl hI_a23 (fun v79 => ?_)
      refine b_iconst (n := 81) (v := 1) dX2_endReversal_80 rfl (by decide) ?_
      refine b_iadd (n := 82) dX2_endReversal_81 rfl ?_
      refine b_iast (n := 83) (ws' := hI E ad rl (up o 23 x1.toNatClampNeg (v79 + 1)) h e23 p) 13 dX2_endReversal_82 rfl hI_a23 hI_s23 ?_
      refine b_aload_n (n := 84) 0 dX2_endReversal_83 rfl rfl rfl ?_
      refine b_get (n := 87) (v := .ref (ad 23)) 0 f_X2_37 dX2_endReversal_84 rfl hI_o0 rfl ?_
      refine b_iload_n (n := 88) 1 dX2_endReversal_87 rfl rfl rfl ?_
      refine b_iald (n := 89) 13 dX2_endReversal_88 rfl hI_a23 (fun v88 => ?_)
      refine b_iconst (n := 90) (v := 3) dX2_endReversal_89 rfl (by decide) ?_
      refine b_cmp_lt (n := 93) (tgt := 136) dX2_endReversal_90 (by decide) rfl (fun h90 => ?_) (fun h90 => ?_)
      · exact b_vret dX2_endReversal_136 rfl rfl
      · refine b_aload_n (n := 94) 0 dX2_endReversal_93 rfl rfl rfl ?_
        refine b_get (n := 97) (v := .ref (ad 18)) 0 f_X2_22 dX2_endReversal_94 rfl hI_o0 rfl ?_
        refine b_iload_n (n := 98) 2 dX2_endReversal_97 rfl rfl rfl ?_
        refine b_bipush (n := 100) (v := 8) dX2_endReversal_98 rfl (by decide) ?_
        refine b_iast (n := 101) (ws' := hI E ad rl (up (up o 23 x1.toNatClampNeg (v79 + 1)) 18 x2.toNatClampNeg 8) h e23 p) 8 dX2_endReversal_100 rfl hI_a18 hI_s18 ?_
        refine b_aload_n (n := 102) 0 dX2_endReversal_101 rfl rfl rfl ?_
        refine b_dup (n := 103) dX2_endReversal_102 rfl rfl ?_
        refine b_get (n := 106) (v := .int (o 0 8)) 0 f_X2_72 dX2_endReversal_103 rfl hI_o0 rfl ?_
        refine b_iconst (n := 107) (v := 1) dX2_endReversal_106 rfl (by decide) ?_
        refine b_iadd (n := 108) dX2_endReversal_107 rfl ?_
        refine b_put (n := 111) (ws' := hI E ad rl (up (up (up o 23 x1.toNatClampNeg (v79 + 1)) 18 x2.toNatClampNeg 8) 0 8 ((o 0 8) + 1)) h e23 p) 0 fp_X2_72 dX2_endReversal_108 rfl hI_o0 rfl rfl (Nat.le_of_ble_eq_true rfl) hI_p0_8 ?_
        refine b_aload_n (n := 112) 0 dX2_endReversal_111 rfl rfl rfl ?_
        refine b_get (n := 115) (v := .ref (ad 24)) 0 f_X2_40 dX2_endReversal_112 rfl hI_o0 rfl ?_
        refine b_iload_n (n := 116) 1 dX2_endReversal_115 rfl rfl rfl ?_
        refine b_iconst (n := 117) (v := -1) dX2_endReversal_116 rfl (by decide) ?_
        refine b_iast (n := 118) (ws' := hI E ad rl (up (up (up (up o 23 x1.toNatClampNeg (v79 + 1)) 18 x2.toNatClampNeg 8) 0 8 ((o 0 8) + 1)) 24 x1.toNatClampNeg ((-1))) h e23 p) 14 dX2_endReversal_117 rfl hI_a24 hI_s24 ?_
        refine b_aload_n (n := 119) 0 dX2_endReversal_118 rfl rfl rfl ?_
        refine b_get (n := 122) (v := .ref (ad 4)) 0 f_X2_56 dX2_endReversal_119 rfl hI_o0 rfl ?_
        refine b_bipush (n := 124) (v := 7) dX2_endReversal_122 rfl (by decide) ?_
        refine b_aload_n (n := 125) 0 dX2_endReversal_124 rfl rfl rfl ?_
        refine b_get (n := 128) (v := .ref (ad 6)) 0 f_X2_47 dX2_endReversal_125 rfl hI_o0 rfl ?_
        refine b_get (n := 131) (v := .ref (ad 9)) 15 f_X2_167 dX2_endReversal_128 rfl hI_o6 rfl ?_
        refine b_iload_n (n := 132) 2 dX2_endReversal_131 rfl rfl rfl ?_
        refine b_iald (n := 133) 18 dX2_endReversal_132 rfl hI_a9 (fun v132 => ?_)
        refine bVwv (n := 136) (hh := (fun s : Mem => hH E ad rl s e23)) (As := [.int 7, .int v132]) (rest := []) (fun s : Mem => hI E ad rl (up (up (up (up o 23 x1.toNatClampNeg (v79 + 1)) 18 x2.toNatClampNeg 8) 0 8 ((o 0 8) + 1)) 24 x1.toNatClampNeg ((-1))) s e23 p) 4 [4, 5, 1, 2, 3] lk_X2_122 (c_hi_add (Nat.le_refl _)) (by omega) rfl (by decide) (fun _ => rfl) (fun _ => rfl) rfl rfl rfl rfl (Nat.le_of_ble_eq_true rfl) dX2_endReversal_133 rfl ?_
        rintro h133
        try dsimp only
        exact b_vret dX2_endReversal_136 rfl rfl
  · exact b_vret dX2_endReversal_9 rfl rfl
