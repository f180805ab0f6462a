/-! the class: partial pure functions, and the walk of each method (3) -/
def in_concerns_36 (N : Nat) (p : Mem) (o : Mem)  : Nat → Int32 → Int32 → Int32 → Int32 → Option (Bool)
  | 0, _, _, _, _ => none
  | n + 1, y1, y2, y3, y4 =>
    if y4 < 4 then
      ((ve_body p y1 y4).bind fun k49 =>
      if y2 < k49 then
        (in_concerns_36 N p o n y1 y2 y3 (y4 + 1))
      else
        (in_concerns_36 N p o n y1 y2 (if y3 < k49 then k49 else y3) (y4 + 1)))
    else
      ((xs_isInside y3 24).bind fun k80 =>
      if k80 = true then
        ((rd 24 (o 19) y3).bind fun v91 =>
        if v91 = 4 then
          (some false)
        else
          (some true))
      else
        (some false))
set_option maxHeartbeats 400000 in
set_option maxRecDepth 100000 in
theorem w_in_concerns_36 {l : Launch} {E : Ev} {ad : Nat → Nat} {A : Nat → Prop} {d : Nat} {N : Nat} {rl : Nat} {o : Mem} {h : Mem} {e : Mem} {p : Mem}  (hd : 2 ≤ d)  (n : Nat) : ∀ (y1 : Int32) (y2 : Int32) (y3 : Int32) (y4 : Int32), Bd l E A RX2 cX2_concerns 6 (some .boolean) d (fun v : Bool => (some (.int (b2i v)), hI E ad rl o h e p)) 36 [(0, .ref (ad 0)), (1, .int y1), (2, .int y2), (3, .int y3), (4, .int y4)] [] (hI E ad rl o h e p) (in_concerns_36 N p o n y1 y2 y3 y4) := by
  induction n with
  | zero => intro y1 y2 y3 y4; exact b_none
  | succ n ih =>
    intro y1 y2 y3 y4
    rw [in_concerns_36]
    refine b_iload (n := 38) 4 dX2_concerns_36 rfl rfl ?_
    refine b_iconst (n := 39) (v := 4) dX2_concerns_38 rfl (by decide) ?_
    refine b_cmp_ge (n := 42) (tgt := 77) dX2_concerns_39 (by decide) rfl (fun h39 => ?_) (fun h39 => ?_)
    · refine b_aload_n (n := 43) 0 dX2_concerns_42 rfl rfl rfl ?_
      refine b_get (n := 46) (v := .ref (ad 6)) 0 f_X2_47 dX2_concerns_43 rfl hI_o0 rfl ?_
      refine b_iload_n (n := 47) 1 dX2_concerns_46 rfl rfl rfl ?_
      refine b_iload (n := 49) 4 dX2_concerns_47 rfl rfl ?_
      refine bVi (n := 52) (As := [.int y1, .int y4]) (rest := []) 15 [15, 16, 17, 18, 19, 20, 21, 22, 23, 24] lk_X2_163 (c_ve_body (Nat.le_refl _)) (by omega) rfl (by decide) rfl rfl rfl rfl (Nat.le_of_ble_eq_true rfl) dX2_concerns_49 rfl (fun k49 => ?_)
      refine b_istore (n := 54) (L' := [(5, .int k49), (0, .ref (ad 0)), (1, .int y1), (2, .int y2), (3, .int y3), (4, .int y4)]) dX2_concerns_52 rfl (Nat.le_of_ble_eq_true rfl) rfl ?_
      refine b_iload (n := 56) 0 dX2_concerns_54 rfl rfl ?_
      refine b_iload_n (n := 57) 3 dX2_concerns_56 rfl rfl rfl ?_
      refine b_cmp_gt (n := 60) (tgt := 69) dX2_concerns_57 (by decide) rfl (fun h57 => ?_) (fun h57 => ?_)
      · refine b_iload_n (n := 70) 4 dX2_concerns_69 rfl rfl rfl ?_
        refine b_istore_n (n := 71) (L' := [(3, .int y3), (5, .int k49), (0, .ref (ad 0)), (1, .int y1), (2, .int y2), (4, .int y4)]) dX2_concerns_70 rfl rfl (Nat.le_of_ble_eq_true rfl) rfl ?_
        refine b_iinc (n := 74) (L' := [(4, .int (y4 + 1)), (3, .int y3), (5, .int k49), (0, .ref (ad 0)), (1, .int y1), (2, .int y2)]) 5 1 dX2_concerns_71 rfl rfl (by decide) (Nat.le_of_ble_eq_true rfl) rfl ?_
        refine b_goto (n := 36) dX2_concerns_74 (by decide) ?_
        refine Bd.sub (L' := [(0, .ref (ad 0)), (1, .int y1), (2, .int y2), (3, .int y3), (4, .int (y4 + 1))]) [3, 4, 5, 1, 0] rfl ?_
        exact ih _ _ _ _
      · refine b_iload_n (n := 61) 4 dX2_concerns_60 rfl rfl rfl ?_
        refine b_iload (n := 63) 0 dX2_concerns_61 rfl rfl ?_
        refine b_mmax (n := 66) mw_X2_232 (by omega) (Nat.le_of_ble_eq_true rfl) dX2_concerns_63 rfl ?_
        refine b_goto (n := 70) dX2_concerns_66 (by decide) ?_
        refine b_istore_n (n := 71) (L' := [(3, .int (if y3 < k49 then k49 else y3)), (5, .int k49), (0, .ref (ad 0)), (1, .int y1), (2, .int y2), (4, .int y4)]) dX2_concerns_70 rfl rfl (Nat.le_of_ble_eq_true rfl) rfl ?_
        refine b_iinc (n := 74) (L' := [(4, .int (y4 + 1)), (3, .int (if y3 < k49 then k49 else y3)), (5, .int k49), (0, .ref (ad 0)), (1, .int y1), (2, .int y2)]) 5 1 dX2_concerns_71 rfl rfl (by decide) (Nat.le_of_ble_eq_true rfl) rfl ?_
        refine b_goto (n := 36) dX2_concerns_74 (by decide) ?_
        refine Bd.sub (L' := [(0, .ref (ad 0)), (1, .int y1), (2, .int y2), (3, .int (if y3 < k49 then k49 else y3)), (4, .int (y4 + 1))]) [3, 4, 5, 1, 0] rfl ?_
        exact ih _ _ _ _
    · refine b_iload_n (n := 78) 3 dX2_concerns_77 rfl rfl rfl ?_
      refine b_bipush (n := 80) (v := 24) dX2_concerns_78 rfl (by decide) ?_
      refine bNb (n := 83) (As := [.int y3, .int 24]) (rest := []) lk_X2_125 (c_xs_isInside (Nat.le_refl _)) (by omega) rfl rfl (Nat.le_of_ble_eq_true rfl) dX2_concerns_80 rfl (fun k80 => ?_)
      refine b_bz (n := 86) (tgt := 100) dX2_concerns_83 (by decide) rfl (fun h83 => ?_) (fun h83 => ?_)
      · refine b_aload_n (n := 87) 0 dX2_concerns_86 rfl rfl rfl ?_
        refine b_get (n := 90) (v := .ref (ad 19)) 0 f_X2_25 dX2_concerns_87 rfl hI_o0 rfl ?_
        refine b_iload_n (n := 91) 3 dX2_concerns_90 rfl rfl rfl ?_
        refine b_iald (n := 92) 9 dX2_concerns_91 rfl hI_a19 (fun v91 => ?_)
        refine b_iconst (n := 93) (v := 4) dX2_concerns_92 rfl (by decide) ?_
        refine b_cmp_eq (n := 96) (tgt := 100) dX2_concerns_93 (by decide) rfl (fun h93 => ?_) (fun h93 => ?_)
        · refine b_iconst (n := 101) (v := 0) dX2_concerns_100 rfl (by decide) ?_
          exact b_zret (b := false) dX2_concerns_101 rfl rfl
        · refine b_iconst (n := 97) (v := 1) dX2_concerns_96 rfl (by decide) ?_
          refine b_goto (n := 101) dX2_concerns_97 (by decide) ?_
          exact b_zret (b := true) dX2_concerns_101 rfl rfl
      · refine b_iconst (n := 101) (v := 0) dX2_concerns_100 rfl (by decide) ?_
        exact b_zret (b := false) dX2_concerns_101 rfl rfl
def in_concerns (N : Nat) (p : Mem) (o : Mem) (x1 : Int32) (x2 : Int32)  : Option (Bool) :=
  (xs_isInside x1 24).bind fun k3 =>
  if k3 = true then
    (if x1 < x2 then
      ((rd 24 (p 14) x1).bind fun v25 =>
      if x2 < v25 then
        (in_concerns_36 N p o N x1 x2 ((-1)) 0)
      else
        (some false))
    else
      (some false))
  else
    (some true)
set_option maxHeartbeats 400000 in
set_option maxRecDepth 100000 in
theorem c_in_concerns {l : Launch} {E : Ev} {ad : Nat → Nat} {d : Nat} {N : Nat} {rl : Nat} {o : Mem} {h : Mem} {e : Mem} {p : Mem} {x1 : Int32} {x2 : Int32}  (hd : 2 ≤ d) : Ct l yX2_concerns cX2_concerns 6 (some .boolean) d E (hI E ad rl o h e p) [.ref (ad 0), .int x1, .int x2] (fun v : Bool => (some (.int (b2i v)), hI E ad rl o h e p)) (in_concerns N p o x1 x2) := by
  refine Ct.of2 (own := RX2) (L := [(0, .ref (ad 0)), (1, .int x1), (2, .int x2)]) rfl (by decide +kernel) (Nat.le_of_ble_eq_true rfl) rfl ?_
  unfold in_concerns
  refine b_iload_n (n := 1) 1 dX2_concerns_0 rfl rfl rfl ?_
  refine b_bipush (n := 3) (v := 24) dX2_concerns_1 rfl (by decide) ?_
  refine bNb (n := 6) (As := [.int x1, .int 24]) (rest := []) lk_X2_125 (c_xs_isInside (Nat.le_refl _)) (by omega) rfl rfl (Nat.le_of_ble_eq_true rfl) dX2_concerns_3 rfl (fun k3 => ?_)
  refine b_bnz (n := 9) (tgt := 11) dX2_concerns_6 (by decide) rfl (fun h6 => ?_) (fun h6 => ?_)
  · refine b_iload_n (n := 12) 2 dX2_concerns_11 rfl rfl rfl ?_
    refine b_iload_n (n := 13) 1 dX2_concerns_12 rfl rfl rfl ?_
    refine b_cmp_le (n := 16) (tgt := 29) dX2_concerns_13 (by decide) rfl (fun h13 => ?_) (fun h13 => ?_)
    · refine b_iload_n (n := 17) 2 dX2_concerns_16 rfl rfl rfl ?_
      refine b_aload_n (n := 18) 0 dX2_concerns_17 rfl rfl rfl ?_
      refine b_get (n := 21) (v := .ref (ad 6)) 0 f_X2_47 dX2_concerns_18 rfl hI_o0 rfl ?_
      refine b_get (n := 24) (v := .ref (ad 14)) 15 f_X2_209 dX2_concerns_21 rfl hI_o6 rfl ?_
      refine b_iload_n (n := 25) 1 dX2_concerns_24 rfl rfl rfl ?_
      refine b_iald (n := 26) 23 dX2_concerns_25 rfl hI_a14 (fun v25 => ?_)
      refine b_cmp_lt (n := 29) (tgt := 31) dX2_concerns_26 (by decide) rfl (fun h26 => ?_) (fun h26 => ?_)
      · refine b_iconst (n := 32) (v := -1) dX2_concerns_31 rfl (by decide) ?_
        refine b_istore_n (n := 33) (L' := [(3, .int ((-1))), (0, .ref (ad 0)), (1, .int x1), (2, .int x2)]) dX2_concerns_32 rfl rfl (Nat.le_of_ble_eq_true rfl) rfl ?_
        refine b_iconst (n := 34) (v := 0) dX2_concerns_33 rfl (by decide) ?_
        refine b_istore (n := 36) (L' := [(4, .int 0), (3, .int ((-1))), (0, .ref (ad 0)), (1, .int x1), (2, .int x2)]) dX2_concerns_34 rfl (Nat.le_of_ble_eq_true rfl) rfl ?_
        refine Bd.sub (L' := [(0, .ref (ad 0)), (1, .int x1), (2, .int x2), (3, .int ((-1))), (4, .int 0)]) [2, 3, 4, 1, 0] rfl ?_
        exact w_in_concerns_36 hd _ _ _ _ _
      · refine b_iconst (n := 30) (v := 0) dX2_concerns_29 rfl (by decide) ?_
        exact b_zret (b := false) dX2_concerns_30 rfl rfl
    · refine b_iconst (n := 30) (v := 0) dX2_concerns_29 rfl (by decide) ?_
      exact b_zret (b := false) dX2_concerns_30 rfl rfl
  · refine b_iconst (n := 10) (v := 1) dX2_concerns_9 rfl (by decide) ?_
    exact b_zret (b := true) dX2_concerns_10 rfl rfl
def in_isReversible (p : Mem) (o : Mem) (x1 : Int32)  : Option (Bool) :=
  (rd 24 (o 18) x1).bind fun v5 =>
  if v5 = 4 then
    ((rd 24 (p 12) x1).bind fun v18 =>
    if v18 < 0 then
      (some false)
    else
      (some true))
  else
    (some false)
set_option maxHeartbeats 400000 in
set_option maxRecDepth 100000 in
theorem c_in_isReversible {l : Launch} {E : Ev} {ad : Nat → Nat} {d : Nat}  {rl : Nat} {o : Mem} {h : Mem} {e : Mem} {p : Mem} {x1 : Int32}  (hd : 1 ≤ d) : Ct l yX2_isReversible cX2_isReversible 2 (some .boolean) d E (hI E ad rl o h e p) [.ref (ad 0), .int x1] (fun v : Bool => (some (.int (b2i v)), hI E ad rl o h e p)) (in_isReversible p o x1) := by
  refine Ct.of2 (own := RX2) (L := [(0, .ref (ad 0)), (1, .int x1)]) rfl (by decide +kernel) (Nat.le_of_ble_eq_true rfl) rfl ?_
  unfold in_isReversible
  refine b_aload_n (n := 1) 0 dX2_isReversible_0 rfl rfl rfl ?_
  refine b_get (n := 4) (v := .ref (ad 18)) 0 f_X2_22 dX2_isReversible_1 rfl hI_o0 rfl ?_
  refine b_iload_n (n := 5) 1 dX2_isReversible_4 rfl rfl rfl ?_
  refine b_iald (n := 6) 8 dX2_isReversible_5 rfl hI_a18 (fun v5 => ?_)
  refine b_iconst (n := 7) (v := 4) dX2_isReversible_6 rfl (by decide) ?_
  refine b_cmp_ne (n := 10) (tgt := 26) dX2_isReversible_7 (by decide) rfl (fun h7 => ?_) (fun h7 => ?_)
  · refine b_aload_n (n := 11) 0 dX2_isReversible_10 rfl rfl rfl ?_
    refine b_get (n := 14) (v := .ref (ad 6)) 0 f_X2_47 dX2_isReversible_11 rfl hI_o0 rfl ?_
    refine b_get (n := 17) (v := .ref (ad 12)) 15 f_X2_218 dX2_isReversible_14 rfl hI_o6 rfl ?_
    refine b_iload_n (n := 18) 1 dX2_isReversible_17 rfl rfl rfl ?_
    refine b_iald (n := 19) 21 dX2_isReversible_18 rfl hI_a12 (fun v18 => ?_)
    refine b_if_lt (n := 22) (tgt := 26) dX2_isReversible_19 (by decide) rfl (fun h19 => ?_) (fun h19 => ?_)
    · refine b_iconst (n := 27) (v := 0) dX2_isReversible_26 rfl (by decide) ?_
      exact b_zret (b := false) dX2_isReversible_27 rfl rfl
    · refine b_iconst (n := 23) (v := 1) dX2_isReversible_22 rfl (by decide) ?_
      refine b_goto (n := 27) dX2_isReversible_23 (by decide) ?_
      exact b_zret (b := true) dX2_isReversible_27 rfl rfl
  · refine b_iconst (n := 27) (v := 0) dX2_isReversible_26 rfl (by decide) ?_
    exact b_zret (b := false) dX2_isReversible_27 rfl rfl
def in_lastToReverse_12 (N : Nat) (p : Mem) (o : Mem)  : Nat → Int32 → Int32 → Option (Int32)
  | 0, _, _ => none
  | n + 1, y1, y2 =>
    if y2 < 0 then
      (some ((-1)))
    else
      ((rd 24 (o 21) y2).bind fun v21 =>
      (xs_isInside v21 24).bind fun k26 =>
      if k26 = true then
        ((in_isReversible p o v21).bind fun k34 =>
        if k34 = true then
          ((in_concerns N p o y1 v21).bind fun k43 =>
          if k43 = true then
            (some v21)
          else
            (in_lastToReverse_12 N p o n y1 (y2 + (-1))))
        else
          (in_lastToReverse_12 N p o n y1 (y2 + (-1))))
      else
        (in_lastToReverse_12 N p o n y1 (y2 + (-1))))
set_option maxHeartbeats 400000 in
set_option maxRecDepth 100000 in
theorem w_in_lastToReverse_12 {l : Launch} {E : Ev} {ad : Nat → Nat} {A : Nat → Prop} {d : Nat} {N : Nat} {rl : Nat} {o : Mem} {h : Mem} {e : Mem} {p : Mem}  (hd : 3 ≤ d)  (n : Nat) : ∀ (y1 : Int32) (y2 : Int32), Bd l E A RX2 cX2_lastToReverse 4 (some .int) d (fun v : Int32 => (some (.int v), hI E ad rl o h e p)) 12 [(0, .ref (ad 0)), (1, .int y1), (2, .int y2)] [] (hI E ad rl o h e p) (in_lastToReverse_12 N p o n y1 y2) := by
  induction n with
  | zero => intro y1 y2; exact b_none
  | succ n ih =>
    intro y1 y2
    rw [in_lastToReverse_12]
    refine b_iload_n (n := 13) 2 dX2_lastToReverse_12 rfl rfl rfl ?_
    refine b_if_lt (n := 16) (tgt := 57) dX2_lastToReverse_13 (by decide) rfl (fun h13 => ?_) (fun h13 => ?_)
    · refine b_iconst (n := 58) (v := -1) dX2_lastToReverse_57 rfl (by decide) ?_
      exact b_iret dX2_lastToReverse_58 rfl rfl
    · refine b_aload_n (n := 17) 0 dX2_lastToReverse_16 rfl rfl rfl ?_
      refine b_get (n := 20) (v := .ref (ad 21)) 0 f_X2_31 dX2_lastToReverse_17 rfl hI_o0 rfl ?_
      refine b_iload_n (n := 21) 2 dX2_lastToReverse_20 rfl rfl rfl ?_
      refine b_iald (n := 22) 11 dX2_lastToReverse_21 rfl hI_a21 (fun v21 => ?_)
      refine b_istore_n (n := 23) (L' := [(3, .int v21), (0, .ref (ad 0)), (1, .int y1), (2, .int y2)]) dX2_lastToReverse_22 rfl rfl (Nat.le_of_ble_eq_true rfl) rfl ?_
      refine b_iload_n (n := 24) 0 dX2_lastToReverse_23 rfl rfl rfl ?_
      refine b_bipush (n := 26) (v := 24) dX2_lastToReverse_24 rfl (by decide) ?_
      refine bNb (n := 29) (As := [.int v21, .int 24]) (rest := []) lk_X2_125 (c_xs_isInside (Nat.le_refl _)) (by omega) rfl rfl (Nat.le_of_ble_eq_true rfl) dX2_lastToReverse_26 rfl (fun k26 => ?_)
      refine b_bz (n := 32) (tgt := 51) dX2_lastToReverse_29 (by decide) rfl (fun h29 => ?_) (fun h29 => ?_)
      · refine b_aload_n (n := 33) 1 dX2_lastToReverse_32 rfl rfl rfl ?_
        refine b_iload_n (n := 34) 0 dX2_lastToReverse_33 rfl rfl rfl ?_
        refine bV0b (n := 37) (As := [.int v21]) (rest := []) 0 lk_X2_226 (c_in_isReversible (Nat.le_refl _)) (by omega) rfl rfl rfl rfl (Nat.le_of_ble_eq_true rfl) dX2_lastToReverse_34 rfl (fun k34 => ?_)
        refine b_bz (n := 40) (tgt := 51) dX2_lastToReverse_37 (by decide) rfl (fun h37 => ?_) (fun h37 => ?_)
        · refine b_aload_n (n := 41) 1 dX2_lastToReverse_40 rfl rfl rfl ?_
          refine b_iload_n (n := 42) 2 dX2_lastToReverse_41 rfl rfl rfl ?_
          refine b_iload_n (n := 43) 0 dX2_lastToReverse_42 rfl rfl rfl ?_
          refine bV0b (n := 46) (As := [.int y1, .int v21]) (rest := []) 0 lk_X2_229 (c_in_concerns (Nat.le_refl _)) (by omega) rfl rfl rfl rfl (Nat.le_of_ble_eq_true rfl) dX2_lastToReverse_43 rfl (fun k43 => ?_)
          refine b_bz (n := 49) (tgt := 51) dX2_lastToReverse_46 (by decide) rfl (fun h46 => ?_) (fun h46 => ?_)
          · refine b_iload_n (n := 50) 0 dX2_lastToReverse_49 rfl rfl rfl ?_
            exact b_iret dX2_lastToReverse_50 rfl rfl
          · refine b_iinc (n := 54) (L' := [(2, .int (y2 + (-1))), (3, .int v21), (0, .ref (ad 0)), (1, .int y1)]) 3 (-1) dX2_lastToReverse_51 rfl rfl (by decide) (Nat.le_of_ble_eq_true rfl) rfl ?_
            refine b_goto (n := 12) dX2_lastToReverse_54 (by decide) ?_
            refine Bd.sub (L' := [(0, .ref (ad 0)), (1, .int y1), (2, .int (y2 + (-1)))]) [2, 3, 0] rfl ?_
            exact ih _ _
        · refine b_iinc (n := 54) (L' := [(2, .int (y2 + (-1))), (3, .int v21), (0, .ref (ad 0)), (1, .int y1)]) 3 (-1) dX2_lastToReverse_51 rfl rfl (by decide) (Nat.le_of_ble_eq_true rfl) rfl ?_
          refine b_goto (n := 12) dX2_lastToReverse_54 (by decide) ?_
          refine Bd.sub (L' := [(0, .ref (ad 0)), (1, .int y1), (2, .int (y2 + (-1)))]) [2, 3, 0] rfl ?_
          exact ih _ _
      · refine b_iinc (n := 54) (L' := [(2, .int (y2 + (-1))), (3, .int v21), (0, .ref (ad 0)), (1, .int y1)]) 3 (-1) dX2_lastToReverse_51 rfl rfl (by decide) (Nat.le_of_ble_eq_true rfl) rfl ?_
        refine b_goto (n := 12) dX2_lastToReverse_54 (by decide) ?_
        refine Bd.sub (L' := [(0, .ref (ad 0)), (1, .int y1), (2, .int (y2 + (-1)))]) [2, 3, 0] rfl ?_
        exact ih _ _
def in_lastToReverse (N : Nat) (p : Mem) (o : Mem) (x1 : Int32)  : Option (Int32) :=
  in_lastToReverse_12 N p o N x1 ((if 24 < o 0 6 then 24 else o 0 6) - 1)
set_option maxHeartbeats 400000 in
set_option maxRecDepth 100000 in
theorem c_in_lastToReverse {l : Launch} {E : Ev} {ad : Nat → Nat} {d : Nat} {N : Nat} {rl : Nat} {o : Mem} {h : Mem} {e : Mem} {p : Mem} {x1 : Int32}  (hd : 3 ≤ d) : Ct l yX2_lastToReverse cX2_lastToReverse 4 (some .int) d E (hI E ad rl o h e p) [.ref (ad 0), .int x1] (fun v : Int32 => (some (.int v), hI E ad rl o h e p)) (in_lastToReverse N p o x1) := by
  refine Ct.of2 (own := RX2) (L := [(0, .ref (ad 0)), (1, .int x1)]) rfl (by decide +kernel) (Nat.le_of_ble_eq_true rfl) rfl ?_
  unfold in_lastToReverse
  refine b_aload_n (n := 1) 0 dX2_lastToReverse_0 rfl rfl rfl ?_
  refine b_get (n := 4) (v := .int (o 0 6)) 0 f_X2_66 dX2_lastToReverse_1 rfl hI_o0 rfl ?_
  refine b_bipush (n := 6) (v := 24) dX2_lastToReverse_4 rfl (by decide) ?_
  refine b_mmin (n := 9) mw_X2_221 (by omega) (Nat.le_of_ble_eq_true rfl) dX2_lastToReverse_6 rfl ?_
  refine b_iconst (n := 10) (v := 1) dX2_lastToReverse_9 rfl (by decide) ?_
  refine b_isub (n := 11) dX2_lastToReverse_10 rfl ?_
  refine b_istore_n (n := 12) (L' := [(2, .int ((if 24 < o 0 6 then 24 else o 0 6) - 1)), (0, .ref (ad 0)), (1, .int x1)]) dX2_lastToReverse_11 rfl rfl (Nat.le_of_ble_eq_true rfl) rfl ?_
  refine Bd.sub (L' := [(0, .ref (ad 0)), (1, .int x1), (2, .int ((if 24 < o 0 6 then 24 else o 0 6) - 1))]) [1, 2, 0] rfl ?_
  exact w_in_lastToReverse_12 hd _ _ _
def in_reversesAll_73 (N : Nat) (rl : Nat) (p : Mem) (K2 : Int32 → Int32 → Mem → Mem → Mem → Option (Bool × Mem × Mem × Mem)) (y1 : Int32) (y2 : Int32) (o : Mem) (h : Mem) (e : Mem) : Option (Bool × Mem × Mem × Mem) :=
  (rd 25 (o 24) y1).bind fun v78 =>
  (xs_isInside v78 24).bind fun k83 =>
  if k83 = true then
    ((rd 24 (p 12) v78).bind fun v108 =>
    (en_endOfAttempt e v108).bind fun k109 =>
    ck 25 y1 <|
    (rd 24 (p 12) v78).bind fun v126 =>
    (hi_add rl e 5 v126 h).bind fun h127 =>
    K2 y1 (y2 + 1) (up o 22 y1.toNatClampNeg k109) h127 e)
  else
    (some (true, o, h, e))
set_option maxHeartbeats 400000 in
set_option maxRecDepth 100000 in
theorem w_in_reversesAll_73 {l : Launch} {E : Ev} {ad : Nat → Nat} {A : Nat → Prop} {d : Nat} {N : Nat} {rl : Nat} {p : Mem} {K2 : Int32 → Int32 → Mem → Mem → Mem → Option (Bool × Mem × Mem × Mem)} (hd : 4 ≤ d) (hK2 : ∀ (y1 : Int32) (y2 : Int32) (o : Mem) (h : Mem) (e : Mem), Bd l E A RX2 cX2_reversesAll 4 (some .boolean) d (fun q : Bool × Mem × Mem × Mem => (some (.int (b2i q.1)), hI E ad rl q.2.1 q.2.2.1 q.2.2.2 p)) 2 [(0, .ref (ad 0)), (1, .int y1), (2, .int y2)] [] (hI E ad rl o h e p) (K2 y1 y2 o h e)) (y1 : Int32) (y2 : Int32) (o : Mem) (h : Mem) (e : Mem) : Bd l E A RX2 cX2_reversesAll 4 (some .boolean) d (fun q : Bool × Mem × Mem × Mem => (some (.int (b2i q.1)), hI E ad rl q.2.1 q.2.2.1 q.2.2.2 p)) 73 [(0, .ref (ad 0)), (1, .int y1), (2, .int y2)] [] (hI E ad rl o h e p) (in_reversesAll_73 N rl p K2 y1 y2 o h e) := by
  unfold in_reversesAll_73
  refine b_aload_n (n := 74) 0 dX2_reversesAll_73 rfl rfl rfl ?_
  refine b_get (n := 77) (v := .ref (ad 24)) 0 f_X2_40 dX2_reversesAll_74 rfl hI_o0 rfl ?_
  refine b_iload_n (n := 78) 1 dX2_reversesAll_77 rfl rfl rfl ?_
  refine b_iald (n := 79) 14 dX2_reversesAll_78 rfl hI_a24 (fun v78 => ?_)
  refine b_istore_n (n := 80) (L' := [(3, .int v78), (0, .ref (ad 0)), (1, .int y1), (2, .int y2)]) dX2_reversesAll_79 rfl rfl (Nat.le_of_ble_eq_true rfl) rfl ?_
  refine b_iload_n (n := 81) 0 dX2_reversesAll_80 rfl rfl rfl ?_
  refine b_bipush (n := 83) (v := 24) dX2_reversesAll_81 rfl (by decide) ?_
  refine bNb (n := 86) (As := [.int v78, .int 24]) (rest := []) lk_X2_125 (c_xs_isInside (Nat.le_refl _)) (by omega) rfl rfl (Nat.le_of_ble_eq_true rfl) dX2_reversesAll_83 rfl (fun k83 => ?_)
  refine b_bnz (n := 89) (tgt := 91) dX2_reversesAll_86 (by decide) rfl (fun h86 => ?_) (fun h86 => ?_)
  · refine b_aload_n (n := 92) 1 dX2_reversesAll_91 rfl rfl rfl ?_
    refine b_get (n := 95) (v := .ref (ad 22)) 0 f_X2_34 dX2_reversesAll_92 rfl hI_o0 rfl ?_
    refine b_iload_n (n := 96) 2 dX2_reversesAll_95 rfl rfl rfl ?_
    refine b_aload_n (n := 97) 1 dX2_reversesAll_96 rfl rfl rfl ?_
    refine b_get (n := 100) (v := .ref (ad 1)) 0 f_X2_43 dX2_reversesAll_97 rfl hI_o0 rfl ?_
    refine b_aload_n (n := 101) 1 dX2_reversesAll_100 rfl rfl rfl ?_
    refine b_get (n := 104) (v := .ref (ad 6)) 0 f_X2_47 dX2_reversesAll_101 rfl hI_o0 rfl ?_
    refine b_get (n := 107) (v := .ref (ad 12)) 15 f_X2_218 dX2_reversesAll_104 rfl hI_o6 rfl ?_
    refine b_iload_n (n := 108) 0 dX2_reversesAll_107 rfl rfl rfl ?_
    refine b_iald (n := 109) 21 dX2_reversesAll_108 rfl hI_a12 (fun v108 => ?_)
    refine bVi (n := 112) (As := [.int v108]) (rest := [.int y1, .ref (ad 22)]) 1 [1, 2, 3] lk_X2_170 (c_en_endOfAttempt (Nat.le_refl _)) (by omega) rfl (by decide) rfl rfl rfl rfl (Nat.le_of_ble_eq_true rfl) dX2_reversesAll_109 rfl (fun k109 => ?_)
    refine b_iast (n := 113) (ws' := hI E ad rl (up o 22 y1.toNatClampNeg k109) h e p) 12 dX2_reversesAll_112 rfl hI_a22 hI_s22 ?_
    refine b_aload_n (n := 114) 1 dX2_reversesAll_113 rfl rfl rfl ?_
    refine b_get (n := 117) (v := .ref (ad 4)) 0 f_X2_56 dX2_reversesAll_114 rfl hI_o0 rfl ?_
    refine b_iconst (n := 118) (v := 5) dX2_reversesAll_117 rfl (by decide) ?_
    refine b_aload_n (n := 119) 1 dX2_reversesAll_118 rfl rfl rfl ?_
    refine b_get (n := 122) (v := .ref (ad 6)) 0 f_X2_47 dX2_reversesAll_119 rfl hI_o0 rfl ?_
    refine b_get (n := 125) (v := .ref (ad 12)) 15 f_X2_218 dX2_reversesAll_122 rfl hI_o6 rfl ?_
    refine b_iload_n (n := 126) 0 dX2_reversesAll_125 rfl rfl rfl ?_
    refine b_iald (n := 127) 21 dX2_reversesAll_126 rfl hI_a12 (fun v126 => ?_)
    refine bVwv (n := 130) (hh := (fun s : Mem => hH E ad rl s e)) (As := [.int 5, .int v126]) (rest := []) (fun s : Mem => hI E ad rl (up o 22 y1.toNatClampNeg k109) s e p) 4 [4, 5, 1, 2, 3] lk_X2_122 (c_hi_add (Nat.le_refl _)) (by omega) rfl (by decide) (fun _ => rfl) (fun _ => rfl) rfl rfl rfl rfl (Nat.le_of_ble_eq_true rfl) dX2_reversesAll_127 rfl ?_
    rintro h127
    try dsimp only
    refine b_iinc (n := 133) (L' := [(2, .int (y2 + 1)), (3, .int v78), (0, .ref (ad 0)), (1, .int y1)]) 3 1 dX2_reversesAll_130 rfl rfl (by decide) (Nat.le_of_ble_eq_true rfl) rfl ?_
    refine b_goto (n := 2) dX2_reversesAll_133 (by decide) ?_
    refine Bd.sub (L' := [(0, .ref (ad 0)), (1, .int y1), (2, .int (y2 + 1))]) [2, 3, 0] rfl ?_
    exact hK2 _ _ _ _ _
  · refine b_iconst (n := 90) (v := 1) dX2_reversesAll_89 rfl (by decide) ?_
    exact b_zret (b := true) dX2_reversesAll_90 rfl rfl
def in_reversesAll_46 (N : Nat) (rl : Nat) (p : Mem) (K2 : Int32 → Int32 → Mem → Mem → Mem → Option (Bool × Mem × Mem × Mem)) (y1 : Int32) (y2 : Int32) (o : Mem) (h : Mem) (e : Mem) : Option (Bool × Mem × Mem × Mem) :=
  (rd 25 (o 24) y1).bind fun v51 =>
  if v51 < 0 then
    ((in_lastToReverse N p o y1).bind fun k62 =>
    ck 25 y1 <|
    ck 25 y1 <|
    in_reversesAll_73 N rl p K2 y1 y2 (up (up o 24 y1.toNatClampNeg k62) 23 y1.toNatClampNeg 0) h e)
  else
    (in_reversesAll_73 N rl p K2 y1 y2 o h e)
set_option maxHeartbeats 400000 in
set_option maxRecDepth 100000 in
theorem w_in_reversesAll_46 {l : Launch} {E : Ev} {ad : Nat → Nat} {A : Nat → Prop} {d : Nat} {N : Nat} {rl : Nat} {p : Mem} {K2 : Int32 → Int32 → Mem → Mem → Mem → Option (Bool × Mem × Mem × Mem)} (hd : 4 ≤ d) (hK2 : ∀ (y1 : Int32) (y2 : Int32) (o : Mem) (h : Mem) (e : Mem), Bd l E A RX2 cX2_reversesAll 4 (some .boolean) d (fun q : Bool × Mem × Mem × Mem => (some (.int (b2i q.1)), hI E ad rl q.2.1 q.2.2.1 q.2.2.2 p)) 2 [(0, .ref (ad 0)), (1, .int y1), (2, .int y2)] [] (hI E ad rl o h e p) (K2 y1 y2 o h e)) (y1 : Int32) (y2 : Int32) (o : Mem) (h : Mem) (e : Mem) : Bd l E A RX2 cX2_reversesAll 4 (some .boolean) d (fun q : Bool × Mem × Mem × Mem => (some (.int (b2i q.1)), hI E ad rl q.2.1 q.2.2.1 q.2.2.2 p)) 46 [(0, .ref (ad 0)), (1, .int y1), (2, .int y2)] [] (hI E ad rl o h e p) (in_reversesAll_46 N rl p K2 y1 y2 o h e) := by
  unfold in_reversesAll_46
  refine b_aload_n (n := 47) 0 dX2_reversesAll_46 rfl rfl rfl ?_
  refine b_get (n := 50) (v := .ref (ad 24)) 0 f_X2_40 dX2_reversesAll_47 rfl hI_o0 rfl ?_
  refine b_iload_n (n := 51) 1 dX2_reversesAll_50 rfl rfl rfl ?_
  refine b_iald (n := 52) 14 dX2_reversesAll_51 rfl hI_a24 (fun v51 => ?_)
  refine b_if_ge (n := 55) (tgt := 73) dX2_reversesAll_52 (by decide) rfl (fun h52 => ?_) (fun h52 => ?_)
  · refine b_aload_n (n := 56) 0 dX2_reversesAll_55 rfl rfl rfl ?_
    refine b_get (n := 59) (v := .ref (ad 24)) 0 f_X2_40 dX2_reversesAll_56 rfl hI_o0 rfl ?_
    refine b_iload_n (n := 60) 1 dX2_reversesAll_59 rfl rfl rfl ?_
    refine b_aload_n (n := 61) 0 dX2_reversesAll_60 rfl rfl rfl ?_
    refine b_iload_n (n := 62) 1 dX2_reversesAll_61 rfl rfl rfl ?_
    refine bV0i (n := 65) (As := [.int y1]) (rest := [.int y1, .ref (ad 24)]) 0 lk_X2_215 (c_in_lastToReverse (Nat.le_refl _)) (by omega) rfl rfl rfl rfl (Nat.le_of_ble_eq_true rfl) dX2_reversesAll_62 rfl (fun k62 => ?_)
    refine b_iast (n := 66) (ws' := hI E ad rl (up o 24 y1.toNatClampNeg k62) h e p) 14 dX2_reversesAll_65 rfl hI_a24 hI_s24 ?_
    refine b_aload_n (n := 67) 0 dX2_reversesAll_66 rfl rfl rfl ?_
    refine b_get (n := 70) (v := .ref (ad 23)) 0 f_X2_37 dX2_reversesAll_67 rfl hI_o0 rfl ?_
    refine b_iload_n (n := 71) 1 dX2_reversesAll_70 rfl rfl rfl ?_
    refine b_iconst (n := 72) (v := 0) dX2_reversesAll_71 rfl (by decide) ?_
    refine b_iast (n := 73) (ws' := hI E ad rl (up (up o 24 y1.toNatClampNeg k62) 23 y1.toNatClampNeg 0) h e p) 13 dX2_reversesAll_72 rfl hI_a23 hI_s23 ?_
    exact w_in_reversesAll_73 hd hK2 _ _ _ _ _
  · exact w_in_reversesAll_73 hd hK2 _ _ _ _ _
def in_reversesAll_2 (N : Nat) (rl : Nat) (p : Mem)  : Nat → Int32 → Int32 → Mem → Mem → Mem → Option (Bool × Mem × Mem × Mem)
  | 0, _, _, _, _, _ => none
  | n + 1, y1, y2, o, h, e =>
    if 72 < y2 then
      (some (false, o, h, e))
    else
      ((rd 25 (o 24) y1).bind fun v13 =>
      if v13 < 0 then
        (in_reversesAll_46 N rl p (in_reversesAll_2 N rl p n) y1 y2 o h e)
      else
        ((rd 25 (o 22) y1).bind fun v22 =>
        if e 1 2 < v22 then
          (some (false, o, h, e))
        else
          ((rd 25 (o 24) y1).bind fun v42 =>
          (in_endReversal rl p y1 v42 o h e).bind fun (o43, h43, e43) =>
          in_reversesAll_46 N rl p (in_reversesAll_2 N rl p n) y1 y2 o43 h43 e43)))
set_option maxHeartbeats 400000 in
set_option maxRecDepth 100000 in
theorem w_in_reversesAll_2 {l : Launch} {E : Ev} {ad : Nat → Nat} {A : Nat → Prop} {d : Nat} {N : Nat} {rl : Nat} {p : Mem}  (hd : 4 ≤ d)  (n : Nat) : ∀ (y1 : Int32) (y2 : Int32) (o : Mem) (h : Mem) (e : Mem), Bd l E A RX2 cX2_reversesAll 4 (some .boolean) d (fun q : Bool × Mem × Mem × Mem => (some (.int (b2i q.1)), hI E ad rl q.2.1 q.2.2.1 q.2.2.2 p)) 2 [(0, .ref (ad 0)), (1, .int y1), (2, .int y2)] [] (hI E ad rl o h e p) (in_reversesAll_2 N rl p n y1 y2 o h e) := by
  induction n with
  | zero => intro y1 y2 o h e; exact b_none
  | succ n ih =>
    intro y1 y2 o h e
    rw [in_reversesAll_2]
    refine b_iload_n (n := 3) 2 dX2_reversesAll_2 rfl rfl rfl ?_
    refine b_bipush (n := 5) (v := 72) dX2_reversesAll_3 rfl (by decide) ?_
    refine b_cmp_gt (n := 8) (tgt := 136) dX2_reversesAll_5 (by decide) rfl (fun h5 => ?_) (fun h5 => ?_)
    · refine b_iconst (n := 137) (v := 0) dX2_reversesAll_136 rfl (by decide) ?_
      exact b_zret (b := false) dX2_reversesAll_137 rfl rfl
    · refine b_aload_n (n := 9) 0 dX2_reversesAll_8 rfl rfl rfl ?_
      refine b_get (n := 12) (v := .ref (ad 24)) 0 f_X2_40 dX2_reversesAll_9 rfl hI_o0 rfl ?_
      refine b_iload_n (n := 13) 1 dX2_reversesAll_12 rfl rfl rfl ?_
      refine b_iald (n := 14) 14 dX2_reversesAll_13 rfl hI_a24 (fun v13 => ?_)
      refine b_if_lt (n := 17) (tgt := 46) dX2_reversesAll_14 (by decide) rfl (fun h14 => ?_) (fun h14 => ?_)
      · exact w_in_reversesAll_46 hd (fun a0 a1 a2 a3 a4 => ih a0 a1 a2 a3 a4) _ _ _ _ _
      · refine b_aload_n (n := 18) 0 dX2_reversesAll_17 rfl rfl rfl ?_
        refine b_get (n := 21) (v := .ref (ad 22)) 0 f_X2_34 dX2_reversesAll_18 rfl hI_o0 rfl ?_
        refine b_iload_n (n := 22) 1 dX2_reversesAll_21 rfl rfl rfl ?_
        refine b_iald (n := 23) 12 dX2_reversesAll_22 rfl hI_a22 (fun v22 => ?_)
        refine b_aload_n (n := 24) 0 dX2_reversesAll_23 rfl rfl rfl ?_
        refine b_get (n := 27) (v := .ref (ad 1)) 0 f_X2_43 dX2_reversesAll_24 rfl hI_o0 rfl ?_
        refine b_get (n := 30) (v := .int (e 1 2)) 1 f_X2_83 dX2_reversesAll_27 rfl hI_o1 rfl ?_
        refine b_cmp_le (n := 33) (tgt := 35) dX2_reversesAll_30 (by decide) rfl (fun h30 => ?_) (fun h30 => ?_)
        · refine b_iconst (n := 34) (v := 0) dX2_reversesAll_33 rfl (by decide) ?_
          exact b_zret (b := false) dX2_reversesAll_34 rfl rfl
        · refine b_aload_n (n := 36) 0 dX2_reversesAll_35 rfl rfl rfl ?_
          refine b_iload_n (n := 37) 1 dX2_reversesAll_36 rfl rfl rfl ?_
          refine b_aload_n (n := 38) 0 dX2_reversesAll_37 rfl rfl rfl ?_
          refine b_get (n := 41) (v := .ref (ad 24)) 0 f_X2_40 dX2_reversesAll_38 rfl hI_o0 rfl ?_
          refine b_iload_n (n := 42) 1 dX2_reversesAll_41 rfl rfl rfl ?_
          refine b_iald (n := 43) 14 dX2_reversesAll_42 rfl hI_a24 (fun v42 => ?_)
          refine bV0wv (n := 46) (hh := (fun s : Mem × Mem × Mem => hI E ad rl s.1 s.2.1 s.2.2 p)) (As := [.int y1, .int v42]) (rest := []) 0 lk_X2_212 (c_in_endReversal (Nat.le_refl _)) (by omega) (fun _ => rfl) rfl rfl rfl rfl (Nat.le_of_ble_eq_true rfl) dX2_reversesAll_43 rfl ?_
          rintro ⟨o43, h43, e43⟩
          try dsimp only
          exact w_in_reversesAll_46 hd (fun a0 a1 a2 a3 a4 => ih a0 a1 a2 a3 a4) _ _ _ _ _
def in_reversesAll (N : Nat) (rl : Nat) (p : Mem) (x1 : Int32) (o : Mem) (h : Mem) (e : Mem) : Option (Bool × Mem × Mem × Mem) :=
  in_reversesAll_2 N rl p N x1 0 o h e
set_option maxHeartbeats 400000 in
set_option maxRecDepth 100000 in
theorem c_in_reversesAll {l : Launch} {E : Ev} {ad : Nat → Nat} {d : Nat} {N : Nat} {rl : Nat} {p : Mem} {x1 : Int32} {o : Mem} {h : Mem} {e : Mem} (hd : 4 ≤ d) : Ct l yX2_reversesAll cX2_reversesAll 4 (some .boolean) d E (hI E ad rl o h e p) [.ref (ad 0), .int x1] (fun q : Bool × Mem × Mem × Mem => (some (.int (b2i q.1)), hI E ad rl q.2.1 q.2.2.1 q.2.2.2 p)) (in_reversesAll N rl p x1 o h e) := by
  refine Ct.of2 (own := RX2) (L := [(0, .ref (ad 0)), (1, .int x1)]) rfl (by decide +kernel) (Nat.le_of_ble_eq_true rfl) rfl ?_
  unfold in_reversesAll
  refine b_iconst (n := 1) (v := 0) dX2_reversesAll_0 rfl (by decide) ?_
  refine b_istore_n (n := 2) (L' := [(2, .int 0), (0, .ref (ad 0)), (1, .int x1)]) dX2_reversesAll_1 rfl rfl (Nat.le_of_ble_eq_true rfl) rfl ?_
  refine Bd.sub (L' := [(0, .ref (ad 0)), (1, .int x1), (2, .int 0)]) [1, 2, 0] rfl ?_
  exact w_in_reversesAll_2 hd _ _ _ _ _ _
def in_beginBody (N : Nat) (rl : Nat) (p : Mem) (B : Bool → Int32 → Int32 → Mem → Mem → Mem → Option (Mem × Mem × Mem)) (x1 : Int32) (x2 : Int32) (o : Mem) (h : Mem) (e : Mem) : Option (Mem × Mem × Mem) :=
  (xs_isInside x1 24).bind fun k3 =>
  if k3 = true then
    (if 4 < x2 then
      (some (o, h, e))
    else
      (ck 24 x1 <|
      ck 24 x1 <|
      (B false x1 x2 (up (up o 19 x1.toNatClampNeg 1) 20 x1.toNatClampNeg x1) h e).bind fun (o32, h32, e32) =>
      (B true x1 x2 o32 h32 e32).bind fun (o38, h38, e38) =>
      some (o38, h38, e38)))
  else
    (some (o, h, e))
set_option maxHeartbeats 400000 in
set_option maxRecDepth 100000 in
theorem c_in_beginBody {l : Launch} {E : Ev} {ad : Nat → Nat} {d : Nat} {N : Nat} {rl : Nat} {p : Mem} {B : Bool → Int32 → Int32 → Mem → Mem → Mem → Option (Mem × Mem × Mem)} {dB : Nat} {x1 : Int32} {x2 : Int32} {o : Mem} {h : Mem} {e : Mem} (hd : dB + 1 ≤ d) (hdB : 5 ≤ dB) (hB1 : ∀ (x1 : Int32) (x2 : Int32) (o : Mem) (h : Mem) (e : Mem), Ct l yX2_goOn cX2_goOn 6 none dB E (hI E ad rl o h e p) [.ref (ad 0), .int x1, .int x2] (fun q : Mem × Mem × Mem => (none, hI E ad rl q.1 q.2.1 q.2.2 p)) (B true x1 x2 o h e)) (hB2 : ∀ (x1 : Int32) (x2 : Int32) (o : Mem) (h : Mem) (e : Mem), Ct l yX2_beginItem cX2_beginItem 3 none dB E (hI E ad rl o h e p) [.ref (ad 0), .int x1, .int x2] (fun q : Mem × Mem × Mem => (none, hI E ad rl q.1 q.2.1 q.2.2 p)) (B false x1 x2 o h e)) : Ct l yX2_beginBody cX2_beginBody 3 none d E (hI E ad rl o h e p) [.ref (ad 0), .int x1, .int x2] (fun q : Mem × Mem × Mem => (none, hI E ad rl q.1 q.2.1 q.2.2 p)) (in_beginBody N rl p B x1 x2 o h e) := by
  refine Ct.of2 (own := RX2) (L := [(0, .ref (ad 0)), (1, .int x1), (2, .int x2)]) rfl (by decide +kernel) (Nat.le_of_ble_eq_true rfl) rfl ?_
  unfold in_beginBody
  refine b_iload_n (n := 1) 1 dX2_beginBody_0 rfl rfl rfl ?_
  refine b_bipush (n := 3) (v := 24) dX2_beginBody_1 rfl (by decide) ?_
  refine bNb (n := 6) (As := [.int x1, .int 24]) (rest := []) lk_X2_125 (c_xs_isInside (Nat.le_refl _)) (by omega) rfl rfl (Nat.le_of_ble_eq_true rfl) dX2_beginBody_3 rfl (fun k3 => ?_)
  refine b_bz (n := 9) (tgt := 14) dX2_beginBody_6 (by decide) rfl (fun h6 => ?_) (fun h6 => ?_)
  · refine b_iload_n (n := 10) 2 dX2_beginBody_9 rfl rfl rfl ?_
    refine b_iconst (n := 11) (v := 4) dX2_beginBody_10 rfl (by decide) ?_
    refine b_cmp_le (n := 14) (tgt := 15) dX2_beginBody_11 (by decide) rfl (fun h11 => ?_) (fun h11 => ?_)
    · exact b_vret dX2_beginBody_14 rfl rfl
    · refine b_aload_n (n := 16) 0 dX2_beginBody_15 rfl rfl rfl ?_
      refine b_get (n := 19) (v := .ref (ad 19)) 0 f_X2_25 dX2_beginBody_16 rfl hI_o0 rfl ?_
      refine b_iload_n (n := 20) 1 dX2_beginBody_19 rfl rfl rfl ?_
      refine b_iconst (n := 21) (v := 1) dX2_beginBody_20 rfl (by decide) ?_
      refine b_iast (n := 22) (ws' := hI E ad rl (up o 19 x1.toNatClampNeg 1) h e p) 9 dX2_beginBody_21 rfl hI_a19 hI_s19 ?_
      refine b_aload_n (n := 23) 0 dX2_beginBody_22 rfl rfl rfl ?_
      refine b_get (n := 26) (v := .ref (ad 20)) 0 f_X2_28 dX2_beginBody_23 rfl hI_o0 rfl ?_
      refine b_iload_n (n := 27) 1 dX2_beginBody_26 rfl rfl rfl ?_
      refine b_iload_n (n := 28) 1 dX2_beginBody_27 rfl rfl rfl ?_
      refine b_iast (n := 29) (ws' := hI E ad rl (up (up o 19 x1.toNatClampNeg 1) 20 x1.toNatClampNeg x1) h e p) 10 dX2_beginBody_28 rfl hI_a20 hI_s20 ?_
      refine b_aload_n (n := 30) 0 dX2_beginBody_29 rfl rfl rfl ?_
      refine b_iload_n (n := 31) 1 dX2_beginBody_30 rfl rfl rfl ?_
      refine b_iload_n (n := 32) 2 dX2_beginBody_31 rfl rfl rfl ?_
      refine bV0wv (n := 35) (hh := (fun s : Mem × Mem × Mem => hI E ad rl s.1 s.2.1 s.2.2 p)) (As := [.int x1, .int x2]) (rest := []) 0 lk_X2_129 (hB2 _ _ _ _ _) (by omega) (fun _ => rfl) rfl rfl rfl rfl (Nat.le_of_ble_eq_true rfl) dX2_beginBody_32 rfl ?_
      rintro ⟨o32, h32, e32⟩
      try dsimp only
      refine b_aload_n (n := 36) 0 dX2_beginBody_35 rfl rfl rfl ?_
      refine b_iload_n (n := 37) 1 dX2_beginBody_36 rfl rfl rfl ?_
      refine b_iload_n (n := 38) 2 dX2_beginBody_37 rfl rfl rfl ?_
      refine bV0wv (n := 41) (hh := (fun s : Mem × Mem × Mem => hI E ad rl s.1 s.2.1 s.2.2 p)) (As := [.int x1, .int x2]) (rest := []) 0 lk_X2_104 (hB1 _ _ _ _ _) (by omega) (fun _ => rfl) rfl rfl rfl rfl (Nat.le_of_ble_eq_true rfl) dX2_beginBody_38 rfl ?_
      rintro ⟨o38, h38, e38⟩
      try dsimp only
      exact b_vret dX2_beginBody_41 rfl rfl
  · exact b_vret dX2_beginBody_14 rfl rfl
def in_lookAtChoice_2 (N : Nat) (rl : Nat) (p : Mem) (B : Bool → Int32 → Int32 → Mem → Mem → Mem → Option (Mem × Mem × Mem))  : Nat → Int32 → Int32 → Int32 → Mem → Mem → Mem → Option (Mem × Mem × Mem)
  | 0, _, _, _, _, _, _ => none
  | n + 1, y1, y2, y3, o, h, e =>
    if y3 < 4 then
      ((ve_body p y1 y3).bind fun k13 =>
      (xs_isInside k13 24).bind fun k22 =>
      if k22 = true then
        ((rd 24 (o 19) k13).bind fun v34 =>
        if v34 = 0 then
          (in_lookAtChoice_2 N rl p B n y1 y2 (y3 + 1) o h e)
        else
          ((B true k13 y2 o h e).bind fun (o42, h42, e42) =>
          (rd 24 (o42 19) k13).bind fun v56 =>
          ck 24 y1 <|
          in_lookAtChoice_2 N rl p B n y1 y2 (y3 + 1) (up o42 18 y1.toNatClampNeg v56) h42 e42))
      else
        (in_lookAtChoice_2 N rl p B n y1 y2 (y3 + 1) o h e))
    else
      (some (o, h, e))
set_option maxHeartbeats 400000 in
set_option maxRecDepth 100000 in
theorem w_in_lookAtChoice_2 {l : Launch} {E : Ev} {ad : Nat → Nat} {A : Nat → Prop} {d : Nat} {N : Nat} {rl : Nat} {p : Mem} {B : Bool → Int32 → Int32 → Mem → Mem → Mem → Option (Mem × Mem × Mem)} {dB : Nat} (hdB : 5 ≤ dB) (hB1 : ∀ (x1 : Int32) (x2 : Int32) (o : Mem) (h : Mem) (e : Mem), Ct l yX2_goOn cX2_goOn 6 none dB E (hI E ad rl o h e p) [.ref (ad 0), .int x1, .int x2] (fun q : Mem × Mem × Mem => (none, hI E ad rl q.1 q.2.1 q.2.2 p)) (B true x1 x2 o h e)) (hB2 : ∀ (x1 : Int32) (x2 : Int32) (o : Mem) (h : Mem) (e : Mem), Ct l yX2_beginItem cX2_beginItem 3 none dB E (hI E ad rl o h e p) [.ref (ad 0), .int x1, .int x2] (fun q : Mem × Mem × Mem => (none, hI E ad rl q.1 q.2.1 q.2.2 p)) (B false x1 x2 o h e))  (hd : dB + 1 ≤ d)  (n : Nat) : ∀ (y1 : Int32) (y2 : Int32) (y3 : Int32) (o : Mem) (h : Mem) (e : Mem), Bd l E A RX2 cX2_lookAtChoice 5 none d (fun q : Mem × Mem × Mem => (none, hI E ad rl q.1 q.2.1 q.2.2 p)) 2 [(0, .ref (ad 0)), (1, .int y1), (2, .int y2), (3, .int y3)] [] (hI E ad rl o h e p) (in_lookAtChoice_2 N rl p B n y1 y2 y3 o h e) := by
  induction n with
  | zero => intro y1 y2 y3 o h e; exact b_none
  | succ n ih =>
    intro y1 y2 y3 o h e
    rw [in_lookAtChoice_2]
    refine b_iload_n (n := 3) 3 dX2_lookAtChoice_2 rfl rfl rfl ?_
    refine b_iconst (n := 4) (v := 4) dX2_lookAtChoice_3 rfl (by decide) ?_
    refine b_cmp_ge (n := 7) (tgt := 64) dX2_lookAtChoice_4 (by decide) rfl (fun h4 => ?_) (fun h4 => ?_)
    · refine b_aload_n (n := 8) 0 dX2_lookAtChoice_7 rfl rfl rfl ?_
      refine b_get (n := 11) (v := .ref (ad 6)) 0 f_X2_47 dX2_lookAtChoice_8 rfl hI_o0 rfl ?_
      refine b_iload_n (n := 12) 1 dX2_lookAtChoice_11 rfl rfl rfl ?_
      refine b_iload_n (n := 13) 3 dX2_lookAtChoice_12 rfl rfl rfl ?_
      refine bVi (n := 16) (As := [.int y1, .int y3]) (rest := []) 15 [15, 16, 17, 18, 19, 20, 21, 22, 23, 24] lk_X2_163 (c_ve_body (Nat.le_refl _)) (by omega) rfl (by decide) rfl rfl rfl rfl (Nat.le_of_ble_eq_true rfl) dX2_lookAtChoice_13 rfl (fun k13 => ?_)
      refine b_istore (n := 18) (L' := [(4, .int k13), (0, .ref (ad 0)), (1, .int y1), (2, .int y2), (3, .int y3)]) dX2_lookAtChoice_16 rfl (Nat.le_of_ble_eq_true rfl) rfl ?_
      refine b_iload (n := 20) 0 dX2_lookAtChoice_18 rfl rfl ?_
      refine b_bipush (n := 22) (v := 24) dX2_lookAtChoice_20 rfl (by decide) ?_
      refine bNb (n := 25) (As := [.int k13, .int 24]) (rest := []) lk_X2_125 (c_xs_isInside (Nat.le_refl _)) (by omega) rfl rfl (Nat.le_of_ble_eq_true rfl) dX2_lookAtChoice_22 rfl (fun k22 => ?_)
      refine b_bz (n := 28) (tgt := 58) dX2_lookAtChoice_25 (by decide) rfl (fun h25 => ?_) (fun h25 => ?_)
      · refine b_aload_n (n := 29) 1 dX2_lookAtChoice_28 rfl rfl rfl ?_
        refine b_get (n := 32) (v := .ref (ad 19)) 0 f_X2_25 dX2_lookAtChoice_29 rfl hI_o0 rfl ?_
        refine b_iload (n := 34) 0 dX2_lookAtChoice_32 rfl rfl ?_
        refine b_iald (n := 35) 9 dX2_lookAtChoice_34 rfl hI_a19 (fun v34 => ?_)
        refine b_if_eq (n := 38) (tgt := 58) dX2_lookAtChoice_35 (by decide) rfl (fun h35 => ?_) (fun h35 => ?_)
        · refine b_iinc (n := 61) (L' := [(3, .int (y3 + 1)), (4, .int k13), (0, .ref (ad 0)), (1, .int y1), (2, .int y2)]) 4 1 dX2_lookAtChoice_58 rfl rfl (by decide) (Nat.le_of_ble_eq_true rfl) rfl ?_
          refine b_goto (n := 2) dX2_lookAtChoice_61 (by decide) ?_
          refine Bd.sub (L' := [(0, .ref (ad 0)), (1, .int y1), (2, .int y2), (3, .int (y3 + 1))]) [2, 3, 4, 0] rfl ?_
          exact ih _ _ _ _ _ _
        · refine b_aload_n (n := 39) 1 dX2_lookAtChoice_38 rfl rfl rfl ?_
          refine b_iload (n := 41) 0 dX2_lookAtChoice_39 rfl rfl ?_
          refine b_iload_n (n := 42) 3 dX2_lookAtChoice_41 rfl rfl rfl ?_
          refine bV0wv (n := 45) (hh := (fun s : Mem × Mem × Mem => hI E ad rl s.1 s.2.1 s.2.2 p)) (As := [.int k13, .int y2]) (rest := []) 0 lk_X2_104 (hB1 _ _ _ _ _) (by omega) (fun _ => rfl) rfl rfl rfl rfl (Nat.le_of_ble_eq_true rfl) dX2_lookAtChoice_42 rfl ?_
          rintro ⟨o42, h42, e42⟩
          try dsimp only
          refine b_aload_n (n := 46) 1 dX2_lookAtChoice_45 rfl rfl rfl ?_
          refine b_get (n := 49) (v := .ref (ad 18)) 0 f_X2_22 dX2_lookAtChoice_46 rfl hI_o0 rfl ?_
          refine b_iload_n (n := 50) 2 dX2_lookAtChoice_49 rfl rfl rfl ?_
          refine b_aload_n (n := 51) 1 dX2_lookAtChoice_50 rfl rfl rfl ?_
          refine b_get (n := 54) (v := .ref (ad 19)) 0 f_X2_25 dX2_lookAtChoice_51 rfl hI_o0 rfl ?_
          refine b_iload (n := 56) 0 dX2_lookAtChoice_54 rfl rfl ?_
          refine b_iald (n := 57) 9 dX2_lookAtChoice_56 rfl hI_a19 (fun v56 => ?_)
          refine b_iast (n := 58) (ws' := hI E ad rl (up o42 18 y1.toNatClampNeg v56) h42 e42 p) 8 dX2_lookAtChoice_57 rfl hI_a18 hI_s18 ?_
          refine b_iinc (n := 61) (L' := [(3, .int (y3 + 1)), (4, .int k13), (0, .ref (ad 0)), (1, .int y1), (2, .int y2)]) 4 1 dX2_lookAtChoice_58 rfl rfl (by decide) (Nat.le_of_ble_eq_true rfl) rfl ?_
          refine b_goto (n := 2) dX2_lookAtChoice_61 (by decide) ?_
          refine Bd.sub (L' := [(0, .ref (ad 0)), (1, .int y1), (2, .int y2), (3, .int (y3 + 1))]) [2, 3, 4, 0] rfl ?_
          exact ih _ _ _ _ _ _
      · refine b_iinc (n := 61) (L' := [(3, .int (y3 + 1)), (4, .int k13), (0, .ref (ad 0)), (1, .int y1), (2, .int y2)]) 4 1 dX2_lookAtChoice_58 rfl rfl (by decide) (Nat.le_of_ble_eq_true rfl) rfl ?_
        refine b_goto (n := 2) dX2_lookAtChoice_61 (by decide) ?_
        refine Bd.sub (L' := [(0, .ref (ad 0)), (1, .int y1), (2, .int y2), (3, .int (y3 + 1))]) [2, 3, 4, 0] rfl ?_
        exact ih _ _ _ _ _ _
    · exact b_vret dX2_lookAtChoice_64 rfl rfl
def in_lookAtChoice (N : Nat) (rl : Nat) (p : Mem) (B : Bool → Int32 → Int32 → Mem → Mem → Mem → Option (Mem × Mem × Mem)) (x1 : Int32) (x2 : Int32) (o : Mem) (h : Mem) (e : Mem) : Option (Mem × Mem × Mem) :=
  in_lookAtChoice_2 N rl p B N x1 x2 0 o h e
set_option maxHeartbeats 400000 in
set_option maxRecDepth 100000 in
theorem c_in_lookAtChoice {l : Launch} {E : Ev} {ad : Nat → Nat} {d : Nat} {N : Nat} {rl : Nat} {p : Mem} {B : Bool → Int32 → Int32 → Mem → Mem → Mem → Option (Mem × Mem × Mem)} {dB : Nat} {x1 : Int32} {x2 : Int32} {o : Mem} {h : Mem} {e : Mem} (hd : dB + 1 ≤ d) (hdB : 5 ≤ dB) (hB1 : ∀ (x1 : Int32) (x2 : Int32) (o : Mem) (h : Mem) (e : Mem), Ct l yX2_goOn cX2_goOn 6 none dB E (hI E ad rl o h e p) [.ref (ad 0), .int x1, .int x2] (fun q : Mem × Mem × Mem => (none, hI E ad rl q.1 q.2.1 q.2.2 p)) (B true x1 x2 o h e)) (hB2 : ∀ (x1 : Int32) (x2 : Int32) (o : Mem) (h : Mem) (e : Mem), Ct l yX2_beginItem cX2_beginItem 3 none dB E (hI E ad rl o h e p) [.ref (ad 0), .int x1, .int x2] (fun q : Mem × Mem × Mem => (none, hI E ad rl q.1 q.2.1 q.2.2 p)) (B false x1 x2 o h e)) : Ct l yX2_lookAtChoice cX2_lookAtChoice 5 none d E (hI E ad rl o h e p) [.ref (ad 0), .int x1, .int x2] (fun q : Mem × Mem × Mem => (none, hI E ad rl q.1 q.2.1 q.2.2 p)) (in_lookAtChoice N rl p B x1 x2 o h e) := by
  refine Ct.of2 (own := RX2) (L := [(0, .ref (ad 0)), (1, .int x1), (2, .int x2)]) rfl (by decide +kernel) (Nat.le_of_ble_eq_true rfl) rfl ?_
  unfold in_lookAtChoice
  refine b_iconst (n := 1) (v := 0) dX2_lookAtChoice_0 rfl (by decide) ?_
  refine b_istore_n (n := 2) (L' := [(3, .int 0), (0, .ref (ad 0)), (1, .int x1), (2, .int x2)]) dX2_lookAtChoice_1 rfl rfl (Nat.le_of_ble_eq_true rfl) rfl ?_
  refine Bd.sub (L' := [(0, .ref (ad 0)), (1, .int x1), (2, .int x2), (3, .int 0)]) [1, 2, 3, 0] rfl ?_
  exact w_in_lookAtChoice_2 hdB hB1 hB2 hd _ _ _ _ _ _ _
