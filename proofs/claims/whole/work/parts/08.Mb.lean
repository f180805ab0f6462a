/-! the reference: partial pure functions, and the walk of each method (1) -/
def md_readsSet_68 (N : Nat)  (y1 : Int32) (z0 : Int32) (z1 : Int32) (z2 : Int32) (μ : Mem) : Option (Bool × Mem) :=
  (md_put z2 z1 z0 μ).bind fun μ68 =>
  (md_takesSigned N (up μ68 0 12 ((μ68 0 12) + 1))).bind fun (k82, μ82) =>
  (md_put y1 3 (μ82 0 18) μ82).bind fun μ93 =>
  some (k82, μ93)
set_option maxHeartbeats 400000 in
set_option maxRecDepth 100000 in
theorem w_md_readsSet_68 {l : Launch} {E : Ev} {ad : Nat → Nat} {A : Nat → Prop} {d : Nat} {N : Nat}    (hd : 5 ≤ d)  (y1 : Int32) (z0 : Int32) (z1 : Int32) (z2 : Int32) (μ : Mem) : Bd l E A RX7 cX7_readsSet 3 (some .boolean) d (fun q : Bool × Mem => (some (.int (b2i q.1)), hM E ad q.2)) 68 [(0, .ref (ad 0)), (1, .int y1)] [.int z0, .int z1, .int z2, .ref (ad 0)] (hM E ad μ) (md_readsSet_68 N y1 z0 z1 z2 μ) := by
  unfold md_readsSet_68
  refine bV0wv (n := 71) (hh := (fun s : Mem => hM E ad s)) (As := [.int z2, .int z1, .int z0]) (rest := []) 0 lk_X7_74 (c_md_put (Nat.le_refl _)) (by omega) (fun _ => rfl) rfl rfl rfl rfl (Nat.le_of_ble_eq_true rfl) dX7_readsSet_68 rfl ?_
  rintro μ68
  try dsimp only
  refine b_aload_n (n := 72) 0 dX7_readsSet_71 rfl rfl rfl ?_
  refine b_dup (n := 73) dX7_readsSet_72 rfl rfl ?_
  refine b_get (n := 76) (v := .int (μ68 0 12)) 0 f_X7_45 dX7_readsSet_73 rfl hM_o0 rfl ?_
  refine b_iconst (n := 77) (v := 1) dX7_readsSet_76 rfl (by decide) ?_
  refine b_iadd (n := 78) dX7_readsSet_77 rfl ?_
  refine b_put (n := 81) (ws' := hM E ad (up μ68 0 12 ((μ68 0 12) + 1))) 0 fp_X7_45 dX7_readsSet_78 rfl hM_o0 rfl rfl (Nat.le_of_ble_eq_true rfl) hM_p0_12 ?_
  refine b_aload_n (n := 82) 0 dX7_readsSet_81 rfl rfl rfl ?_
  refine bV0wb (n := 85) (hh := (fun s : Mem => hM E ad s)) (As := []) (rest := []) 0 lk_X7_121 (c_md_takesSigned (Nat.le_refl _)) (by omega) (fun _ => rfl) rfl rfl rfl rfl (Nat.le_of_ble_eq_true rfl) dX7_readsSet_82 rfl ?_
  rintro k82 μ82
  try dsimp only
  refine b_istore_n (n := 86) (L' := [(2, .int (b2i k82)), (0, .ref (ad 0)), (1, .int y1)]) dX7_readsSet_85 rfl rfl (Nat.le_of_ble_eq_true rfl) rfl ?_
  refine b_aload_n (n := 87) 1 dX7_readsSet_86 rfl rfl rfl ?_
  refine b_iload_n (n := 88) 2 dX7_readsSet_87 rfl rfl rfl ?_
  refine b_iconst (n := 89) (v := 3) dX7_readsSet_88 rfl (by decide) ?_
  refine b_aload_n (n := 90) 1 dX7_readsSet_89 rfl rfl rfl ?_
  refine b_get (n := 93) (v := .int (μ82 0 18)) 0 f_X7_52 dX7_readsSet_90 rfl hM_o0 rfl ?_
  refine bV0wv (n := 96) (hh := (fun s : Mem => hM E ad s)) (As := [.int y1, .int 3, .int (μ82 0 18)]) (rest := []) 0 lk_X7_74 (c_md_put (Nat.le_refl _)) (by omega) (fun _ => rfl) rfl rfl rfl rfl (Nat.le_of_ble_eq_true rfl) dX7_readsSet_93 rfl ?_
  rintro μ93
  try dsimp only
  refine b_iload_n (n := 97) 0 dX7_readsSet_96 rfl rfl rfl ?_
  exact b_zret (b := k82) dX7_readsSet_97 rfl rfl
def md_readsSet_51 (N : Nat)  (y1 : Int32) (μ : Mem) : Option (Bool × Mem) :=
  (md_here μ).bind fun k55 =>
  if k55 = 43 then
    (md_readsSet_68 N y1 1 2 y1 μ)
  else
    (md_readsSet_68 N y1 0 2 y1 μ)
set_option maxHeartbeats 400000 in
set_option maxRecDepth 100000 in
theorem w_md_readsSet_51 {l : Launch} {E : Ev} {ad : Nat → Nat} {A : Nat → Prop} {d : Nat} {N : Nat}    (hd : 5 ≤ d)  (y1 : Int32) (μ : Mem) : Bd l E A RX7 cX7_readsSet 3 (some .boolean) d (fun q : Bool × Mem => (some (.int (b2i q.1)), hM E ad q.2)) 51 [(0, .ref (ad 0)), (1, .int y1)] [] (hM E ad μ) (md_readsSet_51 N y1 μ) := by
  unfold md_readsSet_51
  refine b_aload_n (n := 52) 0 dX7_readsSet_51 rfl rfl rfl ?_
  refine b_iload_n (n := 53) 1 dX7_readsSet_52 rfl rfl rfl ?_
  refine b_iconst (n := 54) (v := 2) dX7_readsSet_53 rfl (by decide) ?_
  refine b_aload_n (n := 55) 0 dX7_readsSet_54 rfl rfl rfl ?_
  refine bV0i (n := 58) (As := []) (rest := [.int 2, .int y1, .ref (ad 0)]) 0 lk_X7_48 (c_md_here (Nat.le_refl _)) (by omega) rfl rfl rfl rfl (Nat.le_of_ble_eq_true rfl) dX7_readsSet_55 rfl (fun k55 => ?_)
  refine b_bipush (n := 60) (v := 43) dX7_readsSet_58 rfl (by decide) ?_
  refine b_cmp_ne (n := 63) (tgt := 67) dX7_readsSet_60 (by decide) rfl (fun h60 => ?_) (fun h60 => ?_)
  · refine b_iconst (n := 64) (v := 1) dX7_readsSet_63 rfl (by decide) ?_
    refine b_goto (n := 68) dX7_readsSet_64 (by decide) ?_
    exact w_md_readsSet_68 hd _ _ _ _ _
  · refine b_iconst (n := 68) (v := 0) dX7_readsSet_67 rfl (by decide) ?_
    exact w_md_readsSet_68 hd _ _ _ _ _
def md_readsSet (N : Nat) (x1 : Int32) (μ : Mem) : Option (Bool × Mem) :=
  (md_takesDigit 0 3 (up μ 0 12 ((μ 0 12) + 1))).bind fun (k13, μ13) =>
  if k13 = true then
    ((md_put x1 1 (μ13 0 18) μ13).bind fun μ28 =>
    (md_here μ28).bind fun k32 =>
    if k32 = 61 then
      (md_readsSet_51 N x1 μ28)
    else
      ((md_here μ28).bind fun k41 =>
      if k41 = 43 then
        (md_readsSet_51 N x1 μ28)
      else
        (some (false, μ28))))
  else
    (some (false, μ13))
set_option maxHeartbeats 400000 in
set_option maxRecDepth 100000 in
theorem c_md_readsSet {l : Launch} {E : Ev} {ad : Nat → Nat} {d : Nat} {N : Nat}   {x1 : Int32} {μ : Mem} (hd : 5 ≤ d) : Ct l yX7_readsSet cX7_readsSet 3 (some .boolean) d E (hM E ad μ) [.ref (ad 0), .int x1] (fun q : Bool × Mem => (some (.int (b2i q.1)), hM E ad q.2)) (md_readsSet N x1 μ) := by
  refine Ct.of2 (own := RX7) (L := [(0, .ref (ad 0)), (1, .int x1)]) rfl (by decide +kernel) (Nat.le_of_ble_eq_true rfl) rfl ?_
  unfold md_readsSet
  refine b_aload_n (n := 1) 0 dX7_readsSet_0 rfl rfl rfl ?_
  refine b_dup (n := 2) dX7_readsSet_1 rfl rfl ?_
  refine b_get (n := 5) (v := .int (μ 0 12)) 0 f_X7_45 dX7_readsSet_2 rfl hM_o0 rfl ?_
  refine b_iconst (n := 6) (v := 1) dX7_readsSet_5 rfl (by decide) ?_
  refine b_iadd (n := 7) dX7_readsSet_6 rfl ?_
  refine b_put (n := 10) (ws' := hM E ad (up μ 0 12 ((μ 0 12) + 1))) 0 fp_X7_45 dX7_readsSet_7 rfl hM_o0 rfl rfl (Nat.le_of_ble_eq_true rfl) hM_p0_12 ?_
  refine b_aload_n (n := 11) 0 dX7_readsSet_10 rfl rfl rfl ?_
  refine b_iconst (n := 12) (v := 0) dX7_readsSet_11 rfl (by decide) ?_
  refine b_iconst (n := 13) (v := 3) dX7_readsSet_12 rfl (by decide) ?_
  refine bV0wb (n := 16) (hh := (fun s : Mem => hM E ad s)) (As := [.int 0, .int 3]) (rest := []) 0 lk_X7_55 (c_md_takesDigit (Nat.le_refl _)) (by omega) (fun _ => rfl) rfl rfl rfl rfl (Nat.le_of_ble_eq_true rfl) dX7_readsSet_13 rfl ?_
  rintro k13 μ13
  try dsimp only
  refine b_bnz (n := 19) (tgt := 21) dX7_readsSet_16 (by decide) rfl (fun h16 => ?_) (fun h16 => ?_)
  · refine b_aload_n (n := 22) 0 dX7_readsSet_21 rfl rfl rfl ?_
    refine b_iload_n (n := 23) 1 dX7_readsSet_22 rfl rfl rfl ?_
    refine b_iconst (n := 24) (v := 1) dX7_readsSet_23 rfl (by decide) ?_
    refine b_aload_n (n := 25) 0 dX7_readsSet_24 rfl rfl rfl ?_
    refine b_get (n := 28) (v := .int (μ13 0 18)) 0 f_X7_52 dX7_readsSet_25 rfl hM_o0 rfl ?_
    refine bV0wv (n := 31) (hh := (fun s : Mem => hM E ad s)) (As := [.int x1, .int 1, .int (μ13 0 18)]) (rest := []) 0 lk_X7_74 (c_md_put (Nat.le_refl _)) (by omega) (fun _ => rfl) rfl rfl rfl rfl (Nat.le_of_ble_eq_true rfl) dX7_readsSet_28 rfl ?_
    rintro μ28
    try dsimp only
    refine b_aload_n (n := 32) 0 dX7_readsSet_31 rfl rfl rfl ?_
    refine bV0i (n := 35) (As := []) (rest := []) 0 lk_X7_48 (c_md_here (Nat.le_refl _)) (by omega) rfl rfl rfl rfl (Nat.le_of_ble_eq_true rfl) dX7_readsSet_32 rfl (fun k32 => ?_)
    refine b_bipush (n := 37) (v := 61) dX7_readsSet_35 rfl (by decide) ?_
    refine b_cmp_eq (n := 40) (tgt := 51) dX7_readsSet_37 (by decide) rfl (fun h37 => ?_) (fun h37 => ?_)
    · exact w_md_readsSet_51 hd _ _
    · refine b_aload_n (n := 41) 0 dX7_readsSet_40 rfl rfl rfl ?_
      refine bV0i (n := 44) (As := []) (rest := []) 0 lk_X7_48 (c_md_here (Nat.le_refl _)) (by omega) rfl rfl rfl rfl (Nat.le_of_ble_eq_true rfl) dX7_readsSet_41 rfl (fun k41 => ?_)
      refine b_bipush (n := 46) (v := 43) dX7_readsSet_44 rfl (by decide) ?_
      refine b_cmp_eq (n := 49) (tgt := 51) dX7_readsSet_46 (by decide) rfl (fun h46 => ?_) (fun h46 => ?_)
      · exact w_md_readsSet_51 hd _ _
      · refine b_iconst (n := 50) (v := 0) dX7_readsSet_49 rfl (by decide) ?_
        exact b_zret (b := false) dX7_readsSet_50 rfl rfl
  · refine b_iconst (n := 20) (v := 0) dX7_readsSet_19 rfl (by decide) ?_
    exact b_zret (b := false) dX7_readsSet_20 rfl rfl
def md_readsSignal (N : Nat) (x1 : Int32) (μ : Mem) : Option (Bool × Mem) :=
  (md_takesCode (up μ 0 12 ((μ 0 12) + 1))).bind fun (k11, μ11) =>
  if k11 = true then
    ((md_put x1 1 (μ11 0 18) μ11).bind fun μ26 =>
    (md_takes 44 μ26).bind fun (k32, μ32) =>
    if k32 = true then
      ((md_takesNumber N μ32).bind fun (k39, μ39) =>
      if k39 = true then
        ((md_put x1 2 (μ39 0 18) μ39).bind fun μ54 =>
        some (true, μ54))
      else
        (some (false, μ39)))
    else
      (some (true, μ32)))
  else
    (some (false, μ11))
set_option maxHeartbeats 400000 in
set_option maxRecDepth 100000 in
theorem c_md_readsSignal {l : Launch} {E : Ev} {ad : Nat → Nat} {d : Nat} {N : Nat}   {x1 : Int32} {μ : Mem} (hd : 4 ≤ d) : Ct l yX7_readsSignal cX7_readsSignal 2 (some .boolean) d E (hM E ad μ) [.ref (ad 0), .int x1] (fun q : Bool × Mem => (some (.int (b2i q.1)), hM E ad q.2)) (md_readsSignal N x1 μ) := by
  refine Ct.of2 (own := RX7) (L := [(0, .ref (ad 0)), (1, .int x1)]) rfl (by decide +kernel) (Nat.le_of_ble_eq_true rfl) rfl ?_
  unfold md_readsSignal
  refine b_aload_n (n := 1) 0 dX7_readsSignal_0 rfl rfl rfl ?_
  refine b_dup (n := 2) dX7_readsSignal_1 rfl rfl ?_
  refine b_get (n := 5) (v := .int (μ 0 12)) 0 f_X7_45 dX7_readsSignal_2 rfl hM_o0 rfl ?_
  refine b_iconst (n := 6) (v := 1) dX7_readsSignal_5 rfl (by decide) ?_
  refine b_iadd (n := 7) dX7_readsSignal_6 rfl ?_
  refine b_put (n := 10) (ws' := hM E ad (up μ 0 12 ((μ 0 12) + 1))) 0 fp_X7_45 dX7_readsSignal_7 rfl hM_o0 rfl rfl (Nat.le_of_ble_eq_true rfl) hM_p0_12 ?_
  refine b_aload_n (n := 11) 0 dX7_readsSignal_10 rfl rfl rfl ?_
  refine bV0wb (n := 14) (hh := (fun s : Mem => hM E ad s)) (As := []) (rest := []) 0 lk_X7_118 (c_md_takesCode (Nat.le_refl _)) (by omega) (fun _ => rfl) rfl rfl rfl rfl (Nat.le_of_ble_eq_true rfl) dX7_readsSignal_11 rfl ?_
  rintro k11 μ11
  try dsimp only
  refine b_bnz (n := 17) (tgt := 19) dX7_readsSignal_14 (by decide) rfl (fun h14 => ?_) (fun h14 => ?_)
  · refine b_aload_n (n := 20) 0 dX7_readsSignal_19 rfl rfl rfl ?_
    refine b_iload_n (n := 21) 1 dX7_readsSignal_20 rfl rfl rfl ?_
    refine b_iconst (n := 22) (v := 1) dX7_readsSignal_21 rfl (by decide) ?_
    refine b_aload_n (n := 23) 0 dX7_readsSignal_22 rfl rfl rfl ?_
    refine b_get (n := 26) (v := .int (μ11 0 18)) 0 f_X7_52 dX7_readsSignal_23 rfl hM_o0 rfl ?_
    refine bV0wv (n := 29) (hh := (fun s : Mem => hM E ad s)) (As := [.int x1, .int 1, .int (μ11 0 18)]) (rest := []) 0 lk_X7_74 (c_md_put (Nat.le_refl _)) (by omega) (fun _ => rfl) rfl rfl rfl rfl (Nat.le_of_ble_eq_true rfl) dX7_readsSignal_26 rfl ?_
    rintro μ26
    try dsimp only
    refine b_aload_n (n := 30) 0 dX7_readsSignal_29 rfl rfl rfl ?_
    refine b_bipush (n := 32) (v := 44) dX7_readsSignal_30 rfl (by decide) ?_
    refine bV0wb (n := 35) (hh := (fun s : Mem => hM E ad s)) (As := [.int 44]) (rest := []) 0 lk_X7_59 (c_md_takes (Nat.le_refl _)) (by omega) (fun _ => rfl) rfl rfl rfl rfl (Nat.le_of_ble_eq_true rfl) dX7_readsSignal_32 rfl ?_
    rintro k32 μ32
    try dsimp only
    refine b_bz (n := 38) (tgt := 57) dX7_readsSignal_35 (by decide) rfl (fun h35 => ?_) (fun h35 => ?_)
    · refine b_aload_n (n := 39) 0 dX7_readsSignal_38 rfl rfl rfl ?_
      refine bV0wb (n := 42) (hh := (fun s : Mem => hM E ad s)) (As := []) (rest := []) 0 lk_X7_63 (c_md_takesNumber (Nat.le_refl _)) (by omega) (fun _ => rfl) rfl rfl rfl rfl (Nat.le_of_ble_eq_true rfl) dX7_readsSignal_39 rfl ?_
      rintro k39 μ39
      try dsimp only
      refine b_bnz (n := 45) (tgt := 47) dX7_readsSignal_42 (by decide) rfl (fun h42 => ?_) (fun h42 => ?_)
      · refine b_aload_n (n := 48) 0 dX7_readsSignal_47 rfl rfl rfl ?_
        refine b_iload_n (n := 49) 1 dX7_readsSignal_48 rfl rfl rfl ?_
        refine b_iconst (n := 50) (v := 2) dX7_readsSignal_49 rfl (by decide) ?_
        refine b_aload_n (n := 51) 0 dX7_readsSignal_50 rfl rfl rfl ?_
        refine b_get (n := 54) (v := .int (μ39 0 18)) 0 f_X7_52 dX7_readsSignal_51 rfl hM_o0 rfl ?_
        refine bV0wv (n := 57) (hh := (fun s : Mem => hM E ad s)) (As := [.int x1, .int 2, .int (μ39 0 18)]) (rest := []) 0 lk_X7_74 (c_md_put (Nat.le_refl _)) (by omega) (fun _ => rfl) rfl rfl rfl rfl (Nat.le_of_ble_eq_true rfl) dX7_readsSignal_54 rfl ?_
        rintro μ54
        try dsimp only
        refine b_iconst (n := 58) (v := 1) dX7_readsSignal_57 rfl (by decide) ?_
        exact b_zret (b := true) dX7_readsSignal_58 rfl rfl
      · refine b_iconst (n := 46) (v := 0) dX7_readsSignal_45 rfl (by decide) ?_
        exact b_zret (b := false) dX7_readsSignal_46 rfl rfl
    · refine b_iconst (n := 58) (v := 1) dX7_readsSignal_57 rfl (by decide) ?_
      exact b_zret (b := true) dX7_readsSignal_58 rfl rfl
  · refine b_iconst (n := 18) (v := 0) dX7_readsSignal_17 rfl (by decide) ?_
    exact b_zret (b := false) dX7_readsSignal_18 rfl rfl
def md_readsTask_102 (N : Nat)  (y1 : Int32) (μ : Mem) : Option (Bool × Mem) :=
  (md_takes 99 μ).bind fun (k105, μ105) =>
  if k105 = true then
    ((md_takesCode μ105).bind fun (k112, μ112) =>
    if k112 = true then
      ((md_put y1 4 (μ112 0 18) μ112).bind fun μ127 =>
      some (true, μ127))
    else
      (some (false, μ112)))
  else
    (some (true, μ105))
set_option maxHeartbeats 400000 in
set_option maxRecDepth 100000 in
theorem w_md_readsTask_102 {l : Launch} {E : Ev} {ad : Nat → Nat} {A : Nat → Prop} {d : Nat} {N : Nat}    (hd : 4 ≤ d)  (y1 : Int32) (μ : Mem) : Bd l E A RX7 cX7_readsTask 2 (some .boolean) d (fun q : Bool × Mem => (some (.int (b2i q.1)), hM E ad q.2)) 102 [(0, .ref (ad 0)), (1, .int y1)] [] (hM E ad μ) (md_readsTask_102 N y1 μ) := by
  unfold md_readsTask_102
  refine b_aload_n (n := 103) 0 dX7_readsTask_102 rfl rfl rfl ?_
  refine b_bipush (n := 105) (v := 99) dX7_readsTask_103 rfl (by decide) ?_
  refine bV0wb (n := 108) (hh := (fun s : Mem => hM E ad s)) (As := [.int 99]) (rest := []) 0 lk_X7_59 (c_md_takes (Nat.le_refl _)) (by omega) (fun _ => rfl) rfl rfl rfl rfl (Nat.le_of_ble_eq_true rfl) dX7_readsTask_105 rfl ?_
  rintro k105 μ105
  try dsimp only
  refine b_bz (n := 111) (tgt := 130) dX7_readsTask_108 (by decide) rfl (fun h108 => ?_) (fun h108 => ?_)
  · refine b_aload_n (n := 112) 0 dX7_readsTask_111 rfl rfl rfl ?_
    refine bV0wb (n := 115) (hh := (fun s : Mem => hM E ad s)) (As := []) (rest := []) 0 lk_X7_118 (c_md_takesCode (Nat.le_refl _)) (by omega) (fun _ => rfl) rfl rfl rfl rfl (Nat.le_of_ble_eq_true rfl) dX7_readsTask_112 rfl ?_
    rintro k112 μ112
    try dsimp only
    refine b_bnz (n := 118) (tgt := 120) dX7_readsTask_115 (by decide) rfl (fun h115 => ?_) (fun h115 => ?_)
    · refine b_aload_n (n := 121) 0 dX7_readsTask_120 rfl rfl rfl ?_
      refine b_iload_n (n := 122) 1 dX7_readsTask_121 rfl rfl rfl ?_
      refine b_iconst (n := 123) (v := 4) dX7_readsTask_122 rfl (by decide) ?_
      refine b_aload_n (n := 124) 0 dX7_readsTask_123 rfl rfl rfl ?_
      refine b_get (n := 127) (v := .int (μ112 0 18)) 0 f_X7_52 dX7_readsTask_124 rfl hM_o0 rfl ?_
      refine bV0wv (n := 130) (hh := (fun s : Mem => hM E ad s)) (As := [.int y1, .int 4, .int (μ112 0 18)]) (rest := []) 0 lk_X7_74 (c_md_put (Nat.le_refl _)) (by omega) (fun _ => rfl) rfl rfl rfl rfl (Nat.le_of_ble_eq_true rfl) dX7_readsTask_127 rfl ?_
      rintro μ127
      try dsimp only
      refine b_iconst (n := 131) (v := 1) dX7_readsTask_130 rfl (by decide) ?_
      exact b_zret (b := true) dX7_readsTask_131 rfl rfl
    · refine b_iconst (n := 119) (v := 0) dX7_readsTask_118 rfl (by decide) ?_
      exact b_zret (b := false) dX7_readsTask_119 rfl rfl
  · refine b_iconst (n := 131) (v := 1) dX7_readsTask_130 rfl (by decide) ?_
    exact b_zret (b := true) dX7_readsTask_131 rfl rfl
def md_readsTask (N : Nat) (x1 : Int32) (μ : Mem) : Option (Bool × Mem) :=
  (md_takesCode (up μ 0 12 ((μ 0 12) + 1))).bind fun (k11, μ11) =>
  if k11 = true then
    ((md_put x1 1 (μ11 0 18) μ11).bind fun μ26 =>
    (md_put x1 2 0 μ26).bind fun μ33 =>
    (md_put x1 3 0 μ33).bind fun μ40 =>
    (md_takes 114 μ40).bind fun (k46, μ46) =>
    if k46 = true then
      ((md_takesDigit 0 9 μ46).bind fun (k56, μ56) =>
      if k56 = true then
        ((md_put x1 2 (μ56 0 18) μ56).bind fun μ71 =>
        (md_takes 43 μ71).bind fun (k77, μ77) =>
        if k77 = true then
          ((md_takesNumber N μ77).bind fun (k84, μ84) =>
          if k84 = true then
            ((md_put x1 3 (μ84 0 18) μ84).bind fun μ99 =>
            md_readsTask_102 N x1 μ99)
          else
            (some (false, μ84)))
        else
          (md_readsTask_102 N x1 μ77))
      else
        (some (false, μ56)))
    else
      (md_readsTask_102 N x1 μ46))
  else
    (some (false, μ11))
set_option maxHeartbeats 400000 in
set_option maxRecDepth 100000 in
theorem c_md_readsTask {l : Launch} {E : Ev} {ad : Nat → Nat} {d : Nat} {N : Nat}   {x1 : Int32} {μ : Mem} (hd : 4 ≤ d) : Ct l yX7_readsTask cX7_readsTask 2 (some .boolean) d E (hM E ad μ) [.ref (ad 0), .int x1] (fun q : Bool × Mem => (some (.int (b2i q.1)), hM E ad q.2)) (md_readsTask N x1 μ) := by
  refine Ct.of2 (own := RX7) (L := [(0, .ref (ad 0)), (1, .int x1)]) rfl (by decide +kernel) (Nat.le_of_ble_eq_true rfl) rfl ?_
  unfold md_readsTask
  refine b_aload_n (n := 1) 0 dX7_readsTask_0 rfl rfl rfl ?_
  refine b_dup (n := 2) dX7_readsTask_1 rfl rfl ?_
  refine b_get (n := 5) (v := .int (μ 0 12)) 0 f_X7_45 dX7_readsTask_2 rfl hM_o0 rfl ?_
  refine b_iconst (n := 6) (v := 1) dX7_readsTask_5 rfl (by decide) ?_
  refine b_iadd (n := 7) dX7_readsTask_6 rfl ?_
  refine b_put (n := 10) (ws' := hM E ad (up μ 0 12 ((μ 0 12) + 1))) 0 fp_X7_45 dX7_readsTask_7 rfl hM_o0 rfl rfl (Nat.le_of_ble_eq_true rfl) hM_p0_12 ?_
  refine b_aload_n (n := 11) 0 dX7_readsTask_10 rfl rfl rfl ?_
  refine bV0wb (n := 14) (hh := (fun s : Mem => hM E ad s)) (As := []) (rest := []) 0 lk_X7_118 (c_md_takesCode (Nat.le_refl _)) (by omega) (fun _ => rfl) rfl rfl rfl rfl (Nat.le_of_ble_eq_true rfl) dX7_readsTask_11 rfl ?_
  rintro k11 μ11
  try dsimp only
  refine b_bnz (n := 17) (tgt := 19) dX7_readsTask_14 (by decide) rfl (fun h14 => ?_) (fun h14 => ?_)
  · refine b_aload_n (n := 20) 0 dX7_readsTask_19 rfl rfl rfl ?_
    refine b_iload_n (n := 21) 1 dX7_readsTask_20 rfl rfl rfl ?_
    refine b_iconst (n := 22) (v := 1) dX7_readsTask_21 rfl (by decide) ?_
    refine b_aload_n (n := 23) 0 dX7_readsTask_22 rfl rfl rfl ?_
    refine b_get (n := 26) (v := .int (μ11 0 18)) 0 f_X7_52 dX7_readsTask_23 rfl hM_o0 rfl ?_
    refine bV0wv (n := 29) (hh := (fun s : Mem => hM E ad s)) (As := [.int x1, .int 1, .int (μ11 0 18)]) (rest := []) 0 lk_X7_74 (c_md_put (Nat.le_refl _)) (by omega) (fun _ => rfl) rfl rfl rfl rfl (Nat.le_of_ble_eq_true rfl) dX7_readsTask_26 rfl ?_
    rintro μ26
    try dsimp only
    refine b_aload_n (n := 30) 0 dX7_readsTask_29 rfl rfl rfl ?_
    refine b_iload_n (n := 31) 1 dX7_readsTask_30 rfl rfl rfl ?_
    refine b_iconst (n := 32) (v := 2) dX7_readsTask_31 rfl (by decide) ?_
    refine b_iconst (n := 33) (v := 0) dX7_readsTask_32 rfl (by decide) ?_
    refine bV0wv (n := 36) (hh := (fun s : Mem => hM E ad s)) (As := [.int x1, .int 2, .int 0]) (rest := []) 0 lk_X7_74 (c_md_put (Nat.le_refl _)) (by omega) (fun _ => rfl) rfl rfl rfl rfl (Nat.le_of_ble_eq_true rfl) dX7_readsTask_33 rfl ?_
    rintro μ33
    try dsimp only
    refine b_aload_n (n := 37) 0 dX7_readsTask_36 rfl rfl rfl ?_
    refine b_iload_n (n := 38) 1 dX7_readsTask_37 rfl rfl rfl ?_
    refine b_iconst (n := 39) (v := 3) dX7_readsTask_38 rfl (by decide) ?_
    refine b_iconst (n := 40) (v := 0) dX7_readsTask_39 rfl (by decide) ?_
    refine bV0wv (n := 43) (hh := (fun s : Mem => hM E ad s)) (As := [.int x1, .int 3, .int 0]) (rest := []) 0 lk_X7_74 (c_md_put (Nat.le_refl _)) (by omega) (fun _ => rfl) rfl rfl rfl rfl (Nat.le_of_ble_eq_true rfl) dX7_readsTask_40 rfl ?_
    rintro μ40
    try dsimp only
    refine b_aload_n (n := 44) 0 dX7_readsTask_43 rfl rfl rfl ?_
    refine b_bipush (n := 46) (v := 114) dX7_readsTask_44 rfl (by decide) ?_
    refine bV0wb (n := 49) (hh := (fun s : Mem => hM E ad s)) (As := [.int 114]) (rest := []) 0 lk_X7_59 (c_md_takes (Nat.le_refl _)) (by omega) (fun _ => rfl) rfl rfl rfl rfl (Nat.le_of_ble_eq_true rfl) dX7_readsTask_46 rfl ?_
    rintro k46 μ46
    try dsimp only
    refine b_bz (n := 52) (tgt := 102) dX7_readsTask_49 (by decide) rfl (fun h49 => ?_) (fun h49 => ?_)
    · refine b_aload_n (n := 53) 0 dX7_readsTask_52 rfl rfl rfl ?_
      refine b_iconst (n := 54) (v := 0) dX7_readsTask_53 rfl (by decide) ?_
      refine b_bipush (n := 56) (v := 9) dX7_readsTask_54 rfl (by decide) ?_
      refine bV0wb (n := 59) (hh := (fun s : Mem => hM E ad s)) (As := [.int 0, .int 9]) (rest := []) 0 lk_X7_55 (c_md_takesDigit (Nat.le_refl _)) (by omega) (fun _ => rfl) rfl rfl rfl rfl (Nat.le_of_ble_eq_true rfl) dX7_readsTask_56 rfl ?_
      rintro k56 μ56
      try dsimp only
      refine b_bnz (n := 62) (tgt := 64) dX7_readsTask_59 (by decide) rfl (fun h59 => ?_) (fun h59 => ?_)
      · refine b_aload_n (n := 65) 0 dX7_readsTask_64 rfl rfl rfl ?_
        refine b_iload_n (n := 66) 1 dX7_readsTask_65 rfl rfl rfl ?_
        refine b_iconst (n := 67) (v := 2) dX7_readsTask_66 rfl (by decide) ?_
        refine b_aload_n (n := 68) 0 dX7_readsTask_67 rfl rfl rfl ?_
        refine b_get (n := 71) (v := .int (μ56 0 18)) 0 f_X7_52 dX7_readsTask_68 rfl hM_o0 rfl ?_
        refine bV0wv (n := 74) (hh := (fun s : Mem => hM E ad s)) (As := [.int x1, .int 2, .int (μ56 0 18)]) (rest := []) 0 lk_X7_74 (c_md_put (Nat.le_refl _)) (by omega) (fun _ => rfl) rfl rfl rfl rfl (Nat.le_of_ble_eq_true rfl) dX7_readsTask_71 rfl ?_
        rintro μ71
        try dsimp only
        refine b_aload_n (n := 75) 0 dX7_readsTask_74 rfl rfl rfl ?_
        refine b_bipush (n := 77) (v := 43) dX7_readsTask_75 rfl (by decide) ?_
        refine bV0wb (n := 80) (hh := (fun s : Mem => hM E ad s)) (As := [.int 43]) (rest := []) 0 lk_X7_59 (c_md_takes (Nat.le_refl _)) (by omega) (fun _ => rfl) rfl rfl rfl rfl (Nat.le_of_ble_eq_true rfl) dX7_readsTask_77 rfl ?_
        rintro k77 μ77
        try dsimp only
        refine b_bz (n := 83) (tgt := 102) dX7_readsTask_80 (by decide) rfl (fun h80 => ?_) (fun h80 => ?_)
        · refine b_aload_n (n := 84) 0 dX7_readsTask_83 rfl rfl rfl ?_
          refine bV0wb (n := 87) (hh := (fun s : Mem => hM E ad s)) (As := []) (rest := []) 0 lk_X7_63 (c_md_takesNumber (Nat.le_refl _)) (by omega) (fun _ => rfl) rfl rfl rfl rfl (Nat.le_of_ble_eq_true rfl) dX7_readsTask_84 rfl ?_
          rintro k84 μ84
          try dsimp only
          refine b_bnz (n := 90) (tgt := 92) dX7_readsTask_87 (by decide) rfl (fun h87 => ?_) (fun h87 => ?_)
          · refine b_aload_n (n := 93) 0 dX7_readsTask_92 rfl rfl rfl ?_
            refine b_iload_n (n := 94) 1 dX7_readsTask_93 rfl rfl rfl ?_
            refine b_iconst (n := 95) (v := 3) dX7_readsTask_94 rfl (by decide) ?_
            refine b_aload_n (n := 96) 0 dX7_readsTask_95 rfl rfl rfl ?_
            refine b_get (n := 99) (v := .int (μ84 0 18)) 0 f_X7_52 dX7_readsTask_96 rfl hM_o0 rfl ?_
            refine bV0wv (n := 102) (hh := (fun s : Mem => hM E ad s)) (As := [.int x1, .int 3, .int (μ84 0 18)]) (rest := []) 0 lk_X7_74 (c_md_put (Nat.le_refl _)) (by omega) (fun _ => rfl) rfl rfl rfl rfl (Nat.le_of_ble_eq_true rfl) dX7_readsTask_99 rfl ?_
            rintro μ99
            try dsimp only
            exact w_md_readsTask_102 hd _ _
          · refine b_iconst (n := 91) (v := 0) dX7_readsTask_90 rfl (by decide) ?_
            exact b_zret (b := false) dX7_readsTask_91 rfl rfl
        · exact w_md_readsTask_102 hd _ _
      · refine b_iconst (n := 63) (v := 0) dX7_readsTask_62 rfl (by decide) ?_
        exact b_zret (b := false) dX7_readsTask_63 rfl rfl
    · exact w_md_readsTask_102 hd _ _
  · refine b_iconst (n := 18) (v := 0) dX7_readsTask_17 rfl (by decide) ?_
    exact b_zret (b := false) dX7_readsTask_18 rfl rfl
def md_readsWait (N : Nat) (x1 : Int32) (μ : Mem) : Option (Bool × Mem) :=
  (md_takesNumber N (up μ 0 12 ((μ 0 12) + 1))).bind fun (k11, μ11) =>
  (md_put x1 1 (μ11 0 18) μ11).bind fun μ22 =>
  some (k11, μ22)
set_option maxHeartbeats 400000 in
set_option maxRecDepth 100000 in
theorem c_md_readsWait {l : Launch} {E : Ev} {ad : Nat → Nat} {d : Nat} {N : Nat}   {x1 : Int32} {μ : Mem} (hd : 4 ≤ d) : Ct l yX7_readsWait cX7_readsWait 3 (some .boolean) d E (hM E ad μ) [.ref (ad 0), .int x1] (fun q : Bool × Mem => (some (.int (b2i q.1)), hM E ad q.2)) (md_readsWait N x1 μ) := by
  refine Ct.of2 (own := RX7) (L := [(0, .ref (ad 0)), (1, .int x1)]) rfl (by decide +kernel) (Nat.le_of_ble_eq_true rfl) rfl ?_
  unfold md_readsWait
  refine b_aload_n (n := 1) 0 dX7_readsWait_0 rfl rfl rfl ?_
  refine b_dup (n := 2) dX7_readsWait_1 rfl rfl ?_
  refine b_get (n := 5) (v := .int (μ 0 12)) 0 f_X7_45 dX7_readsWait_2 rfl hM_o0 rfl ?_
  refine b_iconst (n := 6) (v := 1) dX7_readsWait_5 rfl (by decide) ?_
  refine b_iadd (n := 7) dX7_readsWait_6 rfl ?_
  refine b_put (n := 10) (ws' := hM E ad (up μ 0 12 ((μ 0 12) + 1))) 0 fp_X7_45 dX7_readsWait_7 rfl hM_o0 rfl rfl (Nat.le_of_ble_eq_true rfl) hM_p0_12 ?_
  refine b_aload_n (n := 11) 0 dX7_readsWait_10 rfl rfl rfl ?_
  refine bV0wb (n := 14) (hh := (fun s : Mem => hM E ad s)) (As := []) (rest := []) 0 lk_X7_63 (c_md_takesNumber (Nat.le_refl _)) (by omega) (fun _ => rfl) rfl rfl rfl rfl (Nat.le_of_ble_eq_true rfl) dX7_readsWait_11 rfl ?_
  rintro k11 μ11
  try dsimp only
  refine b_istore_n (n := 15) (L' := [(2, .int (b2i k11)), (0, .ref (ad 0)), (1, .int x1)]) dX7_readsWait_14 rfl rfl (Nat.le_of_ble_eq_true rfl) rfl ?_
  refine b_aload_n (n := 16) 1 dX7_readsWait_15 rfl rfl rfl ?_
  refine b_iload_n (n := 17) 2 dX7_readsWait_16 rfl rfl rfl ?_
  refine b_iconst (n := 18) (v := 1) dX7_readsWait_17 rfl (by decide) ?_
  refine b_aload_n (n := 19) 1 dX7_readsWait_18 rfl rfl rfl ?_
  refine b_get (n := 22) (v := .int (μ11 0 18)) 0 f_X7_52 dX7_readsWait_19 rfl hM_o0 rfl ?_
  refine bV0wv (n := 25) (hh := (fun s : Mem => hM E ad s)) (As := [.int x1, .int 1, .int (μ11 0 18)]) (rest := []) 0 lk_X7_74 (c_md_put (Nat.le_refl _)) (by omega) (fun _ => rfl) rfl rfl rfl rfl (Nat.le_of_ble_eq_true rfl) dX7_readsWait_22 rfl ?_
  rintro μ22
  try dsimp only
  refine b_iload_n (n := 26) 0 dX7_readsWait_25 rfl rfl rfl ?_
  exact b_zret (b := k11) dX7_readsWait_26 rfl rfl
def md_opens   (μ : Mem) : Option (Mem) :=
  some (up (up μ 0 16 ((μ 0 16) + 1)) 0 17 (if μ 0 17 < (μ 0 16) + 1 then (μ 0 16) + 1 else μ 0 17))
set_option maxHeartbeats 400000 in
set_option maxRecDepth 100000 in
theorem c_md_opens {l : Launch} {E : Ev} {ad : Nat → Nat} {d : Nat}     {μ : Mem} (hd : 1 ≤ d) : Ct l yX7_opens cX7_opens 1 none d E (hM E ad μ) [.ref (ad 0)] (fun q : Mem => (none, hM E ad q)) (md_opens μ) := by
  refine Ct.of2 (own := RX7) (L := [(0, .ref (ad 0))]) rfl (by decide +kernel) (Nat.le_of_ble_eq_true rfl) rfl ?_
  unfold md_opens
  refine b_aload_n (n := 1) 0 dX7_opens_0 rfl rfl rfl ?_
  refine b_dup (n := 2) dX7_opens_1 rfl rfl ?_
  refine b_get (n := 5) (v := .int (μ 0 16)) 0 f_X7_94 dX7_opens_2 rfl hM_o0 rfl ?_
  refine b_iconst (n := 6) (v := 1) dX7_opens_5 rfl (by decide) ?_
  refine b_iadd (n := 7) dX7_opens_6 rfl ?_
  refine b_put (n := 10) (ws' := hM E ad (up μ 0 16 ((μ 0 16) + 1))) 0 fp_X7_94 dX7_opens_7 rfl hM_o0 rfl rfl (Nat.le_of_ble_eq_true rfl) hM_p0_16 ?_
  refine b_aload_n (n := 11) 0 dX7_opens_10 rfl rfl rfl ?_
  refine b_aload_n (n := 12) 0 dX7_opens_11 rfl rfl rfl ?_
  refine b_get (n := 15) (v := .int (μ 0 17)) 0 f_X7_124 dX7_opens_12 rfl hM_o0 rfl ?_
  refine b_aload_n (n := 16) 0 dX7_opens_15 rfl rfl rfl ?_
  refine b_get (n := 19) (v := .int ((μ 0 16) + 1)) 0 f_X7_94 dX7_opens_16 rfl hM_o0 rfl ?_
  refine b_mmax (n := 22) mw_X7_127 (by omega) (Nat.le_of_ble_eq_true rfl) dX7_opens_19 rfl ?_
  refine b_put (n := 25) (ws' := hM E ad (up (up μ 0 16 ((μ 0 16) + 1)) 0 17 (if μ 0 17 < (μ 0 16) + 1 then (μ 0 16) + 1 else μ 0 17))) 0 fp_X7_124 dX7_opens_22 rfl hM_o0 rfl rfl (Nat.le_of_ble_eq_true rfl) hM_p0_17 ?_
  exact b_vret dX7_opens_25 rfl rfl
def md_readsChoice (N : Nat) (B : Int32 → Int32 → Mem → Option (Bool × Mem)) (x1 : Int32) (μ : Mem) : Option (Bool × Mem) :=
  (md_opens (up μ 0 12 ((μ 0 12) + 1))).bind fun μ11 =>
  (md_takes 120 μ11).bind fun (k17, μ17) =>
  if k17 = true then
    ((md_takesDigit 0 3 μ17).bind fun (k26, μ26) =>
    if k26 = true then
      ((md_put x1 1 (μ26 0 18) μ26).bind fun μ41 =>
      (md_takes 60 μ41).bind fun (k47, μ47) =>
      if k47 = true then
        ((md_takesSigned N μ47).bind fun (k54, μ54) =>
        if k54 = true then
          ((md_put x1 2 (μ54 0 18) μ54).bind fun μ69 =>
          (md_takes 58 μ69).bind fun (k75, μ75) =>
          if k75 = true then
            ((B x1 ((-1)) μ75).bind fun (k91, μ91) =>
            if k91 = true then
              ((md_takes 124 μ91).bind fun (k100, μ100) =>
              if k100 = true then
                ((B x1 (μ75 0 14) μ100).bind fun (k109, μ109) =>
                if k109 = true then
                  ((md_takes 93 μ109).bind fun (k118, μ118) =>
                  if k118 = true then
                    (some (true, up μ118 0 16 ((μ118 0 16) - 1)))
                  else
                    (some (false, μ118)))
                else
                  (some (false, μ109)))
              else
                (some (false, μ100)))
            else
              (some (false, μ91)))
          else
            (some (false, μ75)))
        else
          (some (false, μ54)))
      else
        (some (false, μ47)))
    else
      (some (false, μ26)))
  else
    (some (false, μ17))
set_option maxHeartbeats 400000 in
set_option maxRecDepth 100000 in
theorem c_md_readsChoice {l : Launch} {E : Ev} {ad : Nat → Nat} {d : Nat} {N : Nat}   {B : Int32 → Int32 → Mem → Option (Bool × Mem)} {dB : Nat} {x1 : Int32} {μ : Mem} (hd : dB + 1 ≤ d) (hdB : 6 ≤ dB) (hB : ∀ (x1 : Int32) (x2 : Int32) (μ : Mem), Ct l yX7_readsBody cX7_readsBody 6 (some .boolean) dB E (hM E ad μ) [.ref (ad 0), .int x1, .int x2] (fun q : Bool × Mem => (some (.int (b2i q.1)), hM E ad q.2)) (B x1 x2 μ)) : Ct l yX7_readsChoice cX7_readsChoice 3 (some .boolean) d E (hM E ad μ) [.ref (ad 0), .int x1] (fun q : Bool × Mem => (some (.int (b2i q.1)), hM E ad q.2)) (md_readsChoice N B x1 μ) := by
  refine Ct.of2 (own := RX7) (L := [(0, .ref (ad 0)), (1, .int x1)]) rfl (by decide +kernel) (Nat.le_of_ble_eq_true rfl) rfl ?_
  unfold md_readsChoice
  refine b_aload_n (n := 1) 0 dX7_readsChoice_0 rfl rfl rfl ?_
  refine b_dup (n := 2) dX7_readsChoice_1 rfl rfl ?_
  refine b_get (n := 5) (v := .int (μ 0 12)) 0 f_X7_45 dX7_readsChoice_2 rfl hM_o0 rfl ?_
  refine b_iconst (n := 6) (v := 1) dX7_readsChoice_5 rfl (by decide) ?_
  refine b_iadd (n := 7) dX7_readsChoice_6 rfl ?_
  refine b_put (n := 10) (ws' := hM E ad (up μ 0 12 ((μ 0 12) + 1))) 0 fp_X7_45 dX7_readsChoice_7 rfl hM_o0 rfl rfl (Nat.le_of_ble_eq_true rfl) hM_p0_12 ?_
  refine b_aload_n (n := 11) 0 dX7_readsChoice_10 rfl rfl rfl ?_
  refine bV0wv (n := 14) (hh := (fun s : Mem => hM E ad s)) (As := []) (rest := []) 0 lk_X7_132 (c_md_opens (Nat.le_refl _)) (by omega) (fun _ => rfl) rfl rfl rfl rfl (Nat.le_of_ble_eq_true rfl) dX7_readsChoice_11 rfl ?_
  rintro μ11
  try dsimp only
  refine b_aload_n (n := 15) 0 dX7_readsChoice_14 rfl rfl rfl ?_
  refine b_bipush (n := 17) (v := 120) dX7_readsChoice_15 rfl (by decide) ?_
  refine bV0wb (n := 20) (hh := (fun s : Mem => hM E ad s)) (As := [.int 120]) (rest := []) 0 lk_X7_59 (c_md_takes (Nat.le_refl _)) (by omega) (fun _ => rfl) rfl rfl rfl rfl (Nat.le_of_ble_eq_true rfl) dX7_readsChoice_17 rfl ?_
  rintro k17 μ17
  try dsimp only
  refine b_bz (n := 23) (tgt := 32) dX7_readsChoice_20 (by decide) rfl (fun h20 => ?_) (fun h20 => ?_)
  · refine b_aload_n (n := 24) 0 dX7_readsChoice_23 rfl rfl rfl ?_
    refine b_iconst (n := 25) (v := 0) dX7_readsChoice_24 rfl (by decide) ?_
    refine b_iconst (n := 26) (v := 3) dX7_readsChoice_25 rfl (by decide) ?_
    refine bV0wb (n := 29) (hh := (fun s : Mem => hM E ad s)) (As := [.int 0, .int 3]) (rest := []) 0 lk_X7_55 (c_md_takesDigit (Nat.le_refl _)) (by omega) (fun _ => rfl) rfl rfl rfl rfl (Nat.le_of_ble_eq_true rfl) dX7_readsChoice_26 rfl ?_
    rintro k26 μ26
    try dsimp only
    refine b_bnz (n := 32) (tgt := 34) dX7_readsChoice_29 (by decide) rfl (fun h29 => ?_) (fun h29 => ?_)
    · refine b_aload_n (n := 35) 0 dX7_readsChoice_34 rfl rfl rfl ?_
      refine b_iload_n (n := 36) 1 dX7_readsChoice_35 rfl rfl rfl ?_
      refine b_iconst (n := 37) (v := 1) dX7_readsChoice_36 rfl (by decide) ?_
      refine b_aload_n (n := 38) 0 dX7_readsChoice_37 rfl rfl rfl ?_
      refine b_get (n := 41) (v := .int (μ26 0 18)) 0 f_X7_52 dX7_readsChoice_38 rfl hM_o0 rfl ?_
      refine bV0wv (n := 44) (hh := (fun s : Mem => hM E ad s)) (As := [.int x1, .int 1, .int (μ26 0 18)]) (rest := []) 0 lk_X7_74 (c_md_put (Nat.le_refl _)) (by omega) (fun _ => rfl) rfl rfl rfl rfl (Nat.le_of_ble_eq_true rfl) dX7_readsChoice_41 rfl ?_
      rintro μ41
      try dsimp only
      refine b_aload_n (n := 45) 0 dX7_readsChoice_44 rfl rfl rfl ?_
      refine b_bipush (n := 47) (v := 60) dX7_readsChoice_45 rfl (by decide) ?_
      refine bV0wb (n := 50) (hh := (fun s : Mem => hM E ad s)) (As := [.int 60]) (rest := []) 0 lk_X7_59 (c_md_takes (Nat.le_refl _)) (by omega) (fun _ => rfl) rfl rfl rfl rfl (Nat.le_of_ble_eq_true rfl) dX7_readsChoice_47 rfl ?_
      rintro k47 μ47
      try dsimp only
      refine b_bz (n := 53) (tgt := 60) dX7_readsChoice_50 (by decide) rfl (fun h50 => ?_) (fun h50 => ?_)
      · refine b_aload_n (n := 54) 0 dX7_readsChoice_53 rfl rfl rfl ?_
        refine bV0wb (n := 57) (hh := (fun s : Mem => hM E ad s)) (As := []) (rest := []) 0 lk_X7_121 (c_md_takesSigned (Nat.le_refl _)) (by omega) (fun _ => rfl) rfl rfl rfl rfl (Nat.le_of_ble_eq_true rfl) dX7_readsChoice_54 rfl ?_
        rintro k54 μ54
        try dsimp only
        refine b_bnz (n := 60) (tgt := 62) dX7_readsChoice_57 (by decide) rfl (fun h57 => ?_) (fun h57 => ?_)
        · refine b_aload_n (n := 63) 0 dX7_readsChoice_62 rfl rfl rfl ?_
          refine b_iload_n (n := 64) 1 dX7_readsChoice_63 rfl rfl rfl ?_
          refine b_iconst (n := 65) (v := 2) dX7_readsChoice_64 rfl (by decide) ?_
          refine b_aload_n (n := 66) 0 dX7_readsChoice_65 rfl rfl rfl ?_
          refine b_get (n := 69) (v := .int (μ54 0 18)) 0 f_X7_52 dX7_readsChoice_66 rfl hM_o0 rfl ?_
          refine bV0wv (n := 72) (hh := (fun s : Mem => hM E ad s)) (As := [.int x1, .int 2, .int (μ54 0 18)]) (rest := []) 0 lk_X7_74 (c_md_put (Nat.le_refl _)) (by omega) (fun _ => rfl) rfl rfl rfl rfl (Nat.le_of_ble_eq_true rfl) dX7_readsChoice_69 rfl ?_
          rintro μ69
          try dsimp only
          refine b_aload_n (n := 73) 0 dX7_readsChoice_72 rfl rfl rfl ?_
          refine b_bipush (n := 75) (v := 58) dX7_readsChoice_73 rfl (by decide) ?_
          refine bV0wb (n := 78) (hh := (fun s : Mem => hM E ad s)) (As := [.int 58]) (rest := []) 0 lk_X7_59 (c_md_takes (Nat.le_refl _)) (by omega) (fun _ => rfl) rfl rfl rfl rfl (Nat.le_of_ble_eq_true rfl) dX7_readsChoice_75 rfl ?_
          rintro k75 μ75
          try dsimp only
          refine b_bnz (n := 81) (tgt := 83) dX7_readsChoice_78 (by decide) rfl (fun h78 => ?_) (fun h78 => ?_)
          · refine b_aload_n (n := 84) 0 dX7_readsChoice_83 rfl rfl rfl ?_
            refine b_get (n := 87) (v := .int (μ75 0 14)) 0 f_X7_71 dX7_readsChoice_84 rfl hM_o0 rfl ?_
            refine b_istore_n (n := 88) (L' := [(2, .int (μ75 0 14)), (0, .ref (ad 0)), (1, .int x1)]) dX7_readsChoice_87 rfl rfl (Nat.le_of_ble_eq_true rfl) rfl ?_
            refine b_aload_n (n := 89) 1 dX7_readsChoice_88 rfl rfl rfl ?_
            refine b_iload_n (n := 90) 2 dX7_readsChoice_89 rfl rfl rfl ?_
            refine b_iconst (n := 91) (v := -1) dX7_readsChoice_90 rfl (by decide) ?_
            refine bV0wb (n := 94) (hh := (fun s : Mem => hM E ad s)) (As := [.int x1, .int ((-1))]) (rest := []) 0 lk_X7_135 (hB _ _ _) (by omega) (fun _ => rfl) rfl rfl rfl rfl (Nat.le_of_ble_eq_true rfl) dX7_readsChoice_91 rfl ?_
            rintro k91 μ91
            try dsimp only
            refine b_bz (n := 97) (tgt := 124) dX7_readsChoice_94 (by decide) rfl (fun h94 => ?_) (fun h94 => ?_)
            · refine b_aload_n (n := 98) 1 dX7_readsChoice_97 rfl rfl rfl ?_
              refine b_bipush (n := 100) (v := 124) dX7_readsChoice_98 rfl (by decide) ?_
              refine bV0wb (n := 103) (hh := (fun s : Mem => hM E ad s)) (As := [.int 124]) (rest := []) 0 lk_X7_59 (c_md_takes (Nat.le_refl _)) (by omega) (fun _ => rfl) rfl rfl rfl rfl (Nat.le_of_ble_eq_true rfl) dX7_readsChoice_100 rfl ?_
              rintro k100 μ100
              try dsimp only
              refine b_bz (n := 106) (tgt := 124) dX7_readsChoice_103 (by decide) rfl (fun h103 => ?_) (fun h103 => ?_)
              · refine b_aload_n (n := 107) 1 dX7_readsChoice_106 rfl rfl rfl ?_
                refine b_iload_n (n := 108) 2 dX7_readsChoice_107 rfl rfl rfl ?_
                refine b_iload_n (n := 109) 0 dX7_readsChoice_108 rfl rfl rfl ?_
                refine bV0wb (n := 112) (hh := (fun s : Mem => hM E ad s)) (As := [.int x1, .int (μ75 0 14)]) (rest := []) 0 lk_X7_135 (hB _ _ _) (by omega) (fun _ => rfl) rfl rfl rfl rfl (Nat.le_of_ble_eq_true rfl) dX7_readsChoice_109 rfl ?_
                rintro k109 μ109
                try dsimp only
                refine b_bz (n := 115) (tgt := 124) dX7_readsChoice_112 (by decide) rfl (fun h112 => ?_) (fun h112 => ?_)
                · refine b_aload_n (n := 116) 1 dX7_readsChoice_115 rfl rfl rfl ?_
                  refine b_bipush (n := 118) (v := 93) dX7_readsChoice_116 rfl (by decide) ?_
                  refine bV0wb (n := 121) (hh := (fun s : Mem => hM E ad s)) (As := [.int 93]) (rest := []) 0 lk_X7_59 (c_md_takes (Nat.le_refl _)) (by omega) (fun _ => rfl) rfl rfl rfl rfl (Nat.le_of_ble_eq_true rfl) dX7_readsChoice_118 rfl ?_
                  rintro k118 μ118
                  try dsimp only
                  refine b_bnz (n := 124) (tgt := 126) dX7_readsChoice_121 (by decide) rfl (fun h121 => ?_) (fun h121 => ?_)
                  · refine b_aload_n (n := 127) 1 dX7_readsChoice_126 rfl rfl rfl ?_
                    refine b_dup (n := 128) dX7_readsChoice_127 rfl rfl ?_
                    refine b_get (n := 131) (v := .int (μ118 0 16)) 0 f_X7_94 dX7_readsChoice_128 rfl hM_o0 rfl ?_
                    refine b_iconst (n := 132) (v := 1) dX7_readsChoice_131 rfl (by decide) ?_
                    refine b_isub (n := 133) dX7_readsChoice_132 rfl ?_
                    refine b_put (n := 136) (ws' := hM E ad (up μ118 0 16 ((μ118 0 16) - 1))) 0 fp_X7_94 dX7_readsChoice_133 rfl hM_o0 rfl rfl (Nat.le_of_ble_eq_true rfl) hM_p0_16 ?_
                    refine b_iconst (n := 137) (v := 1) dX7_readsChoice_136 rfl (by decide) ?_
                    exact b_zret (b := true) dX7_readsChoice_137 rfl rfl
                  · refine b_iconst (n := 125) (v := 0) dX7_readsChoice_124 rfl (by decide) ?_
                    exact b_zret (b := false) dX7_readsChoice_125 rfl rfl
                · refine b_iconst (n := 125) (v := 0) dX7_readsChoice_124 rfl (by decide) ?_
                  exact b_zret (b := false) dX7_readsChoice_125 rfl rfl
              · refine b_iconst (n := 125) (v := 0) dX7_readsChoice_124 rfl (by decide) ?_
                exact b_zret (b := false) dX7_readsChoice_125 rfl rfl
            · refine b_iconst (n := 125) (v := 0) dX7_readsChoice_124 rfl (by decide) ?_
              exact b_zret (b := false) dX7_readsChoice_125 rfl rfl
          · refine b_iconst (n := 82) (v := 0) dX7_readsChoice_81 rfl (by decide) ?_
            exact b_zret (b := false) dX7_readsChoice_82 rfl rfl
        · refine b_iconst (n := 61) (v := 0) dX7_readsChoice_60 rfl (by decide) ?_
          exact b_zret (b := false) dX7_readsChoice_61 rfl rfl
      · refine b_iconst (n := 61) (v := 0) dX7_readsChoice_60 rfl (by decide) ?_
        exact b_zret (b := false) dX7_readsChoice_61 rfl rfl
    · refine b_iconst (n := 33) (v := 0) dX7_readsChoice_32 rfl (by decide) ?_
      exact b_zret (b := false) dX7_readsChoice_33 rfl rfl
  · refine b_iconst (n := 33) (v := 0) dX7_readsChoice_32 rfl (by decide) ?_
    exact b_zret (b := false) dX7_readsChoice_33 rfl rfl
