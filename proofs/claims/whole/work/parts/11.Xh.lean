/-! the class: partial pure functions, and the walk of each method (7) -/
def re_readChoice_54 (N : Nat) (t : Mem) (B : Int32 → Mem → Mem → Option (Int32 × Mem × Mem))  (y1 : Int32) (y2 : Int32) (z0 : Int32) (z1 : Int32) (r : Mem) (p : Mem) : Option (Mem × Mem) :=
  ck 24 z1 <|
  (re_expect t 58 r).bind fun r58 =>
  (re_readBodyOf N t B y1 0 y2 r58 (up p 10 z1.toNatClampNeg z0)).bind fun (k65, r65, p65) =>
  (re_expect t 124 r65).bind fun r72 =>
  (re_readBodyOf N t B y1 1 y2 r72 p65).bind fun (k79, r79, p79) =>
  (re_expect t 93 r79).bind fun r87 =>
  ck 24 y1 <|
  some (up r87 1 y1.toNatClampNeg (if k65 < k79 then k79 else k65), p79)
set_option maxHeartbeats 400000 in
set_option maxRecDepth 100000 in
theorem w_re_readChoice_54 {l : Launch} {E : Ev} {ad : Nat → Nat} {A : Nat → Prop} {d : Nat} {N : Nat}  {t : Mem} {B : Int32 → Mem → Mem → Option (Int32 × Mem × Mem)} {dB : Nat} (hdB : 5 ≤ dB) (hB : ∀ (x1 : Int32) (r : Mem) (p : Mem), Ct l yX3_readBody cX3_readBody 7 (some .int) dB E (hR E ad r t p) [.ref (ad 0), .int x1] (fun q : Int32 × Mem × Mem => (some (.int q.1), hR E ad q.2.1 t q.2.2)) (B x1 r p))  (hd : dB + 2 ≤ d)  (y1 : Int32) (y2 : Int32) (z0 : Int32) (z1 : Int32) (r : Mem) (p : Mem) : Bd l E A RX3 cX3_readChoice 5 none d (fun q : Mem × Mem => (none, hR E ad q.1 t q.2)) 54 [(0, .ref (ad 0)), (1, .int y1), (2, .int y2)] [.int z0, .int z1, .ref (ad 10)] (hR E ad r t p) (re_readChoice_54 N t B y1 y2 z0 z1 r p) := by
  unfold re_readChoice_54
  refine b_iast (n := 55) (ws' := hR E ad r t (up p 10 z1.toNatClampNeg z0)) 7 dX3_readChoice_54 rfl hR_a10 hR_s10 ?_
  refine b_aload_n (n := 56) 0 dX3_readChoice_55 rfl rfl rfl ?_
  refine b_bipush (n := 58) (v := 58) dX3_readChoice_56 rfl (by decide) ?_
  refine bV0wv (n := 61) (hh := (fun s : Mem => hR E ad s t (up p 10 z1.toNatClampNeg z0))) (As := [.int 58]) (rest := []) 0 lk_X3_130 (c_re_expect (Nat.le_refl _)) (by omega) (fun _ => rfl) rfl rfl rfl rfl (Nat.le_of_ble_eq_true rfl) dX3_readChoice_58 rfl ?_
  rintro r58
  try dsimp only
  refine b_aload_n (n := 62) 0 dX3_readChoice_61 rfl rfl rfl ?_
  refine b_iload_n (n := 63) 1 dX3_readChoice_62 rfl rfl rfl ?_
  refine b_iconst (n := 64) (v := 0) dX3_readChoice_63 rfl (by decide) ?_
  refine b_iload_n (n := 65) 2 dX3_readChoice_64 rfl rfl rfl ?_
  refine bV0wi (n := 68) (hh := (fun s : Mem × Mem => hR E ad s.1 t s.2)) (As := [.int y1, .int 0, .int y2]) (rest := []) 0 lk_X3_133 (c_re_readBodyOf (Nat.le_refl _) hdB hB) (by omega) (fun _ => rfl) rfl rfl rfl rfl (Nat.le_of_ble_eq_true rfl) dX3_readChoice_65 rfl ?_
  rintro k65 ⟨r65, p65⟩
  try dsimp only
  refine b_istore_n (n := 69) (L' := [(3, .int k65), (0, .ref (ad 0)), (1, .int y1), (2, .int y2)]) dX3_readChoice_68 rfl rfl (Nat.le_of_ble_eq_true rfl) rfl ?_
  refine b_aload_n (n := 70) 1 dX3_readChoice_69 rfl rfl rfl ?_
  refine b_bipush (n := 72) (v := 124) dX3_readChoice_70 rfl (by decide) ?_
  refine bV0wv (n := 75) (hh := (fun s : Mem => hR E ad s t p65)) (As := [.int 124]) (rest := []) 0 lk_X3_130 (c_re_expect (Nat.le_refl _)) (by omega) (fun _ => rfl) rfl rfl rfl rfl (Nat.le_of_ble_eq_true rfl) dX3_readChoice_72 rfl ?_
  rintro r72
  try dsimp only
  refine b_aload_n (n := 76) 1 dX3_readChoice_75 rfl rfl rfl ?_
  refine b_iload_n (n := 77) 2 dX3_readChoice_76 rfl rfl rfl ?_
  refine b_iconst (n := 78) (v := 1) dX3_readChoice_77 rfl (by decide) ?_
  refine b_iload_n (n := 79) 3 dX3_readChoice_78 rfl rfl rfl ?_
  refine bV0wi (n := 82) (hh := (fun s : Mem × Mem => hR E ad s.1 t s.2)) (As := [.int y1, .int 1, .int y2]) (rest := []) 0 lk_X3_133 (c_re_readBodyOf (Nat.le_refl _) hdB hB) (by omega) (fun _ => rfl) rfl rfl rfl rfl (Nat.le_of_ble_eq_true rfl) dX3_readChoice_79 rfl ?_
  rintro k79 ⟨r79, p79⟩
  try dsimp only
  refine b_istore (n := 84) (L' := [(4, .int k79), (3, .int k65), (0, .ref (ad 0)), (1, .int y1), (2, .int y2)]) dX3_readChoice_82 rfl (Nat.le_of_ble_eq_true rfl) rfl ?_
  refine b_aload_n (n := 85) 2 dX3_readChoice_84 rfl rfl rfl ?_
  refine b_bipush (n := 87) (v := 93) dX3_readChoice_85 rfl (by decide) ?_
  refine bV0wv (n := 90) (hh := (fun s : Mem => hR E ad s t p79)) (As := [.int 93]) (rest := []) 0 lk_X3_130 (c_re_expect (Nat.le_refl _)) (by omega) (fun _ => rfl) rfl rfl rfl rfl (Nat.le_of_ble_eq_true rfl) dX3_readChoice_87 rfl ?_
  rintro r87
  try dsimp only
  refine b_aload_n (n := 91) 2 dX3_readChoice_90 rfl rfl rfl ?_
  refine b_get (n := 94) (v := .ref (ad 1)) 0 f_X3_9 dX3_readChoice_91 rfl hR_o0 rfl ?_
  refine b_iload_n (n := 95) 3 dX3_readChoice_94 rfl rfl rfl ?_
  refine b_iload_n (n := 96) 1 dX3_readChoice_95 rfl rfl rfl ?_
  refine b_iload (n := 98) 0 dX3_readChoice_96 rfl rfl ?_
  refine b_mmax (n := 101) mw_X3_64 (by omega) (Nat.le_of_ble_eq_true rfl) dX3_readChoice_98 rfl ?_
  refine b_iast (n := 102) (ws' := hR E ad (up r87 1 y1.toNatClampNeg (if k65 < k79 then k79 else k65)) t p79) 1 dX3_readChoice_101 rfl hR_a1 hR_s1 ?_
  exact b_vret dX3_readChoice_102 rfl rfl
def re_readChoice (N : Nat) (t : Mem) (B : Int32 → Mem → Mem → Option (Int32 × Mem × Mem)) (x1 : Int32) (x2 : Int32) (r : Mem) (p : Mem) : Option (Mem × Mem) :=
  (re_expect t 120 r).bind fun r3 =>
  (re_readVariable t r3).bind fun (k15, r15) =>
  ck 24 x1 <|
  (re_expect t 60 r15).bind fun r22 =>
  (re_takes t 45 r22).bind fun (k36, r36) =>
  if k36 = true then
    ((re_readNumber N t r36).bind fun (k43, r43) =>
    re_readChoice_54 N t B x1 x2 (-k43) x1 r43 (up p 9 x1.toNatClampNeg k15))
  else
    ((re_readNumber N t r36).bind fun (k51, r51) =>
    re_readChoice_54 N t B x1 x2 k51 x1 r51 (up p 9 x1.toNatClampNeg k15))
set_option maxHeartbeats 400000 in
set_option maxRecDepth 100000 in
theorem c_re_readChoice {l : Launch} {E : Ev} {ad : Nat → Nat} {d : Nat} {N : Nat}  {t : Mem} {B : Int32 → Mem → Mem → Option (Int32 × Mem × Mem)} {dB : Nat} {x1 : Int32} {x2 : Int32} {r : Mem} {p : Mem} (hd : dB + 2 ≤ d) (hdB : 5 ≤ dB) (hB : ∀ (x1 : Int32) (r : Mem) (p : Mem), Ct l yX3_readBody cX3_readBody 7 (some .int) dB E (hR E ad r t p) [.ref (ad 0), .int x1] (fun q : Int32 × Mem × Mem => (some (.int q.1), hR E ad q.2.1 t q.2.2)) (B x1 r p)) : Ct l yX3_readChoice cX3_readChoice 5 none d E (hR E ad r t p) [.ref (ad 0), .int x1, .int x2] (fun q : Mem × Mem => (none, hR E ad q.1 t q.2)) (re_readChoice N t B x1 x2 r p) := by
  refine Ct.of2 (own := RX3) (L := [(0, .ref (ad 0)), (1, .int x1), (2, .int x2)]) rfl (by decide +kernel) (Nat.le_of_ble_eq_true rfl) rfl ?_
  unfold re_readChoice
  refine b_aload_n (n := 1) 0 dX3_readChoice_0 rfl rfl rfl ?_
  refine b_bipush (n := 3) (v := 120) dX3_readChoice_1 rfl (by decide) ?_
  refine bV0wv (n := 6) (hh := (fun s : Mem => hR E ad s t p)) (As := [.int 120]) (rest := []) 0 lk_X3_130 (c_re_expect (Nat.le_refl _)) (by omega) (fun _ => rfl) rfl rfl rfl rfl (Nat.le_of_ble_eq_true rfl) dX3_readChoice_3 rfl ?_
  rintro r3
  try dsimp only
  refine b_aload_n (n := 7) 0 dX3_readChoice_6 rfl rfl rfl ?_
  refine b_get (n := 10) (v := .ref (ad 6)) 0 f_X3_28 dX3_readChoice_7 rfl hR_o0 rfl ?_
  refine b_get (n := 13) (v := .ref (ad 9)) 3 f_X3_112 dX3_readChoice_10 rfl hR_o6 rfl ?_
  refine b_iload_n (n := 14) 1 dX3_readChoice_13 rfl rfl rfl ?_
  refine b_aload_n (n := 15) 0 dX3_readChoice_14 rfl rfl rfl ?_
  refine bV0wi (n := 18) (hh := (fun s : Mem => hR E ad s t p)) (As := []) (rest := [.int x1, .ref (ad 9)]) 0 lk_X3_127 (c_re_readVariable (Nat.le_refl _)) (by omega) (fun _ => rfl) rfl rfl rfl rfl (Nat.le_of_ble_eq_true rfl) dX3_readChoice_15 rfl ?_
  rintro k15 r15
  try dsimp only
  refine b_iast (n := 19) (ws' := hR E ad r15 t (up p 9 x1.toNatClampNeg k15)) 6 dX3_readChoice_18 rfl hR_a9 hR_s9 ?_
  refine b_aload_n (n := 20) 0 dX3_readChoice_19 rfl rfl rfl ?_
  refine b_bipush (n := 22) (v := 60) dX3_readChoice_20 rfl (by decide) ?_
  refine bV0wv (n := 25) (hh := (fun s : Mem => hR E ad s t (up p 9 x1.toNatClampNeg k15))) (As := [.int 60]) (rest := []) 0 lk_X3_130 (c_re_expect (Nat.le_refl _)) (by omega) (fun _ => rfl) rfl rfl rfl rfl (Nat.le_of_ble_eq_true rfl) dX3_readChoice_22 rfl ?_
  rintro r22
  try dsimp only
  refine b_aload_n (n := 26) 0 dX3_readChoice_25 rfl rfl rfl ?_
  refine b_get (n := 29) (v := .ref (ad 6)) 0 f_X3_28 dX3_readChoice_26 rfl hR_o0 rfl ?_
  refine b_get (n := 32) (v := .ref (ad 10)) 3 f_X3_90 dX3_readChoice_29 rfl hR_o6 rfl ?_
  refine b_iload_n (n := 33) 1 dX3_readChoice_32 rfl rfl rfl ?_
  refine b_aload_n (n := 34) 0 dX3_readChoice_33 rfl rfl rfl ?_
  refine b_bipush (n := 36) (v := 45) dX3_readChoice_34 rfl (by decide) ?_
  refine bV0wb (n := 39) (hh := (fun s : Mem => hR E ad s t (up p 9 x1.toNatClampNeg k15))) (As := [.int 45]) (rest := [.int x1, .ref (ad 10)]) 0 lk_X3_67 (c_re_takes (Nat.le_refl _)) (by omega) (fun _ => rfl) rfl rfl rfl rfl (Nat.le_of_ble_eq_true rfl) dX3_readChoice_36 rfl ?_
  rintro k36 r36
  try dsimp only
  refine b_bz (n := 42) (tgt := 50) dX3_readChoice_39 (by decide) rfl (fun h39 => ?_) (fun h39 => ?_)
  · refine b_aload_n (n := 43) 0 dX3_readChoice_42 rfl rfl rfl ?_
    refine bV0wi (n := 46) (hh := (fun s : Mem => hR E ad s t (up p 9 x1.toNatClampNeg k15))) (As := []) (rest := [.int x1, .ref (ad 10)]) 0 lk_X3_93 (c_re_readNumber (Nat.le_refl _)) (by omega) (fun _ => rfl) rfl rfl rfl rfl (Nat.le_of_ble_eq_true rfl) dX3_readChoice_43 rfl ?_
    rintro k43 r43
    try dsimp only
    refine b_ineg (n := 47) dX3_readChoice_46 rfl ?_
    refine b_goto (n := 54) dX3_readChoice_47 (by decide) ?_
    exact w_re_readChoice_54 hdB hB hd _ _ _ _ _ _
  · refine b_aload_n (n := 51) 0 dX3_readChoice_50 rfl rfl rfl ?_
    refine bV0wi (n := 54) (hh := (fun s : Mem => hR E ad s t (up p 9 x1.toNatClampNeg k15))) (As := []) (rest := [.int x1, .ref (ad 10)]) 0 lk_X3_93 (c_re_readNumber (Nat.le_refl _)) (by omega) (fun _ => rfl) rfl rfl rfl rfl (Nat.le_of_ble_eq_true rfl) dX3_readChoice_51 rfl ?_
    rintro k51 r51
    try dsimp only
    exact w_re_readChoice_54 hdB hB hd _ _ _ _ _ _
def re_readParallel_71 (N : Nat) (t : Mem) (B : Int32 → Mem → Mem → Option (Int32 × Mem × Mem))  (y1 : Int32) (y3 : Int32) (y4 : Int32) (r : Mem) (p : Mem) : Option (Mem × Mem) :=
  (re_expect t 41 r).bind fun r74 =>
  (re_takes t 113 r74).bind fun (k88, r88) =>
  if k88 = true then
    ((re_readBetween t 49 (48 + y4) r88).bind fun (k103, r103) =>
    ck 24 y1 <|
    ck 24 y1 <|
    some (up r103 1 y1.toNatClampNeg y3, up p 11 y1.toNatClampNeg (1 + k103)))
  else
    (ck 24 y1 <|
    ck 24 y1 <|
    some (up r88 1 y1.toNatClampNeg y3, up p 11 y1.toNatClampNeg y4))
set_option maxHeartbeats 400000 in
set_option maxRecDepth 100000 in
theorem w_re_readParallel_71 {l : Launch} {E : Ev} {ad : Nat → Nat} {A : Nat → Prop} {d : Nat} {N : Nat}  {t : Mem} {B : Int32 → Mem → Mem → Option (Int32 × Mem × Mem)} {dB : Nat} (hdB : 5 ≤ dB) (hB : ∀ (x1 : Int32) (r : Mem) (p : Mem), Ct l yX3_readBody cX3_readBody 7 (some .int) dB E (hR E ad r t p) [.ref (ad 0), .int x1] (fun q : Int32 × Mem × Mem => (some (.int q.1), hR E ad q.2.1 t q.2.2)) (B x1 r p))  (hd : dB + 2 ≤ d)  (y1 : Int32) (y3 : Int32) (y4 : Int32) (r : Mem) (p : Mem) : Bd l E A RX3 cX3_readParallel 5 none d (fun q : Mem × Mem => (none, hR E ad q.1 t q.2)) 71 [(0, .ref (ad 0)), (1, .int y1), (3, .int y3), (4, .int y4)] [] (hR E ad r t p) (re_readParallel_71 N t B y1 y3 y4 r p) := by
  unfold re_readParallel_71
  refine b_aload_n (n := 72) 0 dX3_readParallel_71 rfl rfl rfl ?_
  refine b_bipush (n := 74) (v := 41) dX3_readParallel_72 rfl (by decide) ?_
  refine bV0wv (n := 77) (hh := (fun s : Mem => hR E ad s t p)) (As := [.int 41]) (rest := []) 0 lk_X3_130 (c_re_expect (Nat.le_refl _)) (by omega) (fun _ => rfl) rfl rfl rfl rfl (Nat.le_of_ble_eq_true rfl) dX3_readParallel_74 rfl ?_
  rintro r74
  try dsimp only
  refine b_aload_n (n := 78) 0 dX3_readParallel_77 rfl rfl rfl ?_
  refine b_get (n := 81) (v := .ref (ad 6)) 0 f_X3_28 dX3_readParallel_78 rfl hR_o0 rfl ?_
  refine b_get (n := 84) (v := .ref (ad 11)) 3 f_X3_118 dX3_readParallel_81 rfl hR_o6 rfl ?_
  refine b_iload_n (n := 85) 1 dX3_readParallel_84 rfl rfl rfl ?_
  refine b_aload_n (n := 86) 0 dX3_readParallel_85 rfl rfl rfl ?_
  refine b_bipush (n := 88) (v := 113) dX3_readParallel_86 rfl (by decide) ?_
  refine bV0wb (n := 91) (hh := (fun s : Mem => hR E ad s t p)) (As := [.int 113]) (rest := [.int y1, .ref (ad 11)]) 0 lk_X3_67 (c_re_takes (Nat.le_refl _)) (by omega) (fun _ => rfl) rfl rfl rfl rfl (Nat.le_of_ble_eq_true rfl) dX3_readParallel_88 rfl ?_
  rintro k88 r88
  try dsimp only
  refine b_bz (n := 94) (tgt := 110) dX3_readParallel_91 (by decide) rfl (fun h91 => ?_) (fun h91 => ?_)
  · refine b_iconst (n := 95) (v := 1) dX3_readParallel_94 rfl (by decide) ?_
    refine b_aload_n (n := 96) 0 dX3_readParallel_95 rfl rfl rfl ?_
    refine b_bipush (n := 98) (v := 49) dX3_readParallel_96 rfl (by decide) ?_
    refine b_bipush (n := 100) (v := 48) dX3_readParallel_98 rfl (by decide) ?_
    refine b_iload (n := 102) 3 dX3_readParallel_100 rfl rfl ?_
    refine b_iadd (n := 103) dX3_readParallel_102 rfl ?_
    refine bV0wi (n := 106) (hh := (fun s : Mem => hR E ad s t p)) (As := [.int 49, .int (48 + y4)]) (rest := [.int 1, .int y1, .ref (ad 11)]) 0 lk_X3_121 (c_re_readBetween (Nat.le_refl _)) (by omega) (fun _ => rfl) rfl rfl rfl rfl (Nat.le_of_ble_eq_true rfl) dX3_readParallel_103 rfl ?_
    rintro k103 r103
    try dsimp only
    refine b_iadd (n := 107) dX3_readParallel_106 rfl ?_
    refine b_goto (n := 112) dX3_readParallel_107 (by decide) ?_
    refine b_iast (n := 113) (ws' := hR E ad r103 t (up p 11 y1.toNatClampNeg (1 + k103))) 8 dX3_readParallel_112 rfl hR_a11 hR_s11 ?_
    refine b_aload_n (n := 114) 0 dX3_readParallel_113 rfl rfl rfl ?_
    refine b_get (n := 117) (v := .ref (ad 1)) 0 f_X3_9 dX3_readParallel_114 rfl hR_o0 rfl ?_
    refine b_iload_n (n := 118) 1 dX3_readParallel_117 rfl rfl rfl ?_
    refine b_iload_n (n := 119) 2 dX3_readParallel_118 rfl rfl rfl ?_
    refine b_iast (n := 120) (ws' := hR E ad (up r103 1 y1.toNatClampNeg y3) t (up p 11 y1.toNatClampNeg (1 + k103))) 1 dX3_readParallel_119 rfl hR_a1 hR_s1 ?_
    exact b_vret dX3_readParallel_120 rfl rfl
  · refine b_iload (n := 112) 3 dX3_readParallel_110 rfl rfl ?_
    refine b_iast (n := 113) (ws' := hR E ad r88 t (up p 11 y1.toNatClampNeg y4)) 8 dX3_readParallel_112 rfl hR_a11 hR_s11 ?_
    refine b_aload_n (n := 114) 0 dX3_readParallel_113 rfl rfl rfl ?_
    refine b_get (n := 117) (v := .ref (ad 1)) 0 f_X3_9 dX3_readParallel_114 rfl hR_o0 rfl ?_
    refine b_iload_n (n := 118) 1 dX3_readParallel_117 rfl rfl rfl ?_
    refine b_iload_n (n := 119) 2 dX3_readParallel_118 rfl rfl rfl ?_
    refine b_iast (n := 120) (ws' := hR E ad (up r88 1 y1.toNatClampNeg y3) t (up p 11 y1.toNatClampNeg y4)) 1 dX3_readParallel_119 rfl hR_a1 hR_s1 ?_
    exact b_vret dX3_readParallel_120 rfl rfl
def re_readParallel_43 (N : Nat) (t : Mem) (B : Int32 → Mem → Mem → Option (Int32 × Mem × Mem))  (y1 : Int32) (y3 : Int32) (y4 : Int32) (r : Mem) (p : Mem) : Option (Mem × Mem) :=
  (re_takes t 124 r).bind fun (k46, r46) =>
  if k46 = true then
    ((re_sign t r46).bind fun k54 =>
    (re_kindOf k54).bind fun k57 =>
    if k57 < 0 then
      ((re_fail 1 r46).bind fun r68 =>
      re_readParallel_71 N t B y1 y3 y4 r68 p)
    else
      ((re_fail 2 r46).bind fun r68 =>
      re_readParallel_71 N t B y1 y3 y4 r68 p))
  else
    (re_readParallel_71 N t B y1 y3 y4 r46 p)
set_option maxHeartbeats 400000 in
set_option maxRecDepth 100000 in
theorem w_re_readParallel_43 {l : Launch} {E : Ev} {ad : Nat → Nat} {A : Nat → Prop} {d : Nat} {N : Nat}  {t : Mem} {B : Int32 → Mem → Mem → Option (Int32 × Mem × Mem)} {dB : Nat} (hdB : 5 ≤ dB) (hB : ∀ (x1 : Int32) (r : Mem) (p : Mem), Ct l yX3_readBody cX3_readBody 7 (some .int) dB E (hR E ad r t p) [.ref (ad 0), .int x1] (fun q : Int32 × Mem × Mem => (some (.int q.1), hR E ad q.2.1 t q.2.2)) (B x1 r p))  (hd : dB + 2 ≤ d)  (y1 : Int32) (y3 : Int32) (y4 : Int32) (r : Mem) (p : Mem) : Bd l E A RX3 cX3_readParallel 5 none d (fun q : Mem × Mem => (none, hR E ad q.1 t q.2)) 43 [(0, .ref (ad 0)), (1, .int y1), (3, .int y3), (4, .int y4)] [] (hR E ad r t p) (re_readParallel_43 N t B y1 y3 y4 r p) := by
  unfold re_readParallel_43
  refine b_aload_n (n := 44) 0 dX3_readParallel_43 rfl rfl rfl ?_
  refine b_bipush (n := 46) (v := 124) dX3_readParallel_44 rfl (by decide) ?_
  refine bV0wb (n := 49) (hh := (fun s : Mem => hR E ad s t p)) (As := [.int 124]) (rest := []) 0 lk_X3_67 (c_re_takes (Nat.le_refl _)) (by omega) (fun _ => rfl) rfl rfl rfl rfl (Nat.le_of_ble_eq_true rfl) dX3_readParallel_46 rfl ?_
  rintro k46 r46
  try dsimp only
  refine b_bz (n := 52) (tgt := 71) dX3_readParallel_49 (by decide) rfl (fun h49 => ?_) (fun h49 => ?_)
  · refine b_aload_n (n := 53) 0 dX3_readParallel_52 rfl rfl rfl ?_
    refine b_aload_n (n := 54) 0 dX3_readParallel_53 rfl rfl rfl ?_
    refine bV0i (n := 57) (As := []) (rest := [.ref (ad 0)]) 0 lk_X3_71 (c_re_sign (Nat.le_refl _)) (by omega) rfl rfl rfl rfl (Nat.le_of_ble_eq_true rfl) dX3_readParallel_54 rfl (fun k54 => ?_)
    refine bSi (n := 60) (As := [.int k54]) (rest := [.ref (ad 0)]) lk_X3_75 (c_re_kindOf (Nat.le_refl _)) (by omega) rfl rfl (Nat.le_of_ble_eq_true rfl) dX3_readParallel_57 rfl (fun k57 => ?_)
    refine b_if_ge (n := 63) (tgt := 67) dX3_readParallel_60 (by decide) rfl (fun h60 => ?_) (fun h60 => ?_)
    · refine b_iconst (n := 64) (v := 1) dX3_readParallel_63 rfl (by decide) ?_
      refine b_goto (n := 68) dX3_readParallel_64 (by decide) ?_
      refine bV0wv (n := 71) (hh := (fun s : Mem => hR E ad s t p)) (As := [.int 1]) (rest := []) 0 lk_X3_51 (c_re_fail (Nat.le_refl _)) (by omega) (fun _ => rfl) rfl rfl rfl rfl (Nat.le_of_ble_eq_true rfl) dX3_readParallel_68 rfl ?_
      rintro r68
      try dsimp only
      exact w_re_readParallel_71 hdB hB hd _ _ _ _ _
    · refine b_iconst (n := 68) (v := 2) dX3_readParallel_67 rfl (by decide) ?_
      refine bV0wv (n := 71) (hh := (fun s : Mem => hR E ad s t p)) (As := [.int 2]) (rest := []) 0 lk_X3_51 (c_re_fail (Nat.le_refl _)) (by omega) (fun _ => rfl) rfl rfl rfl rfl (Nat.le_of_ble_eq_true rfl) dX3_readParallel_68 rfl ?_
      rintro r68
      try dsimp only
      exact w_re_readParallel_71 hdB hB hd _ _ _ _ _
  · exact w_re_readParallel_71 hdB hB hd _ _ _ _ _
def re_readParallel_11 (N : Nat) (t : Mem) (B : Int32 → Mem → Mem → Option (Int32 × Mem × Mem))  : Nat → Int32 → Int32 → Int32 → Int32 → Mem → Mem → Option (Mem × Mem)
  | 0, _, _, _, _, _, _ => none
  | n + 1, y1, y2, y3, y4, r, p =>
    if y4 < 4 then
      ((re_takes t 124 r).bind fun (k20, r20) =>
      if k20 = true then
        ((re_readBodyOf N t B y1 y4 y2 r20 p).bind fun (k32, r32, p32) =>
        re_readParallel_11 N t B n y1 y2 (y3 + k32) (y4 + 1) r32 p32)
      else
        (re_readParallel_43 N t B y1 y3 y4 r20 p))
    else
      (re_readParallel_43 N t B y1 y3 y4 r p)
set_option maxHeartbeats 400000 in
set_option maxRecDepth 100000 in
theorem w_re_readParallel_11 {l : Launch} {E : Ev} {ad : Nat → Nat} {A : Nat → Prop} {d : Nat} {N : Nat}  {t : Mem} {B : Int32 → Mem → Mem → Option (Int32 × Mem × Mem)} {dB : Nat} (hdB : 5 ≤ dB) (hB : ∀ (x1 : Int32) (r : Mem) (p : Mem), Ct l yX3_readBody cX3_readBody 7 (some .int) dB E (hR E ad r t p) [.ref (ad 0), .int x1] (fun q : Int32 × Mem × Mem => (some (.int q.1), hR E ad q.2.1 t q.2.2)) (B x1 r p))  (hd : dB + 2 ≤ d)  (n : Nat) : ∀ (y1 : Int32) (y2 : Int32) (y3 : Int32) (y4 : Int32) (r : Mem) (p : Mem), Bd l E A RX3 cX3_readParallel 5 none d (fun q : Mem × Mem => (none, hR E ad q.1 t q.2)) 11 [(0, .ref (ad 0)), (1, .int y1), (2, .int y2), (3, .int y3), (4, .int y4)] [] (hR E ad r t p) (re_readParallel_11 N t B n y1 y2 y3 y4 r p) := by
  induction n with
  | zero => intro y1 y2 y3 y4 r p; exact b_none
  | succ n ih =>
    intro y1 y2 y3 y4 r p
    rw [re_readParallel_11]
    refine b_iload (n := 13) 4 dX3_readParallel_11 rfl rfl ?_
    refine b_iconst (n := 14) (v := 4) dX3_readParallel_13 rfl (by decide) ?_
    refine b_cmp_ge (n := 17) (tgt := 43) dX3_readParallel_14 (by decide) rfl (fun h14 => ?_) (fun h14 => ?_)
    · refine b_aload_n (n := 18) 0 dX3_readParallel_17 rfl rfl rfl ?_
      refine b_bipush (n := 20) (v := 124) dX3_readParallel_18 rfl (by decide) ?_
      refine bV0wb (n := 23) (hh := (fun s : Mem => hR E ad s t p)) (As := [.int 124]) (rest := []) 0 lk_X3_67 (c_re_takes (Nat.le_refl _)) (by omega) (fun _ => rfl) rfl rfl rfl rfl (Nat.le_of_ble_eq_true rfl) dX3_readParallel_20 rfl ?_
      rintro k20 r20
      try dsimp only
      refine b_bz (n := 26) (tgt := 43) dX3_readParallel_23 (by decide) rfl (fun h23 => ?_) (fun h23 => ?_)
      · refine b_iload_n (n := 27) 3 dX3_readParallel_26 rfl rfl rfl ?_
        refine b_aload_n (n := 28) 0 dX3_readParallel_27 rfl rfl rfl ?_
        refine b_iload_n (n := 29) 1 dX3_readParallel_28 rfl rfl rfl ?_
        refine b_iload (n := 31) 4 dX3_readParallel_29 rfl rfl ?_
        refine b_iload_n (n := 32) 2 dX3_readParallel_31 rfl rfl rfl ?_
        refine bV0wi (n := 35) (hh := (fun s : Mem × Mem => hR E ad s.1 t s.2)) (As := [.int y1, .int y4, .int y2]) (rest := [.int y3]) 0 lk_X3_133 (c_re_readBodyOf (Nat.le_refl _) hdB hB) (by omega) (fun _ => rfl) rfl rfl rfl rfl (Nat.le_of_ble_eq_true rfl) dX3_readParallel_32 rfl ?_
        rintro k32 ⟨r32, p32⟩
        try dsimp only
        refine b_iadd (n := 36) dX3_readParallel_35 rfl ?_
        refine b_istore_n (n := 37) (L' := [(3, .int (y3 + k32)), (0, .ref (ad 0)), (1, .int y1), (2, .int y2), (4, .int y4)]) dX3_readParallel_36 rfl rfl (Nat.le_of_ble_eq_true rfl) rfl ?_
        refine b_iinc (n := 40) (L' := [(4, .int (y4 + 1)), (3, .int (y3 + k32)), (0, .ref (ad 0)), (1, .int y1), (2, .int y2)]) 4 1 dX3_readParallel_37 rfl rfl (by decide) (Nat.le_of_ble_eq_true rfl) rfl ?_
        refine b_goto (n := 11) dX3_readParallel_40 (by decide) ?_
        refine Bd.sub (L' := [(0, .ref (ad 0)), (1, .int y1), (2, .int y2), (3, .int (y3 + k32)), (4, .int (y4 + 1))]) [2, 3, 4, 1, 0] rfl ?_
        exact ih _ _ _ _ _ _
      · refine Bd.sub (L' := [(0, .ref (ad 0)), (1, .int y1), (3, .int y3), (4, .int y4)]) [0, 1, 3, 4] rfl ?_
        exact w_re_readParallel_43 hdB hB hd _ _ _ _ _
    · refine Bd.sub (L' := [(0, .ref (ad 0)), (1, .int y1), (3, .int y3), (4, .int y4)]) [0, 1, 3, 4] rfl ?_
      exact w_re_readParallel_43 hdB hB hd _ _ _ _ _
def re_readParallel (N : Nat) (t : Mem) (B : Int32 → Mem → Mem → Option (Int32 × Mem × Mem)) (x1 : Int32) (x2 : Int32) (r : Mem) (p : Mem) : Option (Mem × Mem) :=
  (re_readBodyOf N t B x1 0 x2 r p).bind fun (k4, r4, p4) =>
  re_readParallel_11 N t B N x1 x2 k4 1 r4 p4
set_option maxHeartbeats 400000 in
set_option maxRecDepth 100000 in
theorem c_re_readParallel {l : Launch} {E : Ev} {ad : Nat → Nat} {d : Nat} {N : Nat}  {t : Mem} {B : Int32 → Mem → Mem → Option (Int32 × Mem × Mem)} {dB : Nat} {x1 : Int32} {x2 : Int32} {r : Mem} {p : Mem} (hd : dB + 2 ≤ d) (hdB : 5 ≤ dB) (hB : ∀ (x1 : Int32) (r : Mem) (p : Mem), Ct l yX3_readBody cX3_readBody 7 (some .int) dB E (hR E ad r t p) [.ref (ad 0), .int x1] (fun q : Int32 × Mem × Mem => (some (.int q.1), hR E ad q.2.1 t q.2.2)) (B x1 r p)) : Ct l yX3_readParallel cX3_readParallel 5 none d E (hR E ad r t p) [.ref (ad 0), .int x1, .int x2] (fun q : Mem × Mem => (none, hR E ad q.1 t q.2)) (re_readParallel N t B x1 x2 r p) := by
  refine Ct.of2 (own := RX3) (L := [(0, .ref (ad 0)), (1, .int x1), (2, .int x2)]) rfl (by decide +kernel) (Nat.le_of_ble_eq_true rfl) rfl ?_
  unfold re_readParallel
  refine b_aload_n (n := 1) 0 dX3_readParallel_0 rfl rfl rfl ?_
  refine b_iload_n (n := 2) 1 dX3_readParallel_1 rfl rfl rfl ?_
  refine b_iconst (n := 3) (v := 0) dX3_readParallel_2 rfl (by decide) ?_
  refine b_iload_n (n := 4) 2 dX3_readParallel_3 rfl rfl rfl ?_
  refine bV0wi (n := 7) (hh := (fun s : Mem × Mem => hR E ad s.1 t s.2)) (As := [.int x1, .int 0, .int x2]) (rest := []) 0 lk_X3_133 (c_re_readBodyOf (Nat.le_refl _) hdB hB) (by omega) (fun _ => rfl) rfl rfl rfl rfl (Nat.le_of_ble_eq_true rfl) dX3_readParallel_4 rfl ?_
  rintro k4 ⟨r4, p4⟩
  try dsimp only
  refine b_istore_n (n := 8) (L' := [(3, .int k4), (0, .ref (ad 0)), (1, .int x1), (2, .int x2)]) dX3_readParallel_7 rfl rfl (Nat.le_of_ble_eq_true rfl) rfl ?_
  refine b_iconst (n := 9) (v := 1) dX3_readParallel_8 rfl (by decide) ?_
  refine b_istore (n := 11) (L' := [(4, .int 1), (3, .int k4), (0, .ref (ad 0)), (1, .int x1), (2, .int x2)]) dX3_readParallel_9 rfl (Nat.le_of_ble_eq_true rfl) rfl ?_
  refine Bd.sub (L' := [(0, .ref (ad 0)), (1, .int x1), (2, .int x2), (3, .int k4), (4, .int 1)]) [2, 3, 4, 1, 0] rfl ?_
  exact w_re_readParallel_11 hdB hB hd _ _ _ _ _ _ _
