/-! the class: partial pure functions, and the walk of each method (5) -/
def in_beginItem (N : Nat) (rl : Nat) (p : Mem) (B : Bool → Int32 → Int32 → Mem → Mem → Mem → Option (Mem × Mem × Mem)) (x1 : Int32) (x2 : Int32) (o : Mem) (h : Mem) (e : Mem) : Option (Mem × Mem × Mem) :=
  (xs_isInside x1 24).bind fun k3 =>
  if k3 = true then
    (ck 24 x1 <|
    ck 25 x1 <|
    ck 25 x1 <|
    (rd 24 (p 7) x1).bind fun v40 =>
    if v40 = 0 then
      ((in_beginAttempt rl p e x1 (up (up (up o 18 x1.toNatClampNeg 1) 22 x1.toNatClampNeg 1000000000) 23 x1.toNatClampNeg 0) h).bind fun (o82, h82) =>
      some (o82, h82, e))
    else if v40 = 1 then
      ((rd 24 (p 10) x1).bind fun v108 =>
      ck 25 x1 <|
      some (up (up (up (up o 18 x1.toNatClampNeg 1) 22 x1.toNatClampNeg 1000000000) 23 x1.toNatClampNeg 0) 22 x1.toNatClampNeg ((e 1 2) + v108), h, e))
    else if v40 = 2 then
      ((in_beginSignal p e x1 (up (up (up o 18 x1.toNatClampNeg 1) 22 x1.toNatClampNeg 1000000000) 23 x1.toNatClampNeg 0)).bind fun o116 =>
      some (o116, h, e))
    else if v40 = 3 then
      (some (up (up (up o 18 x1.toNatClampNeg 1) 22 x1.toNatClampNeg 1000000000) 23 x1.toNatClampNeg 0, h, e))
    else if v40 = 4 then
      ((in_chosenBody p (up (up (up o 18 x1.toNatClampNeg 1) 22 x1.toNatClampNeg 1000000000) 23 x1.toNatClampNeg 0) x1).bind fun k125 =>
      (in_beginBody N rl p B k125 (x2 + 1) (up (up (up o 18 x1.toNatClampNeg 1) 22 x1.toNatClampNeg 1000000000) 23 x1.toNatClampNeg 0) h e).bind fun (o131, h131, e131) =>
      some (o131, h131, e131))
    else if v40 = 5 then
      ((in_beginBodies N rl p B x1 (x2 + 1) (up (up (up o 18 x1.toNatClampNeg 1) 22 x1.toNatClampNeg 1000000000) 23 x1.toNatClampNeg 0) h e).bind fun (o142, h142, e142) =>
      some (o142, h142, e142))
    else 
      (some (up (up (up o 18 x1.toNatClampNeg 1) 22 x1.toNatClampNeg 1000000000) 23 x1.toNatClampNeg 0, h, e)))
  else
    (some (o, h, e))
set_option maxHeartbeats 400000 in
set_option maxRecDepth 100000 in
theorem c_in_beginItem {l : Launch} {E : Ev} {ad : Nat → Nat} {d : Nat} {N : Nat} {rl : Nat} {p : Mem} {B : Bool → Int32 → Int32 → Mem → Mem → Mem → Option (Mem × Mem × Mem)} {dB : Nat} {x1 : Int32} {x2 : Int32} {o : Mem} {h : Mem} {e : Mem} (hd : dB + 3 ≤ d) (hdB : 5 ≤ dB) (hB1 : ∀ (x1 : Int32) (x2 : Int32) (o : Mem) (h : Mem) (e : Mem), Ct l yX2_goOn cX2_goOn 6 none dB E (hI E ad rl o h e p) [.ref (ad 0), .int x1, .int x2] (fun q : Mem × Mem × Mem => (none, hI E ad rl q.1 q.2.1 q.2.2 p)) (B true x1 x2 o h e)) (hB2 : ∀ (x1 : Int32) (x2 : Int32) (o : Mem) (h : Mem) (e : Mem), Ct l yX2_beginItem cX2_beginItem 3 none dB E (hI E ad rl o h e p) [.ref (ad 0), .int x1, .int x2] (fun q : Mem × Mem × Mem => (none, hI E ad rl q.1 q.2.1 q.2.2 p)) (B false x1 x2 o h e)) : Ct l yX2_beginItem cX2_beginItem 3 none d E (hI E ad rl o h e p) [.ref (ad 0), .int x1, .int x2] (fun q : Mem × Mem × Mem => (none, hI E ad rl q.1 q.2.1 q.2.2 p)) (in_beginItem N rl p B x1 x2 o h e) := by
  refine Ct.of2 (own := RX2) (L := [(0, .ref (ad 0)), (1, .int x1), (2, .int x2)]) rfl (by decide +kernel) (Nat.le_of_ble_eq_true rfl) rfl ?_
  unfold in_beginItem
  refine b_iload_n (n := 1) 1 dX2_beginItem_0 rfl rfl rfl ?_
  refine b_bipush (n := 3) (v := 24) dX2_beginItem_1 rfl (by decide) ?_
  refine bNb (n := 6) (As := [.int x1, .int 24]) (rest := []) lk_X2_125 (c_xs_isInside (Nat.le_refl _)) (by omega) rfl rfl (Nat.le_of_ble_eq_true rfl) dX2_beginItem_3 rfl (fun k3 => ?_)
  refine b_bnz (n := 9) (tgt := 10) dX2_beginItem_6 (by decide) rfl (fun h6 => ?_) (fun h6 => ?_)
  · refine b_aload_n (n := 11) 0 dX2_beginItem_10 rfl rfl rfl ?_
    refine b_get (n := 14) (v := .ref (ad 18)) 0 f_X2_22 dX2_beginItem_11 rfl hI_o0 rfl ?_
    refine b_iload_n (n := 15) 1 dX2_beginItem_14 rfl rfl rfl ?_
    refine b_iconst (n := 16) (v := 1) dX2_beginItem_15 rfl (by decide) ?_
    refine b_iast (n := 17) (ws' := hI E ad rl (up o 18 x1.toNatClampNeg 1) h e p) 8 dX2_beginItem_16 rfl hI_a18 hI_s18 ?_
    refine b_aload_n (n := 18) 0 dX2_beginItem_17 rfl rfl rfl ?_
    refine b_get (n := 21) (v := .ref (ad 22)) 0 f_X2_34 dX2_beginItem_18 rfl hI_o0 rfl ?_
    refine b_iload_n (n := 22) 1 dX2_beginItem_21 rfl rfl rfl ?_
    refine b_ldc (n := 24) (v := 1000000000) k_X2_143 dX2_beginItem_22 rfl ?_
    refine b_iast (n := 25) (ws' := hI E ad rl (up (up o 18 x1.toNatClampNeg 1) 22 x1.toNatClampNeg 1000000000) h e p) 12 dX2_beginItem_24 rfl hI_a22 hI_s22 ?_
    refine b_aload_n (n := 26) 0 dX2_beginItem_25 rfl rfl rfl ?_
    refine b_get (n := 29) (v := .ref (ad 23)) 0 f_X2_37 dX2_beginItem_26 rfl hI_o0 rfl ?_
    refine b_iload_n (n := 30) 1 dX2_beginItem_29 rfl rfl rfl ?_
    refine b_iconst (n := 31) (v := 0) dX2_beginItem_30 rfl (by decide) ?_
    refine b_iast (n := 32) (ws' := hI E ad rl (up (up (up o 18 x1.toNatClampNeg 1) 22 x1.toNatClampNeg 1000000000) 23 x1.toNatClampNeg 0) h e p) 13 dX2_beginItem_31 rfl hI_a23 hI_s23 ?_
    refine b_aload_n (n := 33) 0 dX2_beginItem_32 rfl rfl rfl ?_
    refine b_get (n := 36) (v := .ref (ad 6)) 0 f_X2_47 dX2_beginItem_33 rfl hI_o0 rfl ?_
    refine b_get (n := 39) (v := .ref (ad 7)) 15 f_X2_144 dX2_beginItem_36 rfl hI_o6 rfl ?_
    refine b_iload_n (n := 40) 1 dX2_beginItem_39 rfl rfl rfl ?_
    refine b_iald (n := 41) 16 dX2_beginItem_40 rfl hI_a7 (fun v40 => ?_)
    refine b_if (fun h41_0 => ?_) (fun h41_0 => ?_)
    · refine b_tsIn (n := 80) (w := 0) h41_0 dX2_beginItem_41 (by decide) (by decide) rfl (by decide) ?_
      refine b_aload_n (n := 81) 0 dX2_beginItem_80 rfl rfl rfl ?_
      refine b_iload_n (n := 82) 1 dX2_beginItem_81 rfl rfl rfl ?_
      refine bV0wv (n := 85) (hh := (fun s : Mem × Mem => hI E ad rl s.1 s.2 e p)) (As := [.int x1]) (rest := []) 0 lk_X2_147 (c_in_beginAttempt (Nat.le_refl _)) (by omega) (fun _ => rfl) rfl rfl rfl rfl (Nat.le_of_ble_eq_true rfl) dX2_beginItem_82 rfl ?_
      rintro ⟨o82, h82⟩
      try dsimp only
      refine b_goto (n := 148) dX2_beginItem_85 (by decide) ?_
      exact b_vret dX2_beginItem_148 rfl rfl
    refine b_if (fun h41_1 => ?_) (fun h41_1 => ?_)
    · refine b_tsIn (n := 88) (w := 1) h41_1 dX2_beginItem_41 (by decide) (by decide) rfl (by decide) ?_
      refine b_aload_n (n := 89) 0 dX2_beginItem_88 rfl rfl rfl ?_
      refine b_get (n := 92) (v := .ref (ad 22)) 0 f_X2_34 dX2_beginItem_89 rfl hI_o0 rfl ?_
      refine b_iload_n (n := 93) 1 dX2_beginItem_92 rfl rfl rfl ?_
      refine b_aload_n (n := 94) 0 dX2_beginItem_93 rfl rfl rfl ?_
      refine b_get (n := 97) (v := .ref (ad 1)) 0 f_X2_43 dX2_beginItem_94 rfl hI_o0 rfl ?_
      refine b_get (n := 100) (v := .int (e 1 2)) 1 f_X2_83 dX2_beginItem_97 rfl hI_o1 rfl ?_
      refine b_aload_n (n := 101) 0 dX2_beginItem_100 rfl rfl rfl ?_
      refine b_get (n := 104) (v := .ref (ad 6)) 0 f_X2_47 dX2_beginItem_101 rfl hI_o0 rfl ?_
      refine b_get (n := 107) (v := .ref (ad 10)) 15 f_X2_150 dX2_beginItem_104 rfl hI_o6 rfl ?_
      refine b_iload_n (n := 108) 1 dX2_beginItem_107 rfl rfl rfl ?_
      refine b_iald (n := 109) 19 dX2_beginItem_108 rfl hI_a10 (fun v108 => ?_)
      refine b_iadd (n := 110) dX2_beginItem_109 rfl ?_
      refine b_iast (n := 111) (ws' := hI E ad rl (up (up (up (up o 18 x1.toNatClampNeg 1) 22 x1.toNatClampNeg 1000000000) 23 x1.toNatClampNeg 0) 22 x1.toNatClampNeg ((e 1 2) + v108)) h e p) 12 dX2_beginItem_110 rfl hI_a22 hI_s22 ?_
      refine b_goto (n := 148) dX2_beginItem_111 (by decide) ?_
      exact b_vret dX2_beginItem_148 rfl rfl
    refine b_if (fun h41_2 => ?_) (fun h41_2 => ?_)
    · refine b_tsIn (n := 114) (w := 2) h41_2 dX2_beginItem_41 (by decide) (by decide) rfl (by decide) ?_
      refine b_aload_n (n := 115) 0 dX2_beginItem_114 rfl rfl rfl ?_
      refine b_iload_n (n := 116) 1 dX2_beginItem_115 rfl rfl rfl ?_
      refine bV0wv (n := 119) (hh := (fun s : Mem => hI E ad rl s h e p)) (As := [.int x1]) (rest := []) 0 lk_X2_153 (c_in_beginSignal (Nat.le_refl _)) (by omega) (fun _ => rfl) rfl rfl rfl rfl (Nat.le_of_ble_eq_true rfl) dX2_beginItem_116 rfl ?_
      rintro o116
      try dsimp only
      refine b_goto (n := 148) dX2_beginItem_119 (by decide) ?_
      exact b_vret dX2_beginItem_148 rfl rfl
    refine b_if (fun h41_3 => ?_) (fun h41_3 => ?_)
    · refine b_tsIn (n := 148) (w := 3) h41_3 dX2_beginItem_41 (by decide) (by decide) rfl (by decide) ?_
      exact b_vret dX2_beginItem_148 rfl rfl
    refine b_if (fun h41_4 => ?_) (fun h41_4 => ?_)
    · refine b_tsIn (n := 122) (w := 4) h41_4 dX2_beginItem_41 (by decide) (by decide) rfl (by decide) ?_
      refine b_aload_n (n := 123) 0 dX2_beginItem_122 rfl rfl rfl ?_
      refine b_aload_n (n := 124) 0 dX2_beginItem_123 rfl rfl rfl ?_
      refine b_iload_n (n := 125) 1 dX2_beginItem_124 rfl rfl rfl ?_
      refine bV0i (n := 128) (As := [.int x1]) (rest := [.ref (ad 0)]) 0 lk_X2_156 (c_in_chosenBody (Nat.le_refl _)) (by omega) rfl rfl rfl rfl (Nat.le_of_ble_eq_true rfl) dX2_beginItem_125 rfl (fun k125 => ?_)
      refine b_iload_n (n := 129) 2 dX2_beginItem_128 rfl rfl rfl ?_
      refine b_iconst (n := 130) (v := 1) dX2_beginItem_129 rfl (by decide) ?_
      refine b_iadd (n := 131) dX2_beginItem_130 rfl ?_
      refine bV0wv (n := 134) (hh := (fun s : Mem × Mem × Mem => hI E ad rl s.1 s.2.1 s.2.2 p)) (As := [.int k125, .int (x2 + 1)]) (rest := []) 0 lk_X2_97 (c_in_beginBody (Nat.le_refl _) hdB hB1 hB2) (by omega) (fun _ => rfl) rfl rfl rfl rfl (Nat.le_of_ble_eq_true rfl) dX2_beginItem_131 rfl ?_
      rintro ⟨o131, h131, e131⟩
      try dsimp only
      refine b_goto (n := 148) dX2_beginItem_134 (by decide) ?_
      exact b_vret dX2_beginItem_148 rfl rfl
    refine b_if (fun h41_5 => ?_) (fun h41_5 => ?_)
    · refine b_tsIn (n := 137) (w := 5) h41_5 dX2_beginItem_41 (by decide) (by decide) rfl (by decide) ?_
      refine b_aload_n (n := 138) 0 dX2_beginItem_137 rfl rfl rfl ?_
      refine b_iload_n (n := 139) 1 dX2_beginItem_138 rfl rfl rfl ?_
      refine b_iload_n (n := 140) 2 dX2_beginItem_139 rfl rfl rfl ?_
      refine b_iconst (n := 141) (v := 1) dX2_beginItem_140 rfl (by decide) ?_
      refine b_iadd (n := 142) dX2_beginItem_141 rfl ?_
      refine bV0wv (n := 145) (hh := (fun s : Mem × Mem × Mem => hI E ad rl s.1 s.2.1 s.2.2 p)) (As := [.int x1, .int (x2 + 1)]) (rest := []) 0 lk_X2_160 (c_in_beginBodies (Nat.le_refl _) hdB hB1 hB2) (by omega) (fun _ => rfl) rfl rfl rfl rfl (Nat.le_of_ble_eq_true rfl) dX2_beginItem_142 rfl ?_
      rintro ⟨o142, h142, e142⟩
      try dsimp only
      refine b_goto (n := 148) dX2_beginItem_145 (by decide) ?_
      exact b_vret dX2_beginItem_148 rfl rfl
    refine b_tsOut (n := 148) dX2_beginItem_41 (by have nh41_0 := i32_ne (k := 0) h41_0 (by decide); have nh41_1 := i32_ne (k := 1) h41_1 (by decide); have nh41_2 := i32_ne (k := 2) h41_2 (by decide); have nh41_3 := i32_ne (k := 3) h41_3 (by decide); have nh41_4 := i32_ne (k := 4) h41_4 (by decide); have nh41_5 := i32_ne (k := 5) h41_5 (by decide); omega) (by decide) ?_
    exact b_vret dX2_beginItem_148 rfl rfl
  · exact b_vret dX2_beginItem_9 rfl rfl
def kn_igo (N : Nat) (rl : Nat) (p : Mem) : Nat → Bool → Int32 → Int32 → Mem → Mem → Mem → Option (Mem × Mem × Mem)
  | 0, _, _, _, _, _, _ => none
  | n + 1, t, x1, x2, o, h, e => if t = true then in_goOn N rl p (kn_igo N rl p n) x1 x2 o h e else in_beginItem N rl p (kn_igo N rl p n) x1 x2 o h e
set_option maxHeartbeats 400000 in
set_option maxRecDepth 100000 in
theorem cka_igo {l : Launch} {E : Ev} {ad : Nat → Nat} {N : Nat} {rl : Nat} {p : Mem} (n : Nat) : (∀ (x1 : Int32) (x2 : Int32) (o : Mem) (h : Mem) (e : Mem), Ct l yX2_goOn cX2_goOn 6 none (5 + 3 * n) E (hI E ad rl o h e p) [.ref (ad 0), .int x1, .int x2] (fun q : Mem × Mem × Mem => (none, hI E ad rl q.1 q.2.1 q.2.2 p)) (kn_igo N rl p n true x1 x2 o h e)) ∧ (∀ (x1 : Int32) (x2 : Int32) (o : Mem) (h : Mem) (e : Mem), Ct l yX2_beginItem cX2_beginItem 3 none (5 + 3 * n) E (hI E ad rl o h e p) [.ref (ad 0), .int x1, .int x2] (fun q : Mem × Mem × Mem => (none, hI E ad rl q.1 q.2.1 q.2.2 p)) (kn_igo N rl p n false x1 x2 o h e)) := by
  induction n with
  | zero => exact ⟨fun _ _ _ _ _ => fun h => (by cases h), fun _ _ _ _ _ => fun h => (by cases h)⟩
  | succ n ih => exact ⟨fun _ _ _ _ _ => c_in_goOn (by omega) (Nat.le_add_right _ _) ih.1 ih.2, fun _ _ _ _ _ => c_in_beginItem (by omega) (Nat.le_add_right _ _) ih.1 ih.2⟩
theorem ck1_igo {l : Launch} {E : Ev} {ad : Nat → Nat} {N : Nat} {rl : Nat} {p : Mem} (n : Nat) : ∀ (x1 : Int32) (x2 : Int32) (o : Mem) (h : Mem) (e : Mem), Ct l yX2_goOn cX2_goOn 6 none (5 + 3 * n) E (hI E ad rl o h e p) [.ref (ad 0), .int x1, .int x2] (fun q : Mem × Mem × Mem => (none, hI E ad rl q.1 q.2.1 q.2.2 p)) (kn_igo N rl p n true x1 x2 o h e) := (cka_igo n).1
theorem ck2_igo {l : Launch} {E : Ev} {ad : Nat → Nat} {N : Nat} {rl : Nat} {p : Mem} (n : Nat) : ∀ (x1 : Int32) (x2 : Int32) (o : Mem) (h : Mem) (e : Mem), Ct l yX2_beginItem cX2_beginItem 3 none (5 + 3 * n) E (hI E ad rl o h e p) [.ref (ad 0), .int x1, .int x2] (fun q : Mem × Mem × Mem => (none, hI E ad rl q.1 q.2.1 q.2.2 p)) (kn_igo N rl p n false x1 x2 o h e) := (cka_igo n).2
def in_look_65 (N : Nat) (D : Nat) (rl : Nat) (p : Mem)   (o : Mem) (h : Mem) (e : Mem) : Option (Mem × Mem × Mem) :=
  if o 0 3 = 2 then
    ((in_reversesAll N rl p 24 o h e).bind fun (k76, o76, h76, e76) =>
    if k76 = true then
      (if 0 < o76 0 8 then
        ((in_become rl e76 4 o76 h76).bind fun (o95, h95) =>
        some (o95, h95, e76))
      else
        ((in_become rl e76 3 o76 h76).bind fun (o95, h95) =>
        some (o95, h95, e76)))
    else
      (some (o76, h76, e76)))
  else
    (some (o, h, e))
set_option maxHeartbeats 400000 in
set_option maxRecDepth 100000 in
theorem w_in_look_65 {l : Launch} {E : Ev} {ad : Nat → Nat} {A : Nat → Prop} {d : Nat} {N : Nat} {D : Nat} {rl : Nat} {p : Mem}  (hd : 3 * D + 9 ≤ d)  (o : Mem) (h : Mem) (e : Mem) : Bd l E A RX2 cX2_look 1 none d (fun q : Mem × Mem × Mem => (none, hI E ad rl q.1 q.2.1 q.2.2 p)) 65 [(0, .ref (ad 0))] [] (hI E ad rl o h e p) (in_look_65 N D rl p o h e) := by
  unfold in_look_65
  refine b_aload_n (n := 66) 0 dX2_look_65 rfl rfl rfl ?_
  refine b_get (n := 69) (v := .int (o 0 3)) 0 f_X2_9 dX2_look_66 rfl hI_o0 rfl ?_
  refine b_iconst (n := 70) (v := 2) dX2_look_69 rfl (by decide) ?_
  refine b_cmp_ne (n := 73) (tgt := 98) dX2_look_70 (by decide) rfl (fun h70 => ?_) (fun h70 => ?_)
  · refine b_aload_n (n := 74) 0 dX2_look_73 rfl rfl rfl ?_
    refine b_bipush (n := 76) (v := 24) dX2_look_74 rfl (by decide) ?_
    refine bV0wb (n := 79) (hh := (fun s : Mem × Mem × Mem => hI E ad rl s.1 s.2.1 s.2.2 p)) (As := [.int 24]) (rest := []) 0 lk_X2_111 (c_in_reversesAll (Nat.le_refl _)) (by omega) (fun _ => rfl) rfl rfl rfl rfl (Nat.le_of_ble_eq_true rfl) dX2_look_76 rfl ?_
    rintro k76 ⟨o76, h76, e76⟩
    try dsimp only
    refine b_bz (n := 82) (tgt := 98) dX2_look_79 (by decide) rfl (fun h79 => ?_) (fun h79 => ?_)
    · refine b_aload_n (n := 83) 0 dX2_look_82 rfl rfl rfl ?_
      refine b_aload_n (n := 84) 0 dX2_look_83 rfl rfl rfl ?_
      refine b_get (n := 87) (v := .int (o76 0 8)) 0 f_X2_72 dX2_look_84 rfl hI_o0 rfl ?_
      refine b_if_le (n := 90) (tgt := 94) dX2_look_87 (by decide) rfl (fun h87 => ?_) (fun h87 => ?_)
      · refine b_iconst (n := 91) (v := 4) dX2_look_90 rfl (by decide) ?_
        refine b_goto (n := 95) dX2_look_91 (by decide) ?_
        refine bV0wv (n := 98) (hh := (fun s : Mem × Mem => hI E ad rl s.1 s.2 e76 p)) (As := [.int 4]) (rest := []) 0 lk_X2_107 (c_in_become (Nat.le_refl _)) (by omega) (fun _ => rfl) rfl rfl rfl rfl (Nat.le_of_ble_eq_true rfl) dX2_look_95 rfl ?_
        rintro ⟨o95, h95⟩
        try dsimp only
        exact b_vret dX2_look_98 rfl rfl
      · refine b_iconst (n := 95) (v := 3) dX2_look_94 rfl (by decide) ?_
        refine bV0wv (n := 98) (hh := (fun s : Mem × Mem => hI E ad rl s.1 s.2 e76 p)) (As := [.int 3]) (rest := []) 0 lk_X2_107 (c_in_become (Nat.le_refl _)) (by omega) (fun _ => rfl) rfl rfl rfl rfl (Nat.le_of_ble_eq_true rfl) dX2_look_95 rfl ?_
        rintro ⟨o95, h95⟩
        try dsimp only
        exact b_vret dX2_look_98 rfl rfl
    · exact b_vret dX2_look_98 rfl rfl
  · exact b_vret dX2_look_98 rfl rfl
def in_look_35 (N : Nat) (D : Nat) (rl : Nat) (p : Mem)   (o : Mem) (h : Mem) (e : Mem) : Option (Mem × Mem × Mem) :=
  if o 0 3 = 0 then
    ((rd 24 (o 19) 0).bind fun v47 =>
    if v47 = 5 then
      ((in_become rl e 2 o h).bind fun (o54, h54) =>
      ck 25 24 <|
      in_look_65 N D rl p (up o54 24 (24 : Int32).toNatClampNeg ((-1))) h54 e)
    else
      (in_look_65 N D rl p o h e))
  else
    (in_look_65 N D rl p o h e)
set_option maxHeartbeats 400000 in
set_option maxRecDepth 100000 in
theorem w_in_look_35 {l : Launch} {E : Ev} {ad : Nat → Nat} {A : Nat → Prop} {d : Nat} {N : Nat} {D : Nat} {rl : Nat} {p : Mem}  (hd : 3 * D + 9 ≤ d)  (o : Mem) (h : Mem) (e : Mem) : Bd l E A RX2 cX2_look 1 none d (fun q : Mem × Mem × Mem => (none, hI E ad rl q.1 q.2.1 q.2.2 p)) 35 [(0, .ref (ad 0))] [] (hI E ad rl o h e p) (in_look_35 N D rl p o h e) := by
  unfold in_look_35
  refine b_aload_n (n := 36) 0 dX2_look_35 rfl rfl rfl ?_
  refine b_get (n := 39) (v := .int (o 0 3)) 0 f_X2_9 dX2_look_36 rfl hI_o0 rfl ?_
  refine b_if_ne (n := 42) (tgt := 65) dX2_look_39 (by decide) rfl (fun h39 => ?_) (fun h39 => ?_)
  · refine b_aload_n (n := 43) 0 dX2_look_42 rfl rfl rfl ?_
    refine b_get (n := 46) (v := .ref (ad 19)) 0 f_X2_25 dX2_look_43 rfl hI_o0 rfl ?_
    refine b_iconst (n := 47) (v := 0) dX2_look_46 rfl (by decide) ?_
    refine b_iald (n := 48) 9 dX2_look_47 rfl hI_a19 (fun v47 => ?_)
    refine b_iconst (n := 49) (v := 5) dX2_look_48 rfl (by decide) ?_
    refine b_cmp_ne (n := 52) (tgt := 65) dX2_look_49 (by decide) rfl (fun h49 => ?_) (fun h49 => ?_)
    · refine b_aload_n (n := 53) 0 dX2_look_52 rfl rfl rfl ?_
      refine b_iconst (n := 54) (v := 2) dX2_look_53 rfl (by decide) ?_
      refine bV0wv (n := 57) (hh := (fun s : Mem × Mem => hI E ad rl s.1 s.2 e p)) (As := [.int 2]) (rest := []) 0 lk_X2_107 (c_in_become (Nat.le_refl _)) (by omega) (fun _ => rfl) rfl rfl rfl rfl (Nat.le_of_ble_eq_true rfl) dX2_look_54 rfl ?_
      rintro ⟨o54, h54⟩
      try dsimp only
      refine b_aload_n (n := 58) 0 dX2_look_57 rfl rfl rfl ?_
      refine b_get (n := 61) (v := .ref (ad 24)) 0 f_X2_40 dX2_look_58 rfl hI_o0 rfl ?_
      refine b_bipush (n := 63) (v := 24) dX2_look_61 rfl (by decide) ?_
      refine b_iconst (n := 64) (v := -1) dX2_look_63 rfl (by decide) ?_
      refine b_iast (n := 65) (ws' := hI E ad rl (up o54 24 (24 : Int32).toNatClampNeg ((-1))) h54 e p) 14 dX2_look_64 rfl hI_a24 hI_s24 ?_
      exact w_in_look_65 hd _ _ _
    · exact w_in_look_65 hd _ _ _
  · exact w_in_look_65 hd _ _ _
def in_look_13 (N : Nat) (D : Nat) (rl : Nat) (p : Mem)   (o : Mem) (h : Mem) (e : Mem) : Option (Mem × Mem × Mem) :=
  if o 0 3 = 0 then
    ((rd 24 (o 19) 0).bind fun v25 =>
    if v25 = 4 then
      ((in_become rl e 1 o h).bind fun (o32, h32) =>
      in_look_35 N D rl p o32 h32 e)
    else
      (in_look_35 N D rl p o h e))
  else
    (in_look_35 N D rl p o h e)
set_option maxHeartbeats 400000 in
set_option maxRecDepth 100000 in
theorem w_in_look_13 {l : Launch} {E : Ev} {ad : Nat → Nat} {A : Nat → Prop} {d : Nat} {N : Nat} {D : Nat} {rl : Nat} {p : Mem}  (hd : 3 * D + 9 ≤ d)  (o : Mem) (h : Mem) (e : Mem) : Bd l E A RX2 cX2_look 1 none d (fun q : Mem × Mem × Mem => (none, hI E ad rl q.1 q.2.1 q.2.2 p)) 13 [(0, .ref (ad 0))] [] (hI E ad rl o h e p) (in_look_13 N D rl p o h e) := by
  unfold in_look_13
  refine b_aload_n (n := 14) 0 dX2_look_13 rfl rfl rfl ?_
  refine b_get (n := 17) (v := .int (o 0 3)) 0 f_X2_9 dX2_look_14 rfl hI_o0 rfl ?_
  refine b_if_ne (n := 20) (tgt := 35) dX2_look_17 (by decide) rfl (fun h17 => ?_) (fun h17 => ?_)
  · refine b_aload_n (n := 21) 0 dX2_look_20 rfl rfl rfl ?_
    refine b_get (n := 24) (v := .ref (ad 19)) 0 f_X2_25 dX2_look_21 rfl hI_o0 rfl ?_
    refine b_iconst (n := 25) (v := 0) dX2_look_24 rfl (by decide) ?_
    refine b_iald (n := 26) 9 dX2_look_25 rfl hI_a19 (fun v25 => ?_)
    refine b_iconst (n := 27) (v := 4) dX2_look_26 rfl (by decide) ?_
    refine b_cmp_ne (n := 30) (tgt := 35) dX2_look_27 (by decide) rfl (fun h27 => ?_) (fun h27 => ?_)
    · refine b_aload_n (n := 31) 0 dX2_look_30 rfl rfl rfl ?_
      refine b_iconst (n := 32) (v := 1) dX2_look_31 rfl (by decide) ?_
      refine bV0wv (n := 35) (hh := (fun s : Mem × Mem => hI E ad rl s.1 s.2 e p)) (As := [.int 1]) (rest := []) 0 lk_X2_107 (c_in_become (Nat.le_refl _)) (by omega) (fun _ => rfl) rfl rfl rfl rfl (Nat.le_of_ble_eq_true rfl) dX2_look_32 rfl ?_
      rintro ⟨o32, h32⟩
      try dsimp only
      exact w_in_look_35 hd _ _ _
    · exact w_in_look_35 hd _ _ _
  · exact w_in_look_35 hd _ _ _
def in_look (N : Nat) (D : Nat) (rl : Nat) (p : Mem)  (o : Mem) (h : Mem) (e : Mem) : Option (Mem × Mem × Mem) :=
  if o 0 3 = 0 then
    ((in_goOn N rl p (kn_igo N rl p D) 0 0 o h e).bind fun (o10, h10, e10) =>
    in_look_13 N D rl p o10 h10 e10)
  else
    (in_look_13 N D rl p o h e)
set_option maxHeartbeats 400000 in
set_option maxRecDepth 100000 in
theorem c_in_look {l : Launch} {E : Ev} {ad : Nat → Nat} {d : Nat} {N : Nat} {D : Nat} {rl : Nat} {p : Mem}  {o : Mem} {h : Mem} {e : Mem} (hd : 3 * D + 9 ≤ d) : Ct l yX2_look cX2_look 1 none d E (hI E ad rl o h e p) [.ref (ad 0)] (fun q : Mem × Mem × Mem => (none, hI E ad rl q.1 q.2.1 q.2.2 p)) (in_look N D rl p o h e) := by
  refine Ct.of2 (own := RX2) (L := [(0, .ref (ad 0))]) rfl (by decide +kernel) (Nat.le_of_ble_eq_true rfl) rfl ?_
  unfold in_look
  refine b_aload_n (n := 1) 0 dX2_look_0 rfl rfl rfl ?_
  refine b_get (n := 4) (v := .int (o 0 3)) 0 f_X2_9 dX2_look_1 rfl hI_o0 rfl ?_
  refine b_if_ne (n := 7) (tgt := 13) dX2_look_4 (by decide) rfl (fun h4 => ?_) (fun h4 => ?_)
  · refine b_aload_n (n := 8) 0 dX2_look_7 rfl rfl rfl ?_
    refine b_iconst (n := 9) (v := 0) dX2_look_8 rfl (by decide) ?_
    refine b_iconst (n := 10) (v := 0) dX2_look_9 rfl (by decide) ?_
    refine bV0wv (n := 13) (hh := (fun s : Mem × Mem × Mem => hI E ad rl s.1 s.2.1 s.2.2 p)) (As := [.int 0, .int 0]) (rest := []) 0 lk_X2_104 (c_in_goOn (Nat.le_refl _) (Nat.le_add_right _ _) (ck1_igo D) (ck2_igo D)) (by omega) (fun _ => rfl) rfl rfl rfl rfl (Nat.le_of_ble_eq_true rfl) dX2_look_10 rfl ?_
    rintro ⟨o10, h10, e10⟩
    try dsimp only
    exact w_in_look_13 hd _ _ _
  · exact w_in_look_13 hd _ _ _
def in_giveUp (N : Nat) (D : Nat) (rl : Nat) (p : Mem)  (o : Mem) (h : Mem) (e : Mem) : Option (Mem × Mem × Mem) :=
  (in_cancel N 0 24 o).bind fun o4 =>
  ck 24 0 <|
  (in_look N D rl p (up o4 19 (0 : Int32).toNatClampNeg 5) h e).bind fun (o15, h15, e15) =>
  some (o15, h15, e15)
set_option maxHeartbeats 400000 in
set_option maxRecDepth 100000 in
theorem c_in_giveUp {l : Launch} {E : Ev} {ad : Nat → Nat} {d : Nat} {N : Nat} {D : Nat} {rl : Nat} {p : Mem}  {o : Mem} {h : Mem} {e : Mem} (hd : 3 * D + 10 ≤ d) : Ct l yX2_giveUp cX2_giveUp 1 none d E (hI E ad rl o h e p) [.ref (ad 0)] (fun q : Mem × Mem × Mem => (none, hI E ad rl q.1 q.2.1 q.2.2 p)) (in_giveUp N D rl p o h e) := by
  refine Ct.of2 (own := RX2) (L := [(0, .ref (ad 0))]) rfl (by decide +kernel) (Nat.le_of_ble_eq_true rfl) rfl ?_
  unfold in_giveUp
  refine b_aload_n (n := 1) 0 dX2_giveUp_0 rfl rfl rfl ?_
  refine b_iconst (n := 2) (v := 0) dX2_giveUp_1 rfl (by decide) ?_
  refine b_bipush (n := 4) (v := 24) dX2_giveUp_2 rfl (by decide) ?_
  refine bV0wv (n := 7) (hh := (fun s : Mem => hI E ad rl s h e p)) (As := [.int 0, .int 24]) (rest := []) 0 lk_X2_115 (c_in_cancel (Nat.le_refl _)) (by omega) (fun _ => rfl) rfl rfl rfl rfl (Nat.le_of_ble_eq_true rfl) dX2_giveUp_4 rfl ?_
  rintro o4
  try dsimp only
  refine b_aload_n (n := 8) 0 dX2_giveUp_7 rfl rfl rfl ?_
  refine b_get (n := 11) (v := .ref (ad 19)) 0 f_X2_25 dX2_giveUp_8 rfl hI_o0 rfl ?_
  refine b_iconst (n := 12) (v := 0) dX2_giveUp_11 rfl (by decide) ?_
  refine b_iconst (n := 13) (v := 5) dX2_giveUp_12 rfl (by decide) ?_
  refine b_iast (n := 14) (ws' := hI E ad rl (up o4 19 (0 : Int32).toNatClampNeg 5) h e p) 9 dX2_giveUp_13 rfl hI_a19 hI_s19 ?_
  refine b_aload_n (n := 15) 0 dX2_giveUp_14 rfl rfl rfl ?_
  refine bV0wv (n := 18) (hh := (fun s : Mem × Mem × Mem => hI E ad rl s.1 s.2.1 s.2.2 p)) (As := []) (rest := []) 0 lk_X2_101 (c_in_look (Nat.le_refl _)) (by omega) (fun _ => rfl) rfl rfl rfl rfl (Nat.le_of_ble_eq_true rfl) dX2_giveUp_15 rfl ?_
  rintro ⟨o15, h15, e15⟩
  try dsimp only
  exact b_vret dX2_giveUp_18 rfl rfl
def in_isRunning (p : Mem) (o : Mem) (x1 : Int32)  : Option (Bool) :=
  (rd 24 (p 7) x1).bind fun v8 =>
  (in_goesOn o x1).bind fun k12 =>
  if k12 = true then
    (if v8 = 4 then
      (some false)
    else
      (if v8 = 5 then
        (some false)
      else
        (some true)))
  else
    (some false)
set_option maxHeartbeats 400000 in
set_option maxRecDepth 100000 in
theorem c_in_isRunning {l : Launch} {E : Ev} {ad : Nat → Nat} {d : Nat}  {rl : Nat} {o : Mem} {h : Mem} {e : Mem} {p : Mem} {x1 : Int32}  (hd : 2 ≤ d) : Ct l yX2_isRunning cX2_isRunning 3 (some .boolean) d E (hI E ad rl o h e p) [.ref (ad 0), .int x1] (fun v : Bool => (some (.int (b2i v)), hI E ad rl o h e p)) (in_isRunning p o x1) := by
  refine Ct.of2 (own := RX2) (L := [(0, .ref (ad 0)), (1, .int x1)]) rfl (by decide +kernel) (Nat.le_of_ble_eq_true rfl) rfl ?_
  unfold in_isRunning
  refine b_aload_n (n := 1) 0 dX2_isRunning_0 rfl rfl rfl ?_
  refine b_get (n := 4) (v := .ref (ad 6)) 0 f_X2_47 dX2_isRunning_1 rfl hI_o0 rfl ?_
  refine b_get (n := 7) (v := .ref (ad 7)) 15 f_X2_144 dX2_isRunning_4 rfl hI_o6 rfl ?_
  refine b_iload_n (n := 8) 1 dX2_isRunning_7 rfl rfl rfl ?_
  refine b_iald (n := 9) 16 dX2_isRunning_8 rfl hI_a7 (fun v8 => ?_)
  refine b_istore_n (n := 10) (L' := [(2, .int v8), (0, .ref (ad 0)), (1, .int x1)]) dX2_isRunning_9 rfl rfl (Nat.le_of_ble_eq_true rfl) rfl ?_
  refine b_aload_n (n := 11) 1 dX2_isRunning_10 rfl rfl rfl ?_
  refine b_iload_n (n := 12) 2 dX2_isRunning_11 rfl rfl rfl ?_
  refine bV0b (n := 15) (As := [.int x1]) (rest := []) 0 lk_X2_135 (c_in_goesOn (Nat.le_refl _)) (by omega) rfl rfl rfl rfl (Nat.le_of_ble_eq_true rfl) dX2_isRunning_12 rfl (fun k12 => ?_)
  refine b_bz (n := 18) (tgt := 32) dX2_isRunning_15 (by decide) rfl (fun h15 => ?_) (fun h15 => ?_)
  · refine b_iload_n (n := 19) 0 dX2_isRunning_18 rfl rfl rfl ?_
    refine b_iconst (n := 20) (v := 4) dX2_isRunning_19 rfl (by decide) ?_
    refine b_cmp_eq (n := 23) (tgt := 32) dX2_isRunning_20 (by decide) rfl (fun h20 => ?_) (fun h20 => ?_)
    · refine b_iconst (n := 33) (v := 0) dX2_isRunning_32 rfl (by decide) ?_
      exact b_zret (b := false) dX2_isRunning_33 rfl rfl
    · refine b_iload_n (n := 24) 0 dX2_isRunning_23 rfl rfl rfl ?_
      refine b_iconst (n := 25) (v := 5) dX2_isRunning_24 rfl (by decide) ?_
      refine b_cmp_eq (n := 28) (tgt := 32) dX2_isRunning_25 (by decide) rfl (fun h25 => ?_) (fun h25 => ?_)
      · refine b_iconst (n := 33) (v := 0) dX2_isRunning_32 rfl (by decide) ?_
        exact b_zret (b := false) dX2_isRunning_33 rfl rfl
      · refine b_iconst (n := 29) (v := 1) dX2_isRunning_28 rfl (by decide) ?_
        refine b_goto (n := 33) dX2_isRunning_29 (by decide) ?_
        exact b_zret (b := true) dX2_isRunning_33 rfl rfl
  · refine b_iconst (n := 33) (v := 0) dX2_isRunning_32 rfl (by decide) ?_
    exact b_zret (b := false) dX2_isRunning_33 rfl rfl
def in_runningItems_4 (N : Nat) (p : Mem) (o : Mem)  : Nat → Int32 → Int32 → Option (Int32)
  | 0, _, _ => none
  | n + 1, y1, y2 =>
    if y2 < 24 then
      ((in_isRunning p o y2).bind fun k12 =>
      if k12 = true then
        (in_runningItems_4 N p o n (y1 + 1) (y2 + 1))
      else
        (in_runningItems_4 N p o n y1 (y2 + 1)))
    else
      (some y1)
set_option maxHeartbeats 400000 in
set_option maxRecDepth 100000 in
theorem w_in_runningItems_4 {l : Launch} {E : Ev} {ad : Nat → Nat} {A : Nat → Prop} {d : Nat} {N : Nat} {rl : Nat} {o : Mem} {h : Mem} {e : Mem} {p : Mem}  (hd : 3 ≤ d)  (n : Nat) : ∀ (y1 : Int32) (y2 : Int32), Bd l E A RX2 cX2_runningItems 3 (some .int) d (fun v : Int32 => (some (.int v), hI E ad rl o h e p)) 4 [(0, .ref (ad 0)), (1, .int y1), (2, .int y2)] [] (hI E ad rl o h e p) (in_runningItems_4 N p o n y1 y2) := by
  induction n with
  | zero => intro y1 y2; exact b_none
  | succ n ih =>
    intro y1 y2
    rw [in_runningItems_4]
    refine b_iload_n (n := 5) 2 dX2_runningItems_4 rfl rfl rfl ?_
    refine b_bipush (n := 7) (v := 24) dX2_runningItems_5 rfl (by decide) ?_
    refine b_cmp_ge (n := 10) (tgt := 27) dX2_runningItems_7 (by decide) rfl (fun h7 => ?_) (fun h7 => ?_)
    · refine b_aload_n (n := 11) 0 dX2_runningItems_10 rfl rfl rfl ?_
      refine b_iload_n (n := 12) 2 dX2_runningItems_11 rfl rfl rfl ?_
      refine bV0b (n := 15) (As := [.int y2]) (rest := []) 0 lk_X2_235 (c_in_isRunning (Nat.le_refl _)) (by omega) rfl rfl rfl rfl (Nat.le_of_ble_eq_true rfl) dX2_runningItems_12 rfl (fun k12 => ?_)
      refine b_bz (n := 18) (tgt := 21) dX2_runningItems_15 (by decide) rfl (fun h15 => ?_) (fun h15 => ?_)
      · refine b_iinc (n := 21) (L' := [(1, .int (y1 + 1)), (0, .ref (ad 0)), (2, .int y2)]) 1 1 dX2_runningItems_18 rfl rfl (by decide) (Nat.le_of_ble_eq_true rfl) rfl ?_
        refine b_iinc (n := 24) (L' := [(2, .int (y2 + 1)), (1, .int (y1 + 1)), (0, .ref (ad 0))]) 2 1 dX2_runningItems_21 rfl rfl (by decide) (Nat.le_of_ble_eq_true rfl) rfl ?_
        refine b_goto (n := 4) dX2_runningItems_24 (by decide) ?_
        refine Bd.sub (L' := [(0, .ref (ad 0)), (1, .int (y1 + 1)), (2, .int (y2 + 1))]) [2, 1, 0] rfl ?_
        exact ih _ _
      · refine b_iinc (n := 24) (L' := [(2, .int (y2 + 1)), (0, .ref (ad 0)), (1, .int y1)]) 2 1 dX2_runningItems_21 rfl rfl (by decide) (Nat.le_of_ble_eq_true rfl) rfl ?_
        refine b_goto (n := 4) dX2_runningItems_24 (by decide) ?_
        refine Bd.sub (L' := [(0, .ref (ad 0)), (1, .int y1), (2, .int (y2 + 1))]) [1, 2, 0] rfl ?_
        exact ih _ _
    · refine b_iload_n (n := 28) 1 dX2_runningItems_27 rfl rfl rfl ?_
      exact b_iret dX2_runningItems_28 rfl rfl
def in_runningItems (N : Nat) (p : Mem) (o : Mem)   : Option (Int32) :=
  in_runningItems_4 N p o N 0 0
set_option maxHeartbeats 400000 in
set_option maxRecDepth 100000 in
theorem c_in_runningItems {l : Launch} {E : Ev} {ad : Nat → Nat} {d : Nat} {N : Nat} {rl : Nat} {o : Mem} {h : Mem} {e : Mem} {p : Mem}   (hd : 3 ≤ d) : Ct l yX2_runningItems cX2_runningItems 3 (some .int) d E (hI E ad rl o h e p) [.ref (ad 0)] (fun v : Int32 => (some (.int v), hI E ad rl o h e p)) (in_runningItems N p o) := by
  refine Ct.of2 (own := RX2) (L := [(0, .ref (ad 0))]) rfl (by decide +kernel) (Nat.le_of_ble_eq_true rfl) rfl ?_
  unfold in_runningItems
  refine b_iconst (n := 1) (v := 0) dX2_runningItems_0 rfl (by decide) ?_
  refine b_istore_n (n := 2) (L' := [(1, .int 0), (0, .ref (ad 0))]) dX2_runningItems_1 rfl rfl (Nat.le_of_ble_eq_true rfl) rfl ?_
  refine b_iconst (n := 3) (v := 0) dX2_runningItems_2 rfl (by decide) ?_
  refine b_istore_n (n := 4) (L' := [(2, .int 0), (1, .int 0), (0, .ref (ad 0))]) dX2_runningItems_3 rfl rfl (Nat.le_of_ble_eq_true rfl) rfl ?_
  refine Bd.sub (L' := [(0, .ref (ad 0)), (1, .int 0), (2, .int 0)]) [2, 1, 0] rfl ?_
  exact w_in_runningItems_4 hd _ _ _
def in_placeOfRunning_4 (N : Nat) (p : Mem) (o : Mem)  : Nat → Int32 → Int32 → Int32 → Option (Int32)
  | 0, _, _, _ => none
  | n + 1, y1, y2, y3 =>
    if y3 < 24 then
      ((in_isRunning p o y3).bind fun k12 =>
      if k12 = true then
        (if y2 = y1 then
          ((rd 24 (p 8) y3).bind fun v31 =>
          some v31)
        else
          (in_placeOfRunning_4 N p o n y1 (y2 + 1) (y3 + 1)))
      else
        (in_placeOfRunning_4 N p o n y1 y2 (y3 + 1)))
    else
      (some ((-1)))
set_option maxHeartbeats 400000 in
set_option maxRecDepth 100000 in
theorem w_in_placeOfRunning_4 {l : Launch} {E : Ev} {ad : Nat → Nat} {A : Nat → Prop} {d : Nat} {N : Nat} {rl : Nat} {o : Mem} {h : Mem} {e : Mem} {p : Mem}  (hd : 3 ≤ d)  (n : Nat) : ∀ (y1 : Int32) (y2 : Int32) (y3 : Int32), Bd l E A RX2 cX2_placeOfRunning 4 (some .int) d (fun v : Int32 => (some (.int v), hI E ad rl o h e p)) 4 [(0, .ref (ad 0)), (1, .int y1), (2, .int y2), (3, .int y3)] [] (hI E ad rl o h e p) (in_placeOfRunning_4 N p o n y1 y2 y3) := by
  induction n with
  | zero => intro y1 y2 y3; exact b_none
  | succ n ih =>
    intro y1 y2 y3
    rw [in_placeOfRunning_4]
    refine b_iload_n (n := 5) 3 dX2_placeOfRunning_4 rfl rfl rfl ?_
    refine b_bipush (n := 7) (v := 24) dX2_placeOfRunning_5 rfl (by decide) ?_
    refine b_cmp_ge (n := 10) (tgt := 42) dX2_placeOfRunning_7 (by decide) rfl (fun h7 => ?_) (fun h7 => ?_)
    · refine b_aload_n (n := 11) 0 dX2_placeOfRunning_10 rfl rfl rfl ?_
      refine b_iload_n (n := 12) 3 dX2_placeOfRunning_11 rfl rfl rfl ?_
      refine bV0b (n := 15) (As := [.int y3]) (rest := []) 0 lk_X2_235 (c_in_isRunning (Nat.le_refl _)) (by omega) rfl rfl rfl rfl (Nat.le_of_ble_eq_true rfl) dX2_placeOfRunning_12 rfl (fun k12 => ?_)
      refine b_bz (n := 18) (tgt := 36) dX2_placeOfRunning_15 (by decide) rfl (fun h15 => ?_) (fun h15 => ?_)
      · refine b_iload_n (n := 19) 2 dX2_placeOfRunning_18 rfl rfl rfl ?_
        refine b_iload_n (n := 20) 1 dX2_placeOfRunning_19 rfl rfl rfl ?_
        refine b_cmp_ne (n := 23) (tgt := 33) dX2_placeOfRunning_20 (by decide) rfl (fun h20 => ?_) (fun h20 => ?_)
        · refine b_aload_n (n := 24) 0 dX2_placeOfRunning_23 rfl rfl rfl ?_
          refine b_get (n := 27) (v := .ref (ad 6)) 0 f_X2_47 dX2_placeOfRunning_24 rfl hI_o0 rfl ?_
          refine b_get (n := 30) (v := .ref (ad 8)) 15 f_X2_238 dX2_placeOfRunning_27 rfl hI_o6 rfl ?_
          refine b_iload_n (n := 31) 3 dX2_placeOfRunning_30 rfl rfl rfl ?_
          refine b_iald (n := 32) 17 dX2_placeOfRunning_31 rfl hI_a8 (fun v31 => ?_)
          exact b_iret dX2_placeOfRunning_32 rfl rfl
        · refine b_iinc (n := 36) (L' := [(2, .int (y2 + 1)), (0, .ref (ad 0)), (1, .int y1), (3, .int y3)]) 2 1 dX2_placeOfRunning_33 rfl rfl (by decide) (Nat.le_of_ble_eq_true rfl) rfl ?_
          refine b_iinc (n := 39) (L' := [(3, .int (y3 + 1)), (2, .int (y2 + 1)), (0, .ref (ad 0)), (1, .int y1)]) 3 1 dX2_placeOfRunning_36 rfl rfl (by decide) (Nat.le_of_ble_eq_true rfl) rfl ?_
          refine b_goto (n := 4) dX2_placeOfRunning_39 (by decide) ?_
          refine Bd.sub (L' := [(0, .ref (ad 0)), (1, .int y1), (2, .int (y2 + 1)), (3, .int (y3 + 1))]) [2, 3, 1, 0] rfl ?_
          exact ih _ _ _
      · refine b_iinc (n := 39) (L' := [(3, .int (y3 + 1)), (0, .ref (ad 0)), (1, .int y1), (2, .int y2)]) 3 1 dX2_placeOfRunning_36 rfl rfl (by decide) (Nat.le_of_ble_eq_true rfl) rfl ?_
        refine b_goto (n := 4) dX2_placeOfRunning_39 (by decide) ?_
        refine Bd.sub (L' := [(0, .ref (ad 0)), (1, .int y1), (2, .int y2), (3, .int (y3 + 1))]) [1, 2, 3, 0] rfl ?_
        exact ih _ _ _
    · refine b_iconst (n := 43) (v := -1) dX2_placeOfRunning_42 rfl (by decide) ?_
      exact b_iret dX2_placeOfRunning_43 rfl rfl
def in_placeOfRunning (N : Nat) (p : Mem) (o : Mem) (x1 : Int32)  : Option (Int32) :=
  in_placeOfRunning_4 N p o N x1 0 0
set_option maxHeartbeats 400000 in
set_option maxRecDepth 100000 in
theorem c_in_placeOfRunning {l : Launch} {E : Ev} {ad : Nat → Nat} {d : Nat} {N : Nat} {rl : Nat} {o : Mem} {h : Mem} {e : Mem} {p : Mem} {x1 : Int32}  (hd : 3 ≤ d) : Ct l yX2_placeOfRunning cX2_placeOfRunning 4 (some .int) d E (hI E ad rl o h e p) [.ref (ad 0), .int x1] (fun v : Int32 => (some (.int v), hI E ad rl o h e p)) (in_placeOfRunning N p o x1) := by
  refine Ct.of2 (own := RX2) (L := [(0, .ref (ad 0)), (1, .int x1)]) rfl (by decide +kernel) (Nat.le_of_ble_eq_true rfl) rfl ?_
  unfold in_placeOfRunning
  refine b_iconst (n := 1) (v := 0) dX2_placeOfRunning_0 rfl (by decide) ?_
  refine b_istore_n (n := 2) (L' := [(2, .int 0), (0, .ref (ad 0)), (1, .int x1)]) dX2_placeOfRunning_1 rfl rfl (Nat.le_of_ble_eq_true rfl) rfl ?_
  refine b_iconst (n := 3) (v := 0) dX2_placeOfRunning_2 rfl (by decide) ?_
  refine b_istore_n (n := 4) (L' := [(3, .int 0), (2, .int 0), (0, .ref (ad 0)), (1, .int x1)]) dX2_placeOfRunning_3 rfl rfl (Nat.le_of_ble_eq_true rfl) rfl ?_
  refine Bd.sub (L' := [(0, .ref (ad 0)), (1, .int x1), (2, .int 0), (3, .int 0)]) [2, 3, 1, 0] rfl ?_
  exact w_in_placeOfRunning_4 hd _ _ _ _
def in_nextMinute_23 (N : Nat) (o : Mem)  : Nat → Int32 → Int32 → Option (Int32)
  | 0, _, _ => none
  | n + 1, y1, y2 =>
    if y2 < 24 then
      ((in_goesOn o y2).bind fun k31 =>
      if k31 = true then
        ((rd 25 (o 22) y2).bind fun v43 =>
        in_nextMinute_23 N o n (if v43 < y1 then v43 else y1) (y2 + 1))
      else
        (in_nextMinute_23 N o n y1 (y2 + 1)))
    else
      (if y1 = 1000000000 then
        (some ((-5)))
      else
        (some y1))
set_option maxHeartbeats 400000 in
set_option maxRecDepth 100000 in
theorem w_in_nextMinute_23 {l : Launch} {E : Ev} {ad : Nat → Nat} {A : Nat → Prop} {d : Nat} {N : Nat} {rl : Nat} {o : Mem} {h : Mem} {e : Mem} {p : Mem}  (hd : 2 ≤ d)  (n : Nat) : ∀ (y1 : Int32) (y2 : Int32), Bd l E A RX2 cX2_nextMinute 3 (some .int) d (fun v : Int32 => (some (.int v), hI E ad rl o h e p)) 23 [(0, .ref (ad 0)), (1, .int y1), (2, .int y2)] [] (hI E ad rl o h e p) (in_nextMinute_23 N o n y1 y2) := by
  induction n with
  | zero => intro y1 y2; exact b_none
  | succ n ih =>
    intro y1 y2
    rw [in_nextMinute_23]
    refine b_iload_n (n := 24) 2 dX2_nextMinute_23 rfl rfl rfl ?_
    refine b_bipush (n := 26) (v := 24) dX2_nextMinute_24 rfl (by decide) ?_
    refine b_cmp_ge (n := 29) (tgt := 54) dX2_nextMinute_26 (by decide) rfl (fun h26 => ?_) (fun h26 => ?_)
    · refine b_aload_n (n := 30) 0 dX2_nextMinute_29 rfl rfl rfl ?_
      refine b_iload_n (n := 31) 2 dX2_nextMinute_30 rfl rfl rfl ?_
      refine bV0b (n := 34) (As := [.int y2]) (rest := []) 0 lk_X2_135 (c_in_goesOn (Nat.le_refl _)) (by omega) rfl rfl rfl rfl (Nat.le_of_ble_eq_true rfl) dX2_nextMinute_31 rfl (fun k31 => ?_)
      refine b_bz (n := 37) (tgt := 48) dX2_nextMinute_34 (by decide) rfl (fun h34 => ?_) (fun h34 => ?_)
      · refine b_iload_n (n := 38) 1 dX2_nextMinute_37 rfl rfl rfl ?_
        refine b_aload_n (n := 39) 0 dX2_nextMinute_38 rfl rfl rfl ?_
        refine b_get (n := 42) (v := .ref (ad 22)) 0 f_X2_34 dX2_nextMinute_39 rfl hI_o0 rfl ?_
        refine b_iload_n (n := 43) 2 dX2_nextMinute_42 rfl rfl rfl ?_
        refine b_iald (n := 44) 12 dX2_nextMinute_43 rfl hI_a22 (fun v43 => ?_)
        refine b_mmin (n := 47) mw_X2_221 (by omega) (Nat.le_of_ble_eq_true rfl) dX2_nextMinute_44 rfl ?_
        refine b_istore_n (n := 48) (L' := [(1, .int (if v43 < y1 then v43 else y1)), (0, .ref (ad 0)), (2, .int y2)]) dX2_nextMinute_47 rfl rfl (Nat.le_of_ble_eq_true rfl) rfl ?_
        refine b_iinc (n := 51) (L' := [(2, .int (y2 + 1)), (1, .int (if v43 < y1 then v43 else y1)), (0, .ref (ad 0))]) 2 1 dX2_nextMinute_48 rfl rfl (by decide) (Nat.le_of_ble_eq_true rfl) rfl ?_
        refine b_goto (n := 23) dX2_nextMinute_51 (by decide) ?_
        refine Bd.sub (L' := [(0, .ref (ad 0)), (1, .int (if v43 < y1 then v43 else y1)), (2, .int (y2 + 1))]) [2, 1, 0] rfl ?_
        exact ih _ _
      · refine b_iinc (n := 51) (L' := [(2, .int (y2 + 1)), (0, .ref (ad 0)), (1, .int y1)]) 2 1 dX2_nextMinute_48 rfl rfl (by decide) (Nat.le_of_ble_eq_true rfl) rfl ?_
        refine b_goto (n := 23) dX2_nextMinute_51 (by decide) ?_
        refine Bd.sub (L' := [(0, .ref (ad 0)), (1, .int y1), (2, .int (y2 + 1))]) [1, 2, 0] rfl ?_
        exact ih _ _
    · refine b_iload_n (n := 55) 1 dX2_nextMinute_54 rfl rfl rfl ?_
      refine b_ldc (n := 57) (v := 1000000000) k_X2_143 dX2_nextMinute_55 rfl ?_
      refine b_cmp_ne (n := 60) (tgt := 65) dX2_nextMinute_57 (by decide) rfl (fun h57 => ?_) (fun h57 => ?_)
      · refine b_bipush (n := 62) (v := -5) dX2_nextMinute_60 rfl (by decide) ?_
        refine b_goto (n := 66) dX2_nextMinute_62 (by decide) ?_
        exact b_iret dX2_nextMinute_66 rfl rfl
      · refine b_iload_n (n := 66) 1 dX2_nextMinute_65 rfl rfl rfl ?_
        exact b_iret dX2_nextMinute_66 rfl rfl
def in_nextMinute (N : Nat) (o : Mem)   : Option (Int32) :=
  if o 0 3 = 2 then
    ((rd 25 (o 22) 24).bind fun v14 =>
    in_nextMinute_23 N o N v14 0)
  else
    (in_nextMinute_23 N o N 1000000000 0)
set_option maxHeartbeats 400000 in
set_option maxRecDepth 100000 in
theorem c_in_nextMinute {l : Launch} {E : Ev} {ad : Nat → Nat} {d : Nat} {N : Nat} {rl : Nat} {o : Mem} {h : Mem} {e : Mem} {p : Mem}   (hd : 2 ≤ d) : Ct l yX2_nextMinute cX2_nextMinute 3 (some .int) d E (hI E ad rl o h e p) [.ref (ad 0)] (fun v : Int32 => (some (.int v), hI E ad rl o h e p)) (in_nextMinute N o) := by
  refine Ct.of2 (own := RX2) (L := [(0, .ref (ad 0))]) rfl (by decide +kernel) (Nat.le_of_ble_eq_true rfl) rfl ?_
  unfold in_nextMinute
  refine b_aload_n (n := 1) 0 dX2_nextMinute_0 rfl rfl rfl ?_
  refine b_get (n := 4) (v := .int (o 0 3)) 0 f_X2_9 dX2_nextMinute_1 rfl hI_o0 rfl ?_
  refine b_iconst (n := 5) (v := 2) dX2_nextMinute_4 rfl (by decide) ?_
  refine b_cmp_ne (n := 8) (tgt := 18) dX2_nextMinute_5 (by decide) rfl (fun h5 => ?_) (fun h5 => ?_)
  · refine b_aload_n (n := 9) 0 dX2_nextMinute_8 rfl rfl rfl ?_
    refine b_get (n := 12) (v := .ref (ad 22)) 0 f_X2_34 dX2_nextMinute_9 rfl hI_o0 rfl ?_
    refine b_bipush (n := 14) (v := 24) dX2_nextMinute_12 rfl (by decide) ?_
    refine b_iald (n := 15) 12 dX2_nextMinute_14 rfl hI_a22 (fun v14 => ?_)
    refine b_goto (n := 20) dX2_nextMinute_15 (by decide) ?_
    refine b_istore_n (n := 21) (L' := [(1, .int v14), (0, .ref (ad 0))]) dX2_nextMinute_20 rfl rfl (Nat.le_of_ble_eq_true rfl) rfl ?_
    refine b_iconst (n := 22) (v := 0) dX2_nextMinute_21 rfl (by decide) ?_
    refine b_istore_n (n := 23) (L' := [(2, .int 0), (1, .int v14), (0, .ref (ad 0))]) dX2_nextMinute_22 rfl rfl (Nat.le_of_ble_eq_true rfl) rfl ?_
    refine Bd.sub (L' := [(0, .ref (ad 0)), (1, .int v14), (2, .int 0)]) [2, 1, 0] rfl ?_
    exact w_in_nextMinute_23 hd _ _ _
  · refine b_ldc (n := 20) (v := 1000000000) k_X2_143 dX2_nextMinute_18 rfl ?_
    refine b_istore_n (n := 21) (L' := [(1, .int 1000000000), (0, .ref (ad 0))]) dX2_nextMinute_20 rfl rfl (Nat.le_of_ble_eq_true rfl) rfl ?_
    refine b_iconst (n := 22) (v := 0) dX2_nextMinute_21 rfl (by decide) ?_
    refine b_istore_n (n := 23) (L' := [(2, .int 0), (1, .int 1000000000), (0, .ref (ad 0))]) dX2_nextMinute_22 rfl rfl (Nat.le_of_ble_eq_true rfl) rfl ?_
    refine Bd.sub (L' := [(0, .ref (ad 0)), (1, .int 1000000000), (2, .int 0)]) [2, 1, 0] rfl ?_
    exact w_in_nextMinute_23 hd _ _ _
def re_sign (t : Mem) (r : Mem)   : Option (Int32) :=
  if r 0 5 < 0 then
    (some ((-1)))
  else
    (if r 0 5 < r 0 2 then
      (if r 0 5 < 80 then
        ((rd 80 (t 2) (r 0 5)).bind fun v38 =>
        some v38)
      else
        (some ((-1))))
    else
      (some ((-1))))
set_option maxHeartbeats 400000 in
set_option maxRecDepth 100000 in
theorem c_re_sign {l : Launch} {E : Ev} {ad : Nat → Nat} {d : Nat}   {r : Mem} {t : Mem} {p : Mem}   (hd : 1 ≤ d) : Ct l yX3_sign cX3_sign 1 (some .int) d E (hR E ad r t p) [.ref (ad 0)] (fun v : Int32 => (some (.int v), hR E ad r t p)) (re_sign t r) := by
  refine Ct.of2 (own := RX3) (L := [(0, .ref (ad 0))]) rfl (by decide +kernel) (Nat.le_of_ble_eq_true rfl) rfl ?_
  unfold re_sign
  refine b_aload_n (n := 1) 0 dX3_sign_0 rfl rfl rfl ?_
  refine b_get (n := 4) (v := .int (r 0 5)) 0 f_X3_35 dX3_sign_1 rfl hR_o0 rfl ?_
  refine b_if_lt (n := 7) (tgt := 42) dX3_sign_4 (by decide) rfl (fun h4 => ?_) (fun h4 => ?_)
  · refine b_iconst (n := 43) (v := -1) dX3_sign_42 rfl (by decide) ?_
    exact b_iret dX3_sign_43 rfl rfl
  · refine b_aload_n (n := 8) 0 dX3_sign_7 rfl rfl rfl ?_
    refine b_get (n := 11) (v := .int (r 0 5)) 0 f_X3_35 dX3_sign_8 rfl hR_o0 rfl ?_
    refine b_aload_n (n := 12) 0 dX3_sign_11 rfl rfl rfl ?_
    refine b_get (n := 15) (v := .int (r 0 2)) 0 f_X3_24 dX3_sign_12 rfl hR_o0 rfl ?_
    refine b_cmp_ge (n := 18) (tgt := 42) dX3_sign_15 (by decide) rfl (fun h15 => ?_) (fun h15 => ?_)
    · refine b_aload_n (n := 19) 0 dX3_sign_18 rfl rfl rfl ?_
      refine b_get (n := 22) (v := .int (r 0 5)) 0 f_X3_35 dX3_sign_19 rfl hR_o0 rfl ?_
      refine b_aload_n (n := 23) 0 dX3_sign_22 rfl rfl rfl ?_
      refine b_get (n := 26) (v := .ref (ad 2)) 0 f_X3_15 dX3_sign_23 rfl hR_o0 rfl ?_
      refine b_alen (n := 27) (v := 80) 2 dX3_sign_26 rfl hR_a2 rfl ?_
      refine b_cmp_ge (n := 30) (tgt := 42) dX3_sign_27 (by decide) rfl (fun h27 => ?_) (fun h27 => ?_)
      · refine b_aload_n (n := 31) 0 dX3_sign_30 rfl rfl rfl ?_
        refine b_get (n := 34) (v := .ref (ad 2)) 0 f_X3_15 dX3_sign_31 rfl hR_o0 rfl ?_
        refine b_aload_n (n := 35) 0 dX3_sign_34 rfl rfl rfl ?_
        refine b_get (n := 38) (v := .int (r 0 5)) 0 f_X3_35 dX3_sign_35 rfl hR_o0 rfl ?_
        refine b_iald (n := 39) 2 dX3_sign_38 rfl hR_a2 (fun v38 => ?_)
        refine b_goto (n := 43) dX3_sign_39 (by decide) ?_
        exact b_iret dX3_sign_43 rfl rfl
      · refine b_iconst (n := 43) (v := -1) dX3_sign_42 rfl (by decide) ?_
        exact b_iret dX3_sign_43 rfl rfl
    · refine b_iconst (n := 43) (v := -1) dX3_sign_42 rfl (by decide) ?_
      exact b_iret dX3_sign_43 rfl rfl
