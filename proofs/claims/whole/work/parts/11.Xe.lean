/-! the class: partial pure functions, and the walk of each method (4) -/
def in_lookAtParallel_42 (N : Nat) (rl : Nat) (p : Mem) (B : Bool → Int32 → Int32 → Mem → Mem → Mem → Option (Mem × Mem × Mem))  (y1 : Int32) (o : Mem) (h : Mem) (e : Mem) : Option (Mem × Mem × Mem) :=
  (rd 24 (o 18) y1).bind fun v47 =>
  if v47 = 3 then
    ((in_reversesAll N rl p y1 o h e).bind fun (k54, o54, h54, e54) =>
    if k54 = true then
      (ck 24 y1 <|
      (in_bodiesWith N p (up o54 18 y1.toNatClampNeg 4) y1 4).bind fun k76 =>
      (hi_add rl e54 9 k76 h54).bind fun h79 =>
      some (up o54 18 y1.toNatClampNeg 4, h79, e54))
    else
      (some (o54, h54, e54)))
  else
    (some (o, h, e))
set_option maxHeartbeats 400000 in
set_option maxRecDepth 100000 in
theorem w_in_lookAtParallel_42 {l : Launch} {E : Ev} {ad : Nat → Nat} {A : Nat → Prop} {d : Nat} {N : Nat} {rl : Nat} {p : Mem} {B : Bool → Int32 → Int32 → Mem → Mem → Mem → Option (Mem × Mem × Mem)} {dB : Nat} (hdB : 5 ≤ dB) (hB1 : ∀ (x1 : Int32) (x2 : Int32) (o : Mem) (h : Mem) (e : Mem), Ct l yX2_goOn cX2_goOn 6 none dB E (hI E ad rl o h e p) [.ref (ad 0), .int x1, .int x2] (fun q : Mem × Mem × Mem => (none, hI E ad rl q.1 q.2.1 q.2.2 p)) (B true x1 x2 o h e)) (hB2 : ∀ (x1 : Int32) (x2 : Int32) (o : Mem) (h : Mem) (e : Mem), Ct l yX2_beginItem cX2_beginItem 3 none dB E (hI E ad rl o h e p) [.ref (ad 0), .int x1, .int x2] (fun q : Mem × Mem × Mem => (none, hI E ad rl q.1 q.2.1 q.2.2 p)) (B false x1 x2 o h e))  (hd : dB + 1 ≤ d)  (y1 : Int32) (o : Mem) (h : Mem) (e : Mem) : Bd l E A RX2 cX2_lookAtParallel 4 none d (fun q : Mem × Mem × Mem => (none, hI E ad rl q.1 q.2.1 q.2.2 p)) 42 [(0, .ref (ad 0)), (1, .int y1)] [] (hI E ad rl o h e p) (in_lookAtParallel_42 N rl p B y1 o h e) := by
  unfold in_lookAtParallel_42
  refine b_aload_n (n := 43) 0 dX2_lookAtParallel_42 rfl rfl rfl ?_
  refine b_get (n := 46) (v := .ref (ad 18)) 0 f_X2_22 dX2_lookAtParallel_43 rfl hI_o0 rfl ?_
  refine b_iload_n (n := 47) 1 dX2_lookAtParallel_46 rfl rfl rfl ?_
  refine b_iald (n := 48) 8 dX2_lookAtParallel_47 rfl hI_a18 (fun v47 => ?_)
  refine b_iconst (n := 49) (v := 3) dX2_lookAtParallel_48 rfl (by decide) ?_
  refine b_cmp_ne (n := 52) (tgt := 82) dX2_lookAtParallel_49 (by decide) rfl (fun h49 => ?_) (fun h49 => ?_)
  · refine b_aload_n (n := 53) 0 dX2_lookAtParallel_52 rfl rfl rfl ?_
    refine b_iload_n (n := 54) 1 dX2_lookAtParallel_53 rfl rfl rfl ?_
    refine bV0wb (n := 57) (hh := (fun s : Mem × Mem × Mem => hI E ad rl s.1 s.2.1 s.2.2 p)) (As := [.int y1]) (rest := []) 0 lk_X2_111 (c_in_reversesAll (Nat.le_refl _)) (by omega) (fun _ => rfl) rfl rfl rfl rfl (Nat.le_of_ble_eq_true rfl) dX2_lookAtParallel_54 rfl ?_
    rintro k54 ⟨o54, h54, e54⟩
    try dsimp only
    refine b_bz (n := 60) (tgt := 82) dX2_lookAtParallel_57 (by decide) rfl (fun h57 => ?_) (fun h57 => ?_)
    · refine b_aload_n (n := 61) 0 dX2_lookAtParallel_60 rfl rfl rfl ?_
      refine b_get (n := 64) (v := .ref (ad 18)) 0 f_X2_22 dX2_lookAtParallel_61 rfl hI_o0 rfl ?_
      refine b_iload_n (n := 65) 1 dX2_lookAtParallel_64 rfl rfl rfl ?_
      refine b_iconst (n := 66) (v := 4) dX2_lookAtParallel_65 rfl (by decide) ?_
      refine b_iast (n := 67) (ws' := hI E ad rl (up o54 18 y1.toNatClampNeg 4) h54 e54 p) 8 dX2_lookAtParallel_66 rfl hI_a18 hI_s18 ?_
      refine b_aload_n (n := 68) 0 dX2_lookAtParallel_67 rfl rfl rfl ?_
      refine b_get (n := 71) (v := .ref (ad 4)) 0 f_X2_56 dX2_lookAtParallel_68 rfl hI_o0 rfl ?_
      refine b_bipush (n := 73) (v := 9) dX2_lookAtParallel_71 rfl (by decide) ?_
      refine b_aload_n (n := 74) 0 dX2_lookAtParallel_73 rfl rfl rfl ?_
      refine b_iload_n (n := 75) 1 dX2_lookAtParallel_74 rfl rfl rfl ?_
      refine b_iconst (n := 76) (v := 4) dX2_lookAtParallel_75 rfl (by decide) ?_
      refine bV0i (n := 79) (As := [.int y1, .int 4]) (rest := [.int 9, .ref (ad 4)]) 0 lk_X2_203 (c_in_bodiesWith (Nat.le_refl _)) (by omega) rfl rfl rfl rfl (Nat.le_of_ble_eq_true rfl) dX2_lookAtParallel_76 rfl (fun k76 => ?_)
      refine bVwv (n := 82) (hh := (fun s : Mem => hH E ad rl s e54)) (As := [.int 9, .int k76]) (rest := []) (fun s : Mem => hI E ad rl (up o54 18 y1.toNatClampNeg 4) s e54 p) 4 [4, 5, 1, 2, 3] lk_X2_122 (c_hi_add (Nat.le_refl _)) (by omega) rfl (by decide) (fun _ => rfl) (fun _ => rfl) rfl rfl rfl rfl (Nat.le_of_ble_eq_true rfl) dX2_lookAtParallel_79 rfl ?_
      rintro h79
      try dsimp only
      exact b_vret dX2_lookAtParallel_82 rfl rfl
    · exact b_vret dX2_lookAtParallel_82 rfl rfl
  · exact b_vret dX2_lookAtParallel_82 rfl rfl
def in_lookAtParallel_12 (N : Nat) (rl : Nat) (p : Mem) (B : Bool → Int32 → Int32 → Mem → Mem → Mem → Option (Mem × Mem × Mem))  : Nat → Int32 → Int32 → Int32 → Mem → Mem → Mem → Option (Mem × Mem × Mem)
  | 0, _, _, _, _, _, _ => none
  | n + 1, y1, y2, y3, o, h, e =>
    if y3 < 4 then
      ((ve_body p y1 y3).bind fun k24 =>
      (B true k24 y2 o h e).bind fun (o28, h28, e28) =>
      in_lookAtParallel_12 N rl p B n y1 y2 (y3 + 1) o28 h28 e28)
    else
      ((in_join N rl p e y1 o h).bind fun (o39, h39) =>
      in_lookAtParallel_42 N rl p B y1 o39 h39 e)
set_option maxHeartbeats 400000 in
set_option maxRecDepth 100000 in
theorem w_in_lookAtParallel_12 {l : Launch} {E : Ev} {ad : Nat → Nat} {A : Nat → Prop} {d : Nat} {N : Nat} {rl : Nat} {p : Mem} {B : Bool → Int32 → Int32 → Mem → Mem → Mem → Option (Mem × Mem × Mem)} {dB : Nat} (hdB : 5 ≤ dB) (hB1 : ∀ (x1 : Int32) (x2 : Int32) (o : Mem) (h : Mem) (e : Mem), Ct l yX2_goOn cX2_goOn 6 none dB E (hI E ad rl o h e p) [.ref (ad 0), .int x1, .int x2] (fun q : Mem × Mem × Mem => (none, hI E ad rl q.1 q.2.1 q.2.2 p)) (B true x1 x2 o h e)) (hB2 : ∀ (x1 : Int32) (x2 : Int32) (o : Mem) (h : Mem) (e : Mem), Ct l yX2_beginItem cX2_beginItem 3 none dB E (hI E ad rl o h e p) [.ref (ad 0), .int x1, .int x2] (fun q : Mem × Mem × Mem => (none, hI E ad rl q.1 q.2.1 q.2.2 p)) (B false x1 x2 o h e))  (hd : dB + 1 ≤ d)  (n : Nat) : ∀ (y1 : Int32) (y2 : Int32) (y3 : Int32) (o : Mem) (h : Mem) (e : Mem), Bd l E A RX2 cX2_lookAtParallel 4 none d (fun q : Mem × Mem × Mem => (none, hI E ad rl q.1 q.2.1 q.2.2 p)) 12 [(0, .ref (ad 0)), (1, .int y1), (2, .int y2), (3, .int y3)] [] (hI E ad rl o h e p) (in_lookAtParallel_12 N rl p B n y1 y2 y3 o h e) := by
  induction n with
  | zero => intro y1 y2 y3 o h e; exact b_none
  | succ n ih =>
    intro y1 y2 y3 o h e
    rw [in_lookAtParallel_12]
    refine b_iload_n (n := 13) 3 dX2_lookAtParallel_12 rfl rfl rfl ?_
    refine b_iconst (n := 14) (v := 4) dX2_lookAtParallel_13 rfl (by decide) ?_
    refine b_cmp_ge (n := 17) (tgt := 37) dX2_lookAtParallel_14 (by decide) rfl (fun h14 => ?_) (fun h14 => ?_)
    · refine b_aload_n (n := 18) 0 dX2_lookAtParallel_17 rfl rfl rfl ?_
      refine b_aload_n (n := 19) 0 dX2_lookAtParallel_18 rfl rfl rfl ?_
      refine b_get (n := 22) (v := .ref (ad 6)) 0 f_X2_47 dX2_lookAtParallel_19 rfl hI_o0 rfl ?_
      refine b_iload_n (n := 23) 1 dX2_lookAtParallel_22 rfl rfl rfl ?_
      refine b_iload_n (n := 24) 3 dX2_lookAtParallel_23 rfl rfl rfl ?_
      refine bVi (n := 27) (As := [.int y1, .int y3]) (rest := [.ref (ad 0)]) 15 [15, 16, 17, 18, 19, 20, 21, 22, 23, 24] lk_X2_163 (c_ve_body (Nat.le_refl _)) (by omega) rfl (by decide) rfl rfl rfl rfl (Nat.le_of_ble_eq_true rfl) dX2_lookAtParallel_24 rfl (fun k24 => ?_)
      refine b_iload_n (n := 28) 2 dX2_lookAtParallel_27 rfl rfl rfl ?_
      refine bV0wv (n := 31) (hh := (fun s : Mem × Mem × Mem => hI E ad rl s.1 s.2.1 s.2.2 p)) (As := [.int k24, .int y2]) (rest := []) 0 lk_X2_104 (hB1 _ _ _ _ _) (by omega) (fun _ => rfl) rfl rfl rfl rfl (Nat.le_of_ble_eq_true rfl) dX2_lookAtParallel_28 rfl ?_
      rintro ⟨o28, h28, e28⟩
      try dsimp only
      refine b_iinc (n := 34) (L' := [(3, .int (y3 + 1)), (0, .ref (ad 0)), (1, .int y1), (2, .int y2)]) 3 1 dX2_lookAtParallel_31 rfl rfl (by decide) (Nat.le_of_ble_eq_true rfl) rfl ?_
      refine b_goto (n := 12) dX2_lookAtParallel_34 (by decide) ?_
      refine Bd.sub (L' := [(0, .ref (ad 0)), (1, .int y1), (2, .int y2), (3, .int (y3 + 1))]) [1, 2, 3, 0] rfl ?_
      exact ih _ _ _ _ _ _
    · refine b_aload_n (n := 38) 0 dX2_lookAtParallel_37 rfl rfl rfl ?_
      refine b_iload_n (n := 39) 1 dX2_lookAtParallel_38 rfl rfl rfl ?_
      refine bV0wv (n := 42) (hh := (fun s : Mem × Mem => hI E ad rl s.1 s.2 e p)) (As := [.int y1]) (rest := []) 0 lk_X2_200 (c_in_join (Nat.le_refl _)) (by omega) (fun _ => rfl) rfl rfl rfl rfl (Nat.le_of_ble_eq_true rfl) dX2_lookAtParallel_39 rfl ?_
      rintro ⟨o39, h39⟩
      try dsimp only
      refine Bd.sub (L' := [(0, .ref (ad 0)), (1, .int y1)]) [0, 1] rfl ?_
      exact w_in_lookAtParallel_42 hdB hB1 hB2 hd _ _ _ _
def in_lookAtParallel (N : Nat) (rl : Nat) (p : Mem) (B : Bool → Int32 → Int32 → Mem → Mem → Mem → Option (Mem × Mem × Mem)) (x1 : Int32) (x2 : Int32) (o : Mem) (h : Mem) (e : Mem) : Option (Mem × Mem × Mem) :=
  (rd 24 (o 18) x1).bind fun v5 =>
  if v5 = 1 then
    (in_lookAtParallel_12 N rl p B N x1 x2 0 o h e)
  else
    (in_lookAtParallel_42 N rl p B x1 o h e)
set_option maxHeartbeats 400000 in
set_option maxRecDepth 100000 in
theorem c_in_lookAtParallel {l : Launch} {E : Ev} {ad : Nat → Nat} {d : Nat} {N : Nat} {rl : Nat} {p : Mem} {B : Bool → Int32 → Int32 → Mem → Mem → Mem → Option (Mem × Mem × Mem)} {dB : Nat} {x1 : Int32} {x2 : Int32} {o : Mem} {h : Mem} {e : Mem} (hd : dB + 1 ≤ d) (hdB : 5 ≤ dB) (hB1 : ∀ (x1 : Int32) (x2 : Int32) (o : Mem) (h : Mem) (e : Mem), Ct l yX2_goOn cX2_goOn 6 none dB E (hI E ad rl o h e p) [.ref (ad 0), .int x1, .int x2] (fun q : Mem × Mem × Mem => (none, hI E ad rl q.1 q.2.1 q.2.2 p)) (B true x1 x2 o h e)) (hB2 : ∀ (x1 : Int32) (x2 : Int32) (o : Mem) (h : Mem) (e : Mem), Ct l yX2_beginItem cX2_beginItem 3 none dB E (hI E ad rl o h e p) [.ref (ad 0), .int x1, .int x2] (fun q : Mem × Mem × Mem => (none, hI E ad rl q.1 q.2.1 q.2.2 p)) (B false x1 x2 o h e)) : Ct l yX2_lookAtParallel cX2_lookAtParallel 4 none d E (hI E ad rl o h e p) [.ref (ad 0), .int x1, .int x2] (fun q : Mem × Mem × Mem => (none, hI E ad rl q.1 q.2.1 q.2.2 p)) (in_lookAtParallel N rl p B x1 x2 o h e) := by
  refine Ct.of2 (own := RX2) (L := [(0, .ref (ad 0)), (1, .int x1), (2, .int x2)]) rfl (by decide +kernel) (Nat.le_of_ble_eq_true rfl) rfl ?_
  unfold in_lookAtParallel
  refine b_aload_n (n := 1) 0 dX2_lookAtParallel_0 rfl rfl rfl ?_
  refine b_get (n := 4) (v := .ref (ad 18)) 0 f_X2_22 dX2_lookAtParallel_1 rfl hI_o0 rfl ?_
  refine b_iload_n (n := 5) 1 dX2_lookAtParallel_4 rfl rfl rfl ?_
  refine b_iald (n := 6) 8 dX2_lookAtParallel_5 rfl hI_a18 (fun v5 => ?_)
  refine b_iconst (n := 7) (v := 1) dX2_lookAtParallel_6 rfl (by decide) ?_
  refine b_cmp_ne (n := 10) (tgt := 42) dX2_lookAtParallel_7 (by decide) rfl (fun h7 => ?_) (fun h7 => ?_)
  · refine b_iconst (n := 11) (v := 0) dX2_lookAtParallel_10 rfl (by decide) ?_
    refine b_istore_n (n := 12) (L' := [(3, .int 0), (0, .ref (ad 0)), (1, .int x1), (2, .int x2)]) dX2_lookAtParallel_11 rfl rfl (Nat.le_of_ble_eq_true rfl) rfl ?_
    refine Bd.sub (L' := [(0, .ref (ad 0)), (1, .int x1), (2, .int x2), (3, .int 0)]) [1, 2, 3, 0] rfl ?_
    exact w_in_lookAtParallel_12 hdB hB1 hB2 hd _ _ _ _ _ _ _
  · refine Bd.sub (L' := [(0, .ref (ad 0)), (1, .int x1)]) [0, 1] rfl ?_
    exact w_in_lookAtParallel_42 hdB hB1 hB2 hd _ _ _ _
def in_beginBodies_2 (N : Nat) (rl : Nat) (p : Mem) (B : Bool → Int32 → Int32 → Mem → Mem → Mem → Option (Mem × Mem × Mem))  : Nat → Int32 → Int32 → Int32 → Mem → Mem → Mem → Option (Mem × Mem × Mem)
  | 0, _, _, _, _, _, _ => none
  | n + 1, y1, y2, y3, o, h, e =>
    if y3 < 4 then
      ((ve_body p y1 y3).bind fun k14 =>
      (in_beginBody N rl p B k14 y2 o h e).bind fun (o18, h18, e18) =>
      in_beginBodies_2 N rl p B n y1 y2 (y3 + 1) o18 h18 e18)
    else
      (some (o, h, e))
set_option maxHeartbeats 400000 in
set_option maxRecDepth 100000 in
theorem w_in_beginBodies_2 {l : Launch} {E : Ev} {ad : Nat → Nat} {A : Nat → Prop} {d : Nat} {N : Nat} {rl : Nat} {p : Mem} {B : Bool → Int32 → Int32 → Mem → Mem → Mem → Option (Mem × Mem × Mem)} {dB : Nat} (hdB : 5 ≤ dB) (hB1 : ∀ (x1 : Int32) (x2 : Int32) (o : Mem) (h : Mem) (e : Mem), Ct l yX2_goOn cX2_goOn 6 none dB E (hI E ad rl o h e p) [.ref (ad 0), .int x1, .int x2] (fun q : Mem × Mem × Mem => (none, hI E ad rl q.1 q.2.1 q.2.2 p)) (B true x1 x2 o h e)) (hB2 : ∀ (x1 : Int32) (x2 : Int32) (o : Mem) (h : Mem) (e : Mem), Ct l yX2_beginItem cX2_beginItem 3 none dB E (hI E ad rl o h e p) [.ref (ad 0), .int x1, .int x2] (fun q : Mem × Mem × Mem => (none, hI E ad rl q.1 q.2.1 q.2.2 p)) (B false x1 x2 o h e))  (hd : dB + 2 ≤ d)  (n : Nat) : ∀ (y1 : Int32) (y2 : Int32) (y3 : Int32) (o : Mem) (h : Mem) (e : Mem), Bd l E A RX2 cX2_beginBodies 4 none d (fun q : Mem × Mem × Mem => (none, hI E ad rl q.1 q.2.1 q.2.2 p)) 2 [(0, .ref (ad 0)), (1, .int y1), (2, .int y2), (3, .int y3)] [] (hI E ad rl o h e p) (in_beginBodies_2 N rl p B n y1 y2 y3 o h e) := by
  induction n with
  | zero => intro y1 y2 y3 o h e; exact b_none
  | succ n ih =>
    intro y1 y2 y3 o h e
    rw [in_beginBodies_2]
    refine b_iload_n (n := 3) 3 dX2_beginBodies_2 rfl rfl rfl ?_
    refine b_iconst (n := 4) (v := 4) dX2_beginBodies_3 rfl (by decide) ?_
    refine b_cmp_ge (n := 7) (tgt := 27) dX2_beginBodies_4 (by decide) rfl (fun h4 => ?_) (fun h4 => ?_)
    · refine b_aload_n (n := 8) 0 dX2_beginBodies_7 rfl rfl rfl ?_
      refine b_aload_n (n := 9) 0 dX2_beginBodies_8 rfl rfl rfl ?_
      refine b_get (n := 12) (v := .ref (ad 6)) 0 f_X2_47 dX2_beginBodies_9 rfl hI_o0 rfl ?_
      refine b_iload_n (n := 13) 1 dX2_beginBodies_12 rfl rfl rfl ?_
      refine b_iload_n (n := 14) 3 dX2_beginBodies_13 rfl rfl rfl ?_
      refine bVi (n := 17) (As := [.int y1, .int y3]) (rest := [.ref (ad 0)]) 15 [15, 16, 17, 18, 19, 20, 21, 22, 23, 24] lk_X2_163 (c_ve_body (Nat.le_refl _)) (by omega) rfl (by decide) rfl rfl rfl rfl (Nat.le_of_ble_eq_true rfl) dX2_beginBodies_14 rfl (fun k14 => ?_)
      refine b_iload_n (n := 18) 2 dX2_beginBodies_17 rfl rfl rfl ?_
      refine bV0wv (n := 21) (hh := (fun s : Mem × Mem × Mem => hI E ad rl s.1 s.2.1 s.2.2 p)) (As := [.int k14, .int y2]) (rest := []) 0 lk_X2_97 (c_in_beginBody (Nat.le_refl _) hdB hB1 hB2) (by omega) (fun _ => rfl) rfl rfl rfl rfl (Nat.le_of_ble_eq_true rfl) dX2_beginBodies_18 rfl ?_
      rintro ⟨o18, h18, e18⟩
      try dsimp only
      refine b_iinc (n := 24) (L' := [(3, .int (y3 + 1)), (0, .ref (ad 0)), (1, .int y1), (2, .int y2)]) 3 1 dX2_beginBodies_21 rfl rfl (by decide) (Nat.le_of_ble_eq_true rfl) rfl ?_
      refine b_goto (n := 2) dX2_beginBodies_24 (by decide) ?_
      refine Bd.sub (L' := [(0, .ref (ad 0)), (1, .int y1), (2, .int y2), (3, .int (y3 + 1))]) [1, 2, 3, 0] rfl ?_
      exact ih _ _ _ _ _ _
    · exact b_vret dX2_beginBodies_27 rfl rfl
def in_beginBodies (N : Nat) (rl : Nat) (p : Mem) (B : Bool → Int32 → Int32 → Mem → Mem → Mem → Option (Mem × Mem × Mem)) (x1 : Int32) (x2 : Int32) (o : Mem) (h : Mem) (e : Mem) : Option (Mem × Mem × Mem) :=
  in_beginBodies_2 N rl p B N x1 x2 0 o h e
set_option maxHeartbeats 400000 in
set_option maxRecDepth 100000 in
theorem c_in_beginBodies {l : Launch} {E : Ev} {ad : Nat → Nat} {d : Nat} {N : Nat} {rl : Nat} {p : Mem} {B : Bool → Int32 → Int32 → Mem → Mem → Mem → Option (Mem × Mem × Mem)} {dB : Nat} {x1 : Int32} {x2 : Int32} {o : Mem} {h : Mem} {e : Mem} (hd : dB + 2 ≤ d) (hdB : 5 ≤ dB) (hB1 : ∀ (x1 : Int32) (x2 : Int32) (o : Mem) (h : Mem) (e : Mem), Ct l yX2_goOn cX2_goOn 6 none dB E (hI E ad rl o h e p) [.ref (ad 0), .int x1, .int x2] (fun q : Mem × Mem × Mem => (none, hI E ad rl q.1 q.2.1 q.2.2 p)) (B true x1 x2 o h e)) (hB2 : ∀ (x1 : Int32) (x2 : Int32) (o : Mem) (h : Mem) (e : Mem), Ct l yX2_beginItem cX2_beginItem 3 none dB E (hI E ad rl o h e p) [.ref (ad 0), .int x1, .int x2] (fun q : Mem × Mem × Mem => (none, hI E ad rl q.1 q.2.1 q.2.2 p)) (B false x1 x2 o h e)) : Ct l yX2_beginBodies cX2_beginBodies 4 none d E (hI E ad rl o h e p) [.ref (ad 0), .int x1, .int x2] (fun q : Mem × Mem × Mem => (none, hI E ad rl q.1 q.2.1 q.2.2 p)) (in_beginBodies N rl p B x1 x2 o h e) := by
  refine Ct.of2 (own := RX2) (L := [(0, .ref (ad 0)), (1, .int x1), (2, .int x2)]) rfl (by decide +kernel) (Nat.le_of_ble_eq_true rfl) rfl ?_
  unfold in_beginBodies
  refine b_iconst (n := 1) (v := 0) dX2_beginBodies_0 rfl (by decide) ?_
  refine b_istore_n (n := 2) (L' := [(3, .int 0), (0, .ref (ad 0)), (1, .int x1), (2, .int x2)]) dX2_beginBodies_1 rfl rfl (Nat.le_of_ble_eq_true rfl) rfl ?_
  refine Bd.sub (L' := [(0, .ref (ad 0)), (1, .int x1), (2, .int x2), (3, .int 0)]) [1, 2, 3, 0] rfl ?_
  exact w_in_beginBodies_2 hdB hB1 hB2 hd _ _ _ _ _ _ _
def in_lookAt (N : Nat) (rl : Nat) (p : Mem) (B : Bool → Int32 → Int32 → Mem → Mem → Mem → Option (Mem × Mem × Mem)) (x1 : Int32) (x2 : Int32) (o : Mem) (h : Mem) (e : Mem) : Option (Mem × Mem × Mem) :=
  (rd 24 (p 7) x1).bind fun v8 =>
  if v8 = 0 then
    ((in_lookAtTask N rl p x1 o h e).bind fun (o46, h46, e46) =>
    some (o46, h46, e46))
  else if v8 = 1 then
    ((in_lookAtWait e x1 o).bind fun o54 =>
    some (o54, h, e))
  else if v8 = 2 then
    ((in_lookAtSignal rl p e x1 o h).bind fun (o62, h62) =>
    some (o62, h62, e))
  else if v8 = 3 then
    ((in_changeVariable rl p e x1 o h).bind fun (o70, h70) =>
    some (o70, h70, e))
  else if v8 = 4 then
    ((in_lookAtChoice N rl p B x1 (x2 + 1) o h e).bind fun (o81, h81, e81) =>
    some (o81, h81, e81))
  else 
    ((in_lookAtParallel N rl p B x1 (x2 + 1) o h e).bind fun (o92, h92, e92) =>
    some (o92, h92, e92))
set_option maxHeartbeats 400000 in
set_option maxRecDepth 100000 in
theorem c_in_lookAt {l : Launch} {E : Ev} {ad : Nat → Nat} {d : Nat} {N : Nat} {rl : Nat} {p : Mem} {B : Bool → Int32 → Int32 → Mem → Mem → Mem → Option (Mem × Mem × Mem)} {dB : Nat} {x1 : Int32} {x2 : Int32} {o : Mem} {h : Mem} {e : Mem} (hd : dB + 2 ≤ d) (hdB : 5 ≤ dB) (hB1 : ∀ (x1 : Int32) (x2 : Int32) (o : Mem) (h : Mem) (e : Mem), Ct l yX2_goOn cX2_goOn 6 none dB E (hI E ad rl o h e p) [.ref (ad 0), .int x1, .int x2] (fun q : Mem × Mem × Mem => (none, hI E ad rl q.1 q.2.1 q.2.2 p)) (B true x1 x2 o h e)) (hB2 : ∀ (x1 : Int32) (x2 : Int32) (o : Mem) (h : Mem) (e : Mem), Ct l yX2_beginItem cX2_beginItem 3 none dB E (hI E ad rl o h e p) [.ref (ad 0), .int x1, .int x2] (fun q : Mem × Mem × Mem => (none, hI E ad rl q.1 q.2.1 q.2.2 p)) (B false x1 x2 o h e)) : Ct l yX2_lookAt cX2_lookAt 3 none d E (hI E ad rl o h e p) [.ref (ad 0), .int x1, .int x2] (fun q : Mem × Mem × Mem => (none, hI E ad rl q.1 q.2.1 q.2.2 p)) (in_lookAt N rl p B x1 x2 o h e) := by
  refine Ct.of2 (own := RX2) (L := [(0, .ref (ad 0)), (1, .int x1), (2, .int x2)]) rfl (by decide +kernel) (Nat.le_of_ble_eq_true rfl) rfl ?_
  unfold in_lookAt
  refine b_aload_n (n := 1) 0 dX2_lookAt_0 rfl rfl rfl ?_
  refine b_get (n := 4) (v := .ref (ad 6)) 0 f_X2_47 dX2_lookAt_1 rfl hI_o0 rfl ?_
  refine b_get (n := 7) (v := .ref (ad 7)) 15 f_X2_144 dX2_lookAt_4 rfl hI_o6 rfl ?_
  refine b_iload_n (n := 8) 1 dX2_lookAt_7 rfl rfl rfl ?_
  refine b_iald (n := 9) 16 dX2_lookAt_8 rfl hI_a7 (fun v8 => ?_)
  refine b_if (fun h9_0 => ?_) (fun h9_0 => ?_)
  · refine b_tsIn (n := 44) (w := 0) h9_0 dX2_lookAt_9 (by decide) (by decide) rfl (by decide) ?_
    refine b_aload_n (n := 45) 0 dX2_lookAt_44 rfl rfl rfl ?_
    refine b_iload_n (n := 46) 1 dX2_lookAt_45 rfl rfl rfl ?_
    refine bV0wv (n := 49) (hh := (fun s : Mem × Mem × Mem => hI E ad rl s.1 s.2.1 s.2.2 p)) (As := [.int x1]) (rest := []) 0 lk_X2_173 (c_in_lookAtTask (Nat.le_refl _)) (by omega) (fun _ => rfl) rfl rfl rfl rfl (Nat.le_of_ble_eq_true rfl) dX2_lookAt_46 rfl ?_
    rintro ⟨o46, h46, e46⟩
    try dsimp only
    refine b_goto (n := 95) dX2_lookAt_49 (by decide) ?_
    exact b_vret dX2_lookAt_95 rfl rfl
  refine b_if (fun h9_1 => ?_) (fun h9_1 => ?_)
  · refine b_tsIn (n := 52) (w := 1) h9_1 dX2_lookAt_9 (by decide) (by decide) rfl (by decide) ?_
    refine b_aload_n (n := 53) 0 dX2_lookAt_52 rfl rfl rfl ?_
    refine b_iload_n (n := 54) 1 dX2_lookAt_53 rfl rfl rfl ?_
    refine bV0wv (n := 57) (hh := (fun s : Mem => hI E ad rl s h e p)) (As := [.int x1]) (rest := []) 0 lk_X2_176 (c_in_lookAtWait (Nat.le_refl _)) (by omega) (fun _ => rfl) rfl rfl rfl rfl (Nat.le_of_ble_eq_true rfl) dX2_lookAt_54 rfl ?_
    rintro o54
    try dsimp only
    refine b_goto (n := 95) dX2_lookAt_57 (by decide) ?_
    exact b_vret dX2_lookAt_95 rfl rfl
  refine b_if (fun h9_2 => ?_) (fun h9_2 => ?_)
  · refine b_tsIn (n := 60) (w := 2) h9_2 dX2_lookAt_9 (by decide) (by decide) rfl (by decide) ?_
    refine b_aload_n (n := 61) 0 dX2_lookAt_60 rfl rfl rfl ?_
    refine b_iload_n (n := 62) 1 dX2_lookAt_61 rfl rfl rfl ?_
    refine bV0wv (n := 65) (hh := (fun s : Mem × Mem => hI E ad rl s.1 s.2 e p)) (As := [.int x1]) (rest := []) 0 lk_X2_179 (c_in_lookAtSignal (Nat.le_refl _)) (by omega) (fun _ => rfl) rfl rfl rfl rfl (Nat.le_of_ble_eq_true rfl) dX2_lookAt_62 rfl ?_
    rintro ⟨o62, h62⟩
    try dsimp only
    refine b_goto (n := 95) dX2_lookAt_65 (by decide) ?_
    exact b_vret dX2_lookAt_95 rfl rfl
  refine b_if (fun h9_3 => ?_) (fun h9_3 => ?_)
  · refine b_tsIn (n := 68) (w := 3) h9_3 dX2_lookAt_9 (by decide) (by decide) rfl (by decide) ?_
    refine b_aload_n (n := 69) 0 dX2_lookAt_68 rfl rfl rfl ?_
    refine b_iload_n (n := 70) 1 dX2_lookAt_69 rfl rfl rfl ?_
    refine bV0wv (n := 73) (hh := (fun s : Mem × Mem => hI E ad rl s.1 s.2 e p)) (As := [.int x1]) (rest := []) 0 lk_X2_182 (c_in_changeVariable (Nat.le_refl _)) (by omega) (fun _ => rfl) rfl rfl rfl rfl (Nat.le_of_ble_eq_true rfl) dX2_lookAt_70 rfl ?_
    rintro ⟨o70, h70⟩
    try dsimp only
    refine b_goto (n := 95) dX2_lookAt_73 (by decide) ?_
    exact b_vret dX2_lookAt_95 rfl rfl
  refine b_if (fun h9_4 => ?_) (fun h9_4 => ?_)
  · refine b_tsIn (n := 76) (w := 4) h9_4 dX2_lookAt_9 (by decide) (by decide) rfl (by decide) ?_
    refine b_aload_n (n := 77) 0 dX2_lookAt_76 rfl rfl rfl ?_
    refine b_iload_n (n := 78) 1 dX2_lookAt_77 rfl rfl rfl ?_
    refine b_iload_n (n := 79) 2 dX2_lookAt_78 rfl rfl rfl ?_
    refine b_iconst (n := 80) (v := 1) dX2_lookAt_79 rfl (by decide) ?_
    refine b_iadd (n := 81) dX2_lookAt_80 rfl ?_
    refine bV0wv (n := 84) (hh := (fun s : Mem × Mem × Mem => hI E ad rl s.1 s.2.1 s.2.2 p)) (As := [.int x1, .int (x2 + 1)]) (rest := []) 0 lk_X2_185 (c_in_lookAtChoice (Nat.le_refl _) hdB hB1 hB2) (by omega) (fun _ => rfl) rfl rfl rfl rfl (Nat.le_of_ble_eq_true rfl) dX2_lookAt_81 rfl ?_
    rintro ⟨o81, h81, e81⟩
    try dsimp only
    refine b_goto (n := 95) dX2_lookAt_84 (by decide) ?_
    exact b_vret dX2_lookAt_95 rfl rfl
  refine b_tsOut (n := 87) dX2_lookAt_9 (by have nh9_0 := i32_ne (k := 0) h9_0 (by decide); have nh9_1 := i32_ne (k := 1) h9_1 (by decide); have nh9_2 := i32_ne (k := 2) h9_2 (by decide); have nh9_3 := i32_ne (k := 3) h9_3 (by decide); have nh9_4 := i32_ne (k := 4) h9_4 (by decide); omega) (by decide) ?_
  refine b_aload_n (n := 88) 0 dX2_lookAt_87 rfl rfl rfl ?_
  refine b_iload_n (n := 89) 1 dX2_lookAt_88 rfl rfl rfl ?_
  refine b_iload_n (n := 90) 2 dX2_lookAt_89 rfl rfl rfl ?_
  refine b_iconst (n := 91) (v := 1) dX2_lookAt_90 rfl (by decide) ?_
  refine b_iadd (n := 92) dX2_lookAt_91 rfl ?_
  refine bV0wv (n := 95) (hh := (fun s : Mem × Mem × Mem => hI E ad rl s.1 s.2.1 s.2.2 p)) (As := [.int x1, .int (x2 + 1)]) (rest := []) 0 lk_X2_188 (c_in_lookAtParallel (Nat.le_refl _) hdB hB1 hB2) (by omega) (fun _ => rfl) rfl rfl rfl rfl (Nat.le_of_ble_eq_true rfl) dX2_lookAt_92 rfl ?_
  rintro ⟨o92, h92, e92⟩
  try dsimp only
  exact b_vret dX2_lookAt_95 rfl rfl
def in_goOn_92 (N : Nat) (rl : Nat) (p : Mem) (B : Bool → Int32 → Int32 → Mem → Mem → Mem → Option (Mem × Mem × Mem))  (y1 : Int32) (y3 : Int32) (o : Mem) (h : Mem) (e : Mem) : Option (Mem × Mem × Mem) :=
  (rd 24 (o 18) y3).bind fun v102 =>
  if v102 = 5 then
    (ck 24 y1 <|
    some (up o 19 y1.toNatClampNeg 5, h, e))
  else
    (ck 24 y1 <|
    some (up o 19 y1.toNatClampNeg 4, h, e))
set_option maxHeartbeats 400000 in
set_option maxRecDepth 100000 in
theorem w_in_goOn_92 {l : Launch} {E : Ev} {ad : Nat → Nat} {A : Nat → Prop} {d : Nat} {N : Nat} {rl : Nat} {p : Mem} {B : Bool → Int32 → Int32 → Mem → Mem → Mem → Option (Mem × Mem × Mem)} {dB : Nat} (hdB : 5 ≤ dB) (hB1 : ∀ (x1 : Int32) (x2 : Int32) (o : Mem) (h : Mem) (e : Mem), Ct l yX2_goOn cX2_goOn 6 none dB E (hI E ad rl o h e p) [.ref (ad 0), .int x1, .int x2] (fun q : Mem × Mem × Mem => (none, hI E ad rl q.1 q.2.1 q.2.2 p)) (B true x1 x2 o h e)) (hB2 : ∀ (x1 : Int32) (x2 : Int32) (o : Mem) (h : Mem) (e : Mem), Ct l yX2_beginItem cX2_beginItem 3 none dB E (hI E ad rl o h e p) [.ref (ad 0), .int x1, .int x2] (fun q : Mem × Mem × Mem => (none, hI E ad rl q.1 q.2.1 q.2.2 p)) (B false x1 x2 o h e))  (hd : dB + 3 ≤ d)  (y1 : Int32) (y3 : Int32) (o : Mem) (h : Mem) (e : Mem) : Bd l E A RX2 cX2_goOn 6 none d (fun q : Mem × Mem × Mem => (none, hI E ad rl q.1 q.2.1 q.2.2 p)) 92 [(0, .ref (ad 0)), (1, .int y1), (3, .int y3)] [] (hI E ad rl o h e p) (in_goOn_92 N rl p B y1 y3 o h e) := by
  unfold in_goOn_92
  refine b_aload_n (n := 93) 0 dX2_goOn_92 rfl rfl rfl ?_
  refine b_get (n := 96) (v := .ref (ad 19)) 0 f_X2_25 dX2_goOn_93 rfl hI_o0 rfl ?_
  refine b_iload_n (n := 97) 1 dX2_goOn_96 rfl rfl rfl ?_
  refine b_aload_n (n := 98) 0 dX2_goOn_97 rfl rfl rfl ?_
  refine b_get (n := 101) (v := .ref (ad 18)) 0 f_X2_22 dX2_goOn_98 rfl hI_o0 rfl ?_
  refine b_iload_n (n := 102) 2 dX2_goOn_101 rfl rfl rfl ?_
  refine b_iald (n := 103) 8 dX2_goOn_102 rfl hI_a18 (fun v102 => ?_)
  refine b_iconst (n := 104) (v := 5) dX2_goOn_103 rfl (by decide) ?_
  refine b_cmp_ne (n := 107) (tgt := 111) dX2_goOn_104 (by decide) rfl (fun h104 => ?_) (fun h104 => ?_)
  · refine b_iconst (n := 108) (v := 5) dX2_goOn_107 rfl (by decide) ?_
    refine b_goto (n := 112) dX2_goOn_108 (by decide) ?_
    refine b_iast (n := 113) (ws' := hI E ad rl (up o 19 y1.toNatClampNeg 5) h e p) 9 dX2_goOn_112 rfl hI_a19 hI_s19 ?_
    exact b_vret dX2_goOn_113 rfl rfl
  · refine b_iconst (n := 112) (v := 4) dX2_goOn_111 rfl (by decide) ?_
    refine b_iast (n := 113) (ws' := hI E ad rl (up o 19 y1.toNatClampNeg 4) h e p) 9 dX2_goOn_112 rfl hI_a19 hI_s19 ?_
    exact b_vret dX2_goOn_113 rfl rfl
def in_goOn_35 (N : Nat) (rl : Nat) (p : Mem) (B : Bool → Int32 → Int32 → Mem → Mem → Mem → Option (Mem × Mem × Mem))  : Nat → Int32 → Int32 → Int32 → Int32 → Mem → Mem → Mem → Option (Mem × Mem × Mem)
  | 0, _, _, _, _, _, _, _ => none
  | n + 1, y1, y2, y3, y4, o, h, e =>
    if y4 < 24 then
      ((xs_isInside y3 24).bind fun k45 =>
      if k45 = true then
        ((in_lookAt N rl p B y3 y2 o h e).bind fun (o54, h54, e54) =>
        (in_goesOn o54 y3).bind fun k59 =>
        if k59 = true then
          (some (o54, h54, e54))
        else
          ((rd 24 (p 13) y3).bind fun v74 =>
          (rd 24 (o54 18) y3).bind fun v82 =>
          if v82 = 5 then
            (in_goOn_92 N rl p B y1 y3 o54 h54 e54)
          else
            (if v74 < 0 then
              (in_goOn_92 N rl p B y1 y3 o54 h54 e54)
            else
              (ck 24 y1 <|
              (B false v74 y2 (up o54 20 y1.toNatClampNeg v74) h54 e54).bind fun (o126, h126, e126) =>
              in_goOn_35 N rl p B n y1 y2 v74 (y4 + 1) o126 h126 e126))))
      else
        (some (o, h, e)))
    else
      (some (o, h, e))
set_option maxHeartbeats 400000 in
set_option maxRecDepth 100000 in
theorem w_in_goOn_35 {l : Launch} {E : Ev} {ad : Nat → Nat} {A : Nat → Prop} {d : Nat} {N : Nat} {rl : Nat} {p : Mem} {B : Bool → Int32 → Int32 → Mem → Mem → Mem → Option (Mem × Mem × Mem)} {dB : Nat} (hdB : 5 ≤ dB) (hB1 : ∀ (x1 : Int32) (x2 : Int32) (o : Mem) (h : Mem) (e : Mem), Ct l yX2_goOn cX2_goOn 6 none dB E (hI E ad rl o h e p) [.ref (ad 0), .int x1, .int x2] (fun q : Mem × Mem × Mem => (none, hI E ad rl q.1 q.2.1 q.2.2 p)) (B true x1 x2 o h e)) (hB2 : ∀ (x1 : Int32) (x2 : Int32) (o : Mem) (h : Mem) (e : Mem), Ct l yX2_beginItem cX2_beginItem 3 none dB E (hI E ad rl o h e p) [.ref (ad 0), .int x1, .int x2] (fun q : Mem × Mem × Mem => (none, hI E ad rl q.1 q.2.1 q.2.2 p)) (B false x1 x2 o h e))  (hd : dB + 3 ≤ d)  (n : Nat) : ∀ (y1 : Int32) (y2 : Int32) (y3 : Int32) (y4 : Int32) (o : Mem) (h : Mem) (e : Mem), Bd l E A RX2 cX2_goOn 6 none d (fun q : Mem × Mem × Mem => (none, hI E ad rl q.1 q.2.1 q.2.2 p)) 35 [(0, .ref (ad 0)), (1, .int y1), (2, .int y2), (3, .int y3), (4, .int y4)] [] (hI E ad rl o h e p) (in_goOn_35 N rl p B n y1 y2 y3 y4 o h e) := by
  induction n with
  | zero => intro y1 y2 y3 y4 o h e; exact b_none
  | succ n ih =>
    intro y1 y2 y3 y4 o h e
    rw [in_goOn_35]
    refine b_iload (n := 37) 4 dX2_goOn_35 rfl rfl ?_
    refine b_bipush (n := 39) (v := 24) dX2_goOn_37 rfl (by decide) ?_
    refine b_cmp_ge (n := 42) (tgt := 138) dX2_goOn_39 (by decide) rfl (fun h39 => ?_) (fun h39 => ?_)
    · refine b_iload_n (n := 43) 3 dX2_goOn_42 rfl rfl rfl ?_
      refine b_bipush (n := 45) (v := 24) dX2_goOn_43 rfl (by decide) ?_
      refine bNb (n := 48) (As := [.int y3, .int 24]) (rest := []) lk_X2_125 (c_xs_isInside (Nat.le_refl _)) (by omega) rfl rfl (Nat.le_of_ble_eq_true rfl) dX2_goOn_45 rfl (fun k45 => ?_)
      refine b_bz (n := 51) (tgt := 138) dX2_goOn_48 (by decide) rfl (fun h48 => ?_) (fun h48 => ?_)
      · refine b_aload_n (n := 52) 0 dX2_goOn_51 rfl rfl rfl ?_
        refine b_iload_n (n := 53) 3 dX2_goOn_52 rfl rfl rfl ?_
        refine b_iload_n (n := 54) 2 dX2_goOn_53 rfl rfl rfl ?_
        refine bV0wv (n := 57) (hh := (fun s : Mem × Mem × Mem => hI E ad rl s.1 s.2.1 s.2.2 p)) (As := [.int y3, .int y2]) (rest := []) 0 lk_X2_132 (c_in_lookAt (Nat.le_refl _) hdB hB1 hB2) (by omega) (fun _ => rfl) rfl rfl rfl rfl (Nat.le_of_ble_eq_true rfl) dX2_goOn_54 rfl ?_
        rintro ⟨o54, h54, e54⟩
        try dsimp only
        refine b_aload_n (n := 58) 0 dX2_goOn_57 rfl rfl rfl ?_
        refine b_iload_n (n := 59) 3 dX2_goOn_58 rfl rfl rfl ?_
        refine bV0b (n := 62) (As := [.int y3]) (rest := []) 0 lk_X2_135 (c_in_goesOn (Nat.le_refl _)) (by omega) rfl rfl rfl rfl (Nat.le_of_ble_eq_true rfl) dX2_goOn_59 rfl (fun k59 => ?_)
        refine b_bz (n := 65) (tgt := 66) dX2_goOn_62 (by decide) rfl (fun h62 => ?_) (fun h62 => ?_)
        · exact b_vret dX2_goOn_65 rfl rfl
        · refine b_aload_n (n := 67) 0 dX2_goOn_66 rfl rfl rfl ?_
          refine b_get (n := 70) (v := .ref (ad 6)) 0 f_X2_47 dX2_goOn_67 rfl hI_o0 rfl ?_
          refine b_get (n := 73) (v := .ref (ad 13)) 15 f_X2_138 dX2_goOn_70 rfl hI_o6 rfl ?_
          refine b_iload_n (n := 74) 3 dX2_goOn_73 rfl rfl rfl ?_
          refine b_iald (n := 75) 22 dX2_goOn_74 rfl hI_a13 (fun v74 => ?_)
          refine b_istore (n := 77) (L' := [(5, .int v74), (0, .ref (ad 0)), (1, .int y1), (2, .int y2), (3, .int y3), (4, .int y4)]) dX2_goOn_75 rfl (Nat.le_of_ble_eq_true rfl) rfl ?_
          refine b_aload_n (n := 78) 1 dX2_goOn_77 rfl rfl rfl ?_
          refine b_get (n := 81) (v := .ref (ad 18)) 0 f_X2_22 dX2_goOn_78 rfl hI_o0 rfl ?_
          refine b_iload_n (n := 82) 4 dX2_goOn_81 rfl rfl rfl ?_
          refine b_iald (n := 83) 8 dX2_goOn_82 rfl hI_a18 (fun v82 => ?_)
          refine b_iconst (n := 84) (v := 5) dX2_goOn_83 rfl (by decide) ?_
          refine b_cmp_eq (n := 87) (tgt := 92) dX2_goOn_84 (by decide) rfl (fun h84 => ?_) (fun h84 => ?_)
          · refine Bd.sub (L' := [(0, .ref (ad 0)), (1, .int y1), (3, .int y3)]) [1, 2, 4] rfl ?_
            exact w_in_goOn_92 hdB hB1 hB2 hd _ _ _ _ _
          · refine b_iload (n := 89) 0 dX2_goOn_87 rfl rfl ?_
            refine b_if_ge (n := 92) (tgt := 114) dX2_goOn_89 (by decide) rfl (fun h89 => ?_) (fun h89 => ?_)
            · refine Bd.sub (L' := [(0, .ref (ad 0)), (1, .int y1), (3, .int y3)]) [1, 2, 4] rfl ?_
              exact w_in_goOn_92 hdB hB1 hB2 hd _ _ _ _ _
            · refine b_aload_n (n := 115) 1 dX2_goOn_114 rfl rfl rfl ?_
              refine b_get (n := 118) (v := .ref (ad 20)) 0 f_X2_28 dX2_goOn_115 rfl hI_o0 rfl ?_
              refine b_iload_n (n := 119) 2 dX2_goOn_118 rfl rfl rfl ?_
              refine b_iload (n := 121) 0 dX2_goOn_119 rfl rfl ?_
              refine b_iast (n := 122) (ws' := hI E ad rl (up o54 20 y1.toNatClampNeg v74) h54 e54 p) 10 dX2_goOn_121 rfl hI_a20 hI_s20 ?_
              refine b_aload_n (n := 123) 1 dX2_goOn_122 rfl rfl rfl ?_
              refine b_iload (n := 125) 0 dX2_goOn_123 rfl rfl ?_
              refine b_iload_n (n := 126) 3 dX2_goOn_125 rfl rfl rfl ?_
              refine bV0wv (n := 129) (hh := (fun s : Mem × Mem × Mem => hI E ad rl s.1 s.2.1 s.2.2 p)) (As := [.int v74, .int y2]) (rest := []) 0 lk_X2_129 (hB2 _ _ _ _ _) (by omega) (fun _ => rfl) rfl rfl rfl rfl (Nat.le_of_ble_eq_true rfl) dX2_goOn_126 rfl ?_
              rintro ⟨o126, h126, e126⟩
              try dsimp only
              refine b_iload (n := 131) 0 dX2_goOn_129 rfl rfl ?_
              refine b_istore_n (n := 132) (L' := [(3, .int v74), (5, .int v74), (0, .ref (ad 0)), (1, .int y1), (2, .int y2), (4, .int y4)]) dX2_goOn_131 rfl rfl (Nat.le_of_ble_eq_true rfl) rfl ?_
              refine b_iinc (n := 135) (L' := [(4, .int (y4 + 1)), (3, .int v74), (5, .int v74), (0, .ref (ad 0)), (1, .int y1), (2, .int y2)]) 5 1 dX2_goOn_132 rfl rfl (by decide) (Nat.le_of_ble_eq_true rfl) rfl ?_
              refine b_goto (n := 35) dX2_goOn_135 (by decide) ?_
              refine Bd.sub (L' := [(0, .ref (ad 0)), (1, .int y1), (2, .int y2), (3, .int v74), (4, .int (y4 + 1))]) [3, 4, 5, 1, 0] rfl ?_
              exact ih _ _ _ _ _ _ _
      · exact b_vret dX2_goOn_138 rfl rfl
    · exact b_vret dX2_goOn_138 rfl rfl
def in_goOn (N : Nat) (rl : Nat) (p : Mem) (B : Bool → Int32 → Int32 → Mem → Mem → Mem → Option (Mem × Mem × Mem)) (x1 : Int32) (x2 : Int32) (o : Mem) (h : Mem) (e : Mem) : Option (Mem × Mem × Mem) :=
  (xs_isInside x1 24).bind fun k3 =>
  if k3 = true then
    ((rd 24 (o 19) x1).bind fun v14 =>
    if v14 = 1 then
      (if 4 < x2 then
        (some (o, h, e))
      else
        ((rd 24 (o 20) x1).bind fun v30 =>
        in_goOn_35 N rl p B N x1 x2 v30 0 o h e))
    else
      (some (o, h, e)))
  else
    (some (o, h, e))
set_option maxHeartbeats 400000 in
set_option maxRecDepth 100000 in
theorem c_in_goOn {l : Launch} {E : Ev} {ad : Nat → Nat} {d : Nat} {N : Nat} {rl : Nat} {p : Mem} {B : Bool → Int32 → Int32 → Mem → Mem → Mem → Option (Mem × Mem × Mem)} {dB : Nat} {x1 : Int32} {x2 : Int32} {o : Mem} {h : Mem} {e : Mem} (hd : dB + 3 ≤ d) (hdB : 5 ≤ dB) (hB1 : ∀ (x1 : Int32) (x2 : Int32) (o : Mem) (h : Mem) (e : Mem), Ct l yX2_goOn cX2_goOn 6 none dB E (hI E ad rl o h e p) [.ref (ad 0), .int x1, .int x2] (fun q : Mem × Mem × Mem => (none, hI E ad rl q.1 q.2.1 q.2.2 p)) (B true x1 x2 o h e)) (hB2 : ∀ (x1 : Int32) (x2 : Int32) (o : Mem) (h : Mem) (e : Mem), Ct l yX2_beginItem cX2_beginItem 3 none dB E (hI E ad rl o h e p) [.ref (ad 0), .int x1, .int x2] (fun q : Mem × Mem × Mem => (none, hI E ad rl q.1 q.2.1 q.2.2 p)) (B false x1 x2 o h e)) : Ct l yX2_goOn cX2_goOn 6 none d E (hI E ad rl o h e p) [.ref (ad 0), .int x1, .int x2] (fun q : Mem × Mem × Mem => (none, hI E ad rl q.1 q.2.1 q.2.2 p)) (in_goOn N rl p B x1 x2 o h e) := by
  refine Ct.of2 (own := RX2) (L := [(0, .ref (ad 0)), (1, .int x1), (2, .int x2)]) rfl (by decide +kernel) (Nat.le_of_ble_eq_true rfl) rfl ?_
  unfold in_goOn
  refine b_iload_n (n := 1) 1 dX2_goOn_0 rfl rfl rfl ?_
  refine b_bipush (n := 3) (v := 24) dX2_goOn_1 rfl (by decide) ?_
  refine bNb (n := 6) (As := [.int x1, .int 24]) (rest := []) lk_X2_125 (c_xs_isInside (Nat.le_refl _)) (by omega) rfl rfl (Nat.le_of_ble_eq_true rfl) dX2_goOn_3 rfl (fun k3 => ?_)
  refine b_bz (n := 9) (tgt := 24) dX2_goOn_6 (by decide) rfl (fun h6 => ?_) (fun h6 => ?_)
  · refine b_aload_n (n := 10) 0 dX2_goOn_9 rfl rfl rfl ?_
    refine b_get (n := 13) (v := .ref (ad 19)) 0 f_X2_25 dX2_goOn_10 rfl hI_o0 rfl ?_
    refine b_iload_n (n := 14) 1 dX2_goOn_13 rfl rfl rfl ?_
    refine b_iald (n := 15) 9 dX2_goOn_14 rfl hI_a19 (fun v14 => ?_)
    refine b_iconst (n := 16) (v := 1) dX2_goOn_15 rfl (by decide) ?_
    refine b_cmp_ne (n := 19) (tgt := 24) dX2_goOn_16 (by decide) rfl (fun h16 => ?_) (fun h16 => ?_)
    · refine b_iload_n (n := 20) 2 dX2_goOn_19 rfl rfl rfl ?_
      refine b_iconst (n := 21) (v := 4) dX2_goOn_20 rfl (by decide) ?_
      refine b_cmp_le (n := 24) (tgt := 25) dX2_goOn_21 (by decide) rfl (fun h21 => ?_) (fun h21 => ?_)
      · exact b_vret dX2_goOn_24 rfl rfl
      · refine b_aload_n (n := 26) 0 dX2_goOn_25 rfl rfl rfl ?_
        refine b_get (n := 29) (v := .ref (ad 20)) 0 f_X2_28 dX2_goOn_26 rfl hI_o0 rfl ?_
        refine b_iload_n (n := 30) 1 dX2_goOn_29 rfl rfl rfl ?_
        refine b_iald (n := 31) 10 dX2_goOn_30 rfl hI_a20 (fun v30 => ?_)
        refine b_istore_n (n := 32) (L' := [(3, .int v30), (0, .ref (ad 0)), (1, .int x1), (2, .int x2)]) dX2_goOn_31 rfl rfl (Nat.le_of_ble_eq_true rfl) rfl ?_
        refine b_iconst (n := 33) (v := 0) dX2_goOn_32 rfl (by decide) ?_
        refine b_istore (n := 35) (L' := [(4, .int 0), (3, .int v30), (0, .ref (ad 0)), (1, .int x1), (2, .int x2)]) dX2_goOn_33 rfl (Nat.le_of_ble_eq_true rfl) rfl ?_
        refine Bd.sub (L' := [(0, .ref (ad 0)), (1, .int x1), (2, .int x2), (3, .int v30), (4, .int 0)]) [2, 3, 4, 1, 0] rfl ?_
        exact w_in_goOn_35 hdB hB1 hB2 hd _ _ _ _ _ _ _ _
    · exact b_vret dX2_goOn_24 rfl rfl
  · exact b_vret dX2_goOn_24 rfl rfl
