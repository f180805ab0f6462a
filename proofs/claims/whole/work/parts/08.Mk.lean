/-! the reference: partial pure functions, and the walk of each method (10) -/
def md_looksAt_58 (N : Nat) (D : Nat)  (y1 : Int32) (μ : Mem) : Option (Mem) :=
  (md_of y1 1).bind fun k64 =>
  (rd 7593 (μ 5) k64).bind fun v67 =>
  if v67 = 2 then
    ((md_compensates N y1 0 μ).bind fun (k75, μ75) =>
    if k75 = true then
      ((md_of y1 8).bind fun k90 =>
      (rd 7593 (μ75 5) k90).bind fun v93 =>
      if 0 < v93 then
        ((md_becomes y1 4 μ75).bind fun μ102 =>
        some μ102)
      else
        ((md_becomes y1 3 μ75).bind fun μ102 =>
        some μ102))
    else
      (some μ75))
  else
    (some μ)
set_option maxHeartbeats 400000 in
set_option maxRecDepth 100000 in
theorem w_md_looksAt_58 {l : Launch} {E : Ev} {ad : Nat → Nat} {A : Nat → Prop} {d : Nat} {N : Nat} {D : Nat}    (hd : 5 * D + 12 ≤ d)  (y1 : Int32) (μ : Mem) : Bd l E A RX7 cX7_looksAt 3 none d (fun q : Mem => (none, hM E ad q)) 58 [(0, .ref (ad 0)), (1, .int y1)] [] (hM E ad μ) (md_looksAt_58 N D y1 μ) := by
  unfold md_looksAt_58
  refine b_aload_n (n := 59) 0 dX7_looksAt_58 rfl rfl rfl ?_
  refine b_get (n := 62) (v := .ref (ad 5)) 0 f_X7_22 dX7_looksAt_59 rfl hM_o0 rfl ?_
  refine b_iload_n (n := 63) 1 dX7_looksAt_62 rfl rfl rfl ?_
  refine b_iconst (n := 64) (v := 1) dX7_looksAt_63 rfl (by decide) ?_
  refine bSi (n := 67) (As := [.int y1, .int 1]) (rest := [.ref (ad 5)]) lk_X7_163 (c_md_of (Nat.le_refl _)) (by omega) rfl rfl (Nat.le_of_ble_eq_true rfl) dX7_looksAt_64 rfl (fun k64 => ?_)
  refine b_iald (n := 68) 5 dX7_looksAt_67 rfl hM_a5 (fun v67 => ?_)
  refine b_iconst (n := 69) (v := 2) dX7_looksAt_68 rfl (by decide) ?_
  refine b_cmp_ne (n := 72) (tgt := 105) dX7_looksAt_69 (by decide) rfl (fun h69 => ?_) (fun h69 => ?_)
  · refine b_aload_n (n := 73) 0 dX7_looksAt_72 rfl rfl rfl ?_
    refine b_iload_n (n := 74) 1 dX7_looksAt_73 rfl rfl rfl ?_
    refine b_iconst (n := 75) (v := 0) dX7_looksAt_74 rfl (by decide) ?_
    refine bV0wb (n := 78) (hh := (fun s : Mem => hM E ad s)) (As := [.int y1, .int 0]) (rest := []) 0 lk_X7_217 (c_md_compensates (Nat.le_refl _)) (by omega) (fun _ => rfl) rfl rfl rfl rfl (Nat.le_of_ble_eq_true rfl) dX7_looksAt_75 rfl ?_
    rintro k75 μ75
    try dsimp only
    refine b_bz (n := 81) (tgt := 105) dX7_looksAt_78 (by decide) rfl (fun h78 => ?_) (fun h78 => ?_)
    · refine b_aload_n (n := 82) 0 dX7_looksAt_81 rfl rfl rfl ?_
      refine b_iload_n (n := 83) 1 dX7_looksAt_82 rfl rfl rfl ?_
      refine b_aload_n (n := 84) 0 dX7_looksAt_83 rfl rfl rfl ?_
      refine b_get (n := 87) (v := .ref (ad 5)) 0 f_X7_22 dX7_looksAt_84 rfl hM_o0 rfl ?_
      refine b_iload_n (n := 88) 1 dX7_looksAt_87 rfl rfl rfl ?_
      refine b_bipush (n := 90) (v := 8) dX7_looksAt_88 rfl (by decide) ?_
      refine bSi (n := 93) (As := [.int y1, .int 8]) (rest := [.ref (ad 5), .int y1, .ref (ad 0)]) lk_X7_163 (c_md_of (Nat.le_refl _)) (by omega) rfl rfl (Nat.le_of_ble_eq_true rfl) dX7_looksAt_90 rfl (fun k90 => ?_)
      refine b_iald (n := 94) 5 dX7_looksAt_93 rfl hM_a5 (fun v93 => ?_)
      refine b_if_le (n := 97) (tgt := 101) dX7_looksAt_94 (by decide) rfl (fun h94 => ?_) (fun h94 => ?_)
      · refine b_iconst (n := 98) (v := 4) dX7_looksAt_97 rfl (by decide) ?_
        refine b_goto (n := 102) dX7_looksAt_98 (by decide) ?_
        refine bV0wv (n := 105) (hh := (fun s : Mem => hM E ad s)) (As := [.int y1, .int 4]) (rest := []) 0 lk_X7_233 (c_md_becomes (Nat.le_refl _)) (by omega) (fun _ => rfl) rfl rfl rfl rfl (Nat.le_of_ble_eq_true rfl) dX7_looksAt_102 rfl ?_
        rintro μ102
        try dsimp only
        exact b_vret dX7_looksAt_105 rfl rfl
      · refine b_iconst (n := 102) (v := 3) dX7_looksAt_101 rfl (by decide) ?_
        refine bV0wv (n := 105) (hh := (fun s : Mem => hM E ad s)) (As := [.int y1, .int 3]) (rest := []) 0 lk_X7_233 (c_md_becomes (Nat.le_refl _)) (by omega) (fun _ => rfl) rfl rfl rfl rfl (Nat.le_of_ble_eq_true rfl) dX7_looksAt_102 rfl ?_
        rintro μ102
        try dsimp only
        exact b_vret dX7_looksAt_105 rfl rfl
    · exact b_vret dX7_looksAt_105 rfl rfl
  · exact b_vret dX7_looksAt_105 rfl rfl
def md_looksAt (N : Nat) (D : Nat) (x1 : Int32) (μ : Mem) : Option (Mem) :=
  (md_of x1 1).bind fun k6 =>
  (rd 7593 (μ 5) k6).bind fun v9 =>
  if v9 = 0 then
    ((md_looksAtBody N D (kn_mlook N D D) x1 0 μ).bind fun (k16, μ16) =>
    if k16 = 2 then
      ((md_becomes x1 1 μ16).bind fun μ28 =>
      md_looksAt_58 N D x1 μ28)
    else
      (if k16 = 3 then
        ((md_at x1 0 7).bind fun k47 =>
        ck 7593 k47 <|
        (md_becomes x1 2 (up μ16 5 k47.toNatClampNeg ((-1)))).bind fun μ55 =>
        md_looksAt_58 N D x1 μ55)
      else
        (md_looksAt_58 N D x1 μ16)))
  else
    (md_looksAt_58 N D x1 μ)
set_option maxHeartbeats 400000 in
set_option maxRecDepth 100000 in
theorem c_md_looksAt {l : Launch} {E : Ev} {ad : Nat → Nat} {d : Nat} {N : Nat} {D : Nat}   {x1 : Int32} {μ : Mem} (hd : 5 * D + 12 ≤ d) : Ct l yX7_looksAt cX7_looksAt 3 none d E (hM E ad μ) [.ref (ad 0), .int x1] (fun q : Mem => (none, hM E ad q)) (md_looksAt N D x1 μ) := by
  refine Ct.of2 (own := RX7) (L := [(0, .ref (ad 0)), (1, .int x1)]) rfl (by decide +kernel) (Nat.le_of_ble_eq_true rfl) rfl ?_
  unfold md_looksAt
  refine b_aload_n (n := 1) 0 dX7_looksAt_0 rfl rfl rfl ?_
  refine b_get (n := 4) (v := .ref (ad 5)) 0 f_X7_22 dX7_looksAt_1 rfl hM_o0 rfl ?_
  refine b_iload_n (n := 5) 1 dX7_looksAt_4 rfl rfl rfl ?_
  refine b_iconst (n := 6) (v := 1) dX7_looksAt_5 rfl (by decide) ?_
  refine bSi (n := 9) (As := [.int x1, .int 1]) (rest := [.ref (ad 5)]) lk_X7_163 (c_md_of (Nat.le_refl _)) (by omega) rfl rfl (Nat.le_of_ble_eq_true rfl) dX7_looksAt_6 rfl (fun k6 => ?_)
  refine b_iald (n := 10) 5 dX7_looksAt_9 rfl hM_a5 (fun v9 => ?_)
  refine b_if_ne (n := 13) (tgt := 58) dX7_looksAt_10 (by decide) rfl (fun h10 => ?_) (fun h10 => ?_)
  · refine b_aload_n (n := 14) 0 dX7_looksAt_13 rfl rfl rfl ?_
    refine b_iload_n (n := 15) 1 dX7_looksAt_14 rfl rfl rfl ?_
    refine b_iconst (n := 16) (v := 0) dX7_looksAt_15 rfl (by decide) ?_
    refine bV0wi (n := 19) (hh := (fun s : Mem => hM E ad s)) (As := [.int x1, .int 0]) (rest := []) 0 lk_X7_196 (c_md_looksAtBody (Nat.le_refl _) (Nat.le_add_right _ _) (ck_mlook D)) (by omega) (fun _ => rfl) rfl rfl rfl rfl (Nat.le_of_ble_eq_true rfl) dX7_looksAt_16 rfl ?_
    rintro k16 μ16
    try dsimp only
    refine b_istore_n (n := 20) (L' := [(2, .int k16), (0, .ref (ad 0)), (1, .int x1)]) dX7_looksAt_19 rfl rfl (Nat.le_of_ble_eq_true rfl) rfl ?_
    refine b_iload_n (n := 21) 0 dX7_looksAt_20 rfl rfl rfl ?_
    refine b_iconst (n := 22) (v := 2) dX7_looksAt_21 rfl (by decide) ?_
    refine b_cmp_ne (n := 25) (tgt := 34) dX7_looksAt_22 (by decide) rfl (fun h22 => ?_) (fun h22 => ?_)
    · refine b_aload_n (n := 26) 1 dX7_looksAt_25 rfl rfl rfl ?_
      refine b_iload_n (n := 27) 2 dX7_looksAt_26 rfl rfl rfl ?_
      refine b_iconst (n := 28) (v := 1) dX7_looksAt_27 rfl (by decide) ?_
      refine bV0wv (n := 31) (hh := (fun s : Mem => hM E ad s)) (As := [.int x1, .int 1]) (rest := []) 0 lk_X7_233 (c_md_becomes (Nat.le_refl _)) (by omega) (fun _ => rfl) rfl rfl rfl rfl (Nat.le_of_ble_eq_true rfl) dX7_looksAt_28 rfl ?_
      rintro μ28
      try dsimp only
      refine b_goto (n := 58) dX7_looksAt_31 (by decide) ?_
      refine Bd.sub (L' := [(0, .ref (ad 0)), (1, .int x1)]) [1, 2] rfl ?_
      exact w_md_looksAt_58 hd _ _
    · refine b_iload_n (n := 35) 0 dX7_looksAt_34 rfl rfl rfl ?_
      refine b_iconst (n := 36) (v := 3) dX7_looksAt_35 rfl (by decide) ?_
      refine b_cmp_ne (n := 39) (tgt := 58) dX7_looksAt_36 (by decide) rfl (fun h36 => ?_) (fun h36 => ?_)
      · refine b_aload_n (n := 40) 1 dX7_looksAt_39 rfl rfl rfl ?_
        refine b_get (n := 43) (v := .ref (ad 5)) 0 f_X7_22 dX7_looksAt_40 rfl hM_o0 rfl ?_
        refine b_iload_n (n := 44) 2 dX7_looksAt_43 rfl rfl rfl ?_
        refine b_iconst (n := 45) (v := 0) dX7_looksAt_44 rfl (by decide) ?_
        refine b_bipush (n := 47) (v := 7) dX7_looksAt_45 rfl (by decide) ?_
        refine bSi (n := 50) (As := [.int x1, .int 0, .int 7]) (rest := [.ref (ad 5)]) lk_X7_169 (c_md_at (Nat.le_refl _)) (by omega) rfl rfl (Nat.le_of_ble_eq_true rfl) dX7_looksAt_47 rfl (fun k47 => ?_)
        refine b_iconst (n := 51) (v := -1) dX7_looksAt_50 rfl (by decide) ?_
        refine b_iast (n := 52) (ws' := hM E ad (up μ16 5 k47.toNatClampNeg ((-1)))) 5 dX7_looksAt_51 rfl hM_a5 hM_s5 ?_
        refine b_aload_n (n := 53) 1 dX7_looksAt_52 rfl rfl rfl ?_
        refine b_iload_n (n := 54) 2 dX7_looksAt_53 rfl rfl rfl ?_
        refine b_iconst (n := 55) (v := 2) dX7_looksAt_54 rfl (by decide) ?_
        refine bV0wv (n := 58) (hh := (fun s : Mem => hM E ad s)) (As := [.int x1, .int 2]) (rest := []) 0 lk_X7_233 (c_md_becomes (Nat.le_refl _)) (by omega) (fun _ => rfl) rfl rfl rfl rfl (Nat.le_of_ble_eq_true rfl) dX7_looksAt_55 rfl ?_
        rintro μ55
        try dsimp only
        refine Bd.sub (L' := [(0, .ref (ad 0)), (1, .int x1)]) [1, 2] rfl ?_
        exact w_md_looksAt_58 hd _ _
      · refine Bd.sub (L' := [(0, .ref (ad 0)), (1, .int x1)]) [1, 2] rfl ?_
        exact w_md_looksAt_58 hd _ _
  · exact w_md_looksAt_58 hd _ _
def md_instances_4 (N : Nat) (μ : Mem)  : Nat → Int32 → Int32 → Option (Int32)
  | 0, _, _ => none
  | n + 1, y1, y2 =>
    if y2 < 6 then
      ((md_of y2 0).bind fun k17 =>
      (rd 7593 (μ 5) k17).bind fun v20 =>
      md_instances_4 N μ n (y1 + v20) (y2 + 1))
    else
      (some y1)
set_option maxHeartbeats 400000 in
set_option maxRecDepth 100000 in
theorem w_md_instances_4 {l : Launch} {E : Ev} {ad : Nat → Nat} {A : Nat → Prop} {d : Nat} {N : Nat}  {μ : Mem}  (hd : 2 ≤ d)  (n : Nat) : ∀ (y1 : Int32) (y2 : Int32), Bd l E A RX7 cX7_instances 3 (some .int) d (fun v : Int32 => (some (.int v), hM E ad μ)) 4 [(0, .ref (ad 0)), (1, .int y1), (2, .int y2)] [] (hM E ad μ) (md_instances_4 N μ n y1 y2) := by
  induction n with
  | zero => intro y1 y2; exact b_none
  | succ n ih =>
    intro y1 y2
    rw [md_instances_4]
    refine b_iload_n (n := 5) 2 dX7_instances_4 rfl rfl rfl ?_
    refine b_bipush (n := 7) (v := 6) dX7_instances_5 rfl (by decide) ?_
    refine b_cmp_ge (n := 10) (tgt := 29) dX7_instances_7 (by decide) rfl (fun h7 => ?_) (fun h7 => ?_)
    · refine b_iload_n (n := 11) 1 dX7_instances_10 rfl rfl rfl ?_
      refine b_aload_n (n := 12) 0 dX7_instances_11 rfl rfl rfl ?_
      refine b_get (n := 15) (v := .ref (ad 5)) 0 f_X7_22 dX7_instances_12 rfl hM_o0 rfl ?_
      refine b_iload_n (n := 16) 2 dX7_instances_15 rfl rfl rfl ?_
      refine b_iconst (n := 17) (v := 0) dX7_instances_16 rfl (by decide) ?_
      refine bSi (n := 20) (As := [.int y2, .int 0]) (rest := [.ref (ad 5), .int y1]) lk_X7_163 (c_md_of (Nat.le_refl _)) (by omega) rfl rfl (Nat.le_of_ble_eq_true rfl) dX7_instances_17 rfl (fun k17 => ?_)
      refine b_iald (n := 21) 5 dX7_instances_20 rfl hM_a5 (fun v20 => ?_)
      refine b_iadd (n := 22) dX7_instances_21 rfl ?_
      refine b_istore_n (n := 23) (L' := [(1, .int (y1 + v20)), (0, .ref (ad 0)), (2, .int y2)]) dX7_instances_22 rfl rfl (Nat.le_of_ble_eq_true rfl) rfl ?_
      refine b_iinc (n := 26) (L' := [(2, .int (y2 + 1)), (1, .int (y1 + v20)), (0, .ref (ad 0))]) 2 1 dX7_instances_23 rfl rfl (by decide) (Nat.le_of_ble_eq_true rfl) rfl ?_
      refine b_goto (n := 4) dX7_instances_26 (by decide) ?_
      refine Bd.sub (L' := [(0, .ref (ad 0)), (1, .int (y1 + v20)), (2, .int (y2 + 1))]) [2, 1, 0] rfl ?_
      exact ih _ _
    · refine b_iload_n (n := 30) 1 dX7_instances_29 rfl rfl rfl ?_
      exact b_iret dX7_instances_30 rfl rfl
def md_instances (N : Nat) (μ : Mem)   : Option (Int32) :=
  md_instances_4 N μ N 0 0
set_option maxHeartbeats 400000 in
set_option maxRecDepth 100000 in
theorem c_md_instances {l : Launch} {E : Ev} {ad : Nat → Nat} {d : Nat} {N : Nat}  {μ : Mem}   (hd : 2 ≤ d) : Ct l yX7_instances cX7_instances 3 (some .int) d E (hM E ad μ) [.ref (ad 0)] (fun v : Int32 => (some (.int v), hM E ad μ)) (md_instances N μ) := by
  refine Ct.of2 (own := RX7) (L := [(0, .ref (ad 0))]) rfl (by decide +kernel) (Nat.le_of_ble_eq_true rfl) rfl ?_
  unfold md_instances
  refine b_iconst (n := 1) (v := 0) dX7_instances_0 rfl (by decide) ?_
  refine b_istore_n (n := 2) (L' := [(1, .int 0), (0, .ref (ad 0))]) dX7_instances_1 rfl rfl (Nat.le_of_ble_eq_true rfl) rfl ?_
  refine b_iconst (n := 3) (v := 0) dX7_instances_2 rfl (by decide) ?_
  refine b_istore_n (n := 4) (L' := [(2, .int 0), (1, .int 0), (0, .ref (ad 0))]) dX7_instances_3 rfl rfl (Nat.le_of_ble_eq_true rfl) rfl ?_
  refine Bd.sub (L' := [(0, .ref (ad 0)), (1, .int 0), (2, .int 0)]) [2, 1, 0] rfl ?_
  exact w_md_instances_4 hd _ _ _
def md_start_157 (N : Nat) (D : Nat)  : Nat → Int32 → Int32 → Mem → Option (Int32 × Mem)
  | 0, _, _, _ => none
  | n + 1, y2, y3, μ =>
    if y3 < 64 then
      ((md_at y2 y3 7).bind fun k171 =>
      ck 7593 k171 <|
      md_start_157 N D n y2 (y3 + 1) (up μ 5 k171.toNatClampNeg ((-1))))
    else
      ((md_looksAt N D y2 μ).bind fun μ184 =>
      some (y2, μ184))
set_option maxHeartbeats 400000 in
set_option maxRecDepth 100000 in
theorem w_md_start_157 {l : Launch} {E : Ev} {ad : Nat → Nat} {A : Nat → Prop} {d : Nat} {N : Nat} {D : Nat}    (hd : 5 * D + 13 ≤ d)  (n : Nat) : ∀ (y2 : Int32) (y3 : Int32) (μ : Mem), Bd l E A RX7 cX7_start 4 (some .int) d (fun q : Int32 × Mem => (some (.int q.1), hM E ad q.2)) 157 [(0, .ref (ad 0)), (2, .int y2), (3, .int y3)] [] (hM E ad μ) (md_start_157 N D n y2 y3 μ) := by
  induction n with
  | zero => intro y2 y3 μ; exact b_none
  | succ n ih =>
    intro y2 y3 μ
    rw [md_start_157]
    refine b_iload_n (n := 158) 2 dX7_start_157 rfl rfl rfl ?_
    refine b_bipush (n := 160) (v := 64) dX7_start_158 rfl (by decide) ?_
    refine b_cmp_ge (n := 163) (tgt := 182) dX7_start_160 (by decide) rfl (fun h160 => ?_) (fun h160 => ?_)
    · refine b_aload_n (n := 164) 0 dX7_start_163 rfl rfl rfl ?_
      refine b_get (n := 167) (v := .ref (ad 5)) 0 f_X7_22 dX7_start_164 rfl hM_o0 rfl ?_
      refine b_iload_n (n := 168) 1 dX7_start_167 rfl rfl rfl ?_
      refine b_iload_n (n := 169) 2 dX7_start_168 rfl rfl rfl ?_
      refine b_bipush (n := 171) (v := 7) dX7_start_169 rfl (by decide) ?_
      refine bSi (n := 174) (As := [.int y2, .int y3, .int 7]) (rest := [.ref (ad 5)]) lk_X7_169 (c_md_at (Nat.le_refl _)) (by omega) rfl rfl (Nat.le_of_ble_eq_true rfl) dX7_start_171 rfl (fun k171 => ?_)
      refine b_iconst (n := 175) (v := -1) dX7_start_174 rfl (by decide) ?_
      refine b_iast (n := 176) (ws' := hM E ad (up μ 5 k171.toNatClampNeg ((-1)))) 5 dX7_start_175 rfl hM_a5 hM_s5 ?_
      refine b_iinc (n := 179) (L' := [(3, .int (y3 + 1)), (0, .ref (ad 0)), (2, .int y2)]) 2 1 dX7_start_176 rfl rfl (by decide) (Nat.le_of_ble_eq_true rfl) rfl ?_
      refine b_goto (n := 157) dX7_start_179 (by decide) ?_
      refine Bd.sub (L' := [(0, .ref (ad 0)), (2, .int y2), (3, .int (y3 + 1))]) [1, 2, 0] rfl ?_
      exact ih _ _ _
    · refine b_aload_n (n := 183) 0 dX7_start_182 rfl rfl rfl ?_
      refine b_iload_n (n := 184) 1 dX7_start_183 rfl rfl rfl ?_
      refine bV0wv (n := 187) (hh := (fun s : Mem => hM E ad s)) (As := [.int y2]) (rest := []) 0 lk_X7_239 (c_md_looksAt (Nat.le_refl _)) (by omega) (fun _ => rfl) rfl rfl rfl rfl (Nat.le_of_ble_eq_true rfl) dX7_start_184 rfl ?_
      rintro μ184
      try dsimp only
      refine b_iload_n (n := 188) 1 dX7_start_187 rfl rfl rfl ?_
      exact b_iret dX7_start_188 rfl rfl
def md_start_60 (N : Nat) (D : Nat)  : Nat → Int32 → Int32 → Int32 → Mem → Option (Int32 × Mem)
  | 0, _, _, _, _ => none
  | n + 1, y1, y2, y3, μ =>
    if y3 < 1262 then
      ((md_of y2 y3).bind fun k73 =>
      ck 7593 k73 <|
      md_start_60 N D n y1 y2 (y3 + 1) (up μ 5 k73.toNatClampNeg 0))
    else
      ((md_of y2 0).bind fun k90 =>
      ck 7593 k90 <|
      (md_of y2 2).bind fun k101 =>
      ck 7593 k101 <|
      (md_of y2 3).bind fun k112 =>
      (rd 7593 ((up (up μ 5 k90.toNatClampNeg 1) 5 k101.toNatClampNeg y1) 5) (17 + y1)).bind fun v123 =>
      ck 7593 k112 <|
      (md_of y2 4).bind fun k133 =>
      (rd 7593 ((up (up (up μ 5 k90.toNatClampNeg 1) 5 k101.toNatClampNeg y1) 5 k112.toNatClampNeg (v123 - 1)) 5) 0).bind fun v141 =>
      ck 7593 k133 <|
      (md_of y2 5).bind fun k149 =>
      ck 7593 k149 <|
      md_start_157 N D N y2 0 (up (up (up (up (up μ 5 k90.toNatClampNeg 1) 5 k101.toNatClampNeg y1) 5 k112.toNatClampNeg (v123 - 1)) 5 k133.toNatClampNeg v141) 5 k149.toNatClampNeg ((-5))))
set_option maxHeartbeats 400000 in
set_option maxRecDepth 100000 in
theorem w_md_start_60 {l : Launch} {E : Ev} {ad : Nat → Nat} {A : Nat → Prop} {d : Nat} {N : Nat} {D : Nat}    (hd : 5 * D + 13 ≤ d)  (n : Nat) : ∀ (y1 : Int32) (y2 : Int32) (y3 : Int32) (μ : Mem), Bd l E A RX7 cX7_start 4 (some .int) d (fun q : Int32 × Mem => (some (.int q.1), hM E ad q.2)) 60 [(0, .ref (ad 0)), (1, .int y1), (2, .int y2), (3, .int y3)] [] (hM E ad μ) (md_start_60 N D n y1 y2 y3 μ) := by
  induction n with
  | zero => intro y1 y2 y3 μ; exact b_none
  | succ n ih =>
    intro y1 y2 y3 μ
    rw [md_start_60]
    refine b_iload_n (n := 61) 3 dX7_start_60 rfl rfl rfl ?_
    refine b_sipush (n := 64) (v := 1262) dX7_start_61 rfl (by decide) ?_
    refine b_cmp_ge (n := 67) (tgt := 84) dX7_start_64 (by decide) rfl (fun h64 => ?_) (fun h64 => ?_)
    · refine b_aload_n (n := 68) 0 dX7_start_67 rfl rfl rfl ?_
      refine b_get (n := 71) (v := .ref (ad 5)) 0 f_X7_22 dX7_start_68 rfl hM_o0 rfl ?_
      refine b_iload_n (n := 72) 2 dX7_start_71 rfl rfl rfl ?_
      refine b_iload_n (n := 73) 3 dX7_start_72 rfl rfl rfl ?_
      refine bSi (n := 76) (As := [.int y2, .int y3]) (rest := [.ref (ad 5)]) lk_X7_163 (c_md_of (Nat.le_refl _)) (by omega) rfl rfl (Nat.le_of_ble_eq_true rfl) dX7_start_73 rfl (fun k73 => ?_)
      refine b_iconst (n := 77) (v := 0) dX7_start_76 rfl (by decide) ?_
      refine b_iast (n := 78) (ws' := hM E ad (up μ 5 k73.toNatClampNeg 0)) 5 dX7_start_77 rfl hM_a5 hM_s5 ?_
      refine b_iinc (n := 81) (L' := [(3, .int (y3 + 1)), (0, .ref (ad 0)), (1, .int y1), (2, .int y2)]) 3 1 dX7_start_78 rfl rfl (by decide) (Nat.le_of_ble_eq_true rfl) rfl ?_
      refine b_goto (n := 60) dX7_start_81 (by decide) ?_
      refine Bd.sub (L' := [(0, .ref (ad 0)), (1, .int y1), (2, .int y2), (3, .int (y3 + 1))]) [1, 2, 3, 0] rfl ?_
      exact ih _ _ _ _
    · refine b_aload_n (n := 85) 0 dX7_start_84 rfl rfl rfl ?_
      refine b_get (n := 88) (v := .ref (ad 5)) 0 f_X7_22 dX7_start_85 rfl hM_o0 rfl ?_
      refine b_iload_n (n := 89) 2 dX7_start_88 rfl rfl rfl ?_
      refine b_iconst (n := 90) (v := 0) dX7_start_89 rfl (by decide) ?_
      refine bSi (n := 93) (As := [.int y2, .int 0]) (rest := [.ref (ad 5)]) lk_X7_163 (c_md_of (Nat.le_refl _)) (by omega) rfl rfl (Nat.le_of_ble_eq_true rfl) dX7_start_90 rfl (fun k90 => ?_)
      refine b_iconst (n := 94) (v := 1) dX7_start_93 rfl (by decide) ?_
      refine b_iast (n := 95) (ws' := hM E ad (up μ 5 k90.toNatClampNeg 1)) 5 dX7_start_94 rfl hM_a5 hM_s5 ?_
      refine b_aload_n (n := 96) 0 dX7_start_95 rfl rfl rfl ?_
      refine b_get (n := 99) (v := .ref (ad 5)) 0 f_X7_22 dX7_start_96 rfl hM_o0 rfl ?_
      refine b_iload_n (n := 100) 2 dX7_start_99 rfl rfl rfl ?_
      refine b_iconst (n := 101) (v := 2) dX7_start_100 rfl (by decide) ?_
      refine bSi (n := 104) (As := [.int y2, .int 2]) (rest := [.ref (ad 5)]) lk_X7_163 (c_md_of (Nat.le_refl _)) (by omega) rfl rfl (Nat.le_of_ble_eq_true rfl) dX7_start_101 rfl (fun k101 => ?_)
      refine b_iload_n (n := 105) 1 dX7_start_104 rfl rfl rfl ?_
      refine b_iast (n := 106) (ws' := hM E ad (up (up μ 5 k90.toNatClampNeg 1) 5 k101.toNatClampNeg y1)) 5 dX7_start_105 rfl hM_a5 hM_s5 ?_
      refine b_aload_n (n := 107) 0 dX7_start_106 rfl rfl rfl ?_
      refine b_get (n := 110) (v := .ref (ad 5)) 0 f_X7_22 dX7_start_107 rfl hM_o0 rfl ?_
      refine b_iload_n (n := 111) 2 dX7_start_110 rfl rfl rfl ?_
      refine b_iconst (n := 112) (v := 3) dX7_start_111 rfl (by decide) ?_
      refine bSi (n := 115) (As := [.int y2, .int 3]) (rest := [.ref (ad 5)]) lk_X7_163 (c_md_of (Nat.le_refl _)) (by omega) rfl rfl (Nat.le_of_ble_eq_true rfl) dX7_start_112 rfl (fun k112 => ?_)
      refine b_aload_n (n := 116) 0 dX7_start_115 rfl rfl rfl ?_
      refine b_get (n := 119) (v := .ref (ad 5)) 0 f_X7_22 dX7_start_116 rfl hM_o0 rfl ?_
      refine b_bipush (n := 121) (v := 17) dX7_start_119 rfl (by decide) ?_
      refine b_iload_n (n := 122) 1 dX7_start_121 rfl rfl rfl ?_
      refine b_iadd (n := 123) dX7_start_122 rfl ?_
      refine b_iald (n := 124) 5 dX7_start_123 rfl hM_a5 (fun v123 => ?_)
      refine b_iconst (n := 125) (v := 1) dX7_start_124 rfl (by decide) ?_
      refine b_isub (n := 126) dX7_start_125 rfl ?_
      refine b_iast (n := 127) (ws' := hM E ad (up (up (up μ 5 k90.toNatClampNeg 1) 5 k101.toNatClampNeg y1) 5 k112.toNatClampNeg (v123 - 1))) 5 dX7_start_126 rfl hM_a5 hM_s5 ?_
      refine b_aload_n (n := 128) 0 dX7_start_127 rfl rfl rfl ?_
      refine b_get (n := 131) (v := .ref (ad 5)) 0 f_X7_22 dX7_start_128 rfl hM_o0 rfl ?_
      refine b_iload_n (n := 132) 2 dX7_start_131 rfl rfl rfl ?_
      refine b_iconst (n := 133) (v := 4) dX7_start_132 rfl (by decide) ?_
      refine bSi (n := 136) (As := [.int y2, .int 4]) (rest := [.ref (ad 5)]) lk_X7_163 (c_md_of (Nat.le_refl _)) (by omega) rfl rfl (Nat.le_of_ble_eq_true rfl) dX7_start_133 rfl (fun k133 => ?_)
      refine b_aload_n (n := 137) 0 dX7_start_136 rfl rfl rfl ?_
      refine b_get (n := 140) (v := .ref (ad 5)) 0 f_X7_22 dX7_start_137 rfl hM_o0 rfl ?_
      refine b_iconst (n := 141) (v := 0) dX7_start_140 rfl (by decide) ?_
      refine b_iald (n := 142) 5 dX7_start_141 rfl hM_a5 (fun v141 => ?_)
      refine b_iast (n := 143) (ws' := hM E ad (up (up (up (up μ 5 k90.toNatClampNeg 1) 5 k101.toNatClampNeg y1) 5 k112.toNatClampNeg (v123 - 1)) 5 k133.toNatClampNeg v141)) 5 dX7_start_142 rfl hM_a5 hM_s5 ?_
      refine b_aload_n (n := 144) 0 dX7_start_143 rfl rfl rfl ?_
      refine b_get (n := 147) (v := .ref (ad 5)) 0 f_X7_22 dX7_start_144 rfl hM_o0 rfl ?_
      refine b_iload_n (n := 148) 2 dX7_start_147 rfl rfl rfl ?_
      refine b_iconst (n := 149) (v := 5) dX7_start_148 rfl (by decide) ?_
      refine bSi (n := 152) (As := [.int y2, .int 5]) (rest := [.ref (ad 5)]) lk_X7_163 (c_md_of (Nat.le_refl _)) (by omega) rfl rfl (Nat.le_of_ble_eq_true rfl) dX7_start_149 rfl (fun k149 => ?_)
      refine b_bipush (n := 154) (v := -5) dX7_start_152 rfl (by decide) ?_
      refine b_iast (n := 155) (ws' := hM E ad (up (up (up (up (up μ 5 k90.toNatClampNeg 1) 5 k101.toNatClampNeg y1) 5 k112.toNatClampNeg (v123 - 1)) 5 k133.toNatClampNeg v141) 5 k149.toNatClampNeg ((-5)))) 5 dX7_start_154 rfl hM_a5 hM_s5 ?_
      refine b_iconst (n := 156) (v := 0) dX7_start_155 rfl (by decide) ?_
      refine b_istore_n (n := 157) (L' := [(3, .int 0), (0, .ref (ad 0)), (1, .int y1), (2, .int y2)]) dX7_start_156 rfl rfl (Nat.le_of_ble_eq_true rfl) rfl ?_
      refine Bd.sub (L' := [(0, .ref (ad 0)), (2, .int y2), (3, .int 0)]) [1, 3, 0] rfl ?_
      exact w_md_start_157 hd _ _ _ _
def md_start_38 (N : Nat) (D : Nat)  : Nat → Int32 → Int32 → Mem → Option (Int32 × Mem)
  | 0, _, _, _ => none
  | n + 1, y1, y2, μ =>
    (md_of y2 0).bind fun k44 =>
    (rd 7593 (μ 5) k44).bind fun v47 =>
    if v47 = 1 then
      (md_start_38 N D n y1 (y2 + 1) μ)
    else
      (md_start_60 N D N y1 y2 0 μ)
set_option maxHeartbeats 400000 in
set_option maxRecDepth 100000 in
theorem w_md_start_38 {l : Launch} {E : Ev} {ad : Nat → Nat} {A : Nat → Prop} {d : Nat} {N : Nat} {D : Nat}    (hd : 5 * D + 13 ≤ d)  (n : Nat) : ∀ (y1 : Int32) (y2 : Int32) (μ : Mem), Bd l E A RX7 cX7_start 4 (some .int) d (fun q : Int32 × Mem => (some (.int q.1), hM E ad q.2)) 38 [(0, .ref (ad 0)), (1, .int y1), (2, .int y2)] [] (hM E ad μ) (md_start_38 N D n y1 y2 μ) := by
  induction n with
  | zero => intro y1 y2 μ; exact b_none
  | succ n ih =>
    intro y1 y2 μ
    rw [md_start_38]
    refine b_aload_n (n := 39) 0 dX7_start_38 rfl rfl rfl ?_
    refine b_get (n := 42) (v := .ref (ad 5)) 0 f_X7_22 dX7_start_39 rfl hM_o0 rfl ?_
    refine b_iload_n (n := 43) 2 dX7_start_42 rfl rfl rfl ?_
    refine b_iconst (n := 44) (v := 0) dX7_start_43 rfl (by decide) ?_
    refine bSi (n := 47) (As := [.int y2, .int 0]) (rest := [.ref (ad 5)]) lk_X7_163 (c_md_of (Nat.le_refl _)) (by omega) rfl rfl (Nat.le_of_ble_eq_true rfl) dX7_start_44 rfl (fun k44 => ?_)
    refine b_iald (n := 48) 5 dX7_start_47 rfl hM_a5 (fun v47 => ?_)
    refine b_iconst (n := 49) (v := 1) dX7_start_48 rfl (by decide) ?_
    refine b_cmp_ne (n := 52) (tgt := 58) dX7_start_49 (by decide) rfl (fun h49 => ?_) (fun h49 => ?_)
    · refine b_iinc (n := 55) (L' := [(2, .int (y2 + 1)), (0, .ref (ad 0)), (1, .int y1)]) 2 1 dX7_start_52 rfl rfl (by decide) (Nat.le_of_ble_eq_true rfl) rfl ?_
      refine b_goto (n := 38) dX7_start_55 (by decide) ?_
      refine Bd.sub (L' := [(0, .ref (ad 0)), (1, .int y1), (2, .int (y2 + 1))]) [1, 2, 0] rfl ?_
      exact ih _ _ _
    · refine b_iconst (n := 59) (v := 0) dX7_start_58 rfl (by decide) ?_
      refine b_istore_n (n := 60) (L' := [(3, .int 0), (0, .ref (ad 0)), (1, .int y1), (2, .int y2)]) dX7_start_59 rfl rfl (Nat.le_of_ble_eq_true rfl) rfl ?_
      refine Bd.sub (L' := [(0, .ref (ad 0)), (1, .int y1), (2, .int y2), (3, .int 0)]) [1, 2, 3, 0] rfl ?_
      exact w_md_start_60 hd _ _ _ _ _
def md_start (N : Nat) (D : Nat) (x1 : Int32) (μ : Mem) : Option (Int32 × Mem) :=
  (md_isWorkflow x1).bind fun k1 =>
  if k1 = true then
    ((rd 7593 (μ 5) (17 + x1)).bind fun v17 =>
    if v17 = 0 then
      (some ((-3), μ))
    else
      ((md_instances N μ).bind fun k25 =>
      if k25 = 6 then
        (some ((-4), μ))
      else
        (md_start_38 N D N x1 0 μ)))
  else
    (some ((-1), μ))
set_option maxHeartbeats 400000 in
set_option maxRecDepth 100000 in
theorem c_md_start {l : Launch} {E : Ev} {ad : Nat → Nat} {d : Nat} {N : Nat} {D : Nat}   {x1 : Int32} {μ : Mem} (hd : 5 * D + 13 ≤ d) : Ct l yX7_start cX7_start 4 (some .int) d E (hM E ad μ) [.ref (ad 0), .int x1] (fun q : Int32 × Mem => (some (.int q.1), hM E ad q.2)) (md_start N D x1 μ) := by
  refine Ct.of2 (own := RX7) (L := [(0, .ref (ad 0)), (1, .int x1)]) rfl (by decide +kernel) (Nat.le_of_ble_eq_true rfl) rfl ?_
  unfold md_start
  refine b_iload_n (n := 1) 1 dX7_start_0 rfl rfl rfl ?_
  refine bSb (n := 4) (As := [.int x1]) (rest := []) lk_X7_138 (c_md_isWorkflow (Nat.le_refl _)) (by omega) rfl rfl (Nat.le_of_ble_eq_true rfl) dX7_start_1 rfl (fun k1 => ?_)
  refine b_bnz (n := 7) (tgt := 9) dX7_start_4 (by decide) rfl (fun h4 => ?_) (fun h4 => ?_)
  · refine b_aload_n (n := 10) 0 dX7_start_9 rfl rfl rfl ?_
    refine b_get (n := 13) (v := .ref (ad 5)) 0 f_X7_22 dX7_start_10 rfl hM_o0 rfl ?_
    refine b_bipush (n := 15) (v := 17) dX7_start_13 rfl (by decide) ?_
    refine b_iload_n (n := 16) 1 dX7_start_15 rfl rfl rfl ?_
    refine b_iadd (n := 17) dX7_start_16 rfl ?_
    refine b_iald (n := 18) 5 dX7_start_17 rfl hM_a5 (fun v17 => ?_)
    refine b_if_ne (n := 21) (tgt := 24) dX7_start_18 (by decide) rfl (fun h18 => ?_) (fun h18 => ?_)
    · refine b_bipush (n := 23) (v := -3) dX7_start_21 rfl (by decide) ?_
      exact b_iret dX7_start_23 rfl rfl
    · refine b_aload_n (n := 25) 0 dX7_start_24 rfl rfl rfl ?_
      refine bV0i (n := 28) (As := []) (rest := []) 0 lk_X7_236 (c_md_instances (Nat.le_refl _)) (by omega) rfl rfl rfl rfl (Nat.le_of_ble_eq_true rfl) dX7_start_25 rfl (fun k25 => ?_)
      refine b_bipush (n := 30) (v := 6) dX7_start_28 rfl (by decide) ?_
      refine b_cmp_ne (n := 33) (tgt := 36) dX7_start_30 (by decide) rfl (fun h30 => ?_) (fun h30 => ?_)
      · refine b_bipush (n := 35) (v := -4) dX7_start_33 rfl (by decide) ?_
        exact b_iret dX7_start_35 rfl rfl
      · refine b_iconst (n := 37) (v := 0) dX7_start_36 rfl (by decide) ?_
        refine b_istore_n (n := 38) (L' := [(2, .int 0), (0, .ref (ad 0)), (1, .int x1)]) dX7_start_37 rfl rfl (Nat.le_of_ble_eq_true rfl) rfl ?_
        refine Bd.sub (L' := [(0, .ref (ad 0)), (1, .int x1), (2, .int 0)]) [1, 2, 0] rfl ?_
        exact w_md_start_38 hd _ _ _ _
  · refine b_iconst (n := 8) (v := -1) dX7_start_7 rfl (by decide) ?_
    exact b_iret dX7_start_8 rfl rfl
def md_signal  (x1 : Int32) (x2 : Int32) (μ : Mem) : Option (Int32 × Mem) :=
  (md_isInstance μ x1).bind fun k2 =>
  if k2 = true then
    ((md_isCode x2).bind fun k9 =>
    if k9 = true then
      ((md_of x1 1).bind fun k23 =>
      (rd 7593 (μ 5) k23).bind fun v26 =>
      if v26 = 0 then
        ((md_of x1 (14 + x2)).bind fun k42 =>
        (rd 7593 (μ 5) k42).bind fun v45 =>
        if v45 = 9 then
          (some ((-4), μ))
        else
          ((md_of x1 (14 + x2)).bind fun k63 =>
          (rd 7593 (μ 5) k63).bind fun v67 =>
          ck 7593 k63 <|
          (md_of x1 (14 + x2)).bind fun k80 =>
          (rd 7593 ((up μ 5 k63.toNatClampNeg (v67 + 1)) 5) k80).bind fun v83 =>
          some (v83, up μ 5 k63.toNatClampNeg (v67 + 1))))
      else
        (some ((-3), μ)))
    else
      (some ((-1), μ)))
  else
    (some ((-1), μ))
set_option maxHeartbeats 400000 in
set_option maxRecDepth 100000 in
theorem c_md_signal {l : Launch} {E : Ev} {ad : Nat → Nat} {d : Nat}    {x1 : Int32} {x2 : Int32} {μ : Mem} (hd : 3 ≤ d) : Ct l yX7_signal cX7_signal 3 (some .int) d E (hM E ad μ) [.ref (ad 0), .int x1, .int x2] (fun q : Int32 × Mem => (some (.int q.1), hM E ad q.2)) (md_signal x1 x2 μ) := by
  refine Ct.of2 (own := RX7) (L := [(0, .ref (ad 0)), (1, .int x1), (2, .int x2)]) rfl (by decide +kernel) (Nat.le_of_ble_eq_true rfl) rfl ?_
  unfold md_signal
  refine b_aload_n (n := 1) 0 dX7_signal_0 rfl rfl rfl ?_
  refine b_iload_n (n := 2) 1 dX7_signal_1 rfl rfl rfl ?_
  refine bV0b (n := 5) (As := [.int x1]) (rest := []) 0 lk_X7_243 (c_md_isInstance (Nat.le_refl _)) (by omega) rfl rfl rfl rfl (Nat.le_of_ble_eq_true rfl) dX7_signal_2 rfl (fun k2 => ?_)
  refine b_bz (n := 8) (tgt := 15) dX7_signal_5 (by decide) rfl (fun h5 => ?_) (fun h5 => ?_)
  · refine b_iload_n (n := 9) 2 dX7_signal_8 rfl rfl rfl ?_
    refine bSb (n := 12) (As := [.int x2]) (rest := []) lk_X7_160 (c_md_isCode (Nat.le_refl _)) (by omega) rfl rfl (Nat.le_of_ble_eq_true rfl) dX7_signal_9 rfl (fun k9 => ?_)
    refine b_bnz (n := 15) (tgt := 17) dX7_signal_12 (by decide) rfl (fun h12 => ?_) (fun h12 => ?_)
    · refine b_aload_n (n := 18) 0 dX7_signal_17 rfl rfl rfl ?_
      refine b_get (n := 21) (v := .ref (ad 5)) 0 f_X7_22 dX7_signal_18 rfl hM_o0 rfl ?_
      refine b_iload_n (n := 22) 1 dX7_signal_21 rfl rfl rfl ?_
      refine b_iconst (n := 23) (v := 1) dX7_signal_22 rfl (by decide) ?_
      refine bSi (n := 26) (As := [.int x1, .int 1]) (rest := [.ref (ad 5)]) lk_X7_163 (c_md_of (Nat.le_refl _)) (by omega) rfl rfl (Nat.le_of_ble_eq_true rfl) dX7_signal_23 rfl (fun k23 => ?_)
      refine b_iald (n := 27) 5 dX7_signal_26 rfl hM_a5 (fun v26 => ?_)
      refine b_if_eq (n := 30) (tgt := 33) dX7_signal_27 (by decide) rfl (fun h27 => ?_) (fun h27 => ?_)
      · refine b_aload_n (n := 34) 0 dX7_signal_33 rfl rfl rfl ?_
        refine b_get (n := 37) (v := .ref (ad 5)) 0 f_X7_22 dX7_signal_34 rfl hM_o0 rfl ?_
        refine b_iload_n (n := 38) 1 dX7_signal_37 rfl rfl rfl ?_
        refine b_bipush (n := 40) (v := 14) dX7_signal_38 rfl (by decide) ?_
        refine b_iload_n (n := 41) 2 dX7_signal_40 rfl rfl rfl ?_
        refine b_iadd (n := 42) dX7_signal_41 rfl ?_
        refine bSi (n := 45) (As := [.int x1, .int (14 + x2)]) (rest := [.ref (ad 5)]) lk_X7_163 (c_md_of (Nat.le_refl _)) (by omega) rfl rfl (Nat.le_of_ble_eq_true rfl) dX7_signal_42 rfl (fun k42 => ?_)
        refine b_iald (n := 46) 5 dX7_signal_45 rfl hM_a5 (fun v45 => ?_)
        refine b_bipush (n := 48) (v := 9) dX7_signal_46 rfl (by decide) ?_
        refine b_cmp_ne (n := 51) (tgt := 54) dX7_signal_48 (by decide) rfl (fun h48 => ?_) (fun h48 => ?_)
        · refine b_bipush (n := 53) (v := -4) dX7_signal_51 rfl (by decide) ?_
          exact b_iret dX7_signal_53 rfl rfl
        · refine b_aload_n (n := 55) 0 dX7_signal_54 rfl rfl rfl ?_
          refine b_get (n := 58) (v := .ref (ad 5)) 0 f_X7_22 dX7_signal_55 rfl hM_o0 rfl ?_
          refine b_iload_n (n := 59) 1 dX7_signal_58 rfl rfl rfl ?_
          refine b_bipush (n := 61) (v := 14) dX7_signal_59 rfl (by decide) ?_
          refine b_iload_n (n := 62) 2 dX7_signal_61 rfl rfl rfl ?_
          refine b_iadd (n := 63) dX7_signal_62 rfl ?_
          refine bSi (n := 66) (As := [.int x1, .int (14 + x2)]) (rest := [.ref (ad 5)]) lk_X7_163 (c_md_of (Nat.le_refl _)) (by omega) rfl rfl (Nat.le_of_ble_eq_true rfl) dX7_signal_63 rfl (fun k63 => ?_)
          refine b_dup2 (n := 67) dX7_signal_66 rfl rfl rfl ?_
          refine b_iald (n := 68) 5 dX7_signal_67 rfl hM_a5 (fun v67 => ?_)
          refine b_iconst (n := 69) (v := 1) dX7_signal_68 rfl (by decide) ?_
          refine b_iadd (n := 70) dX7_signal_69 rfl ?_
          refine b_iast (n := 71) (ws' := hM E ad (up μ 5 k63.toNatClampNeg (v67 + 1))) 5 dX7_signal_70 rfl hM_a5 hM_s5 ?_
          refine b_aload_n (n := 72) 0 dX7_signal_71 rfl rfl rfl ?_
          refine b_get (n := 75) (v := .ref (ad 5)) 0 f_X7_22 dX7_signal_72 rfl hM_o0 rfl ?_
          refine b_iload_n (n := 76) 1 dX7_signal_75 rfl rfl rfl ?_
          refine b_bipush (n := 78) (v := 14) dX7_signal_76 rfl (by decide) ?_
          refine b_iload_n (n := 79) 2 dX7_signal_78 rfl rfl rfl ?_
          refine b_iadd (n := 80) dX7_signal_79 rfl ?_
          refine bSi (n := 83) (As := [.int x1, .int (14 + x2)]) (rest := [.ref (ad 5)]) lk_X7_163 (c_md_of (Nat.le_refl _)) (by omega) rfl rfl (Nat.le_of_ble_eq_true rfl) dX7_signal_80 rfl (fun k80 => ?_)
          refine b_iald (n := 84) 5 dX7_signal_83 rfl hM_a5 (fun v83 => ?_)
          exact b_iret dX7_signal_84 rfl rfl
      · refine b_bipush (n := 32) (v := -3) dX7_signal_30 rfl (by decide) ?_
        exact b_iret dX7_signal_32 rfl rfl
    · refine b_iconst (n := 16) (v := -1) dX7_signal_15 rfl (by decide) ?_
      exact b_iret dX7_signal_16 rfl rfl
  · refine b_iconst (n := 16) (v := -1) dX7_signal_15 rfl (by decide) ?_
    exact b_iret dX7_signal_16 rfl rfl
def md_abort (N : Nat) (D : Nat) (x1 : Int32) (μ : Mem) : Option (Int32 × Mem) :=
  (md_isInstance μ x1).bind fun k2 =>
  if k2 = true then
    ((md_of x1 1).bind fun k16 =>
    (rd 7593 (μ 5) k16).bind fun v19 =>
    if v19 = 0 then
      ((md_cancels N (kn_mcancel N D) x1 0 μ).bind fun μ29 =>
      (md_becomes x1 2 μ29).bind fun μ35 =>
      (md_looksAt N D x1 μ35).bind fun μ40 =>
      (md_of x1 1).bind fun k49 =>
      (rd 7593 (μ40 5) k49).bind fun v52 =>
      some (v52, μ40))
    else
      (some ((-3), μ)))
  else
    (some ((-1), μ))
set_option maxHeartbeats 400000 in
set_option maxRecDepth 100000 in
theorem c_md_abort {l : Launch} {E : Ev} {ad : Nat → Nat} {d : Nat} {N : Nat} {D : Nat}   {x1 : Int32} {μ : Mem} (hd : 5 * D + 13 ≤ d) : Ct l yX7_abort cX7_abort 2 (some .int) d E (hM E ad μ) [.ref (ad 0), .int x1] (fun q : Int32 × Mem => (some (.int q.1), hM E ad q.2)) (md_abort N D x1 μ) := by
  refine Ct.of2 (own := RX7) (L := [(0, .ref (ad 0)), (1, .int x1)]) rfl (by decide +kernel) (Nat.le_of_ble_eq_true rfl) rfl ?_
  unfold md_abort
  refine b_aload_n (n := 1) 0 dX7_abort_0 rfl rfl rfl ?_
  refine b_iload_n (n := 2) 1 dX7_abort_1 rfl rfl rfl ?_
  refine bV0b (n := 5) (As := [.int x1]) (rest := []) 0 lk_X7_243 (c_md_isInstance (Nat.le_refl _)) (by omega) rfl rfl rfl rfl (Nat.le_of_ble_eq_true rfl) dX7_abort_2 rfl (fun k2 => ?_)
  refine b_bnz (n := 8) (tgt := 10) dX7_abort_5 (by decide) rfl (fun h5 => ?_) (fun h5 => ?_)
  · refine b_aload_n (n := 11) 0 dX7_abort_10 rfl rfl rfl ?_
    refine b_get (n := 14) (v := .ref (ad 5)) 0 f_X7_22 dX7_abort_11 rfl hM_o0 rfl ?_
    refine b_iload_n (n := 15) 1 dX7_abort_14 rfl rfl rfl ?_
    refine b_iconst (n := 16) (v := 1) dX7_abort_15 rfl (by decide) ?_
    refine bSi (n := 19) (As := [.int x1, .int 1]) (rest := [.ref (ad 5)]) lk_X7_163 (c_md_of (Nat.le_refl _)) (by omega) rfl rfl (Nat.le_of_ble_eq_true rfl) dX7_abort_16 rfl (fun k16 => ?_)
    refine b_iald (n := 20) 5 dX7_abort_19 rfl hM_a5 (fun v19 => ?_)
    refine b_if_eq (n := 23) (tgt := 26) dX7_abort_20 (by decide) rfl (fun h20 => ?_) (fun h20 => ?_)
    · refine b_aload_n (n := 27) 0 dX7_abort_26 rfl rfl rfl ?_
      refine b_iload_n (n := 28) 1 dX7_abort_27 rfl rfl rfl ?_
      refine b_iconst (n := 29) (v := 0) dX7_abort_28 rfl (by decide) ?_
      refine bV0wv (n := 32) (hh := (fun s : Mem => hM E ad s)) (As := [.int x1, .int 0]) (rest := []) 0 lk_X7_208 (c_md_cancels (Nat.le_refl _) (Nat.le_add_right _ _) (ck_mcancel D)) (by omega) (fun _ => rfl) rfl rfl rfl rfl (Nat.le_of_ble_eq_true rfl) dX7_abort_29 rfl ?_
      rintro μ29
      try dsimp only
      refine b_aload_n (n := 33) 0 dX7_abort_32 rfl rfl rfl ?_
      refine b_iload_n (n := 34) 1 dX7_abort_33 rfl rfl rfl ?_
      refine b_iconst (n := 35) (v := 2) dX7_abort_34 rfl (by decide) ?_
      refine bV0wv (n := 38) (hh := (fun s : Mem => hM E ad s)) (As := [.int x1, .int 2]) (rest := []) 0 lk_X7_233 (c_md_becomes (Nat.le_refl _)) (by omega) (fun _ => rfl) rfl rfl rfl rfl (Nat.le_of_ble_eq_true rfl) dX7_abort_35 rfl ?_
      rintro μ35
      try dsimp only
      refine b_aload_n (n := 39) 0 dX7_abort_38 rfl rfl rfl ?_
      refine b_iload_n (n := 40) 1 dX7_abort_39 rfl rfl rfl ?_
      refine bV0wv (n := 43) (hh := (fun s : Mem => hM E ad s)) (As := [.int x1]) (rest := []) 0 lk_X7_239 (c_md_looksAt (Nat.le_refl _)) (by omega) (fun _ => rfl) rfl rfl rfl rfl (Nat.le_of_ble_eq_true rfl) dX7_abort_40 rfl ?_
      rintro μ40
      try dsimp only
      refine b_aload_n (n := 44) 0 dX7_abort_43 rfl rfl rfl ?_
      refine b_get (n := 47) (v := .ref (ad 5)) 0 f_X7_22 dX7_abort_44 rfl hM_o0 rfl ?_
      refine b_iload_n (n := 48) 1 dX7_abort_47 rfl rfl rfl ?_
      refine b_iconst (n := 49) (v := 1) dX7_abort_48 rfl (by decide) ?_
      refine bSi (n := 52) (As := [.int x1, .int 1]) (rest := [.ref (ad 5)]) lk_X7_163 (c_md_of (Nat.le_refl _)) (by omega) rfl rfl (Nat.le_of_ble_eq_true rfl) dX7_abort_49 rfl (fun k49 => ?_)
      refine b_iald (n := 53) 5 dX7_abort_52 rfl hM_a5 (fun v52 => ?_)
      exact b_iret dX7_abort_53 rfl rfl
    · refine b_bipush (n := 25) (v := -3) dX7_abort_23 rfl (by decide) ?_
      exact b_iret dX7_abort_25 rfl rfl
  · refine b_iconst (n := 9) (v := -1) dX7_abort_8 rfl (by decide) ?_
    exact b_iret dX7_abort_9 rfl rfl
def md_remove  (x1 : Int32) (μ : Mem) : Option (Int32 × Mem) :=
  (md_isInstance μ x1).bind fun k2 =>
  if k2 = true then
    ((md_of x1 1).bind fun k16 =>
    (rd 7593 (μ 5) k16).bind fun v19 =>
    if v19 = 0 then
      (some ((-3), μ))
    else
      (if v19 = 2 then
        (some ((-3), μ))
      else
        ((md_of x1 0).bind fun k39 =>
        ck 7593 k39 <|
        some (v19, up μ 5 k39.toNatClampNeg 0))))
  else
    (some ((-1), μ))
set_option maxHeartbeats 400000 in
set_option maxRecDepth 100000 in
theorem c_md_remove {l : Launch} {E : Ev} {ad : Nat → Nat} {d : Nat}    {x1 : Int32} {μ : Mem} (hd : 3 ≤ d) : Ct l yX7_remove cX7_remove 3 (some .int) d E (hM E ad μ) [.ref (ad 0), .int x1] (fun q : Int32 × Mem => (some (.int q.1), hM E ad q.2)) (md_remove x1 μ) := by
  refine Ct.of2 (own := RX7) (L := [(0, .ref (ad 0)), (1, .int x1)]) rfl (by decide +kernel) (Nat.le_of_ble_eq_true rfl) rfl ?_
  unfold md_remove
  refine b_aload_n (n := 1) 0 dX7_remove_0 rfl rfl rfl ?_
  refine b_iload_n (n := 2) 1 dX7_remove_1 rfl rfl rfl ?_
  refine bV0b (n := 5) (As := [.int x1]) (rest := []) 0 lk_X7_243 (c_md_isInstance (Nat.le_refl _)) (by omega) rfl rfl rfl rfl (Nat.le_of_ble_eq_true rfl) dX7_remove_2 rfl (fun k2 => ?_)
  refine b_bnz (n := 8) (tgt := 10) dX7_remove_5 (by decide) rfl (fun h5 => ?_) (fun h5 => ?_)
  · refine b_aload_n (n := 11) 0 dX7_remove_10 rfl rfl rfl ?_
    refine b_get (n := 14) (v := .ref (ad 5)) 0 f_X7_22 dX7_remove_11 rfl hM_o0 rfl ?_
    refine b_iload_n (n := 15) 1 dX7_remove_14 rfl rfl rfl ?_
    refine b_iconst (n := 16) (v := 1) dX7_remove_15 rfl (by decide) ?_
    refine bSi (n := 19) (As := [.int x1, .int 1]) (rest := [.ref (ad 5)]) lk_X7_163 (c_md_of (Nat.le_refl _)) (by omega) rfl rfl (Nat.le_of_ble_eq_true rfl) dX7_remove_16 rfl (fun k16 => ?_)
    refine b_iald (n := 20) 5 dX7_remove_19 rfl hM_a5 (fun v19 => ?_)
    refine b_istore_n (n := 21) (L' := [(2, .int v19), (0, .ref (ad 0)), (1, .int x1)]) dX7_remove_20 rfl rfl (Nat.le_of_ble_eq_true rfl) rfl ?_
    refine b_iload_n (n := 22) 0 dX7_remove_21 rfl rfl rfl ?_
    refine b_if_eq (n := 25) (tgt := 30) dX7_remove_22 (by decide) rfl (fun h22 => ?_) (fun h22 => ?_)
    · refine b_bipush (n := 32) (v := -3) dX7_remove_30 rfl (by decide) ?_
      exact b_iret dX7_remove_32 rfl rfl
    · refine b_iload_n (n := 26) 0 dX7_remove_25 rfl rfl rfl ?_
      refine b_iconst (n := 27) (v := 2) dX7_remove_26 rfl (by decide) ?_
      refine b_cmp_ne (n := 30) (tgt := 33) dX7_remove_27 (by decide) rfl (fun h27 => ?_) (fun h27 => ?_)
      · refine b_bipush (n := 32) (v := -3) dX7_remove_30 rfl (by decide) ?_
        exact b_iret dX7_remove_32 rfl rfl
      · refine b_aload_n (n := 34) 1 dX7_remove_33 rfl rfl rfl ?_
        refine b_get (n := 37) (v := .ref (ad 5)) 0 f_X7_22 dX7_remove_34 rfl hM_o0 rfl ?_
        refine b_iload_n (n := 38) 2 dX7_remove_37 rfl rfl rfl ?_
        refine b_iconst (n := 39) (v := 0) dX7_remove_38 rfl (by decide) ?_
        refine bSi (n := 42) (As := [.int x1, .int 0]) (rest := [.ref (ad 5)]) lk_X7_163 (c_md_of (Nat.le_refl _)) (by omega) rfl rfl (Nat.le_of_ble_eq_true rfl) dX7_remove_39 rfl (fun k39 => ?_)
        refine b_iconst (n := 43) (v := 0) dX7_remove_42 rfl (by decide) ?_
        refine b_iast (n := 44) (ws' := hM E ad (up μ 5 k39.toNatClampNeg 0)) 5 dX7_remove_43 rfl hM_a5 hM_s5 ?_
        refine b_iload_n (n := 45) 0 dX7_remove_44 rfl rfl rfl ?_
        exact b_iret dX7_remove_45 rfl rfl
  · refine b_iconst (n := 9) (v := -1) dX7_remove_8 rfl (by decide) ?_
    exact b_iret dX7_remove_9 rfl rfl
