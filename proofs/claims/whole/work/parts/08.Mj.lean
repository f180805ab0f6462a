/-! the reference: partial pure functions, and the walk of each method (9) -/
def md_begins_171 (N : Nat) (D : Nat) (B : Int32 → Int32 → Mem → Option (Int32 × Mem))  (y1 : Int32) (y2 : Int32) (μ : Mem) : Option (Int32 × Mem) :=
  (md_looks N D B y1 y2 μ).bind fun (k174, μ174) =>
  some (k174, μ174)
set_option maxHeartbeats 400000 in
set_option maxRecDepth 100000 in
theorem w_md_begins_171 {l : Launch} {E : Ev} {ad : Nat → Nat} {A : Nat → Prop} {d : Nat} {N : Nat} {D : Nat}   {B : Int32 → Int32 → Mem → Option (Int32 × Mem)} {dB : Nat} (hdB : D + 7 ≤ dB) (hB : ∀ (x1 : Int32) (x2 : Int32) (μ : Mem), Ct l yX7_looksAtBody cX7_looksAtBody 5 (some .int) dB E (hM E ad μ) [.ref (ad 0), .int x1, .int x2] (fun q : Int32 × Mem => (some (.int q.1), hM E ad q.2)) (B x1 x2 μ))  (hd : dB + 3 ≤ d)  (y1 : Int32) (y2 : Int32) (μ : Mem) : Bd l E A RX7 cX7_begins 6 (some .int) d (fun q : Int32 × Mem => (some (.int q.1), hM E ad q.2)) 171 [(0, .ref (ad 0)), (1, .int y1), (2, .int y2)] [] (hM E ad μ) (md_begins_171 N D B y1 y2 μ) := by
  unfold md_begins_171
  refine b_aload_n (n := 172) 0 dX7_begins_171 rfl rfl rfl ?_
  refine b_iload_n (n := 173) 1 dX7_begins_172 rfl rfl rfl ?_
  refine b_iload_n (n := 174) 2 dX7_begins_173 rfl rfl rfl ?_
  refine bV0wi (n := 177) (hh := (fun s : Mem => hM E ad s)) (As := [.int y1, .int y2]) (rest := []) 0 lk_X7_202 (c_md_looks (Nat.le_refl _) hdB hB) (by omega) (fun _ => rfl) rfl rfl rfl rfl (Nat.le_of_ble_eq_true rfl) dX7_begins_174 rfl ?_
  rintro k174 μ174
  try dsimp only
  exact b_iret dX7_begins_177 rfl rfl
def md_begins_143 (N : Nat) (D : Nat) (B : Int32 → Int32 → Mem → Option (Int32 × Mem))  : Nat → Int32 → Int32 → Int32 → Mem → Option (Int32 × Mem)
  | 0, _, _, _, _ => none
  | n + 1, y1, y2, y4, μ =>
    if y4 < 0 then
      (md_begins_171 N D B y1 y2 μ)
    else
      ((B y1 y4 μ).bind fun (k152, μ152) =>
      (md_nodePart μ152 y1 y4 6).bind fun k163 =>
      md_begins_143 N D B n y1 y2 k163 μ152)
set_option maxHeartbeats 400000 in
set_option maxRecDepth 100000 in
theorem w_md_begins_143 {l : Launch} {E : Ev} {ad : Nat → Nat} {A : Nat → Prop} {d : Nat} {N : Nat} {D : Nat}   {B : Int32 → Int32 → Mem → Option (Int32 × Mem)} {dB : Nat} (hdB : D + 7 ≤ dB) (hB : ∀ (x1 : Int32) (x2 : Int32) (μ : Mem), Ct l yX7_looksAtBody cX7_looksAtBody 5 (some .int) dB E (hM E ad μ) [.ref (ad 0), .int x1, .int x2] (fun q : Int32 × Mem => (some (.int q.1), hM E ad q.2)) (B x1 x2 μ))  (hd : dB + 3 ≤ d)  (n : Nat) : ∀ (y1 : Int32) (y2 : Int32) (y4 : Int32) (μ : Mem), Bd l E A RX7 cX7_begins 6 (some .int) d (fun q : Int32 × Mem => (some (.int q.1), hM E ad q.2)) 143 [(0, .ref (ad 0)), (1, .int y1), (2, .int y2), (4, .int y4)] [] (hM E ad μ) (md_begins_143 N D B n y1 y2 y4 μ) := by
  induction n with
  | zero => intro y1 y2 y4 μ; exact b_none
  | succ n ih =>
    intro y1 y2 y4 μ
    rw [md_begins_143]
    refine b_iload (n := 145) 3 dX7_begins_143 rfl rfl ?_
    refine b_if_lt (n := 148) (tgt := 171) dX7_begins_145 (by decide) rfl (fun h145 => ?_) (fun h145 => ?_)
    · refine Bd.sub (L' := [(0, .ref (ad 0)), (1, .int y1), (2, .int y2)]) [0, 1, 2] rfl ?_
      exact w_md_begins_171 hdB hB hd _ _ _
    · refine b_aload_n (n := 149) 0 dX7_begins_148 rfl rfl rfl ?_
      refine b_iload_n (n := 150) 1 dX7_begins_149 rfl rfl rfl ?_
      refine b_iload (n := 152) 3 dX7_begins_150 rfl rfl ?_
      refine bV0wi (n := 155) (hh := (fun s : Mem => hM E ad s)) (As := [.int y1, .int y4]) (rest := []) 0 lk_X7_196 (hB _ _ _) (by omega) (fun _ => rfl) rfl rfl rfl rfl (Nat.le_of_ble_eq_true rfl) dX7_begins_152 rfl ?_
      rintro k152 μ152
      try dsimp only
      refine b_istore (n := 157) (L' := [(5, .int k152), (0, .ref (ad 0)), (1, .int y1), (2, .int y2), (4, .int y4)]) dX7_begins_155 rfl (Nat.le_of_ble_eq_true rfl) rfl ?_
      refine b_aload_n (n := 158) 1 dX7_begins_157 rfl rfl rfl ?_
      refine b_iload_n (n := 159) 2 dX7_begins_158 rfl rfl rfl ?_
      refine b_iload (n := 161) 4 dX7_begins_159 rfl rfl ?_
      refine b_bipush (n := 163) (v := 6) dX7_begins_161 rfl (by decide) ?_
      refine bV0i (n := 166) (As := [.int y1, .int y4, .int 6]) (rest := []) 0 lk_X7_171 (c_md_nodePart (Nat.le_refl _)) (by omega) rfl rfl rfl rfl (Nat.le_of_ble_eq_true rfl) dX7_begins_163 rfl (fun k163 => ?_)
      refine b_istore (n := 168) (L' := [(4, .int k163), (5, .int k152), (0, .ref (ad 0)), (1, .int y1), (2, .int y2)]) dX7_begins_166 rfl (Nat.le_of_ble_eq_true rfl) rfl ?_
      refine b_goto (n := 143) dX7_begins_168 (by decide) ?_
      refine Bd.sub (L' := [(0, .ref (ad 0)), (1, .int y1), (2, .int y2), (4, .int k163)]) [2, 3, 4, 0] rfl ?_
      exact ih _ _ _ _
def md_begins_128 (N : Nat) (D : Nat) (B : Int32 → Int32 → Mem → Option (Int32 × Mem))  (y1 : Int32) (y2 : Int32) (y3 : Int32) (μ : Mem) : Option (Int32 × Mem) :=
  if y3 = 6 then
    ((md_nodePart μ y1 y2 5).bind fun k138 =>
    md_begins_143 N D B N y1 y2 k138 μ)
  else
    (md_begins_171 N D B y1 y2 μ)
set_option maxHeartbeats 400000 in
set_option maxRecDepth 100000 in
theorem w_md_begins_128 {l : Launch} {E : Ev} {ad : Nat → Nat} {A : Nat → Prop} {d : Nat} {N : Nat} {D : Nat}   {B : Int32 → Int32 → Mem → Option (Int32 × Mem)} {dB : Nat} (hdB : D + 7 ≤ dB) (hB : ∀ (x1 : Int32) (x2 : Int32) (μ : Mem), Ct l yX7_looksAtBody cX7_looksAtBody 5 (some .int) dB E (hM E ad μ) [.ref (ad 0), .int x1, .int x2] (fun q : Int32 × Mem => (some (.int q.1), hM E ad q.2)) (B x1 x2 μ))  (hd : dB + 3 ≤ d)  (y1 : Int32) (y2 : Int32) (y3 : Int32) (μ : Mem) : Bd l E A RX7 cX7_begins 6 (some .int) d (fun q : Int32 × Mem => (some (.int q.1), hM E ad q.2)) 128 [(0, .ref (ad 0)), (1, .int y1), (2, .int y2), (3, .int y3)] [] (hM E ad μ) (md_begins_128 N D B y1 y2 y3 μ) := by
  unfold md_begins_128
  refine b_iload_n (n := 129) 3 dX7_begins_128 rfl rfl rfl ?_
  refine b_bipush (n := 131) (v := 6) dX7_begins_129 rfl (by decide) ?_
  refine b_cmp_ne (n := 134) (tgt := 171) dX7_begins_131 (by decide) rfl (fun h131 => ?_) (fun h131 => ?_)
  · refine b_aload_n (n := 135) 0 dX7_begins_134 rfl rfl rfl ?_
    refine b_iload_n (n := 136) 1 dX7_begins_135 rfl rfl rfl ?_
    refine b_iload_n (n := 137) 2 dX7_begins_136 rfl rfl rfl ?_
    refine b_iconst (n := 138) (v := 5) dX7_begins_137 rfl (by decide) ?_
    refine bV0i (n := 141) (As := [.int y1, .int y2, .int 5]) (rest := []) 0 lk_X7_171 (c_md_nodePart (Nat.le_refl _)) (by omega) rfl rfl rfl rfl (Nat.le_of_ble_eq_true rfl) dX7_begins_138 rfl (fun k138 => ?_)
    refine b_istore (n := 143) (L' := [(4, .int k138), (0, .ref (ad 0)), (1, .int y1), (2, .int y2), (3, .int y3)]) dX7_begins_141 rfl (Nat.le_of_ble_eq_true rfl) rfl ?_
    refine Bd.sub (L' := [(0, .ref (ad 0)), (1, .int y1), (2, .int y2), (4, .int k138)]) [1, 2, 3, 0] rfl ?_
    exact w_md_begins_143 hdB hB hd _ _ _ _ _
  · refine Bd.sub (L' := [(0, .ref (ad 0)), (1, .int y1), (2, .int y2)]) [0, 1, 2] rfl ?_
    exact w_md_begins_171 hdB hB hd _ _ _
def md_begins_96 (N : Nat) (D : Nat) (B : Int32 → Int32 → Mem → Option (Int32 × Mem))  (y1 : Int32) (y2 : Int32) (y3 : Int32) (y4 : Int32) (z0 : Int32) (μ : Mem) : Option (Int32 × Mem) :=
  (md_at y1 y2 2).bind fun k105 =>
  if z0 = 0 then
    ((md_nodePart μ y1 y4 6).bind fun k124 =>
    ck 7593 k105 <|
    md_begins_128 N D B y1 y2 y3 (up μ 5 k105.toNatClampNeg k124))
  else
    (ck 7593 k105 <|
    md_begins_128 N D B y1 y2 y3 (up μ 5 k105.toNatClampNeg y4))
set_option maxHeartbeats 400000 in
set_option maxRecDepth 100000 in
theorem w_md_begins_96 {l : Launch} {E : Ev} {ad : Nat → Nat} {A : Nat → Prop} {d : Nat} {N : Nat} {D : Nat}   {B : Int32 → Int32 → Mem → Option (Int32 × Mem)} {dB : Nat} (hdB : D + 7 ≤ dB) (hB : ∀ (x1 : Int32) (x2 : Int32) (μ : Mem), Ct l yX7_looksAtBody cX7_looksAtBody 5 (some .int) dB E (hM E ad μ) [.ref (ad 0), .int x1, .int x2] (fun q : Int32 × Mem => (some (.int q.1), hM E ad q.2)) (B x1 x2 μ))  (hd : dB + 3 ≤ d)  (y1 : Int32) (y2 : Int32) (y3 : Int32) (y4 : Int32) (z0 : Int32) (μ : Mem) : Bd l E A RX7 cX7_begins 6 (some .int) d (fun q : Int32 × Mem => (some (.int q.1), hM E ad q.2)) 96 [(0, .ref (ad 0)), (1, .int y1), (2, .int y2), (3, .int y3), (4, .int y4)] [.int z0] (hM E ad μ) (md_begins_96 N D B y1 y2 y3 y4 z0 μ) := by
  unfold md_begins_96
  refine b_istore (n := 98) (L' := [(5, .int z0), (0, .ref (ad 0)), (1, .int y1), (2, .int y2), (3, .int y3), (4, .int y4)]) dX7_begins_96 rfl (Nat.le_of_ble_eq_true rfl) rfl ?_
  refine b_aload_n (n := 99) 1 dX7_begins_98 rfl rfl rfl ?_
  refine b_get (n := 102) (v := .ref (ad 5)) 0 f_X7_22 dX7_begins_99 rfl hM_o0 rfl ?_
  refine b_iload_n (n := 103) 2 dX7_begins_102 rfl rfl rfl ?_
  refine b_iload_n (n := 104) 3 dX7_begins_103 rfl rfl rfl ?_
  refine b_iconst (n := 105) (v := 2) dX7_begins_104 rfl (by decide) ?_
  refine bSi (n := 108) (As := [.int y1, .int y2, .int 2]) (rest := [.ref (ad 5)]) lk_X7_169 (c_md_at (Nat.le_refl _)) (by omega) rfl rfl (Nat.le_of_ble_eq_true rfl) dX7_begins_105 rfl (fun k105 => ?_)
  refine b_iload (n := 110) 0 dX7_begins_108 rfl rfl ?_
  refine b_if_eq (n := 113) (tgt := 118) dX7_begins_110 (by decide) rfl (fun h110 => ?_) (fun h110 => ?_)
  · refine b_aload_n (n := 119) 1 dX7_begins_118 rfl rfl rfl ?_
    refine b_iload_n (n := 120) 2 dX7_begins_119 rfl rfl rfl ?_
    refine b_iload (n := 122) 5 dX7_begins_120 rfl rfl ?_
    refine b_bipush (n := 124) (v := 6) dX7_begins_122 rfl (by decide) ?_
    refine bV0i (n := 127) (As := [.int y1, .int y4, .int 6]) (rest := [.int k105, .ref (ad 5)]) 0 lk_X7_171 (c_md_nodePart (Nat.le_refl _)) (by omega) rfl rfl rfl rfl (Nat.le_of_ble_eq_true rfl) dX7_begins_124 rfl (fun k124 => ?_)
    refine b_iast (n := 128) (ws' := hM E ad (up μ 5 k105.toNatClampNeg k124)) 5 dX7_begins_127 rfl hM_a5 hM_s5 ?_
    refine Bd.sub (L' := [(0, .ref (ad 0)), (1, .int y1), (2, .int y2), (3, .int y3)]) [1, 2, 3, 4] rfl ?_
    exact w_md_begins_128 hdB hB hd _ _ _ _
  · refine b_iload (n := 115) 5 dX7_begins_113 rfl rfl ?_
    refine b_goto (n := 127) dX7_begins_115 (by decide) ?_
    refine b_iast (n := 128) (ws' := hM E ad (up μ 5 k105.toNatClampNeg y4)) 5 dX7_begins_127 rfl hM_a5 hM_s5 ?_
    refine Bd.sub (L' := [(0, .ref (ad 0)), (1, .int y1), (2, .int y2), (3, .int y3)]) [1, 2, 3, 4] rfl ?_
    exact w_md_begins_128 hdB hB hd _ _ _ _
def md_begins_48 (N : Nat) (D : Nat) (B : Int32 → Int32 → Mem → Option (Int32 × Mem))  (y1 : Int32) (y2 : Int32) (y3 : Int32) (μ : Mem) : Option (Int32 × Mem) :=
  if y3 = 5 then
    ((md_nodePart μ y1 y2 5).bind fun k57 =>
    (md_nodePart μ y1 y2 1).bind fun k73 =>
    (md_of y1 (10 + k73)).bind fun k77 =>
    (rd 7593 (μ 5) k77).bind fun v80 =>
    (md_nodePart μ y1 y2 2).bind fun k85 =>
    if v80 < k85 then
      (md_begins_96 N D B y1 y2 y3 k57 1 μ)
    else
      (md_begins_96 N D B y1 y2 y3 k57 0 μ))
  else
    (md_begins_128 N D B y1 y2 y3 μ)
set_option maxHeartbeats 400000 in
set_option maxRecDepth 100000 in
theorem w_md_begins_48 {l : Launch} {E : Ev} {ad : Nat → Nat} {A : Nat → Prop} {d : Nat} {N : Nat} {D : Nat}   {B : Int32 → Int32 → Mem → Option (Int32 × Mem)} {dB : Nat} (hdB : D + 7 ≤ dB) (hB : ∀ (x1 : Int32) (x2 : Int32) (μ : Mem), Ct l yX7_looksAtBody cX7_looksAtBody 5 (some .int) dB E (hM E ad μ) [.ref (ad 0), .int x1, .int x2] (fun q : Int32 × Mem => (some (.int q.1), hM E ad q.2)) (B x1 x2 μ))  (hd : dB + 3 ≤ d)  (y1 : Int32) (y2 : Int32) (y3 : Int32) (μ : Mem) : Bd l E A RX7 cX7_begins 6 (some .int) d (fun q : Int32 × Mem => (some (.int q.1), hM E ad q.2)) 48 [(0, .ref (ad 0)), (1, .int y1), (2, .int y2), (3, .int y3)] [] (hM E ad μ) (md_begins_48 N D B y1 y2 y3 μ) := by
  unfold md_begins_48
  refine b_iload_n (n := 49) 3 dX7_begins_48 rfl rfl rfl ?_
  refine b_iconst (n := 50) (v := 5) dX7_begins_49 rfl (by decide) ?_
  refine b_cmp_ne (n := 53) (tgt := 128) dX7_begins_50 (by decide) rfl (fun h50 => ?_) (fun h50 => ?_)
  · refine b_aload_n (n := 54) 0 dX7_begins_53 rfl rfl rfl ?_
    refine b_iload_n (n := 55) 1 dX7_begins_54 rfl rfl rfl ?_
    refine b_iload_n (n := 56) 2 dX7_begins_55 rfl rfl rfl ?_
    refine b_iconst (n := 57) (v := 5) dX7_begins_56 rfl (by decide) ?_
    refine bV0i (n := 60) (As := [.int y1, .int y2, .int 5]) (rest := []) 0 lk_X7_171 (c_md_nodePart (Nat.le_refl _)) (by omega) rfl rfl rfl rfl (Nat.le_of_ble_eq_true rfl) dX7_begins_57 rfl (fun k57 => ?_)
    refine b_istore (n := 62) (L' := [(4, .int k57), (0, .ref (ad 0)), (1, .int y1), (2, .int y2), (3, .int y3)]) dX7_begins_60 rfl (Nat.le_of_ble_eq_true rfl) rfl ?_
    refine b_aload_n (n := 63) 1 dX7_begins_62 rfl rfl rfl ?_
    refine b_get (n := 66) (v := .ref (ad 5)) 0 f_X7_22 dX7_begins_63 rfl hM_o0 rfl ?_
    refine b_iload_n (n := 67) 2 dX7_begins_66 rfl rfl rfl ?_
    refine b_bipush (n := 69) (v := 10) dX7_begins_67 rfl (by decide) ?_
    refine b_aload_n (n := 70) 1 dX7_begins_69 rfl rfl rfl ?_
    refine b_iload_n (n := 71) 2 dX7_begins_70 rfl rfl rfl ?_
    refine b_iload_n (n := 72) 3 dX7_begins_71 rfl rfl rfl ?_
    refine b_iconst (n := 73) (v := 1) dX7_begins_72 rfl (by decide) ?_
    refine bV0i (n := 76) (As := [.int y1, .int y2, .int 1]) (rest := [.int 10, .int y1, .ref (ad 5)]) 0 lk_X7_171 (c_md_nodePart (Nat.le_refl _)) (by omega) rfl rfl rfl rfl (Nat.le_of_ble_eq_true rfl) dX7_begins_73 rfl (fun k73 => ?_)
    refine b_iadd (n := 77) dX7_begins_76 rfl ?_
    refine bSi (n := 80) (As := [.int y1, .int (10 + k73)]) (rest := [.ref (ad 5)]) lk_X7_163 (c_md_of (Nat.le_refl _)) (by omega) rfl rfl (Nat.le_of_ble_eq_true rfl) dX7_begins_77 rfl (fun k77 => ?_)
    refine b_iald (n := 81) 5 dX7_begins_80 rfl hM_a5 (fun v80 => ?_)
    refine b_aload_n (n := 82) 1 dX7_begins_81 rfl rfl rfl ?_
    refine b_iload_n (n := 83) 2 dX7_begins_82 rfl rfl rfl ?_
    refine b_iload_n (n := 84) 3 dX7_begins_83 rfl rfl rfl ?_
    refine b_iconst (n := 85) (v := 2) dX7_begins_84 rfl (by decide) ?_
    refine bV0i (n := 88) (As := [.int y1, .int y2, .int 2]) (rest := [.int v80]) 0 lk_X7_171 (c_md_nodePart (Nat.le_refl _)) (by omega) rfl rfl rfl rfl (Nat.le_of_ble_eq_true rfl) dX7_begins_85 rfl (fun k85 => ?_)
    refine b_cmp_ge (n := 91) (tgt := 95) dX7_begins_88 (by decide) rfl (fun h88 => ?_) (fun h88 => ?_)
    · refine b_iconst (n := 92) (v := 1) dX7_begins_91 rfl (by decide) ?_
      refine b_goto (n := 96) dX7_begins_92 (by decide) ?_
      refine Bd.sub (L' := [(0, .ref (ad 0)), (1, .int y1), (2, .int y2), (3, .int y3), (4, .int k57)]) [1, 2, 3, 4, 0] rfl ?_
      exact w_md_begins_96 hdB hB hd _ _ _ _ _ _
    · refine b_iconst (n := 96) (v := 0) dX7_begins_95 rfl (by decide) ?_
      refine Bd.sub (L' := [(0, .ref (ad 0)), (1, .int y1), (2, .int y2), (3, .int y3), (4, .int k57)]) [1, 2, 3, 4, 0] rfl ?_
      exact w_md_begins_96 hdB hB hd _ _ _ _ _ _
  · exact w_md_begins_128 hdB hB hd _ _ _ _
def md_begins (N : Nat) (D : Nat) (B : Int32 → Int32 → Mem → Option (Int32 × Mem)) (x1 : Int32) (x2 : Int32) (μ : Mem) : Option (Int32 × Mem) :=
  (md_at x1 x2 0).bind fun k7 =>
  ck 7593 k7 <|
  (md_at x1 x2 1).bind fun k19 =>
  (rd 7593 ((up μ 5 k7.toNatClampNeg 1) 5) 0).bind fun v27 =>
  ck 7593 k19 <|
  (md_nodePart (up (up μ 5 k7.toNatClampNeg 1) 5 k19.toNatClampNeg v27) x1 x2 0).bind fun k33 =>
  if k33 = 1 then
    ((md_tries x1 x2 (up (up μ 5 k7.toNatClampNeg 1) 5 k19.toNatClampNeg v27)).bind fun μ45 =>
    md_begins_48 N D B x1 x2 k33 μ45)
  else
    (md_begins_48 N D B x1 x2 k33 (up (up μ 5 k7.toNatClampNeg 1) 5 k19.toNatClampNeg v27))
set_option maxHeartbeats 400000 in
set_option maxRecDepth 100000 in
theorem c_md_begins {l : Launch} {E : Ev} {ad : Nat → Nat} {d : Nat} {N : Nat} {D : Nat}   {B : Int32 → Int32 → Mem → Option (Int32 × Mem)} {dB : Nat} {x1 : Int32} {x2 : Int32} {μ : Mem} (hd : dB + 3 ≤ d) (hdB : D + 7 ≤ dB) (hB : ∀ (x1 : Int32) (x2 : Int32) (μ : Mem), Ct l yX7_looksAtBody cX7_looksAtBody 5 (some .int) dB E (hM E ad μ) [.ref (ad 0), .int x1, .int x2] (fun q : Int32 × Mem => (some (.int q.1), hM E ad q.2)) (B x1 x2 μ)) : Ct l yX7_begins cX7_begins 6 (some .int) d E (hM E ad μ) [.ref (ad 0), .int x1, .int x2] (fun q : Int32 × Mem => (some (.int q.1), hM E ad q.2)) (md_begins N D B x1 x2 μ) := by
  refine Ct.of2 (own := RX7) (L := [(0, .ref (ad 0)), (1, .int x1), (2, .int x2)]) rfl (by decide +kernel) (Nat.le_of_ble_eq_true rfl) rfl ?_
  unfold md_begins
  refine b_aload_n (n := 1) 0 dX7_begins_0 rfl rfl rfl ?_
  refine b_get (n := 4) (v := .ref (ad 5)) 0 f_X7_22 dX7_begins_1 rfl hM_o0 rfl ?_
  refine b_iload_n (n := 5) 1 dX7_begins_4 rfl rfl rfl ?_
  refine b_iload_n (n := 6) 2 dX7_begins_5 rfl rfl rfl ?_
  refine b_iconst (n := 7) (v := 0) dX7_begins_6 rfl (by decide) ?_
  refine bSi (n := 10) (As := [.int x1, .int x2, .int 0]) (rest := [.ref (ad 5)]) lk_X7_169 (c_md_at (Nat.le_refl _)) (by omega) rfl rfl (Nat.le_of_ble_eq_true rfl) dX7_begins_7 rfl (fun k7 => ?_)
  refine b_iconst (n := 11) (v := 1) dX7_begins_10 rfl (by decide) ?_
  refine b_iast (n := 12) (ws' := hM E ad (up μ 5 k7.toNatClampNeg 1)) 5 dX7_begins_11 rfl hM_a5 hM_s5 ?_
  refine b_aload_n (n := 13) 0 dX7_begins_12 rfl rfl rfl ?_
  refine b_get (n := 16) (v := .ref (ad 5)) 0 f_X7_22 dX7_begins_13 rfl hM_o0 rfl ?_
  refine b_iload_n (n := 17) 1 dX7_begins_16 rfl rfl rfl ?_
  refine b_iload_n (n := 18) 2 dX7_begins_17 rfl rfl rfl ?_
  refine b_iconst (n := 19) (v := 1) dX7_begins_18 rfl (by decide) ?_
  refine bSi (n := 22) (As := [.int x1, .int x2, .int 1]) (rest := [.ref (ad 5)]) lk_X7_169 (c_md_at (Nat.le_refl _)) (by omega) rfl rfl (Nat.le_of_ble_eq_true rfl) dX7_begins_19 rfl (fun k19 => ?_)
  refine b_aload_n (n := 23) 0 dX7_begins_22 rfl rfl rfl ?_
  refine b_get (n := 26) (v := .ref (ad 5)) 0 f_X7_22 dX7_begins_23 rfl hM_o0 rfl ?_
  refine b_iconst (n := 27) (v := 0) dX7_begins_26 rfl (by decide) ?_
  refine b_iald (n := 28) 5 dX7_begins_27 rfl hM_a5 (fun v27 => ?_)
  refine b_iast (n := 29) (ws' := hM E ad (up (up μ 5 k7.toNatClampNeg 1) 5 k19.toNatClampNeg v27)) 5 dX7_begins_28 rfl hM_a5 hM_s5 ?_
  refine b_aload_n (n := 30) 0 dX7_begins_29 rfl rfl rfl ?_
  refine b_iload_n (n := 31) 1 dX7_begins_30 rfl rfl rfl ?_
  refine b_iload_n (n := 32) 2 dX7_begins_31 rfl rfl rfl ?_
  refine b_iconst (n := 33) (v := 0) dX7_begins_32 rfl (by decide) ?_
  refine bV0i (n := 36) (As := [.int x1, .int x2, .int 0]) (rest := []) 0 lk_X7_171 (c_md_nodePart (Nat.le_refl _)) (by omega) rfl rfl rfl rfl (Nat.le_of_ble_eq_true rfl) dX7_begins_33 rfl (fun k33 => ?_)
  refine b_istore_n (n := 37) (L' := [(3, .int k33), (0, .ref (ad 0)), (1, .int x1), (2, .int x2)]) dX7_begins_36 rfl rfl (Nat.le_of_ble_eq_true rfl) rfl ?_
  refine b_iload_n (n := 38) 0 dX7_begins_37 rfl rfl rfl ?_
  refine b_iconst (n := 39) (v := 1) dX7_begins_38 rfl (by decide) ?_
  refine b_cmp_ne (n := 42) (tgt := 48) dX7_begins_39 (by decide) rfl (fun h39 => ?_) (fun h39 => ?_)
  · refine b_aload_n (n := 43) 1 dX7_begins_42 rfl rfl rfl ?_
    refine b_iload_n (n := 44) 2 dX7_begins_43 rfl rfl rfl ?_
    refine b_iload_n (n := 45) 3 dX7_begins_44 rfl rfl rfl ?_
    refine bV0wv (n := 48) (hh := (fun s : Mem => hM E ad s)) (As := [.int x1, .int x2]) (rest := []) 0 lk_X7_177 (c_md_tries (Nat.le_refl _)) (by omega) (fun _ => rfl) rfl rfl rfl rfl (Nat.le_of_ble_eq_true rfl) dX7_begins_45 rfl ?_
    rintro μ45
    try dsimp only
    refine Bd.sub (L' := [(0, .ref (ad 0)), (1, .int x1), (2, .int x2), (3, .int k33)]) [1, 2, 3, 0] rfl ?_
    exact w_md_begins_48 hdB hB hd _ _ _ _
  · refine Bd.sub (L' := [(0, .ref (ad 0)), (1, .int x1), (2, .int x2), (3, .int k33)]) [1, 2, 3, 0] rfl ?_
    exact w_md_begins_48 hdB hB hd _ _ _ _
def md_looksAtBody_73 (N : Nat) (D : Nat) (B : Int32 → Int32 → Mem → Option (Int32 × Mem)) (K20 : Int32 → Int32 → Int32 → Mem → Option (Int32 × Mem)) (y1 : Int32) (y2 : Int32) (y3 : Int32) (y4 : Int32) (μ : Mem) : Option (Int32 × Mem) :=
  if y4 = 3 then
    ((md_comesTo y1 y2 3 μ).bind fun (k83, μ83) =>
    some (k83, μ83))
  else
    (if y4 = 2 then
      ((md_nodePart μ y1 y3 6).bind fun k100 =>
      K20 y1 y2 k100 μ)
    else
      (some (1, μ)))
set_option maxHeartbeats 400000 in
set_option maxRecDepth 100000 in
theorem w_md_looksAtBody_73 {l : Launch} {E : Ev} {ad : Nat → Nat} {A : Nat → Prop} {d : Nat} {N : Nat} {D : Nat}   {B : Int32 → Int32 → Mem → Option (Int32 × Mem)} {dB : Nat} (hdB : D + 7 ≤ dB) (hB : ∀ (x1 : Int32) (x2 : Int32) (μ : Mem), Ct l yX7_looksAtBody cX7_looksAtBody 5 (some .int) dB E (hM E ad μ) [.ref (ad 0), .int x1, .int x2] (fun q : Int32 × Mem => (some (.int q.1), hM E ad q.2)) (B x1 x2 μ)) {K20 : Int32 → Int32 → Int32 → Mem → Option (Int32 × Mem)} (hd : dB + 4 ≤ d) (hK20 : ∀ (y1 : Int32) (y2 : Int32) (y3 : Int32) (μ : Mem), Bd l E A RX7 cX7_looksAtBody 5 (some .int) d (fun q : Int32 × Mem => (some (.int q.1), hM E ad q.2)) 20 [(0, .ref (ad 0)), (1, .int y1), (2, .int y2), (3, .int y3)] [] (hM E ad μ) (K20 y1 y2 y3 μ)) (y1 : Int32) (y2 : Int32) (y3 : Int32) (y4 : Int32) (μ : Mem) : Bd l E A RX7 cX7_looksAtBody 5 (some .int) d (fun q : Int32 × Mem => (some (.int q.1), hM E ad q.2)) 73 [(0, .ref (ad 0)), (1, .int y1), (2, .int y2), (3, .int y3), (4, .int y4)] [] (hM E ad μ) (md_looksAtBody_73 N D B K20 y1 y2 y3 y4 μ) := by
  unfold md_looksAtBody_73
  refine b_iload (n := 75) 4 dX7_looksAtBody_73 rfl rfl ?_
  refine b_iconst (n := 76) (v := 3) dX7_looksAtBody_75 rfl (by decide) ?_
  refine b_cmp_ne (n := 79) (tgt := 87) dX7_looksAtBody_76 (by decide) rfl (fun h76 => ?_) (fun h76 => ?_)
  · refine b_aload_n (n := 80) 0 dX7_looksAtBody_79 rfl rfl rfl ?_
    refine b_iload_n (n := 81) 1 dX7_looksAtBody_80 rfl rfl rfl ?_
    refine b_iload_n (n := 82) 2 dX7_looksAtBody_81 rfl rfl rfl ?_
    refine b_iconst (n := 83) (v := 3) dX7_looksAtBody_82 rfl (by decide) ?_
    refine bV0wi (n := 86) (hh := (fun s : Mem => hM E ad s)) (As := [.int y1, .int y2, .int 3]) (rest := []) 0 lk_X7_184 (c_md_comesTo (Nat.le_refl _)) (by omega) (fun _ => rfl) rfl rfl rfl rfl (Nat.le_of_ble_eq_true rfl) dX7_looksAtBody_83 rfl ?_
    rintro k83 μ83
    try dsimp only
    exact b_iret dX7_looksAtBody_86 rfl rfl
  · refine b_iload (n := 89) 4 dX7_looksAtBody_87 rfl rfl ?_
    refine b_iconst (n := 90) (v := 2) dX7_looksAtBody_89 rfl (by decide) ?_
    refine b_cmp_eq (n := 93) (tgt := 95) dX7_looksAtBody_90 (by decide) rfl (fun h90 => ?_) (fun h90 => ?_)
    · refine b_aload_n (n := 96) 0 dX7_looksAtBody_95 rfl rfl rfl ?_
      refine b_iload_n (n := 97) 1 dX7_looksAtBody_96 rfl rfl rfl ?_
      refine b_iload_n (n := 98) 3 dX7_looksAtBody_97 rfl rfl rfl ?_
      refine b_bipush (n := 100) (v := 6) dX7_looksAtBody_98 rfl (by decide) ?_
      refine bV0i (n := 103) (As := [.int y1, .int y3, .int 6]) (rest := []) 0 lk_X7_171 (c_md_nodePart (Nat.le_refl _)) (by omega) rfl rfl rfl rfl (Nat.le_of_ble_eq_true rfl) dX7_looksAtBody_100 rfl (fun k100 => ?_)
      refine b_istore_n (n := 104) (L' := [(3, .int k100), (0, .ref (ad 0)), (1, .int y1), (2, .int y2), (4, .int y4)]) dX7_looksAtBody_103 rfl rfl (Nat.le_of_ble_eq_true rfl) rfl ?_
      refine b_goto (n := 20) dX7_looksAtBody_104 (by decide) ?_
      refine Bd.sub (L' := [(0, .ref (ad 0)), (1, .int y1), (2, .int y2), (3, .int k100)]) [1, 2, 3, 0] rfl ?_
      exact hK20 _ _ _ _
    · refine b_iconst (n := 94) (v := 1) dX7_looksAtBody_93 rfl (by decide) ?_
      exact b_iret dX7_looksAtBody_94 rfl rfl
def md_looksAtBody_65 (N : Nat) (D : Nat) (B : Int32 → Int32 → Mem → Option (Int32 × Mem)) (K20 : Int32 → Int32 → Int32 → Mem → Option (Int32 × Mem)) (y1 : Int32) (y2 : Int32) (y3 : Int32) (μ : Mem) : Option (Int32 × Mem) :=
  (md_looks N D B y1 y3 μ).bind fun (k68, μ68) =>
  md_looksAtBody_73 N D B K20 y1 y2 y3 k68 μ68
set_option maxHeartbeats 400000 in
set_option maxRecDepth 100000 in
theorem w_md_looksAtBody_65 {l : Launch} {E : Ev} {ad : Nat → Nat} {A : Nat → Prop} {d : Nat} {N : Nat} {D : Nat}   {B : Int32 → Int32 → Mem → Option (Int32 × Mem)} {dB : Nat} (hdB : D + 7 ≤ dB) (hB : ∀ (x1 : Int32) (x2 : Int32) (μ : Mem), Ct l yX7_looksAtBody cX7_looksAtBody 5 (some .int) dB E (hM E ad μ) [.ref (ad 0), .int x1, .int x2] (fun q : Int32 × Mem => (some (.int q.1), hM E ad q.2)) (B x1 x2 μ)) {K20 : Int32 → Int32 → Int32 → Mem → Option (Int32 × Mem)} (hd : dB + 4 ≤ d) (hK20 : ∀ (y1 : Int32) (y2 : Int32) (y3 : Int32) (μ : Mem), Bd l E A RX7 cX7_looksAtBody 5 (some .int) d (fun q : Int32 × Mem => (some (.int q.1), hM E ad q.2)) 20 [(0, .ref (ad 0)), (1, .int y1), (2, .int y2), (3, .int y3)] [] (hM E ad μ) (K20 y1 y2 y3 μ)) (y1 : Int32) (y2 : Int32) (y3 : Int32) (μ : Mem) : Bd l E A RX7 cX7_looksAtBody 5 (some .int) d (fun q : Int32 × Mem => (some (.int q.1), hM E ad q.2)) 65 [(0, .ref (ad 0)), (1, .int y1), (2, .int y2), (3, .int y3)] [] (hM E ad μ) (md_looksAtBody_65 N D B K20 y1 y2 y3 μ) := by
  unfold md_looksAtBody_65
  refine b_aload_n (n := 66) 0 dX7_looksAtBody_65 rfl rfl rfl ?_
  refine b_iload_n (n := 67) 1 dX7_looksAtBody_66 rfl rfl rfl ?_
  refine b_iload_n (n := 68) 3 dX7_looksAtBody_67 rfl rfl rfl ?_
  refine bV0wi (n := 71) (hh := (fun s : Mem => hM E ad s)) (As := [.int y1, .int y3]) (rest := []) 0 lk_X7_202 (c_md_looks (Nat.le_refl _) hdB hB) (by omega) (fun _ => rfl) rfl rfl rfl rfl (Nat.le_of_ble_eq_true rfl) dX7_looksAtBody_68 rfl ?_
  rintro k68 μ68
  try dsimp only
  refine b_istore (n := 73) (L' := [(4, .int k68), (0, .ref (ad 0)), (1, .int y1), (2, .int y2), (3, .int y3)]) dX7_looksAtBody_71 rfl (Nat.le_of_ble_eq_true rfl) rfl ?_
  refine Bd.sub (L' := [(0, .ref (ad 0)), (1, .int y1), (2, .int y2), (3, .int y3), (4, .int k68)]) [1, 2, 3, 4, 0] rfl ?_
  exact w_md_looksAtBody_73 hdB hB hd hK20 _ _ _ _ _
def md_looksAtBody_20 (N : Nat) (D : Nat) (B : Int32 → Int32 → Mem → Option (Int32 × Mem))  : Nat → Int32 → Int32 → Int32 → Mem → Option (Int32 × Mem)
  | 0, _, _, _, _ => none
  | n + 1, y1, y2, y3, μ =>
    if y3 < 0 then
      ((md_comesTo y1 y2 2 μ).bind fun (k111, μ111) =>
      some (k111, μ111))
    else
      ((md_at y1 y3 0).bind fun k31 =>
      (rd 7593 (μ 5) k31).bind fun v34 =>
      if v34 = 0 then
        ((md_begins N D B y1 y3 μ).bind fun (k45, μ45) =>
        md_looksAtBody_73 N D B (md_looksAtBody_20 N D B n) y1 y2 y3 k45 μ45)
      else
        (if v34 = 1 then
          (md_looksAtBody_65 N D B (md_looksAtBody_20 N D B n) y1 y2 y3 μ)
        else
          (if v34 = 5 then
            (md_looksAtBody_65 N D B (md_looksAtBody_20 N D B n) y1 y2 y3 μ)
          else
            (md_looksAtBody_73 N D B (md_looksAtBody_20 N D B n) y1 y2 y3 v34 μ))))
set_option maxHeartbeats 400000 in
set_option maxRecDepth 100000 in
theorem w_md_looksAtBody_20 {l : Launch} {E : Ev} {ad : Nat → Nat} {A : Nat → Prop} {d : Nat} {N : Nat} {D : Nat}   {B : Int32 → Int32 → Mem → Option (Int32 × Mem)} {dB : Nat} (hdB : D + 7 ≤ dB) (hB : ∀ (x1 : Int32) (x2 : Int32) (μ : Mem), Ct l yX7_looksAtBody cX7_looksAtBody 5 (some .int) dB E (hM E ad μ) [.ref (ad 0), .int x1, .int x2] (fun q : Int32 × Mem => (some (.int q.1), hM E ad q.2)) (B x1 x2 μ))  (hd : dB + 4 ≤ d)  (n : Nat) : ∀ (y1 : Int32) (y2 : Int32) (y3 : Int32) (μ : Mem), Bd l E A RX7 cX7_looksAtBody 5 (some .int) d (fun q : Int32 × Mem => (some (.int q.1), hM E ad q.2)) 20 [(0, .ref (ad 0)), (1, .int y1), (2, .int y2), (3, .int y3)] [] (hM E ad μ) (md_looksAtBody_20 N D B n y1 y2 y3 μ) := by
  induction n with
  | zero => intro y1 y2 y3 μ; exact b_none
  | succ n ih =>
    intro y1 y2 y3 μ
    rw [md_looksAtBody_20]
    refine b_iload_n (n := 21) 3 dX7_looksAtBody_20 rfl rfl rfl ?_
    refine b_if_lt (n := 24) (tgt := 107) dX7_looksAtBody_21 (by decide) rfl (fun h21 => ?_) (fun h21 => ?_)
    · refine b_aload_n (n := 108) 0 dX7_looksAtBody_107 rfl rfl rfl ?_
      refine b_iload_n (n := 109) 1 dX7_looksAtBody_108 rfl rfl rfl ?_
      refine b_iload_n (n := 110) 2 dX7_looksAtBody_109 rfl rfl rfl ?_
      refine b_iconst (n := 111) (v := 2) dX7_looksAtBody_110 rfl (by decide) ?_
      refine bV0wi (n := 114) (hh := (fun s : Mem => hM E ad s)) (As := [.int y1, .int y2, .int 2]) (rest := []) 0 lk_X7_184 (c_md_comesTo (Nat.le_refl _)) (by omega) (fun _ => rfl) rfl rfl rfl rfl (Nat.le_of_ble_eq_true rfl) dX7_looksAtBody_111 rfl ?_
      rintro k111 μ111
      try dsimp only
      exact b_iret dX7_looksAtBody_114 rfl rfl
    · refine b_aload_n (n := 25) 0 dX7_looksAtBody_24 rfl rfl rfl ?_
      refine b_get (n := 28) (v := .ref (ad 5)) 0 f_X7_22 dX7_looksAtBody_25 rfl hM_o0 rfl ?_
      refine b_iload_n (n := 29) 1 dX7_looksAtBody_28 rfl rfl rfl ?_
      refine b_iload_n (n := 30) 3 dX7_looksAtBody_29 rfl rfl rfl ?_
      refine b_iconst (n := 31) (v := 0) dX7_looksAtBody_30 rfl (by decide) ?_
      refine bSi (n := 34) (As := [.int y1, .int y3, .int 0]) (rest := [.ref (ad 5)]) lk_X7_169 (c_md_at (Nat.le_refl _)) (by omega) rfl rfl (Nat.le_of_ble_eq_true rfl) dX7_looksAtBody_31 rfl (fun k31 => ?_)
      refine b_iald (n := 35) 5 dX7_looksAtBody_34 rfl hM_a5 (fun v34 => ?_)
      refine b_istore (n := 37) (L' := [(4, .int v34), (0, .ref (ad 0)), (1, .int y1), (2, .int y2), (3, .int y3)]) dX7_looksAtBody_35 rfl (Nat.le_of_ble_eq_true rfl) rfl ?_
      refine b_iload (n := 39) 0 dX7_looksAtBody_37 rfl rfl ?_
      refine b_if_ne (n := 42) (tgt := 53) dX7_looksAtBody_39 (by decide) rfl (fun h39 => ?_) (fun h39 => ?_)
      · refine b_aload_n (n := 43) 1 dX7_looksAtBody_42 rfl rfl rfl ?_
        refine b_iload_n (n := 44) 2 dX7_looksAtBody_43 rfl rfl rfl ?_
        refine b_iload_n (n := 45) 4 dX7_looksAtBody_44 rfl rfl rfl ?_
        refine bV0wi (n := 48) (hh := (fun s : Mem => hM E ad s)) (As := [.int y1, .int y3]) (rest := []) 0 lk_X7_205 (c_md_begins (Nat.le_refl _) hdB hB) (by omega) (fun _ => rfl) rfl rfl rfl rfl (Nat.le_of_ble_eq_true rfl) dX7_looksAtBody_45 rfl ?_
        rintro k45 μ45
        try dsimp only
        refine b_istore (n := 50) (L' := [(4, .int k45), (0, .ref (ad 0)), (1, .int y1), (2, .int y2), (3, .int y3)]) dX7_looksAtBody_48 rfl (Nat.le_of_ble_eq_true rfl) rfl ?_
        refine b_goto (n := 73) dX7_looksAtBody_50 (by decide) ?_
        refine Bd.sub (L' := [(0, .ref (ad 0)), (1, .int y1), (2, .int y2), (3, .int y3), (4, .int k45)]) [1, 2, 3, 4, 0] rfl ?_
        exact w_md_looksAtBody_73 hdB hB hd (fun a0 a1 a2 a3 => ih a0 a1 a2 a3) _ _ _ _ _
      · refine b_iload (n := 55) 0 dX7_looksAtBody_53 rfl rfl ?_
        refine b_iconst (n := 56) (v := 1) dX7_looksAtBody_55 rfl (by decide) ?_
        refine b_cmp_eq (n := 59) (tgt := 65) dX7_looksAtBody_56 (by decide) rfl (fun h56 => ?_) (fun h56 => ?_)
        · refine Bd.sub (L' := [(0, .ref (ad 0)), (1, .int y1), (2, .int y2), (3, .int y3)]) [1, 2, 3, 4] rfl ?_
          exact w_md_looksAtBody_65 hdB hB hd (fun a0 a1 a2 a3 => ih a0 a1 a2 a3) _ _ _ _
        · refine b_iload (n := 61) 0 dX7_looksAtBody_59 rfl rfl ?_
          refine b_iconst (n := 62) (v := 5) dX7_looksAtBody_61 rfl (by decide) ?_
          refine b_cmp_ne (n := 65) (tgt := 73) dX7_looksAtBody_62 (by decide) rfl (fun h62 => ?_) (fun h62 => ?_)
          · refine Bd.sub (L' := [(0, .ref (ad 0)), (1, .int y1), (2, .int y2), (3, .int y3)]) [1, 2, 3, 4] rfl ?_
            exact w_md_looksAtBody_65 hdB hB hd (fun a0 a1 a2 a3 => ih a0 a1 a2 a3) _ _ _ _
          · refine Bd.sub (L' := [(0, .ref (ad 0)), (1, .int y1), (2, .int y2), (3, .int y3), (4, .int v34)]) [1, 2, 3, 4, 0] rfl ?_
            exact w_md_looksAtBody_73 hdB hB hd (fun a0 a1 a2 a3 => ih a0 a1 a2 a3) _ _ _ _ _
def md_looksAtBody (N : Nat) (D : Nat) (B : Int32 → Int32 → Mem → Option (Int32 × Mem)) (x1 : Int32) (x2 : Int32) (μ : Mem) : Option (Int32 × Mem) :=
  (md_at x1 x2 0).bind fun k7 =>
  ck 7593 k7 <|
  (md_nodePart (up μ 5 k7.toNatClampNeg 1) x1 x2 5).bind fun k16 =>
  md_looksAtBody_20 N D B N x1 x2 k16 (up μ 5 k7.toNatClampNeg 1)
set_option maxHeartbeats 400000 in
set_option maxRecDepth 100000 in
theorem c_md_looksAtBody {l : Launch} {E : Ev} {ad : Nat → Nat} {d : Nat} {N : Nat} {D : Nat}   {B : Int32 → Int32 → Mem → Option (Int32 × Mem)} {dB : Nat} {x1 : Int32} {x2 : Int32} {μ : Mem} (hd : dB + 4 ≤ d) (hdB : D + 7 ≤ dB) (hB : ∀ (x1 : Int32) (x2 : Int32) (μ : Mem), Ct l yX7_looksAtBody cX7_looksAtBody 5 (some .int) dB E (hM E ad μ) [.ref (ad 0), .int x1, .int x2] (fun q : Int32 × Mem => (some (.int q.1), hM E ad q.2)) (B x1 x2 μ)) : Ct l yX7_looksAtBody cX7_looksAtBody 5 (some .int) d E (hM E ad μ) [.ref (ad 0), .int x1, .int x2] (fun q : Int32 × Mem => (some (.int q.1), hM E ad q.2)) (md_looksAtBody N D B x1 x2 μ) := by
  refine Ct.of2 (own := RX7) (L := [(0, .ref (ad 0)), (1, .int x1), (2, .int x2)]) rfl (by decide +kernel) (Nat.le_of_ble_eq_true rfl) rfl ?_
  unfold md_looksAtBody
  refine b_aload_n (n := 1) 0 dX7_looksAtBody_0 rfl rfl rfl ?_
  refine b_get (n := 4) (v := .ref (ad 5)) 0 f_X7_22 dX7_looksAtBody_1 rfl hM_o0 rfl ?_
  refine b_iload_n (n := 5) 1 dX7_looksAtBody_4 rfl rfl rfl ?_
  refine b_iload_n (n := 6) 2 dX7_looksAtBody_5 rfl rfl rfl ?_
  refine b_iconst (n := 7) (v := 0) dX7_looksAtBody_6 rfl (by decide) ?_
  refine bSi (n := 10) (As := [.int x1, .int x2, .int 0]) (rest := [.ref (ad 5)]) lk_X7_169 (c_md_at (Nat.le_refl _)) (by omega) rfl rfl (Nat.le_of_ble_eq_true rfl) dX7_looksAtBody_7 rfl (fun k7 => ?_)
  refine b_iconst (n := 11) (v := 1) dX7_looksAtBody_10 rfl (by decide) ?_
  refine b_iast (n := 12) (ws' := hM E ad (up μ 5 k7.toNatClampNeg 1)) 5 dX7_looksAtBody_11 rfl hM_a5 hM_s5 ?_
  refine b_aload_n (n := 13) 0 dX7_looksAtBody_12 rfl rfl rfl ?_
  refine b_iload_n (n := 14) 1 dX7_looksAtBody_13 rfl rfl rfl ?_
  refine b_iload_n (n := 15) 2 dX7_looksAtBody_14 rfl rfl rfl ?_
  refine b_iconst (n := 16) (v := 5) dX7_looksAtBody_15 rfl (by decide) ?_
  refine bV0i (n := 19) (As := [.int x1, .int x2, .int 5]) (rest := []) 0 lk_X7_171 (c_md_nodePart (Nat.le_refl _)) (by omega) rfl rfl rfl rfl (Nat.le_of_ble_eq_true rfl) dX7_looksAtBody_16 rfl (fun k16 => ?_)
  refine b_istore_n (n := 20) (L' := [(3, .int k16), (0, .ref (ad 0)), (1, .int x1), (2, .int x2)]) dX7_looksAtBody_19 rfl rfl (Nat.le_of_ble_eq_true rfl) rfl ?_
  refine Bd.sub (L' := [(0, .ref (ad 0)), (1, .int x1), (2, .int x2), (3, .int k16)]) [1, 2, 3, 0] rfl ?_
  exact w_md_looksAtBody_20 hdB hB hd _ _ _ _ _
def kn_mlook (N : Nat) (D : Nat) : Nat → Int32 → Int32 → Mem → Option (Int32 × Mem)
  | 0, _, _, _ => none
  | n + 1, x1, x2, μ => md_looksAtBody N D (kn_mlook N D n) x1 x2 μ
set_option maxHeartbeats 400000 in
set_option maxRecDepth 100000 in
theorem cka_mlook {l : Launch} {E : Ev} {ad : Nat → Nat} {N : Nat} {D : Nat}   (n : Nat) : (∀ (x1 : Int32) (x2 : Int32) (μ : Mem), Ct l yX7_looksAtBody cX7_looksAtBody 5 (some .int) (D + 7 + 4 * n) E (hM E ad μ) [.ref (ad 0), .int x1, .int x2] (fun q : Int32 × Mem => (some (.int q.1), hM E ad q.2)) (kn_mlook N D n x1 x2 μ)) := by
  induction n with
  | zero => exact fun _ _ _ => fun h => by cases h
  | succ n ih => exact fun _ _ _ => c_md_looksAtBody (by omega) (Nat.le_add_right _ _) ih
theorem ck_mlook {l : Launch} {E : Ev} {ad : Nat → Nat} {N : Nat} {D : Nat}   (n : Nat) : ∀ (x1 : Int32) (x2 : Int32) (μ : Mem), Ct l yX7_looksAtBody cX7_looksAtBody 5 (some .int) (D + 7 + 4 * n) E (hM E ad μ) [.ref (ad 0), .int x1, .int x2] (fun q : Int32 × Mem => (some (.int q.1), hM E ad q.2)) (kn_mlook N D n x1 x2 μ) := cka_mlook n
def md_becomes  (x1 : Int32) (x2 : Int32) (μ : Mem) : Option (Mem) :=
  (md_of x1 1).bind fun k6 =>
  ck 7593 k6 <|
  (md_notes x1 11 x2 (up μ 5 k6.toNatClampNeg x2)).bind fun μ16 =>
  if x2 = 2 then
    (some μ16)
  else
    ((md_of x1 5).bind fun k30 =>
    (rd 7593 (μ16 5) 0).bind fun v38 =>
    ck 7593 k30 <|
    some (up μ16 5 k30.toNatClampNeg v38))
set_option maxHeartbeats 400000 in
set_option maxRecDepth 100000 in
theorem c_md_becomes {l : Launch} {E : Ev} {ad : Nat → Nat} {d : Nat}    {x1 : Int32} {x2 : Int32} {μ : Mem} (hd : 3 ≤ d) : Ct l yX7_becomes cX7_becomes 3 none d E (hM E ad μ) [.ref (ad 0), .int x1, .int x2] (fun q : Mem => (none, hM E ad q)) (md_becomes x1 x2 μ) := by
  refine Ct.of2 (own := RX7) (L := [(0, .ref (ad 0)), (1, .int x1), (2, .int x2)]) rfl (by decide +kernel) (Nat.le_of_ble_eq_true rfl) rfl ?_
  unfold md_becomes
  refine b_aload_n (n := 1) 0 dX7_becomes_0 rfl rfl rfl ?_
  refine b_get (n := 4) (v := .ref (ad 5)) 0 f_X7_22 dX7_becomes_1 rfl hM_o0 rfl ?_
  refine b_iload_n (n := 5) 1 dX7_becomes_4 rfl rfl rfl ?_
  refine b_iconst (n := 6) (v := 1) dX7_becomes_5 rfl (by decide) ?_
  refine bSi (n := 9) (As := [.int x1, .int 1]) (rest := [.ref (ad 5)]) lk_X7_163 (c_md_of (Nat.le_refl _)) (by omega) rfl rfl (Nat.le_of_ble_eq_true rfl) dX7_becomes_6 rfl (fun k6 => ?_)
  refine b_iload_n (n := 10) 2 dX7_becomes_9 rfl rfl rfl ?_
  refine b_iast (n := 11) (ws' := hM E ad (up μ 5 k6.toNatClampNeg x2)) 5 dX7_becomes_10 rfl hM_a5 hM_s5 ?_
  refine b_aload_n (n := 12) 0 dX7_becomes_11 rfl rfl rfl ?_
  refine b_iload_n (n := 13) 1 dX7_becomes_12 rfl rfl rfl ?_
  refine b_bipush (n := 15) (v := 11) dX7_becomes_13 rfl (by decide) ?_
  refine b_iload_n (n := 16) 2 dX7_becomes_15 rfl rfl rfl ?_
  refine bV0wv (n := 19) (hh := (fun s : Mem => hM E ad s)) (As := [.int x1, .int 11, .int x2]) (rest := []) 0 lk_X7_174 (c_md_notes (Nat.le_refl _)) (by omega) (fun _ => rfl) rfl rfl rfl rfl (Nat.le_of_ble_eq_true rfl) dX7_becomes_16 rfl ?_
  rintro μ16
  try dsimp only
  refine b_iload_n (n := 20) 2 dX7_becomes_19 rfl rfl rfl ?_
  refine b_iconst (n := 21) (v := 2) dX7_becomes_20 rfl (by decide) ?_
  refine b_cmp_eq (n := 24) (tgt := 40) dX7_becomes_21 (by decide) rfl (fun h21 => ?_) (fun h21 => ?_)
  · exact b_vret dX7_becomes_40 rfl rfl
  · refine b_aload_n (n := 25) 0 dX7_becomes_24 rfl rfl rfl ?_
    refine b_get (n := 28) (v := .ref (ad 5)) 0 f_X7_22 dX7_becomes_25 rfl hM_o0 rfl ?_
    refine b_iload_n (n := 29) 1 dX7_becomes_28 rfl rfl rfl ?_
    refine b_iconst (n := 30) (v := 5) dX7_becomes_29 rfl (by decide) ?_
    refine bSi (n := 33) (As := [.int x1, .int 5]) (rest := [.ref (ad 5)]) lk_X7_163 (c_md_of (Nat.le_refl _)) (by omega) rfl rfl (Nat.le_of_ble_eq_true rfl) dX7_becomes_30 rfl (fun k30 => ?_)
    refine b_aload_n (n := 34) 0 dX7_becomes_33 rfl rfl rfl ?_
    refine b_get (n := 37) (v := .ref (ad 5)) 0 f_X7_22 dX7_becomes_34 rfl hM_o0 rfl ?_
    refine b_iconst (n := 38) (v := 0) dX7_becomes_37 rfl (by decide) ?_
    refine b_iald (n := 39) 5 dX7_becomes_38 rfl hM_a5 (fun v38 => ?_)
    refine b_iast (n := 40) (ws' := hM E ad (up μ16 5 k30.toNatClampNeg v38)) 5 dX7_becomes_39 rfl hM_a5 hM_s5 ?_
    exact b_vret dX7_becomes_40 rfl rfl
