/-! the reference: partial pure functions, and the walk of each method (8) -/
def md_looksAtParallel_150 (N : Nat) (D : Nat) (B : Int32 → Int32 → Mem → Option (Int32 × Mem))  (y1 : Int32) (y2 : Int32) (μ : Mem) : Option (Int32 × Mem) :=
  (md_compensates N y1 y2 μ).bind fun (k153, μ153) =>
  if k153 = true then
    ((md_bodiesIn N μ153 y1 y2 2).bind fun k169 =>
    (md_notes y1 9 k169 μ153).bind fun μ172 =>
    (md_comesTo y1 y2 2 μ172).bind fun (k179, μ179) =>
    some (k179, μ179))
  else
    (some (5, μ153))
set_option maxHeartbeats 400000 in
set_option maxRecDepth 100000 in
theorem w_md_looksAtParallel_150 {l : Launch} {E : Ev} {ad : Nat → Nat} {A : Nat → Prop} {d : Nat} {N : Nat} {D : Nat}   {B : Int32 → Int32 → Mem → Option (Int32 × Mem)} {dB : Nat} (hdB : D + 7 ≤ dB) (hB : ∀ (x1 : Int32) (x2 : Int32) (μ : Mem), Ct l yX7_looksAtBody cX7_looksAtBody 5 (some .int) dB E (hM E ad μ) [.ref (ad 0), .int x1, .int x2] (fun q : Int32 × Mem => (some (.int q.1), hM E ad q.2)) (B x1 x2 μ))  (hd : dB + 1 ≤ d)  (y1 : Int32) (y2 : Int32) (μ : Mem) : Bd l E A RX7 cX7_looksAtParallel 5 (some .int) d (fun q : Int32 × Mem => (some (.int q.1), hM E ad q.2)) 150 [(0, .ref (ad 0)), (1, .int y1), (2, .int y2)] [] (hM E ad μ) (md_looksAtParallel_150 N D B y1 y2 μ) := by
  unfold md_looksAtParallel_150
  refine b_aload_n (n := 151) 0 dX7_looksAtParallel_150 rfl rfl rfl ?_
  refine b_iload_n (n := 152) 1 dX7_looksAtParallel_151 rfl rfl rfl ?_
  refine b_iload_n (n := 153) 2 dX7_looksAtParallel_152 rfl rfl rfl ?_
  refine bV0wb (n := 156) (hh := (fun s : Mem => hM E ad s)) (As := [.int y1, .int y2]) (rest := []) 0 lk_X7_217 (c_md_compensates (Nat.le_refl _)) (by omega) (fun _ => rfl) rfl rfl rfl rfl (Nat.le_of_ble_eq_true rfl) dX7_looksAtParallel_153 rfl ?_
  rintro k153 μ153
  try dsimp only
  refine b_bnz (n := 159) (tgt := 161) dX7_looksAtParallel_156 (by decide) rfl (fun h156 => ?_) (fun h156 => ?_)
  · refine b_aload_n (n := 162) 0 dX7_looksAtParallel_161 rfl rfl rfl ?_
    refine b_iload_n (n := 163) 1 dX7_looksAtParallel_162 rfl rfl rfl ?_
    refine b_bipush (n := 165) (v := 9) dX7_looksAtParallel_163 rfl (by decide) ?_
    refine b_aload_n (n := 166) 0 dX7_looksAtParallel_165 rfl rfl rfl ?_
    refine b_iload_n (n := 167) 1 dX7_looksAtParallel_166 rfl rfl rfl ?_
    refine b_iload_n (n := 168) 2 dX7_looksAtParallel_167 rfl rfl rfl ?_
    refine b_iconst (n := 169) (v := 2) dX7_looksAtParallel_168 rfl (by decide) ?_
    refine bV0i (n := 172) (As := [.int y1, .int y2, .int 2]) (rest := [.int 9, .int y1, .ref (ad 0)]) 0 lk_X7_211 (c_md_bodiesIn (Nat.le_refl _)) (by omega) rfl rfl rfl rfl (Nat.le_of_ble_eq_true rfl) dX7_looksAtParallel_169 rfl (fun k169 => ?_)
    refine bV0wv (n := 175) (hh := (fun s : Mem => hM E ad s)) (As := [.int y1, .int 9, .int k169]) (rest := []) 0 lk_X7_174 (c_md_notes (Nat.le_refl _)) (by omega) (fun _ => rfl) rfl rfl rfl rfl (Nat.le_of_ble_eq_true rfl) dX7_looksAtParallel_172 rfl ?_
    rintro μ172
    try dsimp only
    refine b_aload_n (n := 176) 0 dX7_looksAtParallel_175 rfl rfl rfl ?_
    refine b_iload_n (n := 177) 1 dX7_looksAtParallel_176 rfl rfl rfl ?_
    refine b_iload_n (n := 178) 2 dX7_looksAtParallel_177 rfl rfl rfl ?_
    refine b_iconst (n := 179) (v := 2) dX7_looksAtParallel_178 rfl (by decide) ?_
    refine bV0wi (n := 182) (hh := (fun s : Mem => hM E ad s)) (As := [.int y1, .int y2, .int 2]) (rest := []) 0 lk_X7_184 (c_md_comesTo (Nat.le_refl _)) (by omega) (fun _ => rfl) rfl rfl rfl rfl (Nat.le_of_ble_eq_true rfl) dX7_looksAtParallel_179 rfl ?_
    rintro k179 μ179
    try dsimp only
    exact b_iret dX7_looksAtParallel_182 rfl rfl
  · refine b_iconst (n := 160) (v := 5) dX7_looksAtParallel_159 rfl (by decide) ?_
    exact b_iret dX7_looksAtParallel_160 rfl rfl
def md_looksAtParallel_52 (N : Nat) (D : Nat) (B : Int32 → Int32 → Mem → Option (Int32 × Mem)) (K23 : Int32 → Int32 → Int32 → Mem → Option (Int32 × Mem)) (y1 : Int32) (y2 : Int32) (y3 : Int32) (z0 : Int32) (μ : Mem) : Option (Int32 × Mem) :=
  (md_nodePart μ y1 y3 6).bind fun k59 =>
  K23 y1 y2 k59 μ
set_option maxHeartbeats 400000 in
set_option maxRecDepth 100000 in
theorem w_md_looksAtParallel_52 {l : Launch} {E : Ev} {ad : Nat → Nat} {A : Nat → Prop} {d : Nat} {N : Nat} {D : Nat}   {B : Int32 → Int32 → Mem → Option (Int32 × Mem)} {dB : Nat} (hdB : D + 7 ≤ dB) (hB : ∀ (x1 : Int32) (x2 : Int32) (μ : Mem), Ct l yX7_looksAtBody cX7_looksAtBody 5 (some .int) dB E (hM E ad μ) [.ref (ad 0), .int x1, .int x2] (fun q : Int32 × Mem => (some (.int q.1), hM E ad q.2)) (B x1 x2 μ)) {K23 : Int32 → Int32 → Int32 → Mem → Option (Int32 × Mem)} (hd : dB + 1 ≤ d) (hK23 : ∀ (y1 : Int32) (y2 : Int32) (y3 : Int32) (μ : Mem), Bd l E A RX7 cX7_looksAtParallel 5 (some .int) d (fun q : Int32 × Mem => (some (.int q.1), hM E ad q.2)) 23 [(0, .ref (ad 0)), (1, .int y1), (2, .int y2), (3, .int y3)] [] (hM E ad μ) (K23 y1 y2 y3 μ)) (y1 : Int32) (y2 : Int32) (y3 : Int32) (z0 : Int32) (μ : Mem) : Bd l E A RX7 cX7_looksAtParallel 5 (some .int) d (fun q : Int32 × Mem => (some (.int q.1), hM E ad q.2)) 52 [(0, .ref (ad 0)), (1, .int y1), (2, .int y2), (3, .int y3)] [.int z0] (hM E ad μ) (md_looksAtParallel_52 N D B K23 y1 y2 y3 z0 μ) := by
  unfold md_looksAtParallel_52
  refine b_istore (n := 54) (L' := [(4, .int z0), (0, .ref (ad 0)), (1, .int y1), (2, .int y2), (3, .int y3)]) dX7_looksAtParallel_52 rfl (Nat.le_of_ble_eq_true rfl) rfl ?_
  refine b_aload_n (n := 55) 1 dX7_looksAtParallel_54 rfl rfl rfl ?_
  refine b_iload_n (n := 56) 2 dX7_looksAtParallel_55 rfl rfl rfl ?_
  refine b_iload_n (n := 57) 4 dX7_looksAtParallel_56 rfl rfl rfl ?_
  refine b_bipush (n := 59) (v := 6) dX7_looksAtParallel_57 rfl (by decide) ?_
  refine bV0i (n := 62) (As := [.int y1, .int y3, .int 6]) (rest := []) 0 lk_X7_171 (c_md_nodePart (Nat.le_refl _)) (by omega) rfl rfl rfl rfl (Nat.le_of_ble_eq_true rfl) dX7_looksAtParallel_59 rfl (fun k59 => ?_)
  refine b_istore_n (n := 63) (L' := [(3, .int k59), (4, .int z0), (0, .ref (ad 0)), (1, .int y1), (2, .int y2)]) dX7_looksAtParallel_62 rfl rfl (Nat.le_of_ble_eq_true rfl) rfl ?_
  refine b_goto (n := 23) dX7_looksAtParallel_63 (by decide) ?_
  refine Bd.sub (L' := [(0, .ref (ad 0)), (1, .int y1), (2, .int y2), (3, .int k59)]) [2, 3, 4, 0] rfl ?_
  exact hK23 _ _ _ _
def md_looksAtParallel_23 (N : Nat) (D : Nat) (B : Int32 → Int32 → Mem → Option (Int32 × Mem))  : Nat → Int32 → Int32 → Int32 → Mem → Option (Int32 × Mem)
  | 0, _, _, _, _ => none
  | n + 1, y1, y2, y3, μ =>
    if y3 < 0 then
      ((md_nodePart μ y1 y2 1).bind fun k70 =>
      (md_bodiesIn N μ y1 y2 2).bind fun k78 =>
      (md_bodiesIn N μ y1 y2 1).bind fun k89 =>
      if k78 + k89 < k70 then
        ((md_cancelsBodies N D y1 y2 μ).bind fun μ100 =>
        (md_comesTo y1 y2 3 μ100).bind fun (k107, μ107) =>
        some (k107, μ107))
      else
        (if k78 < k70 then
          (some (1, μ))
        else
          ((md_cancelsBodies N D y1 y2 μ).bind fun μ122 =>
          (md_at y1 y2 0).bind fun k132 =>
          ck 7593 k132 <|
          (md_at y1 y2 7).bind fun k145 =>
          ck 7593 k145 <|
          md_looksAtParallel_150 N D B y1 y2 (up (up μ122 5 k132.toNatClampNeg 5) 5 k145.toNatClampNeg ((-1))))))
    else
      ((md_at y1 y3 0).bind fun k34 =>
      (rd 7593 (μ 5) k34).bind fun v37 =>
      if v37 = 1 then
        ((B y1 y3 μ).bind fun (k45, μ45) =>
        md_looksAtParallel_52 N D B (md_looksAtParallel_23 N D B n) y1 y2 y3 k45 μ45)
      else
        (md_looksAtParallel_52 N D B (md_looksAtParallel_23 N D B n) y1 y2 y3 0 μ))
set_option maxHeartbeats 400000 in
set_option maxRecDepth 100000 in
theorem w_md_looksAtParallel_23 {l : Launch} {E : Ev} {ad : Nat → Nat} {A : Nat → Prop} {d : Nat} {N : Nat} {D : Nat}   {B : Int32 → Int32 → Mem → Option (Int32 × Mem)} {dB : Nat} (hdB : D + 7 ≤ dB) (hB : ∀ (x1 : Int32) (x2 : Int32) (μ : Mem), Ct l yX7_looksAtBody cX7_looksAtBody 5 (some .int) dB E (hM E ad μ) [.ref (ad 0), .int x1, .int x2] (fun q : Int32 × Mem => (some (.int q.1), hM E ad q.2)) (B x1 x2 μ))  (hd : dB + 1 ≤ d)  (n : Nat) : ∀ (y1 : Int32) (y2 : Int32) (y3 : Int32) (μ : Mem), Bd l E A RX7 cX7_looksAtParallel 5 (some .int) d (fun q : Int32 × Mem => (some (.int q.1), hM E ad q.2)) 23 [(0, .ref (ad 0)), (1, .int y1), (2, .int y2), (3, .int y3)] [] (hM E ad μ) (md_looksAtParallel_23 N D B n y1 y2 y3 μ) := by
  induction n with
  | zero => intro y1 y2 y3 μ; exact b_none
  | succ n ih =>
    intro y1 y2 y3 μ
    rw [md_looksAtParallel_23]
    refine b_iload_n (n := 24) 3 dX7_looksAtParallel_23 rfl rfl rfl ?_
    refine b_if_lt (n := 27) (tgt := 66) dX7_looksAtParallel_24 (by decide) rfl (fun h24 => ?_) (fun h24 => ?_)
    · refine b_aload_n (n := 67) 0 dX7_looksAtParallel_66 rfl rfl rfl ?_
      refine b_iload_n (n := 68) 1 dX7_looksAtParallel_67 rfl rfl rfl ?_
      refine b_iload_n (n := 69) 2 dX7_looksAtParallel_68 rfl rfl rfl ?_
      refine b_iconst (n := 70) (v := 1) dX7_looksAtParallel_69 rfl (by decide) ?_
      refine bV0i (n := 73) (As := [.int y1, .int y2, .int 1]) (rest := []) 0 lk_X7_171 (c_md_nodePart (Nat.le_refl _)) (by omega) rfl rfl rfl rfl (Nat.le_of_ble_eq_true rfl) dX7_looksAtParallel_70 rfl (fun k70 => ?_)
      refine b_istore_n (n := 74) (L' := [(3, .int k70), (0, .ref (ad 0)), (1, .int y1), (2, .int y2)]) dX7_looksAtParallel_73 rfl rfl (Nat.le_of_ble_eq_true rfl) rfl ?_
      refine b_aload_n (n := 75) 1 dX7_looksAtParallel_74 rfl rfl rfl ?_
      refine b_iload_n (n := 76) 2 dX7_looksAtParallel_75 rfl rfl rfl ?_
      refine b_iload_n (n := 77) 3 dX7_looksAtParallel_76 rfl rfl rfl ?_
      refine b_iconst (n := 78) (v := 2) dX7_looksAtParallel_77 rfl (by decide) ?_
      refine bV0i (n := 81) (As := [.int y1, .int y2, .int 2]) (rest := []) 0 lk_X7_211 (c_md_bodiesIn (Nat.le_refl _)) (by omega) rfl rfl rfl rfl (Nat.le_of_ble_eq_true rfl) dX7_looksAtParallel_78 rfl (fun k78 => ?_)
      refine b_istore (n := 83) (L' := [(4, .int k78), (3, .int k70), (0, .ref (ad 0)), (1, .int y1), (2, .int y2)]) dX7_looksAtParallel_81 rfl (Nat.le_of_ble_eq_true rfl) rfl ?_
      refine b_iload (n := 85) 0 dX7_looksAtParallel_83 rfl rfl ?_
      refine b_aload_n (n := 86) 2 dX7_looksAtParallel_85 rfl rfl rfl ?_
      refine b_iload_n (n := 87) 3 dX7_looksAtParallel_86 rfl rfl rfl ?_
      refine b_iload_n (n := 88) 4 dX7_looksAtParallel_87 rfl rfl rfl ?_
      refine b_iconst (n := 89) (v := 1) dX7_looksAtParallel_88 rfl (by decide) ?_
      refine bV0i (n := 92) (As := [.int y1, .int y2, .int 1]) (rest := [.int k78]) 0 lk_X7_211 (c_md_bodiesIn (Nat.le_refl _)) (by omega) rfl rfl rfl rfl (Nat.le_of_ble_eq_true rfl) dX7_looksAtParallel_89 rfl (fun k89 => ?_)
      refine b_iadd (n := 93) dX7_looksAtParallel_92 rfl ?_
      refine b_iload_n (n := 94) 1 dX7_looksAtParallel_93 rfl rfl rfl ?_
      refine b_cmp_ge (n := 97) (tgt := 111) dX7_looksAtParallel_94 (by decide) rfl (fun h94 => ?_) (fun h94 => ?_)
      · refine b_aload_n (n := 98) 2 dX7_looksAtParallel_97 rfl rfl rfl ?_
        refine b_iload_n (n := 99) 3 dX7_looksAtParallel_98 rfl rfl rfl ?_
        refine b_iload_n (n := 100) 4 dX7_looksAtParallel_99 rfl rfl rfl ?_
        refine bV0wv (n := 103) (hh := (fun s : Mem => hM E ad s)) (As := [.int y1, .int y2]) (rest := []) 0 lk_X7_214 (c_md_cancelsBodies (Nat.le_refl _)) (by omega) (fun _ => rfl) rfl rfl rfl rfl (Nat.le_of_ble_eq_true rfl) dX7_looksAtParallel_100 rfl ?_
        rintro μ100
        try dsimp only
        refine b_aload_n (n := 104) 2 dX7_looksAtParallel_103 rfl rfl rfl ?_
        refine b_iload_n (n := 105) 3 dX7_looksAtParallel_104 rfl rfl rfl ?_
        refine b_iload_n (n := 106) 4 dX7_looksAtParallel_105 rfl rfl rfl ?_
        refine b_iconst (n := 107) (v := 3) dX7_looksAtParallel_106 rfl (by decide) ?_
        refine bV0wi (n := 110) (hh := (fun s : Mem => hM E ad s)) (As := [.int y1, .int y2, .int 3]) (rest := []) 0 lk_X7_184 (c_md_comesTo (Nat.le_refl _)) (by omega) (fun _ => rfl) rfl rfl rfl rfl (Nat.le_of_ble_eq_true rfl) dX7_looksAtParallel_107 rfl ?_
        rintro k107 μ107
        try dsimp only
        exact b_iret dX7_looksAtParallel_110 rfl rfl
      · refine b_iload (n := 113) 0 dX7_looksAtParallel_111 rfl rfl ?_
        refine b_iload_n (n := 114) 1 dX7_looksAtParallel_113 rfl rfl rfl ?_
        refine b_cmp_ge (n := 117) (tgt := 119) dX7_looksAtParallel_114 (by decide) rfl (fun h114 => ?_) (fun h114 => ?_)
        · refine b_iconst (n := 118) (v := 1) dX7_looksAtParallel_117 rfl (by decide) ?_
          exact b_iret dX7_looksAtParallel_118 rfl rfl
        · refine b_aload_n (n := 120) 2 dX7_looksAtParallel_119 rfl rfl rfl ?_
          refine b_iload_n (n := 121) 3 dX7_looksAtParallel_120 rfl rfl rfl ?_
          refine b_iload_n (n := 122) 4 dX7_looksAtParallel_121 rfl rfl rfl ?_
          refine bV0wv (n := 125) (hh := (fun s : Mem => hM E ad s)) (As := [.int y1, .int y2]) (rest := []) 0 lk_X7_214 (c_md_cancelsBodies (Nat.le_refl _)) (by omega) (fun _ => rfl) rfl rfl rfl rfl (Nat.le_of_ble_eq_true rfl) dX7_looksAtParallel_122 rfl ?_
          rintro μ122
          try dsimp only
          refine b_aload_n (n := 126) 2 dX7_looksAtParallel_125 rfl rfl rfl ?_
          refine b_get (n := 129) (v := .ref (ad 5)) 0 f_X7_22 dX7_looksAtParallel_126 rfl hM_o0 rfl ?_
          refine b_iload_n (n := 130) 3 dX7_looksAtParallel_129 rfl rfl rfl ?_
          refine b_iload_n (n := 131) 4 dX7_looksAtParallel_130 rfl rfl rfl ?_
          refine b_iconst (n := 132) (v := 0) dX7_looksAtParallel_131 rfl (by decide) ?_
          refine bSi (n := 135) (As := [.int y1, .int y2, .int 0]) (rest := [.ref (ad 5)]) lk_X7_169 (c_md_at (Nat.le_refl _)) (by omega) rfl rfl (Nat.le_of_ble_eq_true rfl) dX7_looksAtParallel_132 rfl (fun k132 => ?_)
          refine b_iconst (n := 136) (v := 5) dX7_looksAtParallel_135 rfl (by decide) ?_
          refine b_iast (n := 137) (ws' := hM E ad (up μ122 5 k132.toNatClampNeg 5)) 5 dX7_looksAtParallel_136 rfl hM_a5 hM_s5 ?_
          refine b_aload_n (n := 138) 2 dX7_looksAtParallel_137 rfl rfl rfl ?_
          refine b_get (n := 141) (v := .ref (ad 5)) 0 f_X7_22 dX7_looksAtParallel_138 rfl hM_o0 rfl ?_
          refine b_iload_n (n := 142) 3 dX7_looksAtParallel_141 rfl rfl rfl ?_
          refine b_iload_n (n := 143) 4 dX7_looksAtParallel_142 rfl rfl rfl ?_
          refine b_bipush (n := 145) (v := 7) dX7_looksAtParallel_143 rfl (by decide) ?_
          refine bSi (n := 148) (As := [.int y1, .int y2, .int 7]) (rest := [.ref (ad 5)]) lk_X7_169 (c_md_at (Nat.le_refl _)) (by omega) rfl rfl (Nat.le_of_ble_eq_true rfl) dX7_looksAtParallel_145 rfl (fun k145 => ?_)
          refine b_iconst (n := 149) (v := -1) dX7_looksAtParallel_148 rfl (by decide) ?_
          refine b_iast (n := 150) (ws' := hM E ad (up (up μ122 5 k132.toNatClampNeg 5) 5 k145.toNatClampNeg ((-1)))) 5 dX7_looksAtParallel_149 rfl hM_a5 hM_s5 ?_
          refine Bd.sub (L' := [(0, .ref (ad 0)), (1, .int y1), (2, .int y2)]) [2, 3, 4] rfl ?_
          exact w_md_looksAtParallel_150 hdB hB hd _ _ _
    · refine b_aload_n (n := 28) 0 dX7_looksAtParallel_27 rfl rfl rfl ?_
      refine b_get (n := 31) (v := .ref (ad 5)) 0 f_X7_22 dX7_looksAtParallel_28 rfl hM_o0 rfl ?_
      refine b_iload_n (n := 32) 1 dX7_looksAtParallel_31 rfl rfl rfl ?_
      refine b_iload_n (n := 33) 3 dX7_looksAtParallel_32 rfl rfl rfl ?_
      refine b_iconst (n := 34) (v := 0) dX7_looksAtParallel_33 rfl (by decide) ?_
      refine bSi (n := 37) (As := [.int y1, .int y3, .int 0]) (rest := [.ref (ad 5)]) lk_X7_169 (c_md_at (Nat.le_refl _)) (by omega) rfl rfl (Nat.le_of_ble_eq_true rfl) dX7_looksAtParallel_34 rfl (fun k34 => ?_)
      refine b_iald (n := 38) 5 dX7_looksAtParallel_37 rfl hM_a5 (fun v37 => ?_)
      refine b_iconst (n := 39) (v := 1) dX7_looksAtParallel_38 rfl (by decide) ?_
      refine b_cmp_ne (n := 42) (tgt := 51) dX7_looksAtParallel_39 (by decide) rfl (fun h39 => ?_) (fun h39 => ?_)
      · refine b_aload_n (n := 43) 0 dX7_looksAtParallel_42 rfl rfl rfl ?_
        refine b_iload_n (n := 44) 1 dX7_looksAtParallel_43 rfl rfl rfl ?_
        refine b_iload_n (n := 45) 3 dX7_looksAtParallel_44 rfl rfl rfl ?_
        refine bV0wi (n := 48) (hh := (fun s : Mem => hM E ad s)) (As := [.int y1, .int y3]) (rest := []) 0 lk_X7_196 (hB _ _ _) (by omega) (fun _ => rfl) rfl rfl rfl rfl (Nat.le_of_ble_eq_true rfl) dX7_looksAtParallel_45 rfl ?_
        rintro k45 μ45
        try dsimp only
        refine b_goto (n := 52) dX7_looksAtParallel_48 (by decide) ?_
        exact w_md_looksAtParallel_52 hdB hB hd (fun a0 a1 a2 a3 => ih a0 a1 a2 a3) _ _ _ _ _
      · refine b_iconst (n := 52) (v := 0) dX7_looksAtParallel_51 rfl (by decide) ?_
        exact w_md_looksAtParallel_52 hdB hB hd (fun a0 a1 a2 a3 => ih a0 a1 a2 a3) _ _ _ _ _
def md_looksAtParallel (N : Nat) (D : Nat) (B : Int32 → Int32 → Mem → Option (Int32 × Mem)) (x1 : Int32) (x2 : Int32) (μ : Mem) : Option (Int32 × Mem) :=
  (md_at x1 x2 0).bind fun k7 =>
  (rd 7593 (μ 5) k7).bind fun v10 =>
  if v10 = 5 then
    (md_looksAtParallel_150 N D B x1 x2 μ)
  else
    ((md_nodePart μ x1 x2 5).bind fun k19 =>
    md_looksAtParallel_23 N D B N x1 x2 k19 μ)
set_option maxHeartbeats 400000 in
set_option maxRecDepth 100000 in
theorem c_md_looksAtParallel {l : Launch} {E : Ev} {ad : Nat → Nat} {d : Nat} {N : Nat} {D : Nat}   {B : Int32 → Int32 → Mem → Option (Int32 × Mem)} {dB : Nat} {x1 : Int32} {x2 : Int32} {μ : Mem} (hd : dB + 1 ≤ d) (hdB : D + 7 ≤ dB) (hB : ∀ (x1 : Int32) (x2 : Int32) (μ : Mem), Ct l yX7_looksAtBody cX7_looksAtBody 5 (some .int) dB E (hM E ad μ) [.ref (ad 0), .int x1, .int x2] (fun q : Int32 × Mem => (some (.int q.1), hM E ad q.2)) (B x1 x2 μ)) : Ct l yX7_looksAtParallel cX7_looksAtParallel 5 (some .int) d E (hM E ad μ) [.ref (ad 0), .int x1, .int x2] (fun q : Int32 × Mem => (some (.int q.1), hM E ad q.2)) (md_looksAtParallel N D B x1 x2 μ) := by
  refine Ct.of2 (own := RX7) (L := [(0, .ref (ad 0)), (1, .int x1), (2, .int x2)]) rfl (by decide +kernel) (Nat.le_of_ble_eq_true rfl) rfl ?_
  unfold md_looksAtParallel
  refine b_aload_n (n := 1) 0 dX7_looksAtParallel_0 rfl rfl rfl ?_
  refine b_get (n := 4) (v := .ref (ad 5)) 0 f_X7_22 dX7_looksAtParallel_1 rfl hM_o0 rfl ?_
  refine b_iload_n (n := 5) 1 dX7_looksAtParallel_4 rfl rfl rfl ?_
  refine b_iload_n (n := 6) 2 dX7_looksAtParallel_5 rfl rfl rfl ?_
  refine b_iconst (n := 7) (v := 0) dX7_looksAtParallel_6 rfl (by decide) ?_
  refine bSi (n := 10) (As := [.int x1, .int x2, .int 0]) (rest := [.ref (ad 5)]) lk_X7_169 (c_md_at (Nat.le_refl _)) (by omega) rfl rfl (Nat.le_of_ble_eq_true rfl) dX7_looksAtParallel_7 rfl (fun k7 => ?_)
  refine b_iald (n := 11) 5 dX7_looksAtParallel_10 rfl hM_a5 (fun v10 => ?_)
  refine b_iconst (n := 12) (v := 5) dX7_looksAtParallel_11 rfl (by decide) ?_
  refine b_cmp_eq (n := 15) (tgt := 150) dX7_looksAtParallel_12 (by decide) rfl (fun h12 => ?_) (fun h12 => ?_)
  · exact w_md_looksAtParallel_150 hdB hB hd _ _ _
  · refine b_aload_n (n := 16) 0 dX7_looksAtParallel_15 rfl rfl rfl ?_
    refine b_iload_n (n := 17) 1 dX7_looksAtParallel_16 rfl rfl rfl ?_
    refine b_iload_n (n := 18) 2 dX7_looksAtParallel_17 rfl rfl rfl ?_
    refine b_iconst (n := 19) (v := 5) dX7_looksAtParallel_18 rfl (by decide) ?_
    refine bV0i (n := 22) (As := [.int x1, .int x2, .int 5]) (rest := []) 0 lk_X7_171 (c_md_nodePart (Nat.le_refl _)) (by omega) rfl rfl rfl rfl (Nat.le_of_ble_eq_true rfl) dX7_looksAtParallel_19 rfl (fun k19 => ?_)
    refine b_istore_n (n := 23) (L' := [(3, .int k19), (0, .ref (ad 0)), (1, .int x1), (2, .int x2)]) dX7_looksAtParallel_22 rfl rfl (Nat.le_of_ble_eq_true rfl) rfl ?_
    refine Bd.sub (L' := [(0, .ref (ad 0)), (1, .int x1), (2, .int x2), (3, .int k19)]) [1, 2, 3, 0] rfl ?_
    exact w_md_looksAtParallel_23 hdB hB hd _ _ _ _ _
def md_looks (N : Nat) (D : Nat) (B : Int32 → Int32 → Mem → Option (Int32 × Mem)) (x1 : Int32) (x2 : Int32) (μ : Mem) : Option (Int32 × Mem) :=
  (md_nodePart μ x1 x2 0).bind fun k4 =>
  if k4 = 1 then
    ((md_looksAtTask N x1 x2 μ).bind fun (k43, μ43) =>
    some (k43, μ43))
  else if k4 = 2 then
    ((rd 7593 (μ 5) 0).bind fun v52 =>
    (md_at x1 x2 1).bind fun k60 =>
    (rd 7593 (μ 5) k60).bind fun v63 =>
    (md_nodePart μ x1 x2 1).bind fun k68 =>
    if v52 < v63 + k68 then
      (some (1, μ))
    else
      ((md_comesTo x1 x2 2 μ).bind fun (k79, μ79) =>
      some (k79, μ79)))
  else if k4 = 3 then
    ((md_looksAtSignal x1 x2 μ).bind fun (k90, μ90) =>
    some (k90, μ90))
  else if k4 = 4 then
    ((md_sets x1 x2 μ).bind fun (k97, μ97) =>
    some (k97, μ97))
  else if k4 = 5 then
    ((md_at x1 x2 2).bind fun k113 =>
    (rd 7593 (μ 5) k113).bind fun v116 =>
    (B x1 v116 μ).bind fun (k117, μ117) =>
    (md_comesTo x1 x2 k117 μ117).bind fun (k120, μ120) =>
    some (k120, μ120))
  else 
    ((md_looksAtParallel N D B x1 x2 μ).bind fun (k127, μ127) =>
    some (k127, μ127))
set_option maxHeartbeats 400000 in
set_option maxRecDepth 100000 in
theorem c_md_looks {l : Launch} {E : Ev} {ad : Nat → Nat} {d : Nat} {N : Nat} {D : Nat}   {B : Int32 → Int32 → Mem → Option (Int32 × Mem)} {dB : Nat} {x1 : Int32} {x2 : Int32} {μ : Mem} (hd : dB + 2 ≤ d) (hdB : D + 7 ≤ dB) (hB : ∀ (x1 : Int32) (x2 : Int32) (μ : Mem), Ct l yX7_looksAtBody cX7_looksAtBody 5 (some .int) dB E (hM E ad μ) [.ref (ad 0), .int x1, .int x2] (fun q : Int32 × Mem => (some (.int q.1), hM E ad q.2)) (B x1 x2 μ)) : Ct l yX7_looks cX7_looks 3 (some .int) d E (hM E ad μ) [.ref (ad 0), .int x1, .int x2] (fun q : Int32 × Mem => (some (.int q.1), hM E ad q.2)) (md_looks N D B x1 x2 μ) := by
  refine Ct.of2 (own := RX7) (L := [(0, .ref (ad 0)), (1, .int x1), (2, .int x2)]) rfl (by decide +kernel) (Nat.le_of_ble_eq_true rfl) rfl ?_
  unfold md_looks
  refine b_aload_n (n := 1) 0 dX7_looks_0 rfl rfl rfl ?_
  refine b_iload_n (n := 2) 1 dX7_looks_1 rfl rfl rfl ?_
  refine b_iload_n (n := 3) 2 dX7_looks_2 rfl rfl rfl ?_
  refine b_iconst (n := 4) (v := 0) dX7_looks_3 rfl (by decide) ?_
  refine bV0i (n := 7) (As := [.int x1, .int x2, .int 0]) (rest := []) 0 lk_X7_171 (c_md_nodePart (Nat.le_refl _)) (by omega) rfl rfl rfl rfl (Nat.le_of_ble_eq_true rfl) dX7_looks_4 rfl (fun k4 => ?_)
  refine b_if (fun h7_1 => ?_) (fun h7_1 => ?_)
  · refine b_tsIn (n := 40) (w := 1) h7_1 dX7_looks_7 (by decide) (by decide) rfl (by decide) ?_
    refine b_aload_n (n := 41) 0 dX7_looks_40 rfl rfl rfl ?_
    refine b_iload_n (n := 42) 1 dX7_looks_41 rfl rfl rfl ?_
    refine b_iload_n (n := 43) 2 dX7_looks_42 rfl rfl rfl ?_
    refine bV0wi (n := 46) (hh := (fun s : Mem => hM E ad s)) (As := [.int x1, .int x2]) (rest := []) 0 lk_X7_187 (c_md_looksAtTask (Nat.le_refl _)) (by omega) (fun _ => rfl) rfl rfl rfl rfl (Nat.le_of_ble_eq_true rfl) dX7_looks_43 rfl ?_
    rintro k43 μ43
    try dsimp only
    exact b_iret dX7_looks_46 rfl rfl
  refine b_if (fun h7_2 => ?_) (fun h7_2 => ?_)
  · refine b_tsIn (n := 47) (w := 2) h7_2 dX7_looks_7 (by decide) (by decide) rfl (by decide) ?_
    refine b_aload_n (n := 48) 0 dX7_looks_47 rfl rfl rfl ?_
    refine b_get (n := 51) (v := .ref (ad 5)) 0 f_X7_22 dX7_looks_48 rfl hM_o0 rfl ?_
    refine b_iconst (n := 52) (v := 0) dX7_looks_51 rfl (by decide) ?_
    refine b_iald (n := 53) 5 dX7_looks_52 rfl hM_a5 (fun v52 => ?_)
    refine b_aload_n (n := 54) 0 dX7_looks_53 rfl rfl rfl ?_
    refine b_get (n := 57) (v := .ref (ad 5)) 0 f_X7_22 dX7_looks_54 rfl hM_o0 rfl ?_
    refine b_iload_n (n := 58) 1 dX7_looks_57 rfl rfl rfl ?_
    refine b_iload_n (n := 59) 2 dX7_looks_58 rfl rfl rfl ?_
    refine b_iconst (n := 60) (v := 1) dX7_looks_59 rfl (by decide) ?_
    refine bSi (n := 63) (As := [.int x1, .int x2, .int 1]) (rest := [.ref (ad 5), .int v52]) lk_X7_169 (c_md_at (Nat.le_refl _)) (by omega) rfl rfl (Nat.le_of_ble_eq_true rfl) dX7_looks_60 rfl (fun k60 => ?_)
    refine b_iald (n := 64) 5 dX7_looks_63 rfl hM_a5 (fun v63 => ?_)
    refine b_aload_n (n := 65) 0 dX7_looks_64 rfl rfl rfl ?_
    refine b_iload_n (n := 66) 1 dX7_looks_65 rfl rfl rfl ?_
    refine b_iload_n (n := 67) 2 dX7_looks_66 rfl rfl rfl ?_
    refine b_iconst (n := 68) (v := 1) dX7_looks_67 rfl (by decide) ?_
    refine bV0i (n := 71) (As := [.int x1, .int x2, .int 1]) (rest := [.int v63, .int v52]) 0 lk_X7_171 (c_md_nodePart (Nat.le_refl _)) (by omega) rfl rfl rfl rfl (Nat.le_of_ble_eq_true rfl) dX7_looks_68 rfl (fun k68 => ?_)
    refine b_iadd (n := 72) dX7_looks_71 rfl ?_
    refine b_cmp_lt (n := 75) (tgt := 85) dX7_looks_72 (by decide) rfl (fun h72 => ?_) (fun h72 => ?_)
    · refine b_iconst (n := 86) (v := 1) dX7_looks_85 rfl (by decide) ?_
      exact b_iret dX7_looks_86 rfl rfl
    · refine b_aload_n (n := 76) 0 dX7_looks_75 rfl rfl rfl ?_
      refine b_iload_n (n := 77) 1 dX7_looks_76 rfl rfl rfl ?_
      refine b_iload_n (n := 78) 2 dX7_looks_77 rfl rfl rfl ?_
      refine b_iconst (n := 79) (v := 2) dX7_looks_78 rfl (by decide) ?_
      refine bV0wi (n := 82) (hh := (fun s : Mem => hM E ad s)) (As := [.int x1, .int x2, .int 2]) (rest := []) 0 lk_X7_184 (c_md_comesTo (Nat.le_refl _)) (by omega) (fun _ => rfl) rfl rfl rfl rfl (Nat.le_of_ble_eq_true rfl) dX7_looks_79 rfl ?_
      rintro k79 μ79
      try dsimp only
      refine b_goto (n := 86) dX7_looks_82 (by decide) ?_
      exact b_iret dX7_looks_86 rfl rfl
  refine b_if (fun h7_3 => ?_) (fun h7_3 => ?_)
  · refine b_tsIn (n := 87) (w := 3) h7_3 dX7_looks_7 (by decide) (by decide) rfl (by decide) ?_
    refine b_aload_n (n := 88) 0 dX7_looks_87 rfl rfl rfl ?_
    refine b_iload_n (n := 89) 1 dX7_looks_88 rfl rfl rfl ?_
    refine b_iload_n (n := 90) 2 dX7_looks_89 rfl rfl rfl ?_
    refine bV0wi (n := 93) (hh := (fun s : Mem => hM E ad s)) (As := [.int x1, .int x2]) (rest := []) 0 lk_X7_190 (c_md_looksAtSignal (Nat.le_refl _)) (by omega) (fun _ => rfl) rfl rfl rfl rfl (Nat.le_of_ble_eq_true rfl) dX7_looks_90 rfl ?_
    rintro k90 μ90
    try dsimp only
    exact b_iret dX7_looks_93 rfl rfl
  refine b_if (fun h7_4 => ?_) (fun h7_4 => ?_)
  · refine b_tsIn (n := 94) (w := 4) h7_4 dX7_looks_7 (by decide) (by decide) rfl (by decide) ?_
    refine b_aload_n (n := 95) 0 dX7_looks_94 rfl rfl rfl ?_
    refine b_iload_n (n := 96) 1 dX7_looks_95 rfl rfl rfl ?_
    refine b_iload_n (n := 97) 2 dX7_looks_96 rfl rfl rfl ?_
    refine bV0wi (n := 100) (hh := (fun s : Mem => hM E ad s)) (As := [.int x1, .int x2]) (rest := []) 0 lk_X7_193 (c_md_sets (Nat.le_refl _)) (by omega) (fun _ => rfl) rfl rfl rfl rfl (Nat.le_of_ble_eq_true rfl) dX7_looks_97 rfl ?_
    rintro k97 μ97
    try dsimp only
    exact b_iret dX7_looks_100 rfl rfl
  refine b_if (fun h7_5 => ?_) (fun h7_5 => ?_)
  · refine b_tsIn (n := 101) (w := 5) h7_5 dX7_looks_7 (by decide) (by decide) rfl (by decide) ?_
    refine b_aload_n (n := 102) 0 dX7_looks_101 rfl rfl rfl ?_
    refine b_iload_n (n := 103) 1 dX7_looks_102 rfl rfl rfl ?_
    refine b_iload_n (n := 104) 2 dX7_looks_103 rfl rfl rfl ?_
    refine b_aload_n (n := 105) 0 dX7_looks_104 rfl rfl rfl ?_
    refine b_iload_n (n := 106) 1 dX7_looks_105 rfl rfl rfl ?_
    refine b_aload_n (n := 107) 0 dX7_looks_106 rfl rfl rfl ?_
    refine b_get (n := 110) (v := .ref (ad 5)) 0 f_X7_22 dX7_looks_107 rfl hM_o0 rfl ?_
    refine b_iload_n (n := 111) 1 dX7_looks_110 rfl rfl rfl ?_
    refine b_iload_n (n := 112) 2 dX7_looks_111 rfl rfl rfl ?_
    refine b_iconst (n := 113) (v := 2) dX7_looks_112 rfl (by decide) ?_
    refine bSi (n := 116) (As := [.int x1, .int x2, .int 2]) (rest := [.ref (ad 5), .int x1, .ref (ad 0), .int x2, .int x1, .ref (ad 0)]) lk_X7_169 (c_md_at (Nat.le_refl _)) (by omega) rfl rfl (Nat.le_of_ble_eq_true rfl) dX7_looks_113 rfl (fun k113 => ?_)
    refine b_iald (n := 117) 5 dX7_looks_116 rfl hM_a5 (fun v116 => ?_)
    refine bV0wi (n := 120) (hh := (fun s : Mem => hM E ad s)) (As := [.int x1, .int v116]) (rest := [.int x2, .int x1, .ref (ad 0)]) 0 lk_X7_196 (hB _ _ _) (by omega) (fun _ => rfl) rfl rfl rfl rfl (Nat.le_of_ble_eq_true rfl) dX7_looks_117 rfl ?_
    rintro k117 μ117
    try dsimp only
    refine bV0wi (n := 123) (hh := (fun s : Mem => hM E ad s)) (As := [.int x1, .int x2, .int k117]) (rest := []) 0 lk_X7_184 (c_md_comesTo (Nat.le_refl _)) (by omega) (fun _ => rfl) rfl rfl rfl rfl (Nat.le_of_ble_eq_true rfl) dX7_looks_120 rfl ?_
    rintro k120 μ120
    try dsimp only
    exact b_iret dX7_looks_123 rfl rfl
  refine b_tsOut (n := 124) dX7_looks_7 (by have nh7_1 := i32_ne (k := 1) h7_1 (by decide); have nh7_2 := i32_ne (k := 2) h7_2 (by decide); have nh7_3 := i32_ne (k := 3) h7_3 (by decide); have nh7_4 := i32_ne (k := 4) h7_4 (by decide); have nh7_5 := i32_ne (k := 5) h7_5 (by decide); omega) (by decide) ?_
  refine b_aload_n (n := 125) 0 dX7_looks_124 rfl rfl rfl ?_
  refine b_iload_n (n := 126) 1 dX7_looks_125 rfl rfl rfl ?_
  refine b_iload_n (n := 127) 2 dX7_looks_126 rfl rfl rfl ?_
  refine bV0wi (n := 130) (hh := (fun s : Mem => hM E ad s)) (As := [.int x1, .int x2]) (rest := []) 0 lk_X7_199 (c_md_looksAtParallel (Nat.le_refl _) hdB hB) (by omega) (fun _ => rfl) rfl rfl rfl rfl (Nat.le_of_ble_eq_true rfl) dX7_looks_127 rfl ?_
  rintro k127 μ127
  try dsimp only
  exact b_iret dX7_looks_130 rfl rfl
