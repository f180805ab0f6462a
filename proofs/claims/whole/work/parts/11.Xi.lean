/-! the class: partial pure functions, and the walk of each method (8) -/
def re_readItem_225 (N : Nat) (t : Mem) (B : Int32 → Mem → Mem → Option (Int32 × Mem × Mem))  (y4 : Int32) (r : Mem) (p : Mem) : Option (Int32 × Mem × Mem) :=
  ck 24 y4 <|
  if r 0 4 = 0 then
    (some (y4, r, up p 14 y4.toNatClampNeg (p 6 11)))
  else
    (some ((-1), r, up p 14 y4.toNatClampNeg (p 6 11)))
set_option maxHeartbeats 400000 in
set_option maxRecDepth 100000 in
theorem w_re_readItem_225 {l : Launch} {E : Ev} {ad : Nat → Nat} {A : Nat → Prop} {d : Nat} {N : Nat}  {t : Mem} {B : Int32 → Mem → Mem → Option (Int32 × Mem × Mem)} {dB : Nat} (hdB : 5 ≤ dB) (hB : ∀ (x1 : Int32) (r : Mem) (p : Mem), Ct l yX3_readBody cX3_readBody 7 (some .int) dB E (hR E ad r t p) [.ref (ad 0), .int x1] (fun q : Int32 × Mem × Mem => (some (.int q.1), hR E ad q.2.1 t q.2.2)) (B x1 r p))  (hd : dB + 3 ≤ d)  (y4 : Int32) (r : Mem) (p : Mem) : Bd l E A RX3 cX3_readItem 5 (some .int) d (fun q : Int32 × Mem × Mem => (some (.int q.1), hR E ad q.2.1 t q.2.2)) 225 [(0, .ref (ad 0)), (4, .int y4)] [] (hR E ad r t p) (re_readItem_225 N t B y4 r p) := by
  unfold re_readItem_225
  refine b_aload_n (n := 226) 0 dX3_readItem_225 rfl rfl rfl ?_
  refine b_get (n := 229) (v := .ref (ad 6)) 0 f_X3_28 dX3_readItem_226 rfl hR_o0 rfl ?_
  refine b_get (n := 232) (v := .ref (ad 14)) 3 f_X3_109 dX3_readItem_229 rfl hR_o6 rfl ?_
  refine b_iload (n := 234) 1 dX3_readItem_232 rfl rfl ?_
  refine b_aload_n (n := 235) 0 dX3_readItem_234 rfl rfl rfl ?_
  refine b_get (n := 238) (v := .ref (ad 6)) 0 f_X3_28 dX3_readItem_235 rfl hR_o0 rfl ?_
  refine b_get (n := 241) (v := .int (p 6 11)) 3 f_X3_78 dX3_readItem_238 rfl hR_o6 rfl ?_
  refine b_iast (n := 242) (ws' := hR E ad r t (up p 14 y4.toNatClampNeg (p 6 11))) 11 dX3_readItem_241 rfl hR_a14 hR_s14 ?_
  refine b_aload_n (n := 243) 0 dX3_readItem_242 rfl rfl rfl ?_
  refine b_get (n := 246) (v := .int (r 0 4)) 0 f_X3_32 dX3_readItem_243 rfl hR_o0 rfl ?_
  refine b_if_ne (n := 249) (tgt := 254) dX3_readItem_246 (by decide) rfl (fun h246 => ?_) (fun h246 => ?_)
  · refine b_iload (n := 251) 1 dX3_readItem_249 rfl rfl ?_
    refine b_goto (n := 255) dX3_readItem_251 (by decide) ?_
    exact b_iret dX3_readItem_255 rfl rfl
  · refine b_iconst (n := 255) (v := -1) dX3_readItem_254 rfl (by decide) ?_
    exact b_iret dX3_readItem_255 rfl rfl
def re_readItem_126 (N : Nat) (t : Mem) (B : Int32 → Mem → Mem → Option (Int32 × Mem × Mem))  (y1 : Int32) (y2 : Int32) (y4 : Int32) (r : Mem) (p : Mem) : Option (Int32 × Mem × Mem) :=
  if y2 = 0 then
    ((re_readTask N t y4 r p).bind fun (r163, p163) =>
    re_readItem_225 N t B y4 r163 p163)
  else if y2 = 1 then
    ((re_readNumber N t r).bind fun (k179, r179) =>
    ck 24 y4 <|
    re_readItem_225 N t B y4 r179 (up p 10 y4.toNatClampNeg k179))
  else if y2 = 2 then
    ((re_readSignal N t y4 r p).bind fun (r189, p189) =>
    re_readItem_225 N t B y4 r189 p189)
  else if y2 = 3 then
    ((re_readSet N t y4 r p).bind fun (r198, p198) =>
    re_readItem_225 N t B y4 r198 p198)
  else if y2 = 4 then
    ((re_readChoice N t B y4 (y1 + 1) r p).bind fun (r210, p210) =>
    re_readItem_225 N t B y4 r210 p210)
  else 
    ((re_readParallel N t B y4 (y1 + 1) r p).bind fun (r222, p222) =>
    re_readItem_225 N t B y4 r222 p222)
set_option maxHeartbeats 400000 in
set_option maxRecDepth 100000 in
theorem w_re_readItem_126 {l : Launch} {E : Ev} {ad : Nat → Nat} {A : Nat → Prop} {d : Nat} {N : Nat}  {t : Mem} {B : Int32 → Mem → Mem → Option (Int32 × Mem × Mem)} {dB : Nat} (hdB : 5 ≤ dB) (hB : ∀ (x1 : Int32) (r : Mem) (p : Mem), Ct l yX3_readBody cX3_readBody 7 (some .int) dB E (hR E ad r t p) [.ref (ad 0), .int x1] (fun q : Int32 × Mem × Mem => (some (.int q.1), hR E ad q.2.1 t q.2.2)) (B x1 r p))  (hd : dB + 3 ≤ d)  (y1 : Int32) (y2 : Int32) (y4 : Int32) (r : Mem) (p : Mem) : Bd l E A RX3 cX3_readItem 5 (some .int) d (fun q : Int32 × Mem × Mem => (some (.int q.1), hR E ad q.2.1 t q.2.2)) 126 [(0, .ref (ad 0)), (1, .int y1), (2, .int y2), (4, .int y4)] [] (hR E ad r t p) (re_readItem_126 N t B y1 y2 y4 r p) := by
  unfold re_readItem_126
  refine b_iload_n (n := 127) 2 dX3_readItem_126 rfl rfl rfl ?_
  refine b_if (fun h127_0 => ?_) (fun h127_0 => ?_)
  · refine b_tsIn (n := 160) (w := 0) h127_0 dX3_readItem_127 (by decide) (by decide) rfl (by decide) ?_
    refine b_aload_n (n := 161) 0 dX3_readItem_160 rfl rfl rfl ?_
    refine b_iload (n := 163) 3 dX3_readItem_161 rfl rfl ?_
    refine bV0wv (n := 166) (hh := (fun s : Mem × Mem => hR E ad s.1 t s.2)) (As := [.int y4]) (rest := []) 0 lk_X3_87 (c_re_readTask (Nat.le_refl _)) (by omega) (fun _ => rfl) rfl rfl rfl rfl (Nat.le_of_ble_eq_true rfl) dX3_readItem_163 rfl ?_
    rintro ⟨r163, p163⟩
    try dsimp only
    refine b_goto (n := 225) dX3_readItem_166 (by decide) ?_
    refine Bd.sub (L' := [(0, .ref (ad 0)), (4, .int y4)]) [0, 3] rfl ?_
    exact w_re_readItem_225 hdB hB hd _ _ _
  refine b_if (fun h127_1 => ?_) (fun h127_1 => ?_)
  · refine b_tsIn (n := 169) (w := 1) h127_1 dX3_readItem_127 (by decide) (by decide) rfl (by decide) ?_
    refine b_aload_n (n := 170) 0 dX3_readItem_169 rfl rfl rfl ?_
    refine b_get (n := 173) (v := .ref (ad 6)) 0 f_X3_28 dX3_readItem_170 rfl hR_o0 rfl ?_
    refine b_get (n := 176) (v := .ref (ad 10)) 3 f_X3_90 dX3_readItem_173 rfl hR_o6 rfl ?_
    refine b_iload (n := 178) 3 dX3_readItem_176 rfl rfl ?_
    refine b_aload_n (n := 179) 0 dX3_readItem_178 rfl rfl rfl ?_
    refine bV0wi (n := 182) (hh := (fun s : Mem => hR E ad s t p)) (As := []) (rest := [.int y4, .ref (ad 10)]) 0 lk_X3_93 (c_re_readNumber (Nat.le_refl _)) (by omega) (fun _ => rfl) rfl rfl rfl rfl (Nat.le_of_ble_eq_true rfl) dX3_readItem_179 rfl ?_
    rintro k179 r179
    try dsimp only
    refine b_iast (n := 183) (ws' := hR E ad r179 t (up p 10 y4.toNatClampNeg k179)) 7 dX3_readItem_182 rfl hR_a10 hR_s10 ?_
    refine b_goto (n := 225) dX3_readItem_183 (by decide) ?_
    refine Bd.sub (L' := [(0, .ref (ad 0)), (4, .int y4)]) [0, 3] rfl ?_
    exact w_re_readItem_225 hdB hB hd _ _ _
  refine b_if (fun h127_2 => ?_) (fun h127_2 => ?_)
  · refine b_tsIn (n := 186) (w := 2) h127_2 dX3_readItem_127 (by decide) (by decide) rfl (by decide) ?_
    refine b_aload_n (n := 187) 0 dX3_readItem_186 rfl rfl rfl ?_
    refine b_iload (n := 189) 3 dX3_readItem_187 rfl rfl ?_
    refine bV0wv (n := 192) (hh := (fun s : Mem × Mem => hR E ad s.1 t s.2)) (As := [.int y4]) (rest := []) 0 lk_X3_96 (c_re_readSignal (Nat.le_refl _)) (by omega) (fun _ => rfl) rfl rfl rfl rfl (Nat.le_of_ble_eq_true rfl) dX3_readItem_189 rfl ?_
    rintro ⟨r189, p189⟩
    try dsimp only
    refine b_goto (n := 225) dX3_readItem_192 (by decide) ?_
    refine Bd.sub (L' := [(0, .ref (ad 0)), (4, .int y4)]) [0, 3] rfl ?_
    exact w_re_readItem_225 hdB hB hd _ _ _
  refine b_if (fun h127_3 => ?_) (fun h127_3 => ?_)
  · refine b_tsIn (n := 195) (w := 3) h127_3 dX3_readItem_127 (by decide) (by decide) rfl (by decide) ?_
    refine b_aload_n (n := 196) 0 dX3_readItem_195 rfl rfl rfl ?_
    refine b_iload (n := 198) 3 dX3_readItem_196 rfl rfl ?_
    refine bV0wv (n := 201) (hh := (fun s : Mem × Mem => hR E ad s.1 t s.2)) (As := [.int y4]) (rest := []) 0 lk_X3_99 (c_re_readSet (Nat.le_refl _)) (by omega) (fun _ => rfl) rfl rfl rfl rfl (Nat.le_of_ble_eq_true rfl) dX3_readItem_198 rfl ?_
    rintro ⟨r198, p198⟩
    try dsimp only
    refine b_goto (n := 225) dX3_readItem_201 (by decide) ?_
    refine Bd.sub (L' := [(0, .ref (ad 0)), (4, .int y4)]) [0, 3] rfl ?_
    exact w_re_readItem_225 hdB hB hd _ _ _
  refine b_if (fun h127_4 => ?_) (fun h127_4 => ?_)
  · refine b_tsIn (n := 204) (w := 4) h127_4 dX3_readItem_127 (by decide) (by decide) rfl (by decide) ?_
    refine b_aload_n (n := 205) 0 dX3_readItem_204 rfl rfl rfl ?_
    refine b_iload (n := 207) 3 dX3_readItem_205 rfl rfl ?_
    refine b_iload_n (n := 208) 1 dX3_readItem_207 rfl rfl rfl ?_
    refine b_iconst (n := 209) (v := 1) dX3_readItem_208 rfl (by decide) ?_
    refine b_iadd (n := 210) dX3_readItem_209 rfl ?_
    refine bV0wv (n := 213) (hh := (fun s : Mem × Mem => hR E ad s.1 t s.2)) (As := [.int y4, .int (y1 + 1)]) (rest := []) 0 lk_X3_102 (c_re_readChoice (Nat.le_refl _) hdB hB) (by omega) (fun _ => rfl) rfl rfl rfl rfl (Nat.le_of_ble_eq_true rfl) dX3_readItem_210 rfl ?_
    rintro ⟨r210, p210⟩
    try dsimp only
    refine b_goto (n := 225) dX3_readItem_213 (by decide) ?_
    refine Bd.sub (L' := [(0, .ref (ad 0)), (4, .int y4)]) [0, 3] rfl ?_
    exact w_re_readItem_225 hdB hB hd _ _ _
  refine b_tsOut (n := 216) dX3_readItem_127 (by have nh127_0 := i32_ne (k := 0) h127_0 (by decide); have nh127_1 := i32_ne (k := 1) h127_1 (by decide); have nh127_2 := i32_ne (k := 2) h127_2 (by decide); have nh127_3 := i32_ne (k := 3) h127_3 (by decide); have nh127_4 := i32_ne (k := 4) h127_4 (by decide); omega) (by decide) ?_
  refine b_aload_n (n := 217) 0 dX3_readItem_216 rfl rfl rfl ?_
  refine b_iload (n := 219) 3 dX3_readItem_217 rfl rfl ?_
  refine b_iload_n (n := 220) 1 dX3_readItem_219 rfl rfl rfl ?_
  refine b_iconst (n := 221) (v := 1) dX3_readItem_220 rfl (by decide) ?_
  refine b_iadd (n := 222) dX3_readItem_221 rfl ?_
  refine bV0wv (n := 225) (hh := (fun s : Mem × Mem => hR E ad s.1 t s.2)) (As := [.int y4, .int (y1 + 1)]) (rest := []) 0 lk_X3_106 (c_re_readParallel (Nat.le_refl _) hdB hB) (by omega) (fun _ => rfl) rfl rfl rfl rfl (Nat.le_of_ble_eq_true rfl) dX3_readItem_222 rfl ?_
  rintro ⟨r222, p222⟩
  try dsimp only
  refine Bd.sub (L' := [(0, .ref (ad 0)), (4, .int y4)]) [0, 3] rfl ?_
  exact w_re_readItem_225 hdB hB hd _ _ _
def re_readItem_70 (N : Nat) (t : Mem) (B : Int32 → Mem → Mem → Option (Int32 × Mem × Mem))  (y1 : Int32) (y2 : Int32) (y3 : Int32) (r : Mem) (p : Mem) : Option (Int32 × Mem × Mem) :=
  (ve_add N y2 (r 0 5) p).bind fun (k79, p79) =>
  ck 24 k79 <|
  if y3 = 0 then
    (re_readItem_126 N t B y1 y2 k79 (up (up r 1 k79.toNatClampNeg 1) 0 5 ((r 0 5) + 1)) p79)
  else
    (re_readItem_126 N t B y1 y2 k79 (up (up r 1 k79.toNatClampNeg 1) 0 5 ((r 0 5) + 1)) (up p79 6 13 (if p79 6 13 < y1 + 1 then y1 + 1 else p79 6 13)))
set_option maxHeartbeats 400000 in
set_option maxRecDepth 100000 in
theorem w_re_readItem_70 {l : Launch} {E : Ev} {ad : Nat → Nat} {A : Nat → Prop} {d : Nat} {N : Nat}  {t : Mem} {B : Int32 → Mem → Mem → Option (Int32 × Mem × Mem)} {dB : Nat} (hdB : 5 ≤ dB) (hB : ∀ (x1 : Int32) (r : Mem) (p : Mem), Ct l yX3_readBody cX3_readBody 7 (some .int) dB E (hR E ad r t p) [.ref (ad 0), .int x1] (fun q : Int32 × Mem × Mem => (some (.int q.1), hR E ad q.2.1 t q.2.2)) (B x1 r p))  (hd : dB + 3 ≤ d)  (y1 : Int32) (y2 : Int32) (y3 : Int32) (r : Mem) (p : Mem) : Bd l E A RX3 cX3_readItem 5 (some .int) d (fun q : Int32 × Mem × Mem => (some (.int q.1), hR E ad q.2.1 t q.2.2)) 70 [(0, .ref (ad 0)), (1, .int y1), (2, .int y2), (3, .int y3)] [] (hR E ad r t p) (re_readItem_70 N t B y1 y2 y3 r p) := by
  unfold re_readItem_70
  refine b_aload_n (n := 71) 0 dX3_readItem_70 rfl rfl rfl ?_
  refine b_get (n := 74) (v := .ref (ad 6)) 0 f_X3_28 dX3_readItem_71 rfl hR_o0 rfl ?_
  refine b_iload_n (n := 75) 2 dX3_readItem_74 rfl rfl rfl ?_
  refine b_aload_n (n := 76) 0 dX3_readItem_75 rfl rfl rfl ?_
  refine b_get (n := 79) (v := .int (r 0 5)) 0 f_X3_35 dX3_readItem_76 rfl hR_o0 rfl ?_
  refine bVwi (n := 82) (hh := (fun s : Mem => hV E ad s)) (As := [.int y2, .int (r 0 5)]) (rest := []) (fun s : Mem => hR E ad r t s) 3 [3, 4, 5, 6, 7, 8, 9, 10, 11, 12] lk_X3_81 (c_ve_add (Nat.le_refl _)) (by omega) rfl (by decide) (fun _ => rfl) (fun _ => rfl) rfl rfl rfl rfl (Nat.le_of_ble_eq_true rfl) dX3_readItem_79 rfl ?_
  rintro k79 p79
  try dsimp only
  refine b_istore (n := 84) (L' := [(4, .int k79), (0, .ref (ad 0)), (1, .int y1), (2, .int y2), (3, .int y3)]) dX3_readItem_82 rfl (Nat.le_of_ble_eq_true rfl) rfl ?_
  refine b_aload_n (n := 85) 1 dX3_readItem_84 rfl rfl rfl ?_
  refine b_get (n := 88) (v := .ref (ad 1)) 0 f_X3_9 dX3_readItem_85 rfl hR_o0 rfl ?_
  refine b_iload (n := 90) 0 dX3_readItem_88 rfl rfl ?_
  refine b_iconst (n := 91) (v := 1) dX3_readItem_90 rfl (by decide) ?_
  refine b_iast (n := 92) (ws' := hR E ad (up r 1 k79.toNatClampNeg 1) t p79) 1 dX3_readItem_91 rfl hR_a1 hR_s1 ?_
  refine b_aload_n (n := 93) 1 dX3_readItem_92 rfl rfl rfl ?_
  refine b_dup (n := 94) dX3_readItem_93 rfl rfl ?_
  refine b_get (n := 97) (v := .int (r 0 5)) 0 f_X3_35 dX3_readItem_94 rfl hR_o0 rfl ?_
  refine b_iconst (n := 98) (v := 1) dX3_readItem_97 rfl (by decide) ?_
  refine b_iadd (n := 99) dX3_readItem_98 rfl ?_
  refine b_put (n := 102) (ws' := hR E ad (up (up r 1 k79.toNatClampNeg 1) 0 5 ((r 0 5) + 1)) t p79) 0 fp_X3_35 dX3_readItem_99 rfl hR_o0 rfl rfl (Nat.le_of_ble_eq_true rfl) hR_p0_5 ?_
  refine b_iload_n (n := 103) 4 dX3_readItem_102 rfl rfl rfl ?_
  refine b_if_eq (n := 106) (tgt := 126) dX3_readItem_103 (by decide) rfl (fun h103 => ?_) (fun h103 => ?_)
  · refine Bd.sub (L' := [(0, .ref (ad 0)), (1, .int y1), (2, .int y2), (4, .int k79)]) [1, 2, 3, 0] rfl ?_
    exact w_re_readItem_126 hdB hB hd _ _ _ _ _
  · refine b_aload_n (n := 107) 1 dX3_readItem_106 rfl rfl rfl ?_
    refine b_get (n := 110) (v := .ref (ad 6)) 0 f_X3_28 dX3_readItem_107 rfl hR_o0 rfl ?_
    refine b_aload_n (n := 111) 1 dX3_readItem_110 rfl rfl rfl ?_
    refine b_get (n := 114) (v := .ref (ad 6)) 0 f_X3_28 dX3_readItem_111 rfl hR_o0 rfl ?_
    refine b_get (n := 117) (v := .int (p79 6 13)) 3 f_X3_84 dX3_readItem_114 rfl hR_o6 rfl ?_
    refine b_iload_n (n := 118) 2 dX3_readItem_117 rfl rfl rfl ?_
    refine b_iconst (n := 119) (v := 1) dX3_readItem_118 rfl (by decide) ?_
    refine b_iadd (n := 120) dX3_readItem_119 rfl ?_
    refine b_mmax (n := 123) mw_X3_64 (by omega) (Nat.le_of_ble_eq_true rfl) dX3_readItem_120 rfl ?_
    refine b_put (n := 126) (ws' := hR E ad (up (up r 1 k79.toNatClampNeg 1) 0 5 ((r 0 5) + 1)) t (up p79 6 13 (if p79 6 13 < y1 + 1 then y1 + 1 else p79 6 13))) 3 fp_X3_84 dX3_readItem_123 rfl hR_o6 rfl rfl (Nat.le_of_ble_eq_true rfl) hR_p6_13 ?_
    refine Bd.sub (L' := [(0, .ref (ad 0)), (1, .int y1), (2, .int y2), (4, .int k79)]) [1, 2, 3, 0] rfl ?_
    exact w_re_readItem_126 hdB hB hd _ _ _ _ _
def re_readItem_63 (N : Nat) (t : Mem) (B : Int32 → Mem → Mem → Option (Int32 × Mem × Mem))   (r : Mem) (p : Mem) : Option (Int32 × Mem × Mem) :=
  (re_fail 2 r).bind fun r65 =>
  some ((-1), r65, p)
set_option maxHeartbeats 400000 in
set_option maxRecDepth 100000 in
theorem w_re_readItem_63 {l : Launch} {E : Ev} {ad : Nat → Nat} {A : Nat → Prop} {d : Nat} {N : Nat}  {t : Mem} {B : Int32 → Mem → Mem → Option (Int32 × Mem × Mem)} {dB : Nat} (hdB : 5 ≤ dB) (hB : ∀ (x1 : Int32) (r : Mem) (p : Mem), Ct l yX3_readBody cX3_readBody 7 (some .int) dB E (hR E ad r t p) [.ref (ad 0), .int x1] (fun q : Int32 × Mem × Mem => (some (.int q.1), hR E ad q.2.1 t q.2.2)) (B x1 r p))  (hd : dB + 3 ≤ d)  (r : Mem) (p : Mem) : Bd l E A RX3 cX3_readItem 5 (some .int) d (fun q : Int32 × Mem × Mem => (some (.int q.1), hR E ad q.2.1 t q.2.2)) 63 [(0, .ref (ad 0))] [] (hR E ad r t p) (re_readItem_63 N t B r p) := by
  unfold re_readItem_63
  refine b_aload_n (n := 64) 0 dX3_readItem_63 rfl rfl rfl ?_
  refine b_iconst (n := 65) (v := 2) dX3_readItem_64 rfl (by decide) ?_
  refine bV0wv (n := 68) (hh := (fun s : Mem => hR E ad s t p)) (As := [.int 2]) (rest := []) 0 lk_X3_51 (c_re_fail (Nat.le_refl _)) (by omega) (fun _ => rfl) rfl rfl rfl rfl (Nat.le_of_ble_eq_true rfl) dX3_readItem_65 rfl ?_
  rintro r65
  try dsimp only
  refine b_iconst (n := 69) (v := -1) dX3_readItem_68 rfl (by decide) ?_
  exact b_iret dX3_readItem_69 rfl rfl
def re_readItem_41 (N : Nat) (t : Mem) (B : Int32 → Mem → Mem → Option (Int32 × Mem × Mem))  (y1 : Int32) (y2 : Int32) (z0 : Int32) (r : Mem) (p : Mem) : Option (Int32 × Mem × Mem) :=
  if p 6 11 < 24 then
    (if z0 = 0 then
      (re_readItem_70 N t B y1 y2 z0 r p)
    else
      (if y1 < 4 then
        (re_readItem_70 N t B y1 y2 z0 r p)
      else
        (re_readItem_63 N t B r p)))
  else
    (re_readItem_63 N t B r p)
set_option maxHeartbeats 400000 in
set_option maxRecDepth 100000 in
theorem w_re_readItem_41 {l : Launch} {E : Ev} {ad : Nat → Nat} {A : Nat → Prop} {d : Nat} {N : Nat}  {t : Mem} {B : Int32 → Mem → Mem → Option (Int32 × Mem × Mem)} {dB : Nat} (hdB : 5 ≤ dB) (hB : ∀ (x1 : Int32) (r : Mem) (p : Mem), Ct l yX3_readBody cX3_readBody 7 (some .int) dB E (hR E ad r t p) [.ref (ad 0), .int x1] (fun q : Int32 × Mem × Mem => (some (.int q.1), hR E ad q.2.1 t q.2.2)) (B x1 r p))  (hd : dB + 3 ≤ d)  (y1 : Int32) (y2 : Int32) (z0 : Int32) (r : Mem) (p : Mem) : Bd l E A RX3 cX3_readItem 5 (some .int) d (fun q : Int32 × Mem × Mem => (some (.int q.1), hR E ad q.2.1 t q.2.2)) 41 [(0, .ref (ad 0)), (1, .int y1), (2, .int y2)] [.int z0] (hR E ad r t p) (re_readItem_41 N t B y1 y2 z0 r p) := by
  unfold re_readItem_41
  refine b_istore_n (n := 42) (L' := [(3, .int z0), (0, .ref (ad 0)), (1, .int y1), (2, .int y2)]) dX3_readItem_41 rfl rfl (Nat.le_of_ble_eq_true rfl) rfl ?_
  refine b_aload_n (n := 43) 1 dX3_readItem_42 rfl rfl rfl ?_
  refine b_get (n := 46) (v := .ref (ad 6)) 0 f_X3_28 dX3_readItem_43 rfl hR_o0 rfl ?_
  refine b_get (n := 49) (v := .int (p 6 11)) 3 f_X3_78 dX3_readItem_46 rfl hR_o6 rfl ?_
  refine b_bipush (n := 51) (v := 24) dX3_readItem_49 rfl (by decide) ?_
  refine b_cmp_ge (n := 54) (tgt := 63) dX3_readItem_51 (by decide) rfl (fun h51 => ?_) (fun h51 => ?_)
  · refine b_iload_n (n := 55) 0 dX3_readItem_54 rfl rfl rfl ?_
    refine b_if_eq (n := 58) (tgt := 70) dX3_readItem_55 (by decide) rfl (fun h55 => ?_) (fun h55 => ?_)
    · refine Bd.sub (L' := [(0, .ref (ad 0)), (1, .int y1), (2, .int y2), (3, .int z0)]) [1, 2, 3, 0] rfl ?_
      exact w_re_readItem_70 hdB hB hd _ _ _ _ _
    · refine b_iload_n (n := 59) 2 dX3_readItem_58 rfl rfl rfl ?_
      refine b_iconst (n := 60) (v := 4) dX3_readItem_59 rfl (by decide) ?_
      refine b_cmp_lt (n := 63) (tgt := 70) dX3_readItem_60 (by decide) rfl (fun h60 => ?_) (fun h60 => ?_)
      · refine Bd.sub (L' := [(0, .ref (ad 0)), (1, .int y1), (2, .int y2), (3, .int z0)]) [1, 2, 3, 0] rfl ?_
        exact w_re_readItem_70 hdB hB hd _ _ _ _ _
      · refine Bd.sub (L' := [(0, .ref (ad 0))]) [1] rfl ?_
        exact w_re_readItem_63 hdB hB hd _ _
  · refine Bd.sub (L' := [(0, .ref (ad 0))]) [1] rfl ?_
    exact w_re_readItem_63 hdB hB hd _ _
def re_readItem_19 (N : Nat) (t : Mem) (B : Int32 → Mem → Mem → Option (Int32 × Mem × Mem))   (r : Mem) (p : Mem) : Option (Int32 × Mem × Mem) :=
  (re_fail 1 r).bind fun r21 =>
  some ((-1), r21, p)
set_option maxHeartbeats 400000 in
set_option maxRecDepth 100000 in
theorem w_re_readItem_19 {l : Launch} {E : Ev} {ad : Nat → Nat} {A : Nat → Prop} {d : Nat} {N : Nat}  {t : Mem} {B : Int32 → Mem → Mem → Option (Int32 × Mem × Mem)} {dB : Nat} (hdB : 5 ≤ dB) (hB : ∀ (x1 : Int32) (r : Mem) (p : Mem), Ct l yX3_readBody cX3_readBody 7 (some .int) dB E (hR E ad r t p) [.ref (ad 0), .int x1] (fun q : Int32 × Mem × Mem => (some (.int q.1), hR E ad q.2.1 t q.2.2)) (B x1 r p))  (hd : dB + 3 ≤ d)  (r : Mem) (p : Mem) : Bd l E A RX3 cX3_readItem 5 (some .int) d (fun q : Int32 × Mem × Mem => (some (.int q.1), hR E ad q.2.1 t q.2.2)) 19 [(0, .ref (ad 0))] [] (hR E ad r t p) (re_readItem_19 N t B r p) := by
  unfold re_readItem_19
  refine b_aload_n (n := 20) 0 dX3_readItem_19 rfl rfl rfl ?_
  refine b_iconst (n := 21) (v := 1) dX3_readItem_20 rfl (by decide) ?_
  refine bV0wv (n := 24) (hh := (fun s : Mem => hR E ad s t p)) (As := [.int 1]) (rest := []) 0 lk_X3_51 (c_re_fail (Nat.le_refl _)) (by omega) (fun _ => rfl) rfl rfl rfl rfl (Nat.le_of_ble_eq_true rfl) dX3_readItem_21 rfl ?_
  rintro r21
  try dsimp only
  refine b_iconst (n := 25) (v := -1) dX3_readItem_24 rfl (by decide) ?_
  exact b_iret dX3_readItem_25 rfl rfl
def re_readItem (N : Nat) (t : Mem) (B : Int32 → Mem → Mem → Option (Int32 × Mem × Mem)) (x1 : Int32) (r : Mem) (p : Mem) : Option (Int32 × Mem × Mem) :=
  (re_sign t r).bind fun k1 =>
  (re_kindOf k1).bind fun k4 =>
  if r 0 4 = 0 then
    (if k4 < 0 then
      (re_readItem_19 N t B r p)
    else
      (if k4 = 4 then
        (re_readItem_41 N t B x1 k4 1 r p)
      else
        (if k4 = 5 then
          (re_readItem_41 N t B x1 k4 1 r p)
        else
          (re_readItem_41 N t B x1 k4 0 r p))))
  else
    (re_readItem_19 N t B r p)
set_option maxHeartbeats 400000 in
set_option maxRecDepth 100000 in
theorem c_re_readItem {l : Launch} {E : Ev} {ad : Nat → Nat} {d : Nat} {N : Nat}  {t : Mem} {B : Int32 → Mem → Mem → Option (Int32 × Mem × Mem)} {dB : Nat} {x1 : Int32} {r : Mem} {p : Mem} (hd : dB + 3 ≤ d) (hdB : 5 ≤ dB) (hB : ∀ (x1 : Int32) (r : Mem) (p : Mem), Ct l yX3_readBody cX3_readBody 7 (some .int) dB E (hR E ad r t p) [.ref (ad 0), .int x1] (fun q : Int32 × Mem × Mem => (some (.int q.1), hR E ad q.2.1 t q.2.2)) (B x1 r p)) : Ct l yX3_readItem cX3_readItem 5 (some .int) d E (hR E ad r t p) [.ref (ad 0), .int x1] (fun q : Int32 × Mem × Mem => (some (.int q.1), hR E ad q.2.1 t q.2.2)) (re_readItem N t B x1 r p) := by
  refine Ct.of2 (own := RX3) (L := [(0, .ref (ad 0)), (1, .int x1)]) rfl (by decide +kernel) (Nat.le_of_ble_eq_true rfl) rfl ?_
  unfold re_readItem
  refine b_aload_n (n := 1) 0 dX3_readItem_0 rfl rfl rfl ?_
  refine bV0i (n := 4) (As := []) (rest := []) 0 lk_X3_71 (c_re_sign (Nat.le_refl _)) (by omega) rfl rfl rfl rfl (Nat.le_of_ble_eq_true rfl) dX3_readItem_1 rfl (fun k1 => ?_)
  refine bSi (n := 7) (As := [.int k1]) (rest := []) lk_X3_75 (c_re_kindOf (Nat.le_refl _)) (by omega) rfl rfl (Nat.le_of_ble_eq_true rfl) dX3_readItem_4 rfl (fun k4 => ?_)
  refine b_istore_n (n := 8) (L' := [(2, .int k4), (0, .ref (ad 0)), (1, .int x1)]) dX3_readItem_7 rfl rfl (Nat.le_of_ble_eq_true rfl) rfl ?_
  refine b_aload_n (n := 9) 1 dX3_readItem_8 rfl rfl rfl ?_
  refine b_get (n := 12) (v := .int (r 0 4)) 0 f_X3_32 dX3_readItem_9 rfl hR_o0 rfl ?_
  refine b_if_ne (n := 15) (tgt := 19) dX3_readItem_12 (by decide) rfl (fun h12 => ?_) (fun h12 => ?_)
  · refine b_iload_n (n := 16) 0 dX3_readItem_15 rfl rfl rfl ?_
    refine b_if_ge (n := 19) (tgt := 26) dX3_readItem_16 (by decide) rfl (fun h16 => ?_) (fun h16 => ?_)
    · refine Bd.sub (L' := [(0, .ref (ad 0))]) [1] rfl ?_
      exact w_re_readItem_19 hdB hB hd _ _
    · refine b_iload_n (n := 27) 0 dX3_readItem_26 rfl rfl rfl ?_
      refine b_iconst (n := 28) (v := 4) dX3_readItem_27 rfl (by decide) ?_
      refine b_cmp_eq (n := 31) (tgt := 36) dX3_readItem_28 (by decide) rfl (fun h28 => ?_) (fun h28 => ?_)
      · refine b_iconst (n := 37) (v := 1) dX3_readItem_36 rfl (by decide) ?_
        refine b_goto (n := 41) dX3_readItem_37 (by decide) ?_
        refine Bd.sub (L' := [(0, .ref (ad 0)), (1, .int x1), (2, .int k4)]) [1, 2, 0] rfl ?_
        exact w_re_readItem_41 hdB hB hd _ _ _ _ _
      · refine b_iload_n (n := 32) 0 dX3_readItem_31 rfl rfl rfl ?_
        refine b_iconst (n := 33) (v := 5) dX3_readItem_32 rfl (by decide) ?_
        refine b_cmp_ne (n := 36) (tgt := 40) dX3_readItem_33 (by decide) rfl (fun h33 => ?_) (fun h33 => ?_)
        · refine b_iconst (n := 37) (v := 1) dX3_readItem_36 rfl (by decide) ?_
          refine b_goto (n := 41) dX3_readItem_37 (by decide) ?_
          refine Bd.sub (L' := [(0, .ref (ad 0)), (1, .int x1), (2, .int k4)]) [1, 2, 0] rfl ?_
          exact w_re_readItem_41 hdB hB hd _ _ _ _ _
        · refine b_iconst (n := 41) (v := 0) dX3_readItem_40 rfl (by decide) ?_
          refine Bd.sub (L' := [(0, .ref (ad 0)), (1, .int x1), (2, .int k4)]) [1, 2, 0] rfl ?_
          exact w_re_readItem_41 hdB hB hd _ _ _ _ _
  · refine Bd.sub (L' := [(0, .ref (ad 0))]) [1] rfl ?_
    exact w_re_readItem_19 hdB hB hd _ _
def re_readBody_56 (N : Nat) (t : Mem) (B : Int32 → Mem → Mem → Option (Int32 × Mem × Mem)) (K10 : Int32 → Int32 → Int32 → Bool → Int32 → Mem → Mem → Option (Int32 × Mem × Mem)) (y1 : Int32) (y2 : Int32) (y5 : Int32) (y6 : Int32) (r : Mem) (p : Mem) : Option (Int32 × Mem × Mem) :=
  (rd 24 (r 1) y6).bind fun v66 =>
  (re_takes t 59 r).bind fun (k74, r74) =>
  K10 y1 (if y2 < v66 then v66 else y2) y6 k74 (y5 + 1) r74 p
set_option maxHeartbeats 400000 in
set_option maxRecDepth 100000 in
theorem w_re_readBody_56 {l : Launch} {E : Ev} {ad : Nat → Nat} {A : Nat → Prop} {d : Nat} {N : Nat}  {t : Mem} {B : Int32 → Mem → Mem → Option (Int32 × Mem × Mem)} {dB : Nat} (hdB : 5 ≤ dB) (hB : ∀ (x1 : Int32) (r : Mem) (p : Mem), Ct l yX3_readBody cX3_readBody 7 (some .int) dB E (hR E ad r t p) [.ref (ad 0), .int x1] (fun q : Int32 × Mem × Mem => (some (.int q.1), hR E ad q.2.1 t q.2.2)) (B x1 r p)) {K10 : Int32 → Int32 → Int32 → Bool → Int32 → Mem → Mem → Option (Int32 × Mem × Mem)} (hd : dB + 4 ≤ d) (hK10 : ∀ (y1 : Int32) (y2 : Int32) (y3 : Int32) (y4 : Bool) (y5 : Int32) (r : Mem) (p : Mem), Bd l E A RX3 cX3_readBody 7 (some .int) d (fun q : Int32 × Mem × Mem => (some (.int q.1), hR E ad q.2.1 t q.2.2)) 10 [(0, .ref (ad 0)), (1, .int y1), (2, .int y2), (3, .int y3), (4, .int (b2i y4)), (5, .int y5)] [] (hR E ad r t p) (K10 y1 y2 y3 y4 y5 r p)) (y1 : Int32) (y2 : Int32) (y5 : Int32) (y6 : Int32) (r : Mem) (p : Mem) : Bd l E A RX3 cX3_readBody 7 (some .int) d (fun q : Int32 × Mem × Mem => (some (.int q.1), hR E ad q.2.1 t q.2.2)) 56 [(0, .ref (ad 0)), (1, .int y1), (2, .int y2), (5, .int y5), (6, .int y6)] [] (hR E ad r t p) (re_readBody_56 N t B K10 y1 y2 y5 y6 r p) := by
  unfold re_readBody_56
  refine b_iload (n := 58) 4 dX3_readBody_56 rfl rfl ?_
  refine b_istore_n (n := 59) (L' := [(3, .int y6), (0, .ref (ad 0)), (1, .int y1), (2, .int y2), (5, .int y5), (6, .int y6)]) dX3_readBody_58 rfl rfl (Nat.le_of_ble_eq_true rfl) rfl ?_
  refine b_iload_n (n := 60) 3 dX3_readBody_59 rfl rfl rfl ?_
  refine b_aload_n (n := 61) 1 dX3_readBody_60 rfl rfl rfl ?_
  refine b_get (n := 64) (v := .ref (ad 1)) 0 f_X3_9 dX3_readBody_61 rfl hR_o0 rfl ?_
  refine b_iload (n := 66) 5 dX3_readBody_64 rfl rfl ?_
  refine b_iald (n := 67) 1 dX3_readBody_66 rfl hR_a1 (fun v66 => ?_)
  refine b_mmax (n := 70) mw_X3_64 (by omega) (Nat.le_of_ble_eq_true rfl) dX3_readBody_67 rfl ?_
  refine b_istore_n (n := 71) (L' := [(2, .int (if y2 < v66 then v66 else y2)), (3, .int y6), (0, .ref (ad 0)), (1, .int y1), (5, .int y5), (6, .int y6)]) dX3_readBody_70 rfl rfl (Nat.le_of_ble_eq_true rfl) rfl ?_
  refine b_aload_n (n := 72) 2 dX3_readBody_71 rfl rfl rfl ?_
  refine b_bipush (n := 74) (v := 59) dX3_readBody_72 rfl (by decide) ?_
  refine bV0wb (n := 77) (hh := (fun s : Mem => hR E ad s t p)) (As := [.int 59]) (rest := []) 0 lk_X3_67 (c_re_takes (Nat.le_refl _)) (by omega) (fun _ => rfl) rfl rfl rfl rfl (Nat.le_of_ble_eq_true rfl) dX3_readBody_74 rfl ?_
  rintro k74 r74
  try dsimp only
  refine b_istore (n := 79) (L' := [(4, .int (b2i k74)), (2, .int (if y2 < v66 then v66 else y2)), (3, .int y6), (0, .ref (ad 0)), (1, .int y1), (5, .int y5), (6, .int y6)]) dX3_readBody_77 rfl (Nat.le_of_ble_eq_true rfl) rfl ?_
  refine b_iinc (n := 82) (L' := [(5, .int (y5 + 1)), (4, .int (b2i k74)), (2, .int (if y2 < v66 then v66 else y2)), (3, .int y6), (0, .ref (ad 0)), (1, .int y1), (6, .int y6)]) 5 1 dX3_readBody_79 rfl rfl (by decide) (Nat.le_of_ble_eq_true rfl) rfl ?_
  refine b_goto (n := 10) dX3_readBody_82 (by decide) ?_
  refine Bd.sub (L' := [(0, .ref (ad 0)), (1, .int y1), (2, .int (if y2 < v66 then v66 else y2)), (3, .int y6), (4, .int (b2i k74)), (5, .int (y5 + 1))]) [4, 5, 2, 3, 1, 0] rfl ?_
  exact hK10 _ _ _ _ _ _ _
def re_readBody_10 (N : Nat) (t : Mem) (B : Int32 → Mem → Mem → Option (Int32 × Mem × Mem))  : Nat → Int32 → Int32 → Int32 → Bool → Int32 → Mem → Mem → Option (Int32 × Mem × Mem)
  | 0, _, _, _, _, _, _, _ => none
  | n + 1, y1, y2, y3, y4, y5, r, p =>
    if 24 < y5 then
      (some (y2, r, p))
    else
      (if y4 = true then
        ((re_readItem N t B y1 r p).bind fun (k24, r24, p24) =>
        (xs_isInside k24 24).bind fun k33 =>
        if k33 = true then
          (if y3 < 0 then
            (re_readBody_56 N t B (re_readBody_10 N t B n) y1 y2 y5 k24 r24 p24)
          else
            (ck 24 y3 <|
            re_readBody_56 N t B (re_readBody_10 N t B n) y1 y2 y5 k24 r24 (up p24 13 y3.toNatClampNeg k24)))
        else
          (some (0, r24, p24)))
      else
        (some (y2, r, p)))
set_option maxHeartbeats 400000 in
set_option maxRecDepth 100000 in
theorem w_re_readBody_10 {l : Launch} {E : Ev} {ad : Nat → Nat} {A : Nat → Prop} {d : Nat} {N : Nat}  {t : Mem} {B : Int32 → Mem → Mem → Option (Int32 × Mem × Mem)} {dB : Nat} (hdB : 5 ≤ dB) (hB : ∀ (x1 : Int32) (r : Mem) (p : Mem), Ct l yX3_readBody cX3_readBody 7 (some .int) dB E (hR E ad r t p) [.ref (ad 0), .int x1] (fun q : Int32 × Mem × Mem => (some (.int q.1), hR E ad q.2.1 t q.2.2)) (B x1 r p))  (hd : dB + 4 ≤ d)  (n : Nat) : ∀ (y1 : Int32) (y2 : Int32) (y3 : Int32) (y4 : Bool) (y5 : Int32) (r : Mem) (p : Mem), Bd l E A RX3 cX3_readBody 7 (some .int) d (fun q : Int32 × Mem × Mem => (some (.int q.1), hR E ad q.2.1 t q.2.2)) 10 [(0, .ref (ad 0)), (1, .int y1), (2, .int y2), (3, .int y3), (4, .int (b2i y4)), (5, .int y5)] [] (hR E ad r t p) (re_readBody_10 N t B n y1 y2 y3 y4 y5 r p) := by
  induction n with
  | zero => intro y1 y2 y3 y4 y5 r p; exact b_none
  | succ n ih =>
    intro y1 y2 y3 y4 y5 r p
    rw [re_readBody_10]
    refine b_iload (n := 12) 5 dX3_readBody_10 rfl rfl ?_
    refine b_bipush (n := 14) (v := 24) dX3_readBody_12 rfl (by decide) ?_
    refine b_cmp_gt (n := 17) (tgt := 85) dX3_readBody_14 (by decide) rfl (fun h14 => ?_) (fun h14 => ?_)
    · refine b_iload_n (n := 86) 2 dX3_readBody_85 rfl rfl rfl ?_
      exact b_iret dX3_readBody_86 rfl rfl
    · refine b_iload (n := 19) 4 dX3_readBody_17 rfl rfl ?_
      refine b_bz (n := 22) (tgt := 85) dX3_readBody_19 (by decide) rfl (fun h19 => ?_) (fun h19 => ?_)
      · refine b_aload_n (n := 23) 0 dX3_readBody_22 rfl rfl rfl ?_
        refine b_iload_n (n := 24) 1 dX3_readBody_23 rfl rfl rfl ?_
        refine bV0wi (n := 27) (hh := (fun s : Mem × Mem => hR E ad s.1 t s.2)) (As := [.int y1]) (rest := []) 0 lk_X3_54 (c_re_readItem (Nat.le_refl _) hdB hB) (by omega) (fun _ => rfl) rfl rfl rfl rfl (Nat.le_of_ble_eq_true rfl) dX3_readBody_24 rfl ?_
        rintro k24 ⟨r24, p24⟩
        try dsimp only
        refine b_istore (n := 29) (L' := [(6, .int k24), (0, .ref (ad 0)), (1, .int y1), (2, .int y2), (3, .int y3), (4, .int (b2i y4)), (5, .int y5)]) dX3_readBody_27 rfl (Nat.le_of_ble_eq_true rfl) rfl ?_
        refine b_iload (n := 31) 0 dX3_readBody_29 rfl rfl ?_
        refine b_bipush (n := 33) (v := 24) dX3_readBody_31 rfl (by decide) ?_
        refine bNb (n := 36) (As := [.int k24, .int 24]) (rest := []) lk_X3_57 (c_xs_isInside (Nat.le_refl _)) (by omega) rfl rfl (Nat.le_of_ble_eq_true rfl) dX3_readBody_33 rfl (fun k33 => ?_)
        refine b_bnz (n := 39) (tgt := 41) dX3_readBody_36 (by decide) rfl (fun h36 => ?_) (fun h36 => ?_)
        · refine b_iload_n (n := 42) 4 dX3_readBody_41 rfl rfl rfl ?_
          refine b_if_lt (n := 45) (tgt := 56) dX3_readBody_42 (by decide) rfl (fun h42 => ?_) (fun h42 => ?_)
          · refine Bd.sub (L' := [(0, .ref (ad 0)), (1, .int y1), (2, .int y2), (5, .int y5), (6, .int k24)]) [1, 2, 3, 6, 0] rfl ?_
            exact w_re_readBody_56 hdB hB hd (fun a0 a1 a2 a3 a4 a5 a6 => ih a0 a1 a2 a3 a4 a5 a6) _ _ _ _ _ _
          · refine b_aload_n (n := 46) 1 dX3_readBody_45 rfl rfl rfl ?_
            refine b_get (n := 49) (v := .ref (ad 6)) 0 f_X3_28 dX3_readBody_46 rfl hR_o0 rfl ?_
            refine b_get (n := 52) (v := .ref (ad 13)) 3 f_X3_61 dX3_readBody_49 rfl hR_o6 rfl ?_
            refine b_iload_n (n := 53) 4 dX3_readBody_52 rfl rfl rfl ?_
            refine b_iload (n := 55) 0 dX3_readBody_53 rfl rfl ?_
            refine b_iast (n := 56) (ws' := hR E ad r24 t (up p24 13 y3.toNatClampNeg k24)) 10 dX3_readBody_55 rfl hR_a13 hR_s13 ?_
            refine Bd.sub (L' := [(0, .ref (ad 0)), (1, .int y1), (2, .int y2), (5, .int y5), (6, .int k24)]) [1, 2, 3, 6, 0] rfl ?_
            exact w_re_readBody_56 hdB hB hd (fun a0 a1 a2 a3 a4 a5 a6 => ih a0 a1 a2 a3 a4 a5 a6) _ _ _ _ _ _
        · refine b_iconst (n := 40) (v := 0) dX3_readBody_39 rfl (by decide) ?_
          exact b_iret dX3_readBody_40 rfl rfl
      · refine b_iload_n (n := 86) 2 dX3_readBody_85 rfl rfl rfl ?_
        exact b_iret dX3_readBody_86 rfl rfl
def re_readBody (N : Nat) (t : Mem) (B : Int32 → Mem → Mem → Option (Int32 × Mem × Mem)) (x1 : Int32) (r : Mem) (p : Mem) : Option (Int32 × Mem × Mem) :=
  re_readBody_10 N t B N x1 0 ((-1)) true 0 r p
set_option maxHeartbeats 400000 in
set_option maxRecDepth 100000 in
theorem c_re_readBody {l : Launch} {E : Ev} {ad : Nat → Nat} {d : Nat} {N : Nat}  {t : Mem} {B : Int32 → Mem → Mem → Option (Int32 × Mem × Mem)} {dB : Nat} {x1 : Int32} {r : Mem} {p : Mem} (hd : dB + 4 ≤ d) (hdB : 5 ≤ dB) (hB : ∀ (x1 : Int32) (r : Mem) (p : Mem), Ct l yX3_readBody cX3_readBody 7 (some .int) dB E (hR E ad r t p) [.ref (ad 0), .int x1] (fun q : Int32 × Mem × Mem => (some (.int q.1), hR E ad q.2.1 t q.2.2)) (B x1 r p)) : Ct l yX3_readBody cX3_readBody 7 (some .int) d E (hR E ad r t p) [.ref (ad 0), .int x1] (fun q : Int32 × Mem × Mem => (some (.int q.1), hR E ad q.2.1 t q.2.2)) (re_readBody N t B x1 r p) := by
  refine Ct.of2 (own := RX3) (L := [(0, .ref (ad 0)), (1, .int x1)]) rfl (by decide +kernel) (Nat.le_of_ble_eq_true rfl) rfl ?_
  unfold re_readBody
  refine b_iconst (n := 1) (v := 0) dX3_readBody_0 rfl (by decide) ?_
  refine b_istore_n (n := 2) (L' := [(2, .int 0), (0, .ref (ad 0)), (1, .int x1)]) dX3_readBody_1 rfl rfl (Nat.le_of_ble_eq_true rfl) rfl ?_
  refine b_iconst (n := 3) (v := -1) dX3_readBody_2 rfl (by decide) ?_
  refine b_istore_n (n := 4) (L' := [(3, .int ((-1))), (2, .int 0), (0, .ref (ad 0)), (1, .int x1)]) dX3_readBody_3 rfl rfl (Nat.le_of_ble_eq_true rfl) rfl ?_
  refine b_iconst (n := 5) (v := 1) dX3_readBody_4 rfl (by decide) ?_
  refine b_istore (n := 7) (L' := [(4, .int 1), (3, .int ((-1))), (2, .int 0), (0, .ref (ad 0)), (1, .int x1)]) dX3_readBody_5 rfl (Nat.le_of_ble_eq_true rfl) rfl ?_
  refine b_iconst (n := 8) (v := 0) dX3_readBody_7 rfl (by decide) ?_
  refine b_istore (n := 10) (L' := [(5, .int 0), (4, .int 1), (3, .int ((-1))), (2, .int 0), (0, .ref (ad 0)), (1, .int x1)]) dX3_readBody_8 rfl (Nat.le_of_ble_eq_true rfl) rfl ?_
  refine Bd.sub (L' := [(0, .ref (ad 0)), (1, .int x1), (2, .int 0), (3, .int ((-1))), (4, .int (b2i true)), (5, .int 0)]) [4, 5, 3, 2, 1, 0] rfl ?_
  exact w_re_readBody_10 hdB hB hd _ _ _ _ _ _ _ _
def kn_rread (N : Nat) (t : Mem) : Nat → Int32 → Mem → Mem → Option (Int32 × Mem × Mem)
  | 0, _, _, _ => none
  | n + 1, x1, r, p => re_readBody N t (kn_rread N t n) x1 r p
set_option maxHeartbeats 400000 in
set_option maxRecDepth 100000 in
theorem cka_rread {l : Launch} {E : Ev} {ad : Nat → Nat} {N : Nat}  {t : Mem} (n : Nat) : (∀ (x1 : Int32) (r : Mem) (p : Mem), Ct l yX3_readBody cX3_readBody 7 (some .int) (5 + 4 * n) E (hR E ad r t p) [.ref (ad 0), .int x1] (fun q : Int32 × Mem × Mem => (some (.int q.1), hR E ad q.2.1 t q.2.2)) (kn_rread N t n x1 r p)) := by
  induction n with
  | zero => exact fun _ _ _ => fun h => by cases h
  | succ n ih => exact fun _ _ _ => c_re_readBody (by omega) (Nat.le_add_right _ _) ih
theorem ck_rread {l : Launch} {E : Ev} {ad : Nat → Nat} {N : Nat}  {t : Mem} (n : Nat) : ∀ (x1 : Int32) (r : Mem) (p : Mem), Ct l yX3_readBody cX3_readBody 7 (some .int) (5 + 4 * n) E (hR E ad r t p) [.ref (ad 0), .int x1] (fun q : Int32 × Mem × Mem => (some (.int q.1), hR E ad q.2.1 t q.2.2)) (kn_rread N t n x1 r p) := cka_rread n
