/-! the reference: partial pure functions, and the walk of each method (3) -/
def md_define_149 (N : Nat) (D : Nat)  : Nat → Int32 → Int32 → Int32 → Int32 → Int32 → Mem → Option (Int32 × Mem)
  | 0, _, _, _, _, _, _ => none
  | n + 1, y1, y3, y4, y5, y6, μ =>
    if y6 < 576 then
      ((md_part y5 0 0).bind fun k165 =>
      (md_part 16 0 0).bind fun k179 =>
      (rd 9792 (μ 1) (k179 + y6)).bind fun v185 =>
      ck 9792 (k165 + y6) <|
      md_define_149 N D n y1 y3 y4 y5 (y6 + 1) (up μ 1 (k165 + y6).toNatClampNeg v185))
    else
      (ck 68 (4 * y5) <|
      ck 68 ((4 * y5) + 1) <|
      ck 68 ((4 * y5) + 2) <|
      ck 68 ((4 * y5) + 3) <|
      (rd 7593 (μ 5) (17 + y1)).bind fun v257 =>
      ck 7593 (17 + y1) <|
      some (y4, up (up (up (up (up μ 3 (4 * y5).toNatClampNeg (μ 0 14)) 3 ((4 * y5) + 1).toNatClampNeg (μ 0 15)) 3 ((4 * y5) + 2).toNatClampNeg (μ 0 17)) 3 ((4 * y5) + 3).toNatClampNeg y3) 5 (17 + y1).toNatClampNeg (v257 + 1)))
set_option maxHeartbeats 400000 in
set_option maxRecDepth 100000 in
theorem w_md_define_149 {l : Launch} {E : Ev} {ad : Nat → Nat} {A : Nat → Prop} {d : Nat} {N : Nat} {D : Nat}    (hd : 3 * D + 10 ≤ d)  (n : Nat) : ∀ (y1 : Int32) (y3 : Int32) (y4 : Int32) (y5 : Int32) (y6 : Int32) (μ : Mem), Bd l E A RX7 cX7_define 7 (some .int) d (fun q : Int32 × Mem => (some (.int q.1), hM E ad q.2)) 149 [(0, .ref (ad 0)), (1, .int y1), (3, .int y3), (4, .int y4), (5, .int y5), (6, .int y6)] [] (hM E ad μ) (md_define_149 N D n y1 y3 y4 y5 y6 μ) := by
  induction n with
  | zero => intro y1 y3 y4 y5 y6 μ; exact b_none
  | succ n ih =>
    intro y1 y3 y4 y5 y6 μ
    rw [md_define_149]
    refine b_iload (n := 151) 5 dX7_define_149 rfl rfl ?_
    refine b_sipush (n := 154) (v := 576) dX7_define_151 rfl (by decide) ?_
    refine b_cmp_ge (n := 157) (tgt := 193) dX7_define_154 (by decide) rfl (fun h154 => ?_) (fun h154 => ?_)
    · refine b_aload_n (n := 158) 0 dX7_define_157 rfl rfl rfl ?_
      refine b_get (n := 161) (v := .ref (ad 1)) 0 f_X7_9 dX7_define_158 rfl hM_o0 rfl ?_
      refine b_iload (n := 163) 4 dX7_define_161 rfl rfl ?_
      refine b_iconst (n := 164) (v := 0) dX7_define_163 rfl (by decide) ?_
      refine b_iconst (n := 165) (v := 0) dX7_define_164 rfl (by decide) ?_
      refine bSi (n := 168) (As := [.int y5, .int 0, .int 0]) (rest := [.ref (ad 1)]) lk_X7_67 (c_md_part (Nat.le_refl _)) (by omega) rfl rfl (Nat.le_of_ble_eq_true rfl) dX7_define_165 rfl (fun k165 => ?_)
      refine b_iload (n := 170) 5 dX7_define_168 rfl rfl ?_
      refine b_iadd (n := 171) dX7_define_170 rfl ?_
      refine b_aload_n (n := 172) 0 dX7_define_171 rfl rfl rfl ?_
      refine b_get (n := 175) (v := .ref (ad 1)) 0 f_X7_9 dX7_define_172 rfl hM_o0 rfl ?_
      refine b_bipush (n := 177) (v := 16) dX7_define_175 rfl (by decide) ?_
      refine b_iconst (n := 178) (v := 0) dX7_define_177 rfl (by decide) ?_
      refine b_iconst (n := 179) (v := 0) dX7_define_178 rfl (by decide) ?_
      refine bSi (n := 182) (As := [.int 16, .int 0, .int 0]) (rest := [.ref (ad 1), .int (k165 + y6), .ref (ad 1)]) lk_X7_67 (c_md_part (Nat.le_refl _)) (by omega) rfl rfl (Nat.le_of_ble_eq_true rfl) dX7_define_179 rfl (fun k179 => ?_)
      refine b_iload (n := 184) 5 dX7_define_182 rfl rfl ?_
      refine b_iadd (n := 185) dX7_define_184 rfl ?_
      refine b_iald (n := 186) 1 dX7_define_185 rfl hM_a1 (fun v185 => ?_)
      refine b_iast (n := 187) (ws' := hM E ad (up μ 1 (k165 + y6).toNatClampNeg v185)) 1 dX7_define_186 rfl hM_a1 hM_s1 ?_
      refine b_iinc (n := 190) (L' := [(6, .int (y6 + 1)), (0, .ref (ad 0)), (1, .int y1), (3, .int y3), (4, .int y4), (5, .int y5)]) 5 1 dX7_define_187 rfl rfl (by decide) (Nat.le_of_ble_eq_true rfl) rfl ?_
      refine b_goto (n := 149) dX7_define_190 (by decide) ?_
      refine Bd.sub (L' := [(0, .ref (ad 0)), (1, .int y1), (3, .int y3), (4, .int y4), (5, .int y5), (6, .int (y6 + 1))]) [1, 2, 3, 4, 5, 0] rfl ?_
      exact ih _ _ _ _ _ _
    · refine b_aload_n (n := 194) 0 dX7_define_193 rfl rfl rfl ?_
      refine b_get (n := 197) (v := .ref (ad 3)) 0 f_X7_16 dX7_define_194 rfl hM_o0 rfl ?_
      refine b_iconst (n := 198) (v := 4) dX7_define_197 rfl (by decide) ?_
      refine b_iload (n := 200) 4 dX7_define_198 rfl rfl ?_
      refine b_imul (n := 201) dX7_define_200 rfl ?_
      refine b_aload_n (n := 202) 0 dX7_define_201 rfl rfl rfl ?_
      refine b_get (n := 205) (v := .int (μ 0 14)) 0 f_X7_71 dX7_define_202 rfl hM_o0 rfl ?_
      refine b_iast (n := 206) (ws' := hM E ad (up μ 3 (4 * y5).toNatClampNeg (μ 0 14))) 3 dX7_define_205 rfl hM_a3 hM_s3 ?_
      refine b_aload_n (n := 207) 0 dX7_define_206 rfl rfl rfl ?_
      refine b_get (n := 210) (v := .ref (ad 3)) 0 f_X7_16 dX7_define_207 rfl hM_o0 rfl ?_
      refine b_iconst (n := 211) (v := 4) dX7_define_210 rfl (by decide) ?_
      refine b_iload (n := 213) 4 dX7_define_211 rfl rfl ?_
      refine b_imul (n := 214) dX7_define_213 rfl ?_
      refine b_iconst (n := 215) (v := 1) dX7_define_214 rfl (by decide) ?_
      refine b_iadd (n := 216) dX7_define_215 rfl ?_
      refine b_aload_n (n := 217) 0 dX7_define_216 rfl rfl rfl ?_
      refine b_get (n := 220) (v := .int (μ 0 15)) 0 f_X7_91 dX7_define_217 rfl hM_o0 rfl ?_
      refine b_iast (n := 221) (ws' := hM E ad (up (up μ 3 (4 * y5).toNatClampNeg (μ 0 14)) 3 ((4 * y5) + 1).toNatClampNeg (μ 0 15))) 3 dX7_define_220 rfl hM_a3 hM_s3 ?_
      refine b_aload_n (n := 222) 0 dX7_define_221 rfl rfl rfl ?_
      refine b_get (n := 225) (v := .ref (ad 3)) 0 f_X7_16 dX7_define_222 rfl hM_o0 rfl ?_
      refine b_iconst (n := 226) (v := 4) dX7_define_225 rfl (by decide) ?_
      refine b_iload (n := 228) 4 dX7_define_226 rfl rfl ?_
      refine b_imul (n := 229) dX7_define_228 rfl ?_
      refine b_iconst (n := 230) (v := 2) dX7_define_229 rfl (by decide) ?_
      refine b_iadd (n := 231) dX7_define_230 rfl ?_
      refine b_aload_n (n := 232) 0 dX7_define_231 rfl rfl rfl ?_
      refine b_get (n := 235) (v := .int (μ 0 17)) 0 f_X7_124 dX7_define_232 rfl hM_o0 rfl ?_
      refine b_iast (n := 236) (ws' := hM E ad (up (up (up μ 3 (4 * y5).toNatClampNeg (μ 0 14)) 3 ((4 * y5) + 1).toNatClampNeg (μ 0 15)) 3 ((4 * y5) + 2).toNatClampNeg (μ 0 17))) 3 dX7_define_235 rfl hM_a3 hM_s3 ?_
      refine b_aload_n (n := 237) 0 dX7_define_236 rfl rfl rfl ?_
      refine b_get (n := 240) (v := .ref (ad 3)) 0 f_X7_16 dX7_define_237 rfl hM_o0 rfl ?_
      refine b_iconst (n := 241) (v := 4) dX7_define_240 rfl (by decide) ?_
      refine b_iload (n := 243) 4 dX7_define_241 rfl rfl ?_
      refine b_imul (n := 244) dX7_define_243 rfl ?_
      refine b_iconst (n := 245) (v := 3) dX7_define_244 rfl (by decide) ?_
      refine b_iadd (n := 246) dX7_define_245 rfl ?_
      refine b_iload_n (n := 247) 2 dX7_define_246 rfl rfl rfl ?_
      refine b_iast (n := 248) (ws' := hM E ad (up (up (up (up μ 3 (4 * y5).toNatClampNeg (μ 0 14)) 3 ((4 * y5) + 1).toNatClampNeg (μ 0 15)) 3 ((4 * y5) + 2).toNatClampNeg (μ 0 17)) 3 ((4 * y5) + 3).toNatClampNeg y3)) 3 dX7_define_247 rfl hM_a3 hM_s3 ?_
      refine b_aload_n (n := 249) 0 dX7_define_248 rfl rfl rfl ?_
      refine b_get (n := 252) (v := .ref (ad 5)) 0 f_X7_22 dX7_define_249 rfl hM_o0 rfl ?_
      refine b_bipush (n := 254) (v := 17) dX7_define_252 rfl (by decide) ?_
      refine b_iload_n (n := 255) 1 dX7_define_254 rfl rfl rfl ?_
      refine b_iadd (n := 256) dX7_define_255 rfl ?_
      refine b_dup2 (n := 257) dX7_define_256 rfl rfl rfl ?_
      refine b_iald (n := 258) 5 dX7_define_257 rfl hM_a5 (fun v257 => ?_)
      refine b_iconst (n := 259) (v := 1) dX7_define_258 rfl (by decide) ?_
      refine b_iadd (n := 260) dX7_define_259 rfl ?_
      refine b_iast (n := 261) (ws' := hM E ad (up (up (up (up (up μ 3 (4 * y5).toNatClampNeg (μ 0 14)) 3 ((4 * y5) + 1).toNatClampNeg (μ 0 15)) 3 ((4 * y5) + 2).toNatClampNeg (μ 0 17)) 3 ((4 * y5) + 3).toNatClampNeg y3) 5 (17 + y1).toNatClampNeg (v257 + 1))) 5 dX7_define_260 rfl hM_a5 hM_s5 ?_
      refine b_iload (n := 263) 3 dX7_define_261 rfl rfl ?_
      exact b_iret dX7_define_263 rfl rfl
def md_define_104 (N : Nat) (D : Nat)  (y1 : Int32) (y2 : Int32) (y3 : Int32) (z0 : Int32) (μ : Mem) : Option (Int32 × Mem) :=
  if y2 = 0 then
    (some (((-100)) - (μ 0 12), up (up μ 0 10 z0) 0 11 (μ 0 13)))
  else
    ((rd 7593 (μ 5) (17 + y1)).bind fun v135 =>
    md_define_149 N D N y1 y3 v135 ((4 * y1) + v135) 0 (up (up μ 0 10 z0) 0 11 (μ 0 13)))
set_option maxHeartbeats 400000 in
set_option maxRecDepth 100000 in
theorem w_md_define_104 {l : Launch} {E : Ev} {ad : Nat → Nat} {A : Nat → Prop} {d : Nat} {N : Nat} {D : Nat}    (hd : 3 * D + 10 ≤ d)  (y1 : Int32) (y2 : Int32) (y3 : Int32) (z0 : Int32) (μ : Mem) : Bd l E A RX7 cX7_define 7 (some .int) d (fun q : Int32 × Mem => (some (.int q.1), hM E ad q.2)) 104 [(0, .ref (ad 0)), (1, .int y1), (2, .int y2), (3, .int y3)] [.int z0, .ref (ad 0)] (hM E ad μ) (md_define_104 N D y1 y2 y3 z0 μ) := by
  unfold md_define_104
  refine b_put (n := 107) (ws' := hM E ad (up μ 0 10 z0)) 0 fp_X7_34 dX7_define_104 rfl hM_o0 rfl rfl (Nat.le_of_ble_eq_true rfl) hM_p0_10 ?_
  refine b_aload_n (n := 108) 0 dX7_define_107 rfl rfl rfl ?_
  refine b_aload_n (n := 109) 0 dX7_define_108 rfl rfl rfl ?_
  refine b_get (n := 112) (v := .int (μ 0 13)) 0 f_X7_78 dX7_define_109 rfl hM_o0 rfl ?_
  refine b_put (n := 115) (ws' := hM E ad (up (up μ 0 10 z0) 0 11 (μ 0 13))) 0 fp_X7_141 dX7_define_112 rfl hM_o0 rfl rfl (Nat.le_of_ble_eq_true rfl) hM_p0_11 ?_
  refine b_iload_n (n := 116) 2 dX7_define_115 rfl rfl rfl ?_
  refine b_if_ne (n := 119) (tgt := 127) dX7_define_116 (by decide) rfl (fun h116 => ?_) (fun h116 => ?_)
  · refine b_bipush (n := 121) (v := -100) dX7_define_119 rfl (by decide) ?_
    refine b_aload_n (n := 122) 0 dX7_define_121 rfl rfl rfl ?_
    refine b_get (n := 125) (v := .int (μ 0 12)) 0 f_X7_45 dX7_define_122 rfl hM_o0 rfl ?_
    refine b_isub (n := 126) dX7_define_125 rfl ?_
    exact b_iret dX7_define_126 rfl rfl
  · refine b_aload_n (n := 128) 0 dX7_define_127 rfl rfl rfl ?_
    refine b_get (n := 131) (v := .ref (ad 5)) 0 f_X7_22 dX7_define_128 rfl hM_o0 rfl ?_
    refine b_bipush (n := 133) (v := 17) dX7_define_131 rfl (by decide) ?_
    refine b_iload_n (n := 134) 1 dX7_define_133 rfl rfl rfl ?_
    refine b_iadd (n := 135) dX7_define_134 rfl ?_
    refine b_iald (n := 136) 5 dX7_define_135 rfl hM_a5 (fun v135 => ?_)
    refine b_istore (n := 138) (L' := [(4, .int v135), (0, .ref (ad 0)), (1, .int y1), (2, .int y2), (3, .int y3)]) dX7_define_136 rfl (Nat.le_of_ble_eq_true rfl) rfl ?_
    refine b_iconst (n := 139) (v := 4) dX7_define_138 rfl (by decide) ?_
    refine b_iload_n (n := 140) 2 dX7_define_139 rfl rfl rfl ?_
    refine b_imul (n := 141) dX7_define_140 rfl ?_
    refine b_iload (n := 143) 0 dX7_define_141 rfl rfl ?_
    refine b_iadd (n := 144) dX7_define_143 rfl ?_
    refine b_istore (n := 146) (L' := [(5, .int ((4 * y1) + v135)), (4, .int v135), (0, .ref (ad 0)), (1, .int y1), (2, .int y2), (3, .int y3)]) dX7_define_144 rfl (Nat.le_of_ble_eq_true rfl) rfl ?_
    refine b_iconst (n := 147) (v := 0) dX7_define_146 rfl (by decide) ?_
    refine b_istore (n := 149) (L' := [(6, .int 0), (5, .int ((4 * y1) + v135)), (4, .int v135), (0, .ref (ad 0)), (1, .int y1), (2, .int y2), (3, .int y3)]) dX7_define_147 rfl (Nat.le_of_ble_eq_true rfl) rfl ?_
    refine Bd.sub (L' := [(0, .ref (ad 0)), (1, .int y1), (3, .int y3), (4, .int v135), (5, .int ((4 * y1) + v135)), (6, .int 0)]) [3, 4, 6, 2, 1, 0] rfl ?_
    exact w_md_define_149 hd _ _ _ _ _ _ _
def md_define_80 (N : Nat) (D : Nat)  (y1 : Int32) (z0 : Int32) (μ : Mem) : Option (Int32 × Mem) :=
  if z0 = 0 then
    (md_define_104 N D y1 z0 (μ 0 9) (μ 0 12) (up μ 0 9 0))
  else
    (md_define_104 N D y1 z0 (μ 0 9) ((-1)) (up μ 0 9 0))
set_option maxHeartbeats 400000 in
set_option maxRecDepth 100000 in
theorem w_md_define_80 {l : Launch} {E : Ev} {ad : Nat → Nat} {A : Nat → Prop} {d : Nat} {N : Nat} {D : Nat}    (hd : 3 * D + 10 ≤ d)  (y1 : Int32) (z0 : Int32) (μ : Mem) : Bd l E A RX7 cX7_define 7 (some .int) d (fun q : Int32 × Mem => (some (.int q.1), hM E ad q.2)) 80 [(0, .ref (ad 0)), (1, .int y1)] [.int z0] (hM E ad μ) (md_define_80 N D y1 z0 μ) := by
  unfold md_define_80
  refine b_istore_n (n := 81) (L' := [(2, .int z0), (0, .ref (ad 0)), (1, .int y1)]) dX7_define_80 rfl rfl (Nat.le_of_ble_eq_true rfl) rfl ?_
  refine b_aload_n (n := 82) 1 dX7_define_81 rfl rfl rfl ?_
  refine b_get (n := 85) (v := .int (μ 0 9)) 0 f_X7_42 dX7_define_82 rfl hM_o0 rfl ?_
  refine b_istore_n (n := 86) (L' := [(3, .int (μ 0 9)), (2, .int z0), (0, .ref (ad 0)), (1, .int y1)]) dX7_define_85 rfl rfl (Nat.le_of_ble_eq_true rfl) rfl ?_
  refine b_aload_n (n := 87) 2 dX7_define_86 rfl rfl rfl ?_
  refine b_iconst (n := 88) (v := 0) dX7_define_87 rfl (by decide) ?_
  refine b_put (n := 91) (ws' := hM E ad (up μ 0 9 0)) 0 fp_X7_42 dX7_define_88 rfl hM_o0 rfl rfl (Nat.le_of_ble_eq_true rfl) hM_p0_9 ?_
  refine b_aload_n (n := 92) 2 dX7_define_91 rfl rfl rfl ?_
  refine b_iload_n (n := 93) 1 dX7_define_92 rfl rfl rfl ?_
  refine b_if_eq (n := 96) (tgt := 100) dX7_define_93 (by decide) rfl (fun h93 => ?_) (fun h93 => ?_)
  · refine b_aload_n (n := 101) 2 dX7_define_100 rfl rfl rfl ?_
    refine b_get (n := 104) (v := .int (μ 0 12)) 0 f_X7_45 dX7_define_101 rfl hM_o0 rfl ?_
    refine Bd.sub (L' := [(0, .ref (ad 0)), (1, .int y1), (2, .int z0), (3, .int (μ 0 9))]) [2, 3, 1, 0] rfl ?_
    exact w_md_define_104 hd _ _ _ _ _
  · refine b_iconst (n := 97) (v := -1) dX7_define_96 rfl (by decide) ?_
    refine b_goto (n := 104) dX7_define_97 (by decide) ?_
    refine Bd.sub (L' := [(0, .ref (ad 0)), (1, .int y1), (2, .int z0), (3, .int (μ 0 9))]) [2, 3, 1, 0] rfl ?_
    exact w_md_define_104 hd _ _ _ _ _
def md_define (N : Nat) (D : Nat) (x1 : Int32) (μ : Mem) : Option (Int32 × Mem) :=
  (md_isWorkflow x1).bind fun k1 =>
  if k1 = true then
    ((rd 7593 (μ 5) (17 + x1)).bind fun v17 =>
    if v17 = 4 then
      (some ((-4), μ))
    else
      ((md_readsBody N (kn_mread N D) ((-1)) ((-1)) (up (up (up (up (up (up μ 0 12 0) 0 13 1) 0 14 0) 0 15 0) 0 16 0) 0 17 0)).bind fun (k58, μ58) =>
      if k58 = true then
        (if μ58 0 12 = μ58 0 9 then
          (md_define_80 N D x1 1 μ58)
        else
          (md_define_80 N D x1 0 μ58))
      else
        (md_define_80 N D x1 0 μ58)))
  else
    (some ((-1), μ))
set_option maxHeartbeats 400000 in
set_option maxRecDepth 100000 in
theorem c_md_define {l : Launch} {E : Ev} {ad : Nat → Nat} {d : Nat} {N : Nat} {D : Nat}   {x1 : Int32} {μ : Mem} (hd : 3 * D + 10 ≤ d) : Ct l yX7_define cX7_define 7 (some .int) d E (hM E ad μ) [.ref (ad 0), .int x1] (fun q : Int32 × Mem => (some (.int q.1), hM E ad q.2)) (md_define N D x1 μ) := by
  refine Ct.of2 (own := RX7) (L := [(0, .ref (ad 0)), (1, .int x1)]) rfl (by decide +kernel) (Nat.le_of_ble_eq_true rfl) rfl ?_
  unfold md_define
  refine b_iload_n (n := 1) 1 dX7_define_0 rfl rfl rfl ?_
  refine bSb (n := 4) (As := [.int x1]) (rest := []) lk_X7_138 (c_md_isWorkflow (Nat.le_refl _)) (by omega) rfl rfl (Nat.le_of_ble_eq_true rfl) dX7_define_1 rfl (fun k1 => ?_)
  refine b_bnz (n := 7) (tgt := 9) dX7_define_4 (by decide) rfl (fun h4 => ?_) (fun h4 => ?_)
  · refine b_aload_n (n := 10) 0 dX7_define_9 rfl rfl rfl ?_
    refine b_get (n := 13) (v := .ref (ad 5)) 0 f_X7_22 dX7_define_10 rfl hM_o0 rfl ?_
    refine b_bipush (n := 15) (v := 17) dX7_define_13 rfl (by decide) ?_
    refine b_iload_n (n := 16) 1 dX7_define_15 rfl rfl rfl ?_
    refine b_iadd (n := 17) dX7_define_16 rfl ?_
    refine b_iald (n := 18) 5 dX7_define_17 rfl hM_a5 (fun v17 => ?_)
    refine b_iconst (n := 19) (v := 4) dX7_define_18 rfl (by decide) ?_
    refine b_cmp_ne (n := 22) (tgt := 25) dX7_define_19 (by decide) rfl (fun h19 => ?_) (fun h19 => ?_)
    · refine b_bipush (n := 24) (v := -4) dX7_define_22 rfl (by decide) ?_
      exact b_iret dX7_define_24 rfl rfl
    · refine b_aload_n (n := 26) 0 dX7_define_25 rfl rfl rfl ?_
      refine b_iconst (n := 27) (v := 0) dX7_define_26 rfl (by decide) ?_
      refine b_put (n := 30) (ws' := hM E ad (up μ 0 12 0)) 0 fp_X7_45 dX7_define_27 rfl hM_o0 rfl rfl (Nat.le_of_ble_eq_true rfl) hM_p0_12 ?_
      refine b_aload_n (n := 31) 0 dX7_define_30 rfl rfl rfl ?_
      refine b_iconst (n := 32) (v := 1) dX7_define_31 rfl (by decide) ?_
      refine b_put (n := 35) (ws' := hM E ad (up (up μ 0 12 0) 0 13 1)) 0 fp_X7_78 dX7_define_32 rfl hM_o0 rfl rfl (Nat.le_of_ble_eq_true rfl) hM_p0_13 ?_
      refine b_aload_n (n := 36) 0 dX7_define_35 rfl rfl rfl ?_
      refine b_iconst (n := 37) (v := 0) dX7_define_36 rfl (by decide) ?_
      refine b_put (n := 40) (ws' := hM E ad (up (up (up μ 0 12 0) 0 13 1) 0 14 0)) 0 fp_X7_71 dX7_define_37 rfl hM_o0 rfl rfl (Nat.le_of_ble_eq_true rfl) hM_p0_14 ?_
      refine b_aload_n (n := 41) 0 dX7_define_40 rfl rfl rfl ?_
      refine b_iconst (n := 42) (v := 0) dX7_define_41 rfl (by decide) ?_
      refine b_put (n := 45) (ws' := hM E ad (up (up (up (up μ 0 12 0) 0 13 1) 0 14 0) 0 15 0)) 0 fp_X7_91 dX7_define_42 rfl hM_o0 rfl rfl (Nat.le_of_ble_eq_true rfl) hM_p0_15 ?_
      refine b_aload_n (n := 46) 0 dX7_define_45 rfl rfl rfl ?_
      refine b_iconst (n := 47) (v := 0) dX7_define_46 rfl (by decide) ?_
      refine b_put (n := 50) (ws' := hM E ad (up (up (up (up (up μ 0 12 0) 0 13 1) 0 14 0) 0 15 0) 0 16 0)) 0 fp_X7_94 dX7_define_47 rfl hM_o0 rfl rfl (Nat.le_of_ble_eq_true rfl) hM_p0_16 ?_
      refine b_aload_n (n := 51) 0 dX7_define_50 rfl rfl rfl ?_
      refine b_iconst (n := 52) (v := 0) dX7_define_51 rfl (by decide) ?_
      refine b_put (n := 55) (ws' := hM E ad (up (up (up (up (up (up μ 0 12 0) 0 13 1) 0 14 0) 0 15 0) 0 16 0) 0 17 0)) 0 fp_X7_124 dX7_define_52 rfl hM_o0 rfl rfl (Nat.le_of_ble_eq_true rfl) hM_p0_17 ?_
      refine b_aload_n (n := 56) 0 dX7_define_55 rfl rfl rfl ?_
      refine b_iconst (n := 57) (v := -1) dX7_define_56 rfl (by decide) ?_
      refine b_iconst (n := 58) (v := -1) dX7_define_57 rfl (by decide) ?_
      refine bV0wb (n := 61) (hh := (fun s : Mem => hM E ad s)) (As := [.int ((-1)), .int ((-1))]) (rest := []) 0 lk_X7_135 (c_md_readsBody (Nat.le_refl _) (Nat.le_add_right _ _) (ck_mread D)) (by omega) (fun _ => rfl) rfl rfl rfl rfl (Nat.le_of_ble_eq_true rfl) dX7_define_58 rfl ?_
      rintro k58 μ58
      try dsimp only
      refine b_bz (n := 64) (tgt := 79) dX7_define_61 (by decide) rfl (fun h61 => ?_) (fun h61 => ?_)
      · refine b_aload_n (n := 65) 0 dX7_define_64 rfl rfl rfl ?_
        refine b_get (n := 68) (v := .int (μ58 0 12)) 0 f_X7_45 dX7_define_65 rfl hM_o0 rfl ?_
        refine b_aload_n (n := 69) 0 dX7_define_68 rfl rfl rfl ?_
        refine b_get (n := 72) (v := .int (μ58 0 9)) 0 f_X7_42 dX7_define_69 rfl hM_o0 rfl ?_
        refine b_cmp_ne (n := 75) (tgt := 79) dX7_define_72 (by decide) rfl (fun h72 => ?_) (fun h72 => ?_)
        · refine b_iconst (n := 76) (v := 1) dX7_define_75 rfl (by decide) ?_
          refine b_goto (n := 80) dX7_define_76 (by decide) ?_
          exact w_md_define_80 hd _ _ _
        · refine b_iconst (n := 80) (v := 0) dX7_define_79 rfl (by decide) ?_
          exact w_md_define_80 hd _ _ _
      · refine b_iconst (n := 80) (v := 0) dX7_define_79 rfl (by decide) ?_
        exact w_md_define_80 hd _ _ _
  · refine b_iconst (n := 8) (v := -1) dX7_define_7 rfl (by decide) ?_
    exact b_iret dX7_define_8 rfl rfl
def md_wrong (μ : Mem) (x1 : Int32)  : Option (Int32) :=
  (md_isIn x1 0 1).bind fun k3 =>
  if k3 = true then
    (if μ 0 10 < 0 then
      (some ((-5)))
    else
      (if x1 = 0 then
        (some (μ 0 10))
      else
        (some (μ 0 11))))
  else
    (some ((-1)))
set_option maxHeartbeats 400000 in
set_option maxRecDepth 100000 in
theorem c_md_wrong {l : Launch} {E : Ev} {ad : Nat → Nat} {d : Nat}   {μ : Mem} {x1 : Int32}  (hd : 2 ≤ d) : Ct l yX7_wrong cX7_wrong 2 (some .int) d E (hM E ad μ) [.ref (ad 0), .int x1] (fun v : Int32 => (some (.int v), hM E ad μ)) (md_wrong μ x1) := by
  refine Ct.of2 (own := RX7) (L := [(0, .ref (ad 0)), (1, .int x1)]) rfl (by decide +kernel) (Nat.le_of_ble_eq_true rfl) rfl ?_
  unfold md_wrong
  refine b_iload_n (n := 1) 1 dX7_wrong_0 rfl rfl rfl ?_
  refine b_iconst (n := 2) (v := 0) dX7_wrong_1 rfl (by decide) ?_
  refine b_iconst (n := 3) (v := 1) dX7_wrong_2 rfl (by decide) ?_
  refine bSb (n := 6) (As := [.int x1, .int 0, .int 1]) (rest := []) lk_X7_38 (c_md_isIn (Nat.le_refl _)) (by omega) rfl rfl (Nat.le_of_ble_eq_true rfl) dX7_wrong_3 rfl (fun k3 => ?_)
  refine b_bnz (n := 9) (tgt := 13) dX7_wrong_6 (by decide) rfl (fun h6 => ?_) (fun h6 => ?_)
  · refine b_aload_n (n := 14) 0 dX7_wrong_13 rfl rfl rfl ?_
    refine b_get (n := 17) (v := .int (μ 0 10)) 0 f_X7_34 dX7_wrong_14 rfl hM_o0 rfl ?_
    refine b_if_ge (n := 20) (tgt := 25) dX7_wrong_17 (by decide) rfl (fun h17 => ?_) (fun h17 => ?_)
    · refine b_bipush (n := 22) (v := -5) dX7_wrong_20 rfl (by decide) ?_
      refine b_goto (n := 40) dX7_wrong_22 (by decide) ?_
      exact b_iret dX7_wrong_40 rfl rfl
    · refine b_iload_n (n := 26) 1 dX7_wrong_25 rfl rfl rfl ?_
      refine b_if_ne (n := 29) (tgt := 36) dX7_wrong_26 (by decide) rfl (fun h26 => ?_) (fun h26 => ?_)
      · refine b_aload_n (n := 30) 0 dX7_wrong_29 rfl rfl rfl ?_
        refine b_get (n := 33) (v := .int (μ 0 10)) 0 f_X7_34 dX7_wrong_30 rfl hM_o0 rfl ?_
        refine b_goto (n := 40) dX7_wrong_33 (by decide) ?_
        exact b_iret dX7_wrong_40 rfl rfl
      · refine b_aload_n (n := 37) 0 dX7_wrong_36 rfl rfl rfl ?_
        refine b_get (n := 40) (v := .int (μ 0 11)) 0 f_X7_141 dX7_wrong_37 rfl hM_o0 rfl ?_
        exact b_iret dX7_wrong_40 rfl rfl
  · refine b_iconst (n := 10) (v := -1) dX7_wrong_9 rfl (by decide) ?_
    refine b_goto (n := 40) dX7_wrong_10 (by decide) ?_
    exact b_iret dX7_wrong_40 rfl rfl
def md_kind (μ : Mem) (x1 : Int32) (x2 : Int32)  : Option (Int32) :=
  (md_part x1 x2 0).bind fun k7 =>
  (rd 9792 (μ 1) k7).bind fun v10 =>
  some v10
set_option maxHeartbeats 400000 in
set_option maxRecDepth 100000 in
theorem c_md_kind {l : Launch} {E : Ev} {ad : Nat → Nat} {d : Nat}   {μ : Mem} {x1 : Int32} {x2 : Int32}  (hd : 2 ≤ d) : Ct l yX7_kind cX7_kind 3 (some .int) d E (hM E ad μ) [.ref (ad 0), .int x1, .int x2] (fun v : Int32 => (some (.int v), hM E ad μ)) (md_kind μ x1 x2) := by
  refine Ct.of2 (own := RX7) (L := [(0, .ref (ad 0)), (1, .int x1), (2, .int x2)]) rfl (by decide +kernel) (Nat.le_of_ble_eq_true rfl) rfl ?_
  unfold md_kind
  refine b_aload_n (n := 1) 0 dX7_kind_0 rfl rfl rfl ?_
  refine b_get (n := 4) (v := .ref (ad 1)) 0 f_X7_9 dX7_kind_1 rfl hM_o0 rfl ?_
  refine b_iload_n (n := 5) 1 dX7_kind_4 rfl rfl rfl ?_
  refine b_iload_n (n := 6) 2 dX7_kind_5 rfl rfl rfl ?_
  refine b_iconst (n := 7) (v := 0) dX7_kind_6 rfl (by decide) ?_
  refine bSi (n := 10) (As := [.int x1, .int x2, .int 0]) (rest := [.ref (ad 1)]) lk_X7_67 (c_md_part (Nat.le_refl _)) (by omega) rfl rfl (Nat.le_of_ble_eq_true rfl) dX7_kind_7 rfl (fun k7 => ?_)
  refine b_iald (n := 11) 1 dX7_kind_10 rfl hM_a1 (fun v10 => ?_)
  exact b_iret dX7_kind_11 rfl rfl
def md_child (μ : Mem) (x1 : Int32) (x2 : Int32)  : Option (Int32) :=
  (md_part x1 x2 5).bind fun k7 =>
  (rd 9792 (μ 1) k7).bind fun v10 =>
  some v10
set_option maxHeartbeats 400000 in
set_option maxRecDepth 100000 in
theorem c_md_child {l : Launch} {E : Ev} {ad : Nat → Nat} {d : Nat}   {μ : Mem} {x1 : Int32} {x2 : Int32}  (hd : 2 ≤ d) : Ct l yX7_child cX7_child 3 (some .int) d E (hM E ad μ) [.ref (ad 0), .int x1, .int x2] (fun v : Int32 => (some (.int v), hM E ad μ)) (md_child μ x1 x2) := by
  refine Ct.of2 (own := RX7) (L := [(0, .ref (ad 0)), (1, .int x1), (2, .int x2)]) rfl (by decide +kernel) (Nat.le_of_ble_eq_true rfl) rfl ?_
  unfold md_child
  refine b_aload_n (n := 1) 0 dX7_child_0 rfl rfl rfl ?_
  refine b_get (n := 4) (v := .ref (ad 1)) 0 f_X7_9 dX7_child_1 rfl hM_o0 rfl ?_
  refine b_iload_n (n := 5) 1 dX7_child_4 rfl rfl rfl ?_
  refine b_iload_n (n := 6) 2 dX7_child_5 rfl rfl rfl ?_
  refine b_iconst (n := 7) (v := 5) dX7_child_6 rfl (by decide) ?_
  refine bSi (n := 10) (As := [.int x1, .int x2, .int 5]) (rest := [.ref (ad 1)]) lk_X7_67 (c_md_part (Nat.le_refl _)) (by omega) rfl rfl (Nat.le_of_ble_eq_true rfl) dX7_child_7 rfl (fun k7 => ?_)
  refine b_iald (n := 11) 1 dX7_child_10 rfl hM_a1 (fun v10 => ?_)
  exact b_iret dX7_child_11 rfl rfl
def md_next (μ : Mem) (x1 : Int32) (x2 : Int32)  : Option (Int32) :=
  (md_part x1 x2 6).bind fun k8 =>
  (rd 9792 (μ 1) k8).bind fun v11 =>
  some v11
set_option maxHeartbeats 400000 in
set_option maxRecDepth 100000 in
theorem c_md_next {l : Launch} {E : Ev} {ad : Nat → Nat} {d : Nat}   {μ : Mem} {x1 : Int32} {x2 : Int32}  (hd : 2 ≤ d) : Ct l yX7_next cX7_next 3 (some .int) d E (hM E ad μ) [.ref (ad 0), .int x1, .int x2] (fun v : Int32 => (some (.int v), hM E ad μ)) (md_next μ x1 x2) := by
  refine Ct.of2 (own := RX7) (L := [(0, .ref (ad 0)), (1, .int x1), (2, .int x2)]) rfl (by decide +kernel) (Nat.le_of_ble_eq_true rfl) rfl ?_
  unfold md_next
  refine b_aload_n (n := 1) 0 dX7_next_0 rfl rfl rfl ?_
  refine b_get (n := 4) (v := .ref (ad 1)) 0 f_X7_9 dX7_next_1 rfl hM_o0 rfl ?_
  refine b_iload_n (n := 5) 1 dX7_next_4 rfl rfl rfl ?_
  refine b_iload_n (n := 6) 2 dX7_next_5 rfl rfl rfl ?_
  refine b_bipush (n := 8) (v := 6) dX7_next_6 rfl (by decide) ?_
  refine bSi (n := 11) (As := [.int x1, .int x2, .int 6]) (rest := [.ref (ad 1)]) lk_X7_67 (c_md_part (Nat.le_refl _)) (by omega) rfl rfl (Nat.le_of_ble_eq_true rfl) dX7_next_8 rfl (fun k8 => ?_)
  refine b_iald (n := 12) 1 dX7_next_11 rfl hM_a1 (fun v11 => ?_)
  exact b_iret dX7_next_12 rfl rfl
def md_tasksIn_4 (N : Nat) (μ : Mem)  : Nat → Int32 → Int32 → Int32 → Option (Int32)
  | 0, _, _, _ => none
  | n + 1, y1, y2, y3 =>
    (rd 68 (μ 3) (4 * y1)).bind fun v12 =>
    if y3 < v12 then
      ((md_kind μ y1 y3).bind fun k20 =>
      if k20 = 1 then
        (md_tasksIn_4 N μ n y1 (y2 + 1) (y3 + 1))
      else
        (md_tasksIn_4 N μ n y1 (y2 + 0) (y3 + 1)))
    else
      (some y2)
set_option maxHeartbeats 400000 in
set_option maxRecDepth 100000 in
theorem w_md_tasksIn_4 {l : Launch} {E : Ev} {ad : Nat → Nat} {A : Nat → Prop} {d : Nat} {N : Nat}  {μ : Mem}  (hd : 3 ≤ d)  (n : Nat) : ∀ (y1 : Int32) (y2 : Int32) (y3 : Int32), Bd l E A RX7 cX7_tasksIn 4 (some .int) d (fun v : Int32 => (some (.int v), hM E ad μ)) 4 [(0, .ref (ad 0)), (1, .int y1), (2, .int y2), (3, .int y3)] [] (hM E ad μ) (md_tasksIn_4 N μ n y1 y2 y3) := by
  induction n with
  | zero => intro y1 y2 y3; exact b_none
  | succ n ih =>
    intro y1 y2 y3
    rw [md_tasksIn_4]
    refine b_iload_n (n := 5) 3 dX7_tasksIn_4 rfl rfl rfl ?_
    refine b_aload_n (n := 6) 0 dX7_tasksIn_5 rfl rfl rfl ?_
    refine b_get (n := 9) (v := .ref (ad 3)) 0 f_X7_16 dX7_tasksIn_6 rfl hM_o0 rfl ?_
    refine b_iconst (n := 10) (v := 4) dX7_tasksIn_9 rfl (by decide) ?_
    refine b_iload_n (n := 11) 1 dX7_tasksIn_10 rfl rfl rfl ?_
    refine b_imul (n := 12) dX7_tasksIn_11 rfl ?_
    refine b_iald (n := 13) 3 dX7_tasksIn_12 rfl hM_a3 (fun v12 => ?_)
    refine b_cmp_ge (n := 16) (tgt := 40) dX7_tasksIn_13 (by decide) rfl (fun h13 => ?_) (fun h13 => ?_)
    · refine b_iload_n (n := 17) 2 dX7_tasksIn_16 rfl rfl rfl ?_
      refine b_aload_n (n := 18) 0 dX7_tasksIn_17 rfl rfl rfl ?_
      refine b_iload_n (n := 19) 1 dX7_tasksIn_18 rfl rfl rfl ?_
      refine b_iload_n (n := 20) 3 dX7_tasksIn_19 rfl rfl rfl ?_
      refine bV0i (n := 23) (As := [.int y1, .int y3]) (rest := [.int y2]) 0 lk_X7_144 (c_md_kind (Nat.le_refl _)) (by omega) rfl rfl rfl rfl (Nat.le_of_ble_eq_true rfl) dX7_tasksIn_20 rfl (fun k20 => ?_)
      refine b_iconst (n := 24) (v := 1) dX7_tasksIn_23 rfl (by decide) ?_
      refine b_cmp_ne (n := 27) (tgt := 31) dX7_tasksIn_24 (by decide) rfl (fun h24 => ?_) (fun h24 => ?_)
      · refine b_iconst (n := 28) (v := 1) dX7_tasksIn_27 rfl (by decide) ?_
        refine b_goto (n := 32) dX7_tasksIn_28 (by decide) ?_
        refine b_iadd (n := 33) dX7_tasksIn_32 rfl ?_
        refine b_istore_n (n := 34) (L' := [(2, .int (y2 + 1)), (0, .ref (ad 0)), (1, .int y1), (3, .int y3)]) dX7_tasksIn_33 rfl rfl (Nat.le_of_ble_eq_true rfl) rfl ?_
        refine b_iinc (n := 37) (L' := [(3, .int (y3 + 1)), (2, .int (y2 + 1)), (0, .ref (ad 0)), (1, .int y1)]) 3 1 dX7_tasksIn_34 rfl rfl (by decide) (Nat.le_of_ble_eq_true rfl) rfl ?_
        refine b_goto (n := 4) dX7_tasksIn_37 (by decide) ?_
        refine Bd.sub (L' := [(0, .ref (ad 0)), (1, .int y1), (2, .int (y2 + 1)), (3, .int (y3 + 1))]) [2, 3, 1, 0] rfl ?_
        exact ih _ _ _
      · refine b_iconst (n := 32) (v := 0) dX7_tasksIn_31 rfl (by decide) ?_
        refine b_iadd (n := 33) dX7_tasksIn_32 rfl ?_
        refine b_istore_n (n := 34) (L' := [(2, .int (y2 + 0)), (0, .ref (ad 0)), (1, .int y1), (3, .int y3)]) dX7_tasksIn_33 rfl rfl (Nat.le_of_ble_eq_true rfl) rfl ?_
        refine b_iinc (n := 37) (L' := [(3, .int (y3 + 1)), (2, .int (y2 + 0)), (0, .ref (ad 0)), (1, .int y1)]) 3 1 dX7_tasksIn_34 rfl rfl (by decide) (Nat.le_of_ble_eq_true rfl) rfl ?_
        refine b_goto (n := 4) dX7_tasksIn_37 (by decide) ?_
        refine Bd.sub (L' := [(0, .ref (ad 0)), (1, .int y1), (2, .int (y2 + 0)), (3, .int (y3 + 1))]) [2, 3, 1, 0] rfl ?_
        exact ih _ _ _
    · refine b_iload_n (n := 41) 2 dX7_tasksIn_40 rfl rfl rfl ?_
      exact b_iret dX7_tasksIn_41 rfl rfl
def md_tasksIn (N : Nat) (μ : Mem) (x1 : Int32)  : Option (Int32) :=
  md_tasksIn_4 N μ N x1 0 0
set_option maxHeartbeats 400000 in
set_option maxRecDepth 100000 in
theorem c_md_tasksIn {l : Launch} {E : Ev} {ad : Nat → Nat} {d : Nat} {N : Nat}  {μ : Mem} {x1 : Int32}  (hd : 3 ≤ d) : Ct l yX7_tasksIn cX7_tasksIn 4 (some .int) d E (hM E ad μ) [.ref (ad 0), .int x1] (fun v : Int32 => (some (.int v), hM E ad μ)) (md_tasksIn N μ x1) := by
  refine Ct.of2 (own := RX7) (L := [(0, .ref (ad 0)), (1, .int x1)]) rfl (by decide +kernel) (Nat.le_of_ble_eq_true rfl) rfl ?_
  unfold md_tasksIn
  refine b_iconst (n := 1) (v := 0) dX7_tasksIn_0 rfl (by decide) ?_
  refine b_istore_n (n := 2) (L' := [(2, .int 0), (0, .ref (ad 0)), (1, .int x1)]) dX7_tasksIn_1 rfl rfl (Nat.le_of_ble_eq_true rfl) rfl ?_
  refine b_iconst (n := 3) (v := 0) dX7_tasksIn_2 rfl (by decide) ?_
  refine b_istore_n (n := 4) (L' := [(3, .int 0), (2, .int 0), (0, .ref (ad 0)), (1, .int x1)]) dX7_tasksIn_3 rfl rfl (Nat.le_of_ble_eq_true rfl) rfl ?_
  refine Bd.sub (L' := [(0, .ref (ad 0)), (1, .int x1), (2, .int 0), (3, .int 0)]) [2, 3, 1, 0] rfl ?_
  exact w_md_tasksIn_4 hd _ _ _ _
def md_width_38 (N : Nat) (μ : Mem) (B : Int32 → Int32 → Option (Int32))  : Nat → Int32 → Int32 → Int32 → Int32 → Int32 → Option (Int32)
  | 0, _, _, _, _, _ => none
  | n + 1, y1, y3, y4, y5, y6 =>
    if y6 < 0 then
      (if y3 = 6 then
        (some y5)
      else
        (some y4))
    else
      ((B y1 y6).bind fun k47 =>
      (md_next μ y1 y6).bind fun k72 =>
      md_width_38 N μ B n y1 y3 (if y4 < k47 then k47 else y4) (y5 + k47) k72)
set_option maxHeartbeats 400000 in
set_option maxRecDepth 100000 in
theorem w_md_width_38 {l : Launch} {E : Ev} {ad : Nat → Nat} {A : Nat → Prop} {d : Nat} {N : Nat}  {μ : Mem} {B : Int32 → Int32 → Option (Int32)} {dB : Nat} (hdB : 3 ≤ dB) (hB : ∀ (x1 : Int32) (x2 : Int32), Ct l yX7_width cX7_width 8 (some .int) dB E (hM E ad μ) [.ref (ad 0), .int x1, .int x2] (fun v : Int32 => (some (.int v), hM E ad μ)) (B x1 x2))  (hd : dB + 1 ≤ d)  (n : Nat) : ∀ (y1 : Int32) (y3 : Int32) (y4 : Int32) (y5 : Int32) (y6 : Int32), Bd l E A RX7 cX7_width 8 (some .int) d (fun v : Int32 => (some (.int v), hM E ad μ)) 38 [(0, .ref (ad 0)), (1, .int y1), (3, .int y3), (4, .int y4), (5, .int y5), (6, .int y6)] [] (hM E ad μ) (md_width_38 N μ B n y1 y3 y4 y5 y6) := by
  induction n with
  | zero => intro y1 y3 y4 y5 y6; exact b_none
  | succ n ih =>
    intro y1 y3 y4 y5 y6
    rw [md_width_38]
    refine b_iload (n := 40) 5 dX7_width_38 rfl rfl ?_
    refine b_if_lt (n := 43) (tgt := 80) dX7_width_40 (by decide) rfl (fun h40 => ?_) (fun h40 => ?_)
    · refine b_iload_n (n := 81) 2 dX7_width_80 rfl rfl rfl ?_
      refine b_bipush (n := 83) (v := 6) dX7_width_81 rfl (by decide) ?_
      refine b_cmp_ne (n := 86) (tgt := 91) dX7_width_83 (by decide) rfl (fun h83 => ?_) (fun h83 => ?_)
      · refine b_iload (n := 88) 4 dX7_width_86 rfl rfl ?_
        refine b_goto (n := 93) dX7_width_88 (by decide) ?_
        exact b_iret dX7_width_93 rfl rfl
      · refine b_iload (n := 93) 3 dX7_width_91 rfl rfl ?_
        exact b_iret dX7_width_93 rfl rfl
    · refine b_aload_n (n := 44) 0 dX7_width_43 rfl rfl rfl ?_
      refine b_iload_n (n := 45) 1 dX7_width_44 rfl rfl rfl ?_
      refine b_iload (n := 47) 5 dX7_width_45 rfl rfl ?_
      refine bV0i (n := 50) (As := [.int y1, .int y6]) (rest := []) 0 lk_X7_150 (hB _ _) (by omega) rfl rfl rfl rfl (Nat.le_of_ble_eq_true rfl) dX7_width_47 rfl (fun k47 => ?_)
      refine b_istore (n := 52) (L' := [(7, .int k47), (0, .ref (ad 0)), (1, .int y1), (3, .int y3), (4, .int y4), (5, .int y5), (6, .int y6)]) dX7_width_50 rfl (Nat.le_of_ble_eq_true rfl) rfl ?_
      refine b_iload (n := 54) 4 dX7_width_52 rfl rfl ?_
      refine b_iload (n := 56) 0 dX7_width_54 rfl rfl ?_
      refine b_mmax (n := 59) mw_X7_127 (by omega) (Nat.le_of_ble_eq_true rfl) dX7_width_56 rfl ?_
      refine b_istore (n := 61) (L' := [(4, .int (if y4 < k47 then k47 else y4)), (7, .int k47), (0, .ref (ad 0)), (1, .int y1), (3, .int y3), (5, .int y5), (6, .int y6)]) dX7_width_59 rfl (Nat.le_of_ble_eq_true rfl) rfl ?_
      refine b_iload (n := 63) 5 dX7_width_61 rfl rfl ?_
      refine b_iload (n := 65) 1 dX7_width_63 rfl rfl ?_
      refine b_iadd (n := 66) dX7_width_65 rfl ?_
      refine b_istore (n := 68) (L' := [(5, .int (y5 + k47)), (4, .int (if y4 < k47 then k47 else y4)), (7, .int k47), (0, .ref (ad 0)), (1, .int y1), (3, .int y3), (6, .int y6)]) dX7_width_66 rfl (Nat.le_of_ble_eq_true rfl) rfl ?_
      refine b_aload_n (n := 69) 3 dX7_width_68 rfl rfl rfl ?_
      refine b_iload_n (n := 70) 4 dX7_width_69 rfl rfl rfl ?_
      refine b_iload (n := 72) 6 dX7_width_70 rfl rfl ?_
      refine bV0i (n := 75) (As := [.int y1, .int y6]) (rest := []) 0 lk_X7_153 (c_md_next (Nat.le_refl _)) (by omega) rfl rfl rfl rfl (Nat.le_of_ble_eq_true rfl) dX7_width_72 rfl (fun k72 => ?_)
      refine b_istore (n := 77) (L' := [(6, .int k72), (5, .int (y5 + k47)), (4, .int (if y4 < k47 then k47 else y4)), (7, .int k47), (0, .ref (ad 0)), (1, .int y1), (3, .int y3)]) dX7_width_75 rfl (Nat.le_of_ble_eq_true rfl) rfl ?_
      refine b_goto (n := 38) dX7_width_77 (by decide) ?_
      refine Bd.sub (L' := [(0, .ref (ad 0)), (1, .int y1), (3, .int y3), (4, .int (if y4 < k47 then k47 else y4)), (5, .int (y5 + k47)), (6, .int k72)]) [4, 5, 6, 2, 1, 0] rfl ?_
      exact ih _ _ _ _ _
def md_width_24 (N : Nat) (μ : Mem) (B : Int32 → Int32 → Option (Int32))  (y1 : Int32) (y2 : Int32) (y3 : Int32)  : Option (Int32) :=
  (md_child μ y1 y2).bind fun k33 =>
  md_width_38 N μ B N y1 y3 0 0 k33
set_option maxHeartbeats 400000 in
set_option maxRecDepth 100000 in
theorem w_md_width_24 {l : Launch} {E : Ev} {ad : Nat → Nat} {A : Nat → Prop} {d : Nat} {N : Nat}  {μ : Mem} {B : Int32 → Int32 → Option (Int32)} {dB : Nat} (hdB : 3 ≤ dB) (hB : ∀ (x1 : Int32) (x2 : Int32), Ct l yX7_width cX7_width 8 (some .int) dB E (hM E ad μ) [.ref (ad 0), .int x1, .int x2] (fun v : Int32 => (some (.int v), hM E ad μ)) (B x1 x2))  (hd : dB + 1 ≤ d)  (y1 : Int32) (y2 : Int32) (y3 : Int32) : Bd l E A RX7 cX7_width 8 (some .int) d (fun v : Int32 => (some (.int v), hM E ad μ)) 24 [(0, .ref (ad 0)), (1, .int y1), (2, .int y2), (3, .int y3)] [] (hM E ad μ) (md_width_24 N μ B y1 y2 y3) := by
  unfold md_width_24
  refine b_iconst (n := 25) (v := 0) dX7_width_24 rfl (by decide) ?_
  refine b_istore (n := 27) (L' := [(4, .int 0), (0, .ref (ad 0)), (1, .int y1), (2, .int y2), (3, .int y3)]) dX7_width_25 rfl (Nat.le_of_ble_eq_true rfl) rfl ?_
  refine b_iconst (n := 28) (v := 0) dX7_width_27 rfl (by decide) ?_
  refine b_istore (n := 30) (L' := [(5, .int 0), (4, .int 0), (0, .ref (ad 0)), (1, .int y1), (2, .int y2), (3, .int y3)]) dX7_width_28 rfl (Nat.le_of_ble_eq_true rfl) rfl ?_
  refine b_aload_n (n := 31) 2 dX7_width_30 rfl rfl rfl ?_
  refine b_iload_n (n := 32) 3 dX7_width_31 rfl rfl rfl ?_
  refine b_iload_n (n := 33) 4 dX7_width_32 rfl rfl rfl ?_
  refine bV0i (n := 36) (As := [.int y1, .int y2]) (rest := []) 0 lk_X7_147 (c_md_child (Nat.le_refl _)) (by omega) rfl rfl rfl rfl (Nat.le_of_ble_eq_true rfl) dX7_width_33 rfl (fun k33 => ?_)
  refine b_istore (n := 38) (L' := [(6, .int k33), (5, .int 0), (4, .int 0), (0, .ref (ad 0)), (1, .int y1), (2, .int y2), (3, .int y3)]) dX7_width_36 rfl (Nat.le_of_ble_eq_true rfl) rfl ?_
  refine Bd.sub (L' := [(0, .ref (ad 0)), (1, .int y1), (3, .int y3), (4, .int 0), (5, .int 0), (6, .int k33)]) [3, 4, 6, 2, 1, 0] rfl ?_
  exact w_md_width_38 hdB hB hd _ _ _ _ _ _
def md_width (N : Nat) (μ : Mem) (B : Int32 → Int32 → Option (Int32)) (x1 : Int32) (x2 : Int32)  : Option (Int32) :=
  (md_kind μ x1 x2).bind fun k3 =>
  if k3 = 0 then
    (md_width_24 N μ B x1 x2 k3)
  else
    (if k3 = 5 then
      (md_width_24 N μ B x1 x2 k3)
    else
      (if k3 = 6 then
        (md_width_24 N μ B x1 x2 k3)
      else
        (some 1)))
set_option maxHeartbeats 400000 in
set_option maxRecDepth 100000 in
theorem c_md_width {l : Launch} {E : Ev} {ad : Nat → Nat} {d : Nat} {N : Nat}  {μ : Mem} {B : Int32 → Int32 → Option (Int32)} {dB : Nat} {x1 : Int32} {x2 : Int32}  (hd : dB + 1 ≤ d) (hdB : 3 ≤ dB) (hB : ∀ (x1 : Int32) (x2 : Int32), Ct l yX7_width cX7_width 8 (some .int) dB E (hM E ad μ) [.ref (ad 0), .int x1, .int x2] (fun v : Int32 => (some (.int v), hM E ad μ)) (B x1 x2)) : Ct l yX7_width cX7_width 8 (some .int) d E (hM E ad μ) [.ref (ad 0), .int x1, .int x2] (fun v : Int32 => (some (.int v), hM E ad μ)) (md_width N μ B x1 x2) := by
  refine Ct.of2 (own := RX7) (L := [(0, .ref (ad 0)), (1, .int x1), (2, .int x2)]) rfl (by decide +kernel) (Nat.le_of_ble_eq_true rfl) rfl ?_
  unfold md_width
  refine b_aload_n (n := 1) 0 dX7_width_0 rfl rfl rfl ?_
  refine b_iload_n (n := 2) 1 dX7_width_1 rfl rfl rfl ?_
  refine b_iload_n (n := 3) 2 dX7_width_2 rfl rfl rfl ?_
  refine bV0i (n := 6) (As := [.int x1, .int x2]) (rest := []) 0 lk_X7_144 (c_md_kind (Nat.le_refl _)) (by omega) rfl rfl rfl rfl (Nat.le_of_ble_eq_true rfl) dX7_width_3 rfl (fun k3 => ?_)
  refine b_istore_n (n := 7) (L' := [(3, .int k3), (0, .ref (ad 0)), (1, .int x1), (2, .int x2)]) dX7_width_6 rfl rfl (Nat.le_of_ble_eq_true rfl) rfl ?_
  refine b_iload_n (n := 8) 0 dX7_width_7 rfl rfl rfl ?_
  refine b_if_eq (n := 11) (tgt := 24) dX7_width_8 (by decide) rfl (fun h8 => ?_) (fun h8 => ?_)
  · refine Bd.sub (L' := [(0, .ref (ad 0)), (1, .int x1), (2, .int x2), (3, .int k3)]) [1, 2, 3, 0] rfl ?_
    exact w_md_width_24 hdB hB hd _ _ _
  · refine b_iload_n (n := 12) 0 dX7_width_11 rfl rfl rfl ?_
    refine b_iconst (n := 13) (v := 5) dX7_width_12 rfl (by decide) ?_
    refine b_cmp_eq (n := 16) (tgt := 24) dX7_width_13 (by decide) rfl (fun h13 => ?_) (fun h13 => ?_)
    · refine Bd.sub (L' := [(0, .ref (ad 0)), (1, .int x1), (2, .int x2), (3, .int k3)]) [1, 2, 3, 0] rfl ?_
      exact w_md_width_24 hdB hB hd _ _ _
    · refine b_iload_n (n := 17) 0 dX7_width_16 rfl rfl rfl ?_
      refine b_bipush (n := 19) (v := 6) dX7_width_17 rfl (by decide) ?_
      refine b_cmp_eq (n := 22) (tgt := 24) dX7_width_19 (by decide) rfl (fun h19 => ?_) (fun h19 => ?_)
      · refine Bd.sub (L' := [(0, .ref (ad 0)), (1, .int x1), (2, .int x2), (3, .int k3)]) [1, 2, 3, 0] rfl ?_
        exact w_md_width_24 hdB hB hd _ _ _
      · refine b_iconst (n := 23) (v := 1) dX7_width_22 rfl (by decide) ?_
        exact b_iret dX7_width_23 rfl rfl
def kn_mwidth (N : Nat) (μ : Mem) : Nat → Int32 → Int32 → Option (Int32)
  | 0, _, _ => none
  | n + 1, x1, x2 => md_width N μ (kn_mwidth N μ n) x1 x2
set_option maxHeartbeats 400000 in
set_option maxRecDepth 100000 in
theorem cka_mwidth {l : Launch} {E : Ev} {ad : Nat → Nat} {N : Nat}  {μ : Mem} (n : Nat) : (∀ (x1 : Int32) (x2 : Int32), Ct l yX7_width cX7_width 8 (some .int) (3 + 1 * n) E (hM E ad μ) [.ref (ad 0), .int x1, .int x2] (fun v : Int32 => (some (.int v), hM E ad μ)) (kn_mwidth N μ n x1 x2)) := by
  induction n with
  | zero => exact fun _ _ => fun h => by cases h
  | succ n ih => exact fun _ _ => c_md_width (by omega) (Nat.le_add_right _ _) ih
theorem ck_mwidth {l : Launch} {E : Ev} {ad : Nat → Nat} {N : Nat}  {μ : Mem} (n : Nat) : ∀ (x1 : Int32) (x2 : Int32), Ct l yX7_width cX7_width 8 (some .int) (3 + 1 * n) E (hM E ad μ) [.ref (ad 0), .int x1, .int x2] (fun v : Int32 => (some (.int v), hM E ad μ)) (kn_mwidth N μ n x1 x2) := cka_mwidth n
