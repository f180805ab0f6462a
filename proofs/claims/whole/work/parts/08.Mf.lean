/-! the reference: partial pure functions, and the walk of each method (5) -/
def md_looksAtTask_8 (N : Nat)  : Nat → Int32 → Int32 → Int32 → Mem → Option (Int32 × Mem)
  | 0, _, _, _, _ => none
  | n + 1, y1, y2, y3, μ =>
    (md_at y1 y2 3).bind fun k15 =>
    (rd 7593 (μ 5) k15).bind fun v18 =>
    if v18 < 0 then
      ((md_at y1 y2 4).bind fun k33 =>
      (rd 7593 (μ 5) k33).bind fun v36 =>
      (rd 7593 (μ 5) 0).bind fun v42 =>
      if v42 < v36 then
        (some (1, μ))
      else
        ((md_tries y1 y2 μ).bind fun μ51 =>
        md_looksAtTask_8 N n y1 y2 y3 μ51))
    else
      ((rd 7593 (μ 5) 0).bind fun v64 =>
      if v64 < v18 then
        (some (1, μ))
      else
        ((md_fails y3 μ).bind fun (k72, μ72) =>
        if k72 = true then
          ((md_notes y1 1 y3 μ72).bind fun μ134 =>
          (md_at y1 y2 2).bind fun k144 =>
          (rd 7593 (μ134 5) k144).bind fun v147 =>
          (md_nodePart μ134 y1 y2 2).bind fun k156 =>
          if k156 < v147 then
            ((md_comesTo y1 y2 3 μ134).bind fun (k166, μ166) =>
            some (k166, μ166))
          else
            ((md_at y1 y2 4).bind fun k177 =>
            (md_nodePart μ134 y1 y2 3).bind fun k186 =>
            ck 7593 k177 <|
            (md_at y1 y2 3).bind fun k205 =>
            ck 7593 k205 <|
            md_looksAtTask_8 N n y1 y2 y3 (up (up μ134 5 k177.toNatClampNeg (v18 + (k186 * ((1 : Int32) <<< ((v147 - 1) &&& 31))))) 5 k205.toNatClampNeg ((-1)))))
        else
          ((md_notes y1 2 y3 μ72).bind fun μ82 =>
          (md_of y1 6).bind fun k92 =>
          (rd 7593 (μ82 5) k92).bind fun v96 =>
          ck 7593 k92 <|
          (md_at y1 y2 5).bind fun k107 =>
          (md_of y1 6).bind fun k117 =>
          (rd 7593 ((up μ82 5 k92.toNatClampNeg (v96 + 1)) 5) k117).bind fun v120 =>
          ck 7593 k107 <|
          (md_comesTo y1 y2 2 (up (up μ82 5 k92.toNatClampNeg (v96 + 1)) 5 k107.toNatClampNeg v120)).bind fun (k126, μ126) =>
          some (k126, μ126))))
set_option maxHeartbeats 400000 in
set_option maxRecDepth 100000 in
theorem w_md_looksAtTask_8 {l : Launch} {E : Ev} {ad : Nat → Nat} {A : Nat → Prop} {d : Nat} {N : Nat}    (hd : 5 ≤ d)  (n : Nat) : ∀ (y1 : Int32) (y2 : Int32) (y3 : Int32) (μ : Mem), Bd l E A RX7 cX7_looksAtTask 6 (some .int) d (fun q : Int32 × Mem => (some (.int q.1), hM E ad q.2)) 8 [(0, .ref (ad 0)), (1, .int y1), (2, .int y2), (3, .int y3)] [] (hM E ad μ) (md_looksAtTask_8 N n y1 y2 y3 μ) := by
  induction n with
  | zero => intro y1 y2 y3 μ; exact b_none
  | succ n ih =>
    intro y1 y2 y3 μ
    rw [md_looksAtTask_8]
    refine b_aload_n (n := 9) 0 dX7_looksAtTask_8 rfl rfl rfl ?_
    refine b_get (n := 12) (v := .ref (ad 5)) 0 f_X7_22 dX7_looksAtTask_9 rfl hM_o0 rfl ?_
    refine b_iload_n (n := 13) 1 dX7_looksAtTask_12 rfl rfl rfl ?_
    refine b_iload_n (n := 14) 2 dX7_looksAtTask_13 rfl rfl rfl ?_
    refine b_iconst (n := 15) (v := 3) dX7_looksAtTask_14 rfl (by decide) ?_
    refine bSi (n := 18) (As := [.int y1, .int y2, .int 3]) (rest := [.ref (ad 5)]) lk_X7_169 (c_md_at (Nat.le_refl _)) (by omega) rfl rfl (Nat.le_of_ble_eq_true rfl) dX7_looksAtTask_15 rfl (fun k15 => ?_)
    refine b_iald (n := 19) 5 dX7_looksAtTask_18 rfl hM_a5 (fun v18 => ?_)
    refine b_istore (n := 21) (L' := [(4, .int v18), (0, .ref (ad 0)), (1, .int y1), (2, .int y2), (3, .int y3)]) dX7_looksAtTask_19 rfl (Nat.le_of_ble_eq_true rfl) rfl ?_
    refine b_iload (n := 23) 0 dX7_looksAtTask_21 rfl rfl ?_
    refine b_if_ge (n := 26) (tgt := 57) dX7_looksAtTask_23 (by decide) rfl (fun h23 => ?_) (fun h23 => ?_)
    · refine b_aload_n (n := 27) 1 dX7_looksAtTask_26 rfl rfl rfl ?_
      refine b_get (n := 30) (v := .ref (ad 5)) 0 f_X7_22 dX7_looksAtTask_27 rfl hM_o0 rfl ?_
      refine b_iload_n (n := 31) 2 dX7_looksAtTask_30 rfl rfl rfl ?_
      refine b_iload_n (n := 32) 3 dX7_looksAtTask_31 rfl rfl rfl ?_
      refine b_iconst (n := 33) (v := 4) dX7_looksAtTask_32 rfl (by decide) ?_
      refine bSi (n := 36) (As := [.int y1, .int y2, .int 4]) (rest := [.ref (ad 5)]) lk_X7_169 (c_md_at (Nat.le_refl _)) (by omega) rfl rfl (Nat.le_of_ble_eq_true rfl) dX7_looksAtTask_33 rfl (fun k33 => ?_)
      refine b_iald (n := 37) 5 dX7_looksAtTask_36 rfl hM_a5 (fun v36 => ?_)
      refine b_aload_n (n := 38) 1 dX7_looksAtTask_37 rfl rfl rfl ?_
      refine b_get (n := 41) (v := .ref (ad 5)) 0 f_X7_22 dX7_looksAtTask_38 rfl hM_o0 rfl ?_
      refine b_iconst (n := 42) (v := 0) dX7_looksAtTask_41 rfl (by decide) ?_
      refine b_iald (n := 43) 5 dX7_looksAtTask_42 rfl hM_a5 (fun v42 => ?_)
      refine b_cmp_le (n := 46) (tgt := 48) dX7_looksAtTask_43 (by decide) rfl (fun h43 => ?_) (fun h43 => ?_)
      · refine b_iconst (n := 47) (v := 1) dX7_looksAtTask_46 rfl (by decide) ?_
        exact b_iret dX7_looksAtTask_47 rfl rfl
      · refine b_aload_n (n := 49) 1 dX7_looksAtTask_48 rfl rfl rfl ?_
        refine b_iload_n (n := 50) 2 dX7_looksAtTask_49 rfl rfl rfl ?_
        refine b_iload_n (n := 51) 3 dX7_looksAtTask_50 rfl rfl rfl ?_
        refine bV0wv (n := 54) (hh := (fun s : Mem => hM E ad s)) (As := [.int y1, .int y2]) (rest := []) 0 lk_X7_177 (c_md_tries (Nat.le_refl _)) (by omega) (fun _ => rfl) rfl rfl rfl rfl (Nat.le_of_ble_eq_true rfl) dX7_looksAtTask_51 rfl ?_
        rintro μ51
        try dsimp only
        refine b_goto (n := 8) dX7_looksAtTask_54 (by decide) ?_
        refine Bd.sub (L' := [(0, .ref (ad 0)), (1, .int y1), (2, .int y2), (3, .int y3)]) [1, 2, 3, 4] rfl ?_
        exact ih _ _ _ _
    · refine b_iload (n := 59) 0 dX7_looksAtTask_57 rfl rfl ?_
      refine b_aload_n (n := 60) 1 dX7_looksAtTask_59 rfl rfl rfl ?_
      refine b_get (n := 63) (v := .ref (ad 5)) 0 f_X7_22 dX7_looksAtTask_60 rfl hM_o0 rfl ?_
      refine b_iconst (n := 64) (v := 0) dX7_looksAtTask_63 rfl (by decide) ?_
      refine b_iald (n := 65) 5 dX7_looksAtTask_64 rfl hM_a5 (fun v64 => ?_)
      refine b_cmp_le (n := 68) (tgt := 70) dX7_looksAtTask_65 (by decide) rfl (fun h65 => ?_) (fun h65 => ?_)
      · refine b_iconst (n := 69) (v := 1) dX7_looksAtTask_68 rfl (by decide) ?_
        exact b_iret dX7_looksAtTask_69 rfl rfl
      · refine b_aload_n (n := 71) 1 dX7_looksAtTask_70 rfl rfl rfl ?_
        refine b_iload_n (n := 72) 4 dX7_looksAtTask_71 rfl rfl rfl ?_
        refine bV0wb (n := 75) (hh := (fun s : Mem => hM E ad s)) (As := [.int y3]) (rest := []) 0 lk_X7_181 (c_md_fails (Nat.le_refl _)) (by omega) (fun _ => rfl) rfl rfl rfl rfl (Nat.le_of_ble_eq_true rfl) dX7_looksAtTask_72 rfl ?_
        rintro k72 μ72
        try dsimp only
        refine b_bnz (n := 78) (tgt := 130) dX7_looksAtTask_75 (by decide) rfl (fun h75 => ?_) (fun h75 => ?_)
        · refine b_aload_n (n := 131) 1 dX7_looksAtTask_130 rfl rfl rfl ?_
          refine b_iload_n (n := 132) 2 dX7_looksAtTask_131 rfl rfl rfl ?_
          refine b_iconst (n := 133) (v := 1) dX7_looksAtTask_132 rfl (by decide) ?_
          refine b_iload_n (n := 134) 4 dX7_looksAtTask_133 rfl rfl rfl ?_
          refine bV0wv (n := 137) (hh := (fun s : Mem => hM E ad s)) (As := [.int y1, .int 1, .int y3]) (rest := []) 0 lk_X7_174 (c_md_notes (Nat.le_refl _)) (by omega) (fun _ => rfl) rfl rfl rfl rfl (Nat.le_of_ble_eq_true rfl) dX7_looksAtTask_134 rfl ?_
          rintro μ134
          try dsimp only
          refine b_aload_n (n := 138) 1 dX7_looksAtTask_137 rfl rfl rfl ?_
          refine b_get (n := 141) (v := .ref (ad 5)) 0 f_X7_22 dX7_looksAtTask_138 rfl hM_o0 rfl ?_
          refine b_iload_n (n := 142) 2 dX7_looksAtTask_141 rfl rfl rfl ?_
          refine b_iload_n (n := 143) 3 dX7_looksAtTask_142 rfl rfl rfl ?_
          refine b_iconst (n := 144) (v := 2) dX7_looksAtTask_143 rfl (by decide) ?_
          refine bSi (n := 147) (As := [.int y1, .int y2, .int 2]) (rest := [.ref (ad 5)]) lk_X7_169 (c_md_at (Nat.le_refl _)) (by omega) rfl rfl (Nat.le_of_ble_eq_true rfl) dX7_looksAtTask_144 rfl (fun k144 => ?_)
          refine b_iald (n := 148) 5 dX7_looksAtTask_147 rfl hM_a5 (fun v147 => ?_)
          refine b_istore (n := 150) (L' := [(5, .int v147), (4, .int v18), (0, .ref (ad 0)), (1, .int y1), (2, .int y2), (3, .int y3)]) dX7_looksAtTask_148 rfl (Nat.le_of_ble_eq_true rfl) rfl ?_
          refine b_iload (n := 152) 0 dX7_looksAtTask_150 rfl rfl ?_
          refine b_aload_n (n := 153) 2 dX7_looksAtTask_152 rfl rfl rfl ?_
          refine b_iload_n (n := 154) 3 dX7_looksAtTask_153 rfl rfl rfl ?_
          refine b_iload_n (n := 155) 4 dX7_looksAtTask_154 rfl rfl rfl ?_
          refine b_iconst (n := 156) (v := 2) dX7_looksAtTask_155 rfl (by decide) ?_
          refine bV0i (n := 159) (As := [.int y1, .int y2, .int 2]) (rest := [.int v147]) 0 lk_X7_171 (c_md_nodePart (Nat.le_refl _)) (by omega) rfl rfl rfl rfl (Nat.le_of_ble_eq_true rfl) dX7_looksAtTask_156 rfl (fun k156 => ?_)
          refine b_cmp_le (n := 162) (tgt := 170) dX7_looksAtTask_159 (by decide) rfl (fun h159 => ?_) (fun h159 => ?_)
          · refine b_aload_n (n := 163) 2 dX7_looksAtTask_162 rfl rfl rfl ?_
            refine b_iload_n (n := 164) 3 dX7_looksAtTask_163 rfl rfl rfl ?_
            refine b_iload_n (n := 165) 4 dX7_looksAtTask_164 rfl rfl rfl ?_
            refine b_iconst (n := 166) (v := 3) dX7_looksAtTask_165 rfl (by decide) ?_
            refine bV0wi (n := 169) (hh := (fun s : Mem => hM E ad s)) (As := [.int y1, .int y2, .int 3]) (rest := []) 0 lk_X7_184 (c_md_comesTo (Nat.le_refl _)) (by omega) (fun _ => rfl) rfl rfl rfl rfl (Nat.le_of_ble_eq_true rfl) dX7_looksAtTask_166 rfl ?_
            rintro k166 μ166
            try dsimp only
            exact b_iret dX7_looksAtTask_169 rfl rfl
          · refine b_aload_n (n := 171) 2 dX7_looksAtTask_170 rfl rfl rfl ?_
            refine b_get (n := 174) (v := .ref (ad 5)) 0 f_X7_22 dX7_looksAtTask_171 rfl hM_o0 rfl ?_
            refine b_iload_n (n := 175) 3 dX7_looksAtTask_174 rfl rfl rfl ?_
            refine b_iload_n (n := 176) 4 dX7_looksAtTask_175 rfl rfl rfl ?_
            refine b_iconst (n := 177) (v := 4) dX7_looksAtTask_176 rfl (by decide) ?_
            refine bSi (n := 180) (As := [.int y1, .int y2, .int 4]) (rest := [.ref (ad 5)]) lk_X7_169 (c_md_at (Nat.le_refl _)) (by omega) rfl rfl (Nat.le_of_ble_eq_true rfl) dX7_looksAtTask_177 rfl (fun k177 => ?_)
            refine b_iload (n := 182) 1 dX7_looksAtTask_180 rfl rfl ?_
            refine b_aload_n (n := 183) 2 dX7_looksAtTask_182 rfl rfl rfl ?_
            refine b_iload_n (n := 184) 3 dX7_looksAtTask_183 rfl rfl rfl ?_
            refine b_iload_n (n := 185) 4 dX7_looksAtTask_184 rfl rfl rfl ?_
            refine b_iconst (n := 186) (v := 3) dX7_looksAtTask_185 rfl (by decide) ?_
            refine bV0i (n := 189) (As := [.int y1, .int y2, .int 3]) (rest := [.int v18, .int k177, .ref (ad 5)]) 0 lk_X7_171 (c_md_nodePart (Nat.le_refl _)) (by omega) rfl rfl rfl rfl (Nat.le_of_ble_eq_true rfl) dX7_looksAtTask_186 rfl (fun k186 => ?_)
            refine b_iconst (n := 190) (v := 1) dX7_looksAtTask_189 rfl (by decide) ?_
            refine b_iload (n := 192) 0 dX7_looksAtTask_190 rfl rfl ?_
            refine b_iconst (n := 193) (v := 1) dX7_looksAtTask_192 rfl (by decide) ?_
            refine b_isub (n := 194) dX7_looksAtTask_193 rfl ?_
            refine b_ishl (n := 195) dX7_looksAtTask_194 rfl ?_
            refine b_imul (n := 196) dX7_looksAtTask_195 rfl ?_
            refine b_iadd (n := 197) dX7_looksAtTask_196 rfl ?_
            refine b_iast (n := 198) (ws' := hM E ad (up μ134 5 k177.toNatClampNeg (v18 + (k186 * ((1 : Int32) <<< ((v147 - 1) &&& 31)))))) 5 dX7_looksAtTask_197 rfl hM_a5 hM_s5 ?_
            refine b_aload_n (n := 199) 2 dX7_looksAtTask_198 rfl rfl rfl ?_
            refine b_get (n := 202) (v := .ref (ad 5)) 0 f_X7_22 dX7_looksAtTask_199 rfl hM_o0 rfl ?_
            refine b_iload_n (n := 203) 3 dX7_looksAtTask_202 rfl rfl rfl ?_
            refine b_iload_n (n := 204) 4 dX7_looksAtTask_203 rfl rfl rfl ?_
            refine b_iconst (n := 205) (v := 3) dX7_looksAtTask_204 rfl (by decide) ?_
            refine bSi (n := 208) (As := [.int y1, .int y2, .int 3]) (rest := [.ref (ad 5)]) lk_X7_169 (c_md_at (Nat.le_refl _)) (by omega) rfl rfl (Nat.le_of_ble_eq_true rfl) dX7_looksAtTask_205 rfl (fun k205 => ?_)
            refine b_iconst (n := 209) (v := -1) dX7_looksAtTask_208 rfl (by decide) ?_
            refine b_iast (n := 210) (ws' := hM E ad (up (up μ134 5 k177.toNatClampNeg (v18 + (k186 * ((1 : Int32) <<< ((v147 - 1) &&& 31))))) 5 k205.toNatClampNeg ((-1)))) 5 dX7_looksAtTask_209 rfl hM_a5 hM_s5 ?_
            refine b_goto (n := 8) dX7_looksAtTask_210 (by decide) ?_
            refine Bd.sub (L' := [(0, .ref (ad 0)), (1, .int y1), (2, .int y2), (3, .int y3)]) [2, 3, 4, 5] rfl ?_
            exact ih _ _ _ _
        · refine b_aload_n (n := 79) 1 dX7_looksAtTask_78 rfl rfl rfl ?_
          refine b_iload_n (n := 80) 2 dX7_looksAtTask_79 rfl rfl rfl ?_
          refine b_iconst (n := 81) (v := 2) dX7_looksAtTask_80 rfl (by decide) ?_
          refine b_iload_n (n := 82) 4 dX7_looksAtTask_81 rfl rfl rfl ?_
          refine bV0wv (n := 85) (hh := (fun s : Mem => hM E ad s)) (As := [.int y1, .int 2, .int y3]) (rest := []) 0 lk_X7_174 (c_md_notes (Nat.le_refl _)) (by omega) (fun _ => rfl) rfl rfl rfl rfl (Nat.le_of_ble_eq_true rfl) dX7_looksAtTask_82 rfl ?_
          rintro μ82
          try dsimp only
          refine b_aload_n (n := 86) 1 dX7_looksAtTask_85 rfl rfl rfl ?_
          refine b_get (n := 89) (v := .ref (ad 5)) 0 f_X7_22 dX7_looksAtTask_86 rfl hM_o0 rfl ?_
          refine b_iload_n (n := 90) 2 dX7_looksAtTask_89 rfl rfl rfl ?_
          refine b_bipush (n := 92) (v := 6) dX7_looksAtTask_90 rfl (by decide) ?_
          refine bSi (n := 95) (As := [.int y1, .int 6]) (rest := [.ref (ad 5)]) lk_X7_163 (c_md_of (Nat.le_refl _)) (by omega) rfl rfl (Nat.le_of_ble_eq_true rfl) dX7_looksAtTask_92 rfl (fun k92 => ?_)
          refine b_dup2 (n := 96) dX7_looksAtTask_95 rfl rfl rfl ?_
          refine b_iald (n := 97) 5 dX7_looksAtTask_96 rfl hM_a5 (fun v96 => ?_)
          refine b_iconst (n := 98) (v := 1) dX7_looksAtTask_97 rfl (by decide) ?_
          refine b_iadd (n := 99) dX7_looksAtTask_98 rfl ?_
          refine b_iast (n := 100) (ws' := hM E ad (up μ82 5 k92.toNatClampNeg (v96 + 1))) 5 dX7_looksAtTask_99 rfl hM_a5 hM_s5 ?_
          refine b_aload_n (n := 101) 1 dX7_looksAtTask_100 rfl rfl rfl ?_
          refine b_get (n := 104) (v := .ref (ad 5)) 0 f_X7_22 dX7_looksAtTask_101 rfl hM_o0 rfl ?_
          refine b_iload_n (n := 105) 2 dX7_looksAtTask_104 rfl rfl rfl ?_
          refine b_iload_n (n := 106) 3 dX7_looksAtTask_105 rfl rfl rfl ?_
          refine b_iconst (n := 107) (v := 5) dX7_looksAtTask_106 rfl (by decide) ?_
          refine bSi (n := 110) (As := [.int y1, .int y2, .int 5]) (rest := [.ref (ad 5)]) lk_X7_169 (c_md_at (Nat.le_refl _)) (by omega) rfl rfl (Nat.le_of_ble_eq_true rfl) dX7_looksAtTask_107 rfl (fun k107 => ?_)
          refine b_aload_n (n := 111) 1 dX7_looksAtTask_110 rfl rfl rfl ?_
          refine b_get (n := 114) (v := .ref (ad 5)) 0 f_X7_22 dX7_looksAtTask_111 rfl hM_o0 rfl ?_
          refine b_iload_n (n := 115) 2 dX7_looksAtTask_114 rfl rfl rfl ?_
          refine b_bipush (n := 117) (v := 6) dX7_looksAtTask_115 rfl (by decide) ?_
          refine bSi (n := 120) (As := [.int y1, .int 6]) (rest := [.ref (ad 5), .int k107, .ref (ad 5)]) lk_X7_163 (c_md_of (Nat.le_refl _)) (by omega) rfl rfl (Nat.le_of_ble_eq_true rfl) dX7_looksAtTask_117 rfl (fun k117 => ?_)
          refine b_iald (n := 121) 5 dX7_looksAtTask_120 rfl hM_a5 (fun v120 => ?_)
          refine b_iast (n := 122) (ws' := hM E ad (up (up μ82 5 k92.toNatClampNeg (v96 + 1)) 5 k107.toNatClampNeg v120)) 5 dX7_looksAtTask_121 rfl hM_a5 hM_s5 ?_
          refine b_aload_n (n := 123) 1 dX7_looksAtTask_122 rfl rfl rfl ?_
          refine b_iload_n (n := 124) 2 dX7_looksAtTask_123 rfl rfl rfl ?_
          refine b_iload_n (n := 125) 3 dX7_looksAtTask_124 rfl rfl rfl ?_
          refine b_iconst (n := 126) (v := 2) dX7_looksAtTask_125 rfl (by decide) ?_
          refine bV0wi (n := 129) (hh := (fun s : Mem => hM E ad s)) (As := [.int y1, .int y2, .int 2]) (rest := []) 0 lk_X7_184 (c_md_comesTo (Nat.le_refl _)) (by omega) (fun _ => rfl) rfl rfl rfl rfl (Nat.le_of_ble_eq_true rfl) dX7_looksAtTask_126 rfl ?_
          rintro k126 μ126
          try dsimp only
          exact b_iret dX7_looksAtTask_129 rfl rfl
def md_looksAtTask (N : Nat) (x1 : Int32) (x2 : Int32) (μ : Mem) : Option (Int32 × Mem) :=
  (md_nodePart μ x1 x2 1).bind fun k4 =>
  md_looksAtTask_8 N N x1 x2 k4 μ
set_option maxHeartbeats 400000 in
set_option maxRecDepth 100000 in
theorem c_md_looksAtTask {l : Launch} {E : Ev} {ad : Nat → Nat} {d : Nat} {N : Nat}   {x1 : Int32} {x2 : Int32} {μ : Mem} (hd : 5 ≤ d) : Ct l yX7_looksAtTask cX7_looksAtTask 6 (some .int) d E (hM E ad μ) [.ref (ad 0), .int x1, .int x2] (fun q : Int32 × Mem => (some (.int q.1), hM E ad q.2)) (md_looksAtTask N x1 x2 μ) := by
  refine Ct.of2 (own := RX7) (L := [(0, .ref (ad 0)), (1, .int x1), (2, .int x2)]) rfl (by decide +kernel) (Nat.le_of_ble_eq_true rfl) rfl ?_
  unfold md_looksAtTask
  refine b_aload_n (n := 1) 0 dX7_looksAtTask_0 rfl rfl rfl ?_
  refine b_iload_n (n := 2) 1 dX7_looksAtTask_1 rfl rfl rfl ?_
  refine b_iload_n (n := 3) 2 dX7_looksAtTask_2 rfl rfl rfl ?_
  refine b_iconst (n := 4) (v := 1) dX7_looksAtTask_3 rfl (by decide) ?_
  refine bV0i (n := 7) (As := [.int x1, .int x2, .int 1]) (rest := []) 0 lk_X7_171 (c_md_nodePart (Nat.le_refl _)) (by omega) rfl rfl rfl rfl (Nat.le_of_ble_eq_true rfl) dX7_looksAtTask_4 rfl (fun k4 => ?_)
  refine b_istore_n (n := 8) (L' := [(3, .int k4), (0, .ref (ad 0)), (1, .int x1), (2, .int x2)]) dX7_looksAtTask_7 rfl rfl (Nat.le_of_ble_eq_true rfl) rfl ?_
  refine Bd.sub (L' := [(0, .ref (ad 0)), (1, .int x1), (2, .int x2), (3, .int k4)]) [1, 2, 3, 0] rfl ?_
  exact w_md_looksAtTask_8 hd _ _ _ _ _
def md_looksAtSignal  (x1 : Int32) (x2 : Int32) (μ : Mem) : Option (Int32 × Mem) :=
  (md_nodePart μ x1 x2 1).bind fun k4 =>
  (md_nodePart μ x1 x2 2).bind fun k12 =>
  (md_of x1 (14 + k4)).bind fun k26 =>
  (rd 7593 (μ 5) k26).bind fun v29 =>
  if 0 < v29 then
    ((md_of x1 (14 + k4)).bind fun k42 =>
    (rd 7593 (μ 5) k42).bind fun v46 =>
    ck 7593 k42 <|
    (md_notes x1 3 k4 (up μ 5 k42.toNatClampNeg (v46 - 1))).bind fun μ54 =>
    (md_comesTo x1 x2 2 μ54).bind fun (k61, μ61) =>
    some (k61, μ61))
  else
    (if k12 < 0 then
      (some (1, μ))
    else
      ((rd 7593 (μ 5) 0).bind fun v75 =>
      (md_at x1 x2 1).bind fun k83 =>
      (rd 7593 (μ 5) k83).bind fun v86 =>
      if v75 < v86 + k12 then
        (some (1, μ))
      else
        ((md_notes x1 4 k4 μ).bind fun μ97 =>
        (md_comesTo x1 x2 3 μ97).bind fun (k104, μ104) =>
        some (k104, μ104))))
set_option maxHeartbeats 400000 in
set_option maxRecDepth 100000 in
theorem c_md_looksAtSignal {l : Launch} {E : Ev} {ad : Nat → Nat} {d : Nat}    {x1 : Int32} {x2 : Int32} {μ : Mem} (hd : 4 ≤ d) : Ct l yX7_looksAtSignal cX7_looksAtSignal 5 (some .int) d E (hM E ad μ) [.ref (ad 0), .int x1, .int x2] (fun q : Int32 × Mem => (some (.int q.1), hM E ad q.2)) (md_looksAtSignal x1 x2 μ) := by
  refine Ct.of2 (own := RX7) (L := [(0, .ref (ad 0)), (1, .int x1), (2, .int x2)]) rfl (by decide +kernel) (Nat.le_of_ble_eq_true rfl) rfl ?_
  unfold md_looksAtSignal
  refine b_aload_n (n := 1) 0 dX7_looksAtSignal_0 rfl rfl rfl ?_
  refine b_iload_n (n := 2) 1 dX7_looksAtSignal_1 rfl rfl rfl ?_
  refine b_iload_n (n := 3) 2 dX7_looksAtSignal_2 rfl rfl rfl ?_
  refine b_iconst (n := 4) (v := 1) dX7_looksAtSignal_3 rfl (by decide) ?_
  refine bV0i (n := 7) (As := [.int x1, .int x2, .int 1]) (rest := []) 0 lk_X7_171 (c_md_nodePart (Nat.le_refl _)) (by omega) rfl rfl rfl rfl (Nat.le_of_ble_eq_true rfl) dX7_looksAtSignal_4 rfl (fun k4 => ?_)
  refine b_istore_n (n := 8) (L' := [(3, .int k4), (0, .ref (ad 0)), (1, .int x1), (2, .int x2)]) dX7_looksAtSignal_7 rfl rfl (Nat.le_of_ble_eq_true rfl) rfl ?_
  refine b_aload_n (n := 9) 1 dX7_looksAtSignal_8 rfl rfl rfl ?_
  refine b_iload_n (n := 10) 2 dX7_looksAtSignal_9 rfl rfl rfl ?_
  refine b_iload_n (n := 11) 3 dX7_looksAtSignal_10 rfl rfl rfl ?_
  refine b_iconst (n := 12) (v := 2) dX7_looksAtSignal_11 rfl (by decide) ?_
  refine bV0i (n := 15) (As := [.int x1, .int x2, .int 2]) (rest := []) 0 lk_X7_171 (c_md_nodePart (Nat.le_refl _)) (by omega) rfl rfl rfl rfl (Nat.le_of_ble_eq_true rfl) dX7_looksAtSignal_12 rfl (fun k12 => ?_)
  refine b_istore (n := 17) (L' := [(4, .int k12), (3, .int k4), (0, .ref (ad 0)), (1, .int x1), (2, .int x2)]) dX7_looksAtSignal_15 rfl (Nat.le_of_ble_eq_true rfl) rfl ?_
  refine b_aload_n (n := 18) 2 dX7_looksAtSignal_17 rfl rfl rfl ?_
  refine b_get (n := 21) (v := .ref (ad 5)) 0 f_X7_22 dX7_looksAtSignal_18 rfl hM_o0 rfl ?_
  refine b_iload_n (n := 22) 3 dX7_looksAtSignal_21 rfl rfl rfl ?_
  refine b_bipush (n := 24) (v := 14) dX7_looksAtSignal_22 rfl (by decide) ?_
  refine b_iload_n (n := 25) 1 dX7_looksAtSignal_24 rfl rfl rfl ?_
  refine b_iadd (n := 26) dX7_looksAtSignal_25 rfl ?_
  refine bSi (n := 29) (As := [.int x1, .int (14 + k4)]) (rest := [.ref (ad 5)]) lk_X7_163 (c_md_of (Nat.le_refl _)) (by omega) rfl rfl (Nat.le_of_ble_eq_true rfl) dX7_looksAtSignal_26 rfl (fun k26 => ?_)
  refine b_iald (n := 30) 5 dX7_looksAtSignal_29 rfl hM_a5 (fun v29 => ?_)
  refine b_if_le (n := 33) (tgt := 65) dX7_looksAtSignal_30 (by decide) rfl (fun h30 => ?_) (fun h30 => ?_)
  · refine b_aload_n (n := 34) 2 dX7_looksAtSignal_33 rfl rfl rfl ?_
    refine b_get (n := 37) (v := .ref (ad 5)) 0 f_X7_22 dX7_looksAtSignal_34 rfl hM_o0 rfl ?_
    refine b_iload_n (n := 38) 3 dX7_looksAtSignal_37 rfl rfl rfl ?_
    refine b_bipush (n := 40) (v := 14) dX7_looksAtSignal_38 rfl (by decide) ?_
    refine b_iload_n (n := 41) 1 dX7_looksAtSignal_40 rfl rfl rfl ?_
    refine b_iadd (n := 42) dX7_looksAtSignal_41 rfl ?_
    refine bSi (n := 45) (As := [.int x1, .int (14 + k4)]) (rest := [.ref (ad 5)]) lk_X7_163 (c_md_of (Nat.le_refl _)) (by omega) rfl rfl (Nat.le_of_ble_eq_true rfl) dX7_looksAtSignal_42 rfl (fun k42 => ?_)
    refine b_dup2 (n := 46) dX7_looksAtSignal_45 rfl rfl rfl ?_
    refine b_iald (n := 47) 5 dX7_looksAtSignal_46 rfl hM_a5 (fun v46 => ?_)
    refine b_iconst (n := 48) (v := 1) dX7_looksAtSignal_47 rfl (by decide) ?_
    refine b_isub (n := 49) dX7_looksAtSignal_48 rfl ?_
    refine b_iast (n := 50) (ws' := hM E ad (up μ 5 k42.toNatClampNeg (v46 - 1))) 5 dX7_looksAtSignal_49 rfl hM_a5 hM_s5 ?_
    refine b_aload_n (n := 51) 2 dX7_looksAtSignal_50 rfl rfl rfl ?_
    refine b_iload_n (n := 52) 3 dX7_looksAtSignal_51 rfl rfl rfl ?_
    refine b_iconst (n := 53) (v := 3) dX7_looksAtSignal_52 rfl (by decide) ?_
    refine b_iload_n (n := 54) 1 dX7_looksAtSignal_53 rfl rfl rfl ?_
    refine bV0wv (n := 57) (hh := (fun s : Mem => hM E ad s)) (As := [.int x1, .int 3, .int k4]) (rest := []) 0 lk_X7_174 (c_md_notes (Nat.le_refl _)) (by omega) (fun _ => rfl) rfl rfl rfl rfl (Nat.le_of_ble_eq_true rfl) dX7_looksAtSignal_54 rfl ?_
    rintro μ54
    try dsimp only
    refine b_aload_n (n := 58) 2 dX7_looksAtSignal_57 rfl rfl rfl ?_
    refine b_iload_n (n := 59) 3 dX7_looksAtSignal_58 rfl rfl rfl ?_
    refine b_iload_n (n := 60) 4 dX7_looksAtSignal_59 rfl rfl rfl ?_
    refine b_iconst (n := 61) (v := 2) dX7_looksAtSignal_60 rfl (by decide) ?_
    refine bV0wi (n := 64) (hh := (fun s : Mem => hM E ad s)) (As := [.int x1, .int x2, .int 2]) (rest := []) 0 lk_X7_184 (c_md_comesTo (Nat.le_refl _)) (by omega) (fun _ => rfl) rfl rfl rfl rfl (Nat.le_of_ble_eq_true rfl) dX7_looksAtSignal_61 rfl ?_
    rintro k61 μ61
    try dsimp only
    exact b_iret dX7_looksAtSignal_64 rfl rfl
  · refine b_iload (n := 67) 0 dX7_looksAtSignal_65 rfl rfl ?_
    refine b_if_lt (n := 70) (tgt := 108) dX7_looksAtSignal_67 (by decide) rfl (fun h67 => ?_) (fun h67 => ?_)
    · refine b_iconst (n := 109) (v := 1) dX7_looksAtSignal_108 rfl (by decide) ?_
      exact b_iret dX7_looksAtSignal_109 rfl rfl
    · refine b_aload_n (n := 71) 2 dX7_looksAtSignal_70 rfl rfl rfl ?_
      refine b_get (n := 74) (v := .ref (ad 5)) 0 f_X7_22 dX7_looksAtSignal_71 rfl hM_o0 rfl ?_
      refine b_iconst (n := 75) (v := 0) dX7_looksAtSignal_74 rfl (by decide) ?_
      refine b_iald (n := 76) 5 dX7_looksAtSignal_75 rfl hM_a5 (fun v75 => ?_)
      refine b_aload_n (n := 77) 2 dX7_looksAtSignal_76 rfl rfl rfl ?_
      refine b_get (n := 80) (v := .ref (ad 5)) 0 f_X7_22 dX7_looksAtSignal_77 rfl hM_o0 rfl ?_
      refine b_iload_n (n := 81) 3 dX7_looksAtSignal_80 rfl rfl rfl ?_
      refine b_iload_n (n := 82) 4 dX7_looksAtSignal_81 rfl rfl rfl ?_
      refine b_iconst (n := 83) (v := 1) dX7_looksAtSignal_82 rfl (by decide) ?_
      refine bSi (n := 86) (As := [.int x1, .int x2, .int 1]) (rest := [.ref (ad 5), .int v75]) lk_X7_169 (c_md_at (Nat.le_refl _)) (by omega) rfl rfl (Nat.le_of_ble_eq_true rfl) dX7_looksAtSignal_83 rfl (fun k83 => ?_)
      refine b_iald (n := 87) 5 dX7_looksAtSignal_86 rfl hM_a5 (fun v86 => ?_)
      refine b_iload (n := 89) 0 dX7_looksAtSignal_87 rfl rfl ?_
      refine b_iadd (n := 90) dX7_looksAtSignal_89 rfl ?_
      refine b_cmp_lt (n := 93) (tgt := 108) dX7_looksAtSignal_90 (by decide) rfl (fun h90 => ?_) (fun h90 => ?_)
      · refine b_iconst (n := 109) (v := 1) dX7_looksAtSignal_108 rfl (by decide) ?_
        exact b_iret dX7_looksAtSignal_109 rfl rfl
      · refine b_aload_n (n := 94) 2 dX7_looksAtSignal_93 rfl rfl rfl ?_
        refine b_iload_n (n := 95) 3 dX7_looksAtSignal_94 rfl rfl rfl ?_
        refine b_iconst (n := 96) (v := 4) dX7_looksAtSignal_95 rfl (by decide) ?_
        refine b_iload_n (n := 97) 1 dX7_looksAtSignal_96 rfl rfl rfl ?_
        refine bV0wv (n := 100) (hh := (fun s : Mem => hM E ad s)) (As := [.int x1, .int 4, .int k4]) (rest := []) 0 lk_X7_174 (c_md_notes (Nat.le_refl _)) (by omega) (fun _ => rfl) rfl rfl rfl rfl (Nat.le_of_ble_eq_true rfl) dX7_looksAtSignal_97 rfl ?_
        rintro μ97
        try dsimp only
        refine b_aload_n (n := 101) 2 dX7_looksAtSignal_100 rfl rfl rfl ?_
        refine b_iload_n (n := 102) 3 dX7_looksAtSignal_101 rfl rfl rfl ?_
        refine b_iload_n (n := 103) 4 dX7_looksAtSignal_102 rfl rfl rfl ?_
        refine b_iconst (n := 104) (v := 3) dX7_looksAtSignal_103 rfl (by decide) ?_
        refine bV0wi (n := 107) (hh := (fun s : Mem => hM E ad s)) (As := [.int x1, .int x2, .int 3]) (rest := []) 0 lk_X7_184 (c_md_comesTo (Nat.le_refl _)) (by omega) (fun _ => rfl) rfl rfl rfl rfl (Nat.le_of_ble_eq_true rfl) dX7_looksAtSignal_104 rfl ?_
        rintro k104 μ104
        try dsimp only
        exact b_iret dX7_looksAtSignal_107 rfl rfl
def md_sets_59   (y1 : Int32) (y2 : Int32) (y3 : Int32) (z0 : Int32) (z1 : Int32) (μ : Mem) : Option (Int32 × Mem) :=
  ck 7593 z1 <|
  (md_notes y1 8 y3 (up μ 5 z1.toNatClampNeg z0)).bind fun μ65 =>
  (md_comesTo y1 y2 2 μ65).bind fun (k72, μ72) =>
  some (k72, μ72)
set_option maxHeartbeats 400000 in
set_option maxRecDepth 100000 in
theorem w_md_sets_59 {l : Launch} {E : Ev} {ad : Nat → Nat} {A : Nat → Prop} {d : Nat}     (hd : 4 ≤ d)  (y1 : Int32) (y2 : Int32) (y3 : Int32) (z0 : Int32) (z1 : Int32) (μ : Mem) : Bd l E A RX7 cX7_sets 6 (some .int) d (fun q : Int32 × Mem => (some (.int q.1), hM E ad q.2)) 59 [(0, .ref (ad 0)), (1, .int y1), (2, .int y2), (3, .int y3)] [.int z0, .int z1, .ref (ad 5)] (hM E ad μ) (md_sets_59 y1 y2 y3 z0 z1 μ) := by
  unfold md_sets_59
  refine b_iast (n := 60) (ws' := hM E ad (up μ 5 z1.toNatClampNeg z0)) 5 dX7_sets_59 rfl hM_a5 hM_s5 ?_
  refine b_aload_n (n := 61) 0 dX7_sets_60 rfl rfl rfl ?_
  refine b_iload_n (n := 62) 1 dX7_sets_61 rfl rfl rfl ?_
  refine b_bipush (n := 64) (v := 8) dX7_sets_62 rfl (by decide) ?_
  refine b_iload_n (n := 65) 3 dX7_sets_64 rfl rfl rfl ?_
  refine bV0wv (n := 68) (hh := (fun s : Mem => hM E ad s)) (As := [.int y1, .int 8, .int y3]) (rest := []) 0 lk_X7_174 (c_md_notes (Nat.le_refl _)) (by omega) (fun _ => rfl) rfl rfl rfl rfl (Nat.le_of_ble_eq_true rfl) dX7_sets_65 rfl ?_
  rintro μ65
  try dsimp only
  refine b_aload_n (n := 69) 0 dX7_sets_68 rfl rfl rfl ?_
  refine b_iload_n (n := 70) 1 dX7_sets_69 rfl rfl rfl ?_
  refine b_iload_n (n := 71) 2 dX7_sets_70 rfl rfl rfl ?_
  refine b_iconst (n := 72) (v := 2) dX7_sets_71 rfl (by decide) ?_
  refine bV0wi (n := 75) (hh := (fun s : Mem => hM E ad s)) (As := [.int y1, .int y2, .int 2]) (rest := []) 0 lk_X7_184 (c_md_comesTo (Nat.le_refl _)) (by omega) (fun _ => rfl) rfl rfl rfl rfl (Nat.le_of_ble_eq_true rfl) dX7_sets_72 rfl ?_
  rintro k72 μ72
  try dsimp only
  exact b_iret dX7_sets_75 rfl rfl
def md_sets  (x1 : Int32) (x2 : Int32) (μ : Mem) : Option (Int32 × Mem) :=
  (md_nodePart μ x1 x2 1).bind fun k4 =>
  (md_nodePart μ x1 x2 3).bind fun k12 =>
  (md_of x1 (10 + k4)).bind fun k22 =>
  (md_nodePart μ x1 x2 2).bind fun k37 =>
  if k37 = 1 then
    ((rd 7593 (μ 5) k22).bind fun v50 =>
    md_sets_59 x1 x2 k4 (v50 + k12) k22 μ)
  else
    (md_sets_59 x1 x2 k4 k12 k22 μ)
set_option maxHeartbeats 400000 in
set_option maxRecDepth 100000 in
theorem c_md_sets {l : Launch} {E : Ev} {ad : Nat → Nat} {d : Nat}    {x1 : Int32} {x2 : Int32} {μ : Mem} (hd : 4 ≤ d) : Ct l yX7_sets cX7_sets 6 (some .int) d E (hM E ad μ) [.ref (ad 0), .int x1, .int x2] (fun q : Int32 × Mem => (some (.int q.1), hM E ad q.2)) (md_sets x1 x2 μ) := by
  refine Ct.of2 (own := RX7) (L := [(0, .ref (ad 0)), (1, .int x1), (2, .int x2)]) rfl (by decide +kernel) (Nat.le_of_ble_eq_true rfl) rfl ?_
  unfold md_sets
  refine b_aload_n (n := 1) 0 dX7_sets_0 rfl rfl rfl ?_
  refine b_iload_n (n := 2) 1 dX7_sets_1 rfl rfl rfl ?_
  refine b_iload_n (n := 3) 2 dX7_sets_2 rfl rfl rfl ?_
  refine b_iconst (n := 4) (v := 1) dX7_sets_3 rfl (by decide) ?_
  refine bV0i (n := 7) (As := [.int x1, .int x2, .int 1]) (rest := []) 0 lk_X7_171 (c_md_nodePart (Nat.le_refl _)) (by omega) rfl rfl rfl rfl (Nat.le_of_ble_eq_true rfl) dX7_sets_4 rfl (fun k4 => ?_)
  refine b_istore_n (n := 8) (L' := [(3, .int k4), (0, .ref (ad 0)), (1, .int x1), (2, .int x2)]) dX7_sets_7 rfl rfl (Nat.le_of_ble_eq_true rfl) rfl ?_
  refine b_aload_n (n := 9) 1 dX7_sets_8 rfl rfl rfl ?_
  refine b_iload_n (n := 10) 2 dX7_sets_9 rfl rfl rfl ?_
  refine b_iload_n (n := 11) 3 dX7_sets_10 rfl rfl rfl ?_
  refine b_iconst (n := 12) (v := 3) dX7_sets_11 rfl (by decide) ?_
  refine bV0i (n := 15) (As := [.int x1, .int x2, .int 3]) (rest := []) 0 lk_X7_171 (c_md_nodePart (Nat.le_refl _)) (by omega) rfl rfl rfl rfl (Nat.le_of_ble_eq_true rfl) dX7_sets_12 rfl (fun k12 => ?_)
  refine b_istore (n := 17) (L' := [(4, .int k12), (3, .int k4), (0, .ref (ad 0)), (1, .int x1), (2, .int x2)]) dX7_sets_15 rfl (Nat.le_of_ble_eq_true rfl) rfl ?_
  refine b_iload_n (n := 18) 3 dX7_sets_17 rfl rfl rfl ?_
  refine b_bipush (n := 20) (v := 10) dX7_sets_18 rfl (by decide) ?_
  refine b_iload_n (n := 21) 1 dX7_sets_20 rfl rfl rfl ?_
  refine b_iadd (n := 22) dX7_sets_21 rfl ?_
  refine bSi (n := 25) (As := [.int x1, .int (10 + k4)]) (rest := []) lk_X7_163 (c_md_of (Nat.le_refl _)) (by omega) rfl rfl (Nat.le_of_ble_eq_true rfl) dX7_sets_22 rfl (fun k22 => ?_)
  refine b_istore (n := 27) (L' := [(5, .int k22), (4, .int k12), (3, .int k4), (0, .ref (ad 0)), (1, .int x1), (2, .int x2)]) dX7_sets_25 rfl (Nat.le_of_ble_eq_true rfl) rfl ?_
  refine b_aload_n (n := 28) 3 dX7_sets_27 rfl rfl rfl ?_
  refine b_get (n := 31) (v := .ref (ad 5)) 0 f_X7_22 dX7_sets_28 rfl hM_o0 rfl ?_
  refine b_iload (n := 33) 0 dX7_sets_31 rfl rfl ?_
  refine b_aload_n (n := 34) 3 dX7_sets_33 rfl rfl rfl ?_
  refine b_iload_n (n := 35) 4 dX7_sets_34 rfl rfl rfl ?_
  refine b_iload_n (n := 36) 5 dX7_sets_35 rfl rfl rfl ?_
  refine b_iconst (n := 37) (v := 2) dX7_sets_36 rfl (by decide) ?_
  refine bV0i (n := 40) (As := [.int x1, .int x2, .int 2]) (rest := [.int k22, .ref (ad 5)]) 0 lk_X7_171 (c_md_nodePart (Nat.le_refl _)) (by omega) rfl rfl rfl rfl (Nat.le_of_ble_eq_true rfl) dX7_sets_37 rfl (fun k37 => ?_)
  refine b_iconst (n := 41) (v := 1) dX7_sets_40 rfl (by decide) ?_
  refine b_cmp_ne (n := 44) (tgt := 57) dX7_sets_41 (by decide) rfl (fun h41 => ?_) (fun h41 => ?_)
  · refine b_aload_n (n := 45) 3 dX7_sets_44 rfl rfl rfl ?_
    refine b_get (n := 48) (v := .ref (ad 5)) 0 f_X7_22 dX7_sets_45 rfl hM_o0 rfl ?_
    refine b_iload (n := 50) 0 dX7_sets_48 rfl rfl ?_
    refine b_iald (n := 51) 5 dX7_sets_50 rfl hM_a5 (fun v50 => ?_)
    refine b_iload (n := 53) 1 dX7_sets_51 rfl rfl ?_
    refine b_iadd (n := 54) dX7_sets_53 rfl ?_
    refine b_goto (n := 59) dX7_sets_54 (by decide) ?_
    refine Bd.sub (L' := [(0, .ref (ad 0)), (1, .int x1), (2, .int x2), (3, .int k4)]) [3, 4, 5, 2] rfl ?_
    exact w_md_sets_59 hd _ _ _ _ _ _
  · refine b_iload (n := 59) 1 dX7_sets_57 rfl rfl ?_
    refine Bd.sub (L' := [(0, .ref (ad 0)), (1, .int x1), (2, .int x2), (3, .int k4)]) [3, 4, 5, 2] rfl ?_
    exact w_md_sets_59 hd _ _ _ _ _ _
def md_bodiesIn_40 (N : Nat) (μ : Mem) (K12 : Int32 → Int32 → Int32 → Int32 → Option (Int32)) (y1 : Int32) (y3 : Int32) (y5 : Int32) (z0 : Int32) (z1 : Int32)  : Option (Int32) :=
  (md_nodePart μ y1 y5 6).bind fun k49 =>
  K12 y1 y3 (z1 + z0) k49
set_option maxHeartbeats 400000 in
set_option maxRecDepth 100000 in
theorem w_md_bodiesIn_40 {l : Launch} {E : Ev} {ad : Nat → Nat} {A : Nat → Prop} {d : Nat} {N : Nat}  {μ : Mem} {K12 : Int32 → Int32 → Int32 → Int32 → Option (Int32)} (hd : 4 ≤ d) (hK12 : ∀ (y1 : Int32) (y3 : Int32) (y4 : Int32) (y5 : Int32), Bd l E A RX7 cX7_bodiesIn 6 (some .int) d (fun v : Int32 => (some (.int v), hM E ad μ)) 12 [(0, .ref (ad 0)), (1, .int y1), (3, .int y3), (4, .int y4), (5, .int y5)] [] (hM E ad μ) (K12 y1 y3 y4 y5)) (y1 : Int32) (y3 : Int32) (y5 : Int32) (z0 : Int32) (z1 : Int32) : Bd l E A RX7 cX7_bodiesIn 6 (some .int) d (fun v : Int32 => (some (.int v), hM E ad μ)) 40 [(0, .ref (ad 0)), (1, .int y1), (3, .int y3), (5, .int y5)] [.int z0, .int z1] (hM E ad μ) (md_bodiesIn_40 N μ K12 y1 y3 y5 z0 z1) := by
  unfold md_bodiesIn_40
  refine b_iadd (n := 41) dX7_bodiesIn_40 rfl ?_
  refine b_istore (n := 43) (L' := [(4, .int (z1 + z0)), (0, .ref (ad 0)), (1, .int y1), (3, .int y3), (5, .int y5)]) dX7_bodiesIn_41 rfl (Nat.le_of_ble_eq_true rfl) rfl ?_
  refine b_aload_n (n := 44) 1 dX7_bodiesIn_43 rfl rfl rfl ?_
  refine b_iload_n (n := 45) 2 dX7_bodiesIn_44 rfl rfl rfl ?_
  refine b_iload (n := 47) 4 dX7_bodiesIn_45 rfl rfl ?_
  refine b_bipush (n := 49) (v := 6) dX7_bodiesIn_47 rfl (by decide) ?_
  refine bV0i (n := 52) (As := [.int y1, .int y5, .int 6]) (rest := []) 0 lk_X7_171 (c_md_nodePart (Nat.le_refl _)) (by omega) rfl rfl rfl rfl (Nat.le_of_ble_eq_true rfl) dX7_bodiesIn_49 rfl (fun k49 => ?_)
  refine b_istore (n := 54) (L' := [(5, .int k49), (4, .int (z1 + z0)), (0, .ref (ad 0)), (1, .int y1), (3, .int y3)]) dX7_bodiesIn_52 rfl (Nat.le_of_ble_eq_true rfl) rfl ?_
  refine b_goto (n := 12) dX7_bodiesIn_54 (by decide) ?_
  refine Bd.sub (L' := [(0, .ref (ad 0)), (1, .int y1), (3, .int y3), (4, .int (z1 + z0)), (5, .int k49)]) [2, 3, 4, 1, 0] rfl ?_
  exact hK12 _ _ _ _
def md_bodiesIn_12 (N : Nat) (μ : Mem)  : Nat → Int32 → Int32 → Int32 → Int32 → Option (Int32)
  | 0, _, _, _, _ => none
  | n + 1, y1, y3, y4, y5 =>
    if y5 < 0 then
      (some y4)
    else
      ((md_at y1 y5 0).bind fun k27 =>
      (rd 7593 (μ 5) k27).bind fun v30 =>
      if v30 = y3 then
        (md_bodiesIn_40 N μ (md_bodiesIn_12 N μ n) y1 y3 y5 1 y4)
      else
        (md_bodiesIn_40 N μ (md_bodiesIn_12 N μ n) y1 y3 y5 0 y4))
set_option maxHeartbeats 400000 in
set_option maxRecDepth 100000 in
theorem w_md_bodiesIn_12 {l : Launch} {E : Ev} {ad : Nat → Nat} {A : Nat → Prop} {d : Nat} {N : Nat}  {μ : Mem}  (hd : 4 ≤ d)  (n : Nat) : ∀ (y1 : Int32) (y3 : Int32) (y4 : Int32) (y5 : Int32), Bd l E A RX7 cX7_bodiesIn 6 (some .int) d (fun v : Int32 => (some (.int v), hM E ad μ)) 12 [(0, .ref (ad 0)), (1, .int y1), (3, .int y3), (4, .int y4), (5, .int y5)] [] (hM E ad μ) (md_bodiesIn_12 N μ n y1 y3 y4 y5) := by
  induction n with
  | zero => intro y1 y3 y4 y5; exact b_none
  | succ n ih =>
    intro y1 y3 y4 y5
    rw [md_bodiesIn_12]
    refine b_iload (n := 14) 4 dX7_bodiesIn_12 rfl rfl ?_
    refine b_if_lt (n := 17) (tgt := 57) dX7_bodiesIn_14 (by decide) rfl (fun h14 => ?_) (fun h14 => ?_)
    · refine b_iload (n := 59) 3 dX7_bodiesIn_57 rfl rfl ?_
      exact b_iret dX7_bodiesIn_59 rfl rfl
    · refine b_iload (n := 19) 3 dX7_bodiesIn_17 rfl rfl ?_
      refine b_aload_n (n := 20) 0 dX7_bodiesIn_19 rfl rfl rfl ?_
      refine b_get (n := 23) (v := .ref (ad 5)) 0 f_X7_22 dX7_bodiesIn_20 rfl hM_o0 rfl ?_
      refine b_iload_n (n := 24) 1 dX7_bodiesIn_23 rfl rfl rfl ?_
      refine b_iload (n := 26) 4 dX7_bodiesIn_24 rfl rfl ?_
      refine b_iconst (n := 27) (v := 0) dX7_bodiesIn_26 rfl (by decide) ?_
      refine bSi (n := 30) (As := [.int y1, .int y5, .int 0]) (rest := [.ref (ad 5), .int y4]) lk_X7_169 (c_md_at (Nat.le_refl _)) (by omega) rfl rfl (Nat.le_of_ble_eq_true rfl) dX7_bodiesIn_27 rfl (fun k27 => ?_)
      refine b_iald (n := 31) 5 dX7_bodiesIn_30 rfl hM_a5 (fun v30 => ?_)
      refine b_iload_n (n := 32) 2 dX7_bodiesIn_31 rfl rfl rfl ?_
      refine b_cmp_ne (n := 35) (tgt := 39) dX7_bodiesIn_32 (by decide) rfl (fun h32 => ?_) (fun h32 => ?_)
      · refine b_iconst (n := 36) (v := 1) dX7_bodiesIn_35 rfl (by decide) ?_
        refine b_goto (n := 40) dX7_bodiesIn_36 (by decide) ?_
        refine Bd.sub (L' := [(0, .ref (ad 0)), (1, .int y1), (3, .int y3), (5, .int y5)]) [0, 1, 2, 4] rfl ?_
        exact w_md_bodiesIn_40 hd (fun a0 a1 a2 a3 => ih a0 a1 a2 a3) _ _ _ _ _
      · refine b_iconst (n := 40) (v := 0) dX7_bodiesIn_39 rfl (by decide) ?_
        refine Bd.sub (L' := [(0, .ref (ad 0)), (1, .int y1), (3, .int y3), (5, .int y5)]) [0, 1, 2, 4] rfl ?_
        exact w_md_bodiesIn_40 hd (fun a0 a1 a2 a3 => ih a0 a1 a2 a3) _ _ _ _ _
def md_bodiesIn (N : Nat) (μ : Mem) (x1 : Int32) (x2 : Int32) (x3 : Int32)  : Option (Int32) :=
  (md_nodePart μ x1 x2 5).bind fun k7 =>
  md_bodiesIn_12 N μ N x1 x3 0 k7
set_option maxHeartbeats 400000 in
set_option maxRecDepth 100000 in
theorem c_md_bodiesIn {l : Launch} {E : Ev} {ad : Nat → Nat} {d : Nat} {N : Nat}  {μ : Mem} {x1 : Int32} {x2 : Int32} {x3 : Int32}  (hd : 4 ≤ d) : Ct l yX7_bodiesIn cX7_bodiesIn 6 (some .int) d E (hM E ad μ) [.ref (ad 0), .int x1, .int x2, .int x3] (fun v : Int32 => (some (.int v), hM E ad μ)) (md_bodiesIn N μ x1 x2 x3) := by
  refine Ct.of2 (own := RX7) (L := [(0, .ref (ad 0)), (1, .int x1), (2, .int x2), (3, .int x3)]) rfl (by decide +kernel) (Nat.le_of_ble_eq_true rfl) rfl ?_
  unfold md_bodiesIn
  refine b_iconst (n := 1) (v := 0) dX7_bodiesIn_0 rfl (by decide) ?_
  refine b_istore (n := 3) (L' := [(4, .int 0), (0, .ref (ad 0)), (1, .int x1), (2, .int x2), (3, .int x3)]) dX7_bodiesIn_1 rfl (Nat.le_of_ble_eq_true rfl) rfl ?_
  refine b_aload_n (n := 4) 1 dX7_bodiesIn_3 rfl rfl rfl ?_
  refine b_iload_n (n := 5) 2 dX7_bodiesIn_4 rfl rfl rfl ?_
  refine b_iload_n (n := 6) 3 dX7_bodiesIn_5 rfl rfl rfl ?_
  refine b_iconst (n := 7) (v := 5) dX7_bodiesIn_6 rfl (by decide) ?_
  refine bV0i (n := 10) (As := [.int x1, .int x2, .int 5]) (rest := []) 0 lk_X7_171 (c_md_nodePart (Nat.le_refl _)) (by omega) rfl rfl rfl rfl (Nat.le_of_ble_eq_true rfl) dX7_bodiesIn_7 rfl (fun k7 => ?_)
  refine b_istore (n := 12) (L' := [(5, .int k7), (4, .int 0), (0, .ref (ad 0)), (1, .int x1), (2, .int x2), (3, .int x3)]) dX7_bodiesIn_10 rfl (Nat.le_of_ble_eq_true rfl) rfl ?_
  refine Bd.sub (L' := [(0, .ref (ad 0)), (1, .int x1), (3, .int x3), (4, .int 0), (5, .int k7)]) [2, 3, 5, 1, 0] rfl ?_
  exact w_md_bodiesIn_12 hd _ _ _ _ _
