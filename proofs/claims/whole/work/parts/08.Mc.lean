/-! the reference: partial pure functions, and the walk of each method (2) -/
def md_readsParallel_134 (N : Nat) (B : Int32 → Int32 → Mem → Option (Bool × Mem))  (y1 : Int32) (y2 : Int32) (μ : Mem) : Option (Bool × Mem) :=
  (md_put y1 2 y2 μ).bind fun μ138 =>
  some (true, μ138)
set_option maxHeartbeats 400000 in
set_option maxRecDepth 100000 in
theorem w_md_readsParallel_134 {l : Launch} {E : Ev} {ad : Nat → Nat} {A : Nat → Prop} {d : Nat} {N : Nat}   {B : Int32 → Int32 → Mem → Option (Bool × Mem)} {dB : Nat} (hdB : 6 ≤ dB) (hB : ∀ (x1 : Int32) (x2 : Int32) (μ : Mem), Ct l yX7_readsBody cX7_readsBody 6 (some .boolean) dB E (hM E ad μ) [.ref (ad 0), .int x1, .int x2] (fun q : Bool × Mem => (some (.int (b2i q.1)), hM E ad q.2)) (B x1 x2 μ))  (hd : dB + 1 ≤ d)  (y1 : Int32) (y2 : Int32) (μ : Mem) : Bd l E A RX7 cX7_readsParallel 5 (some .boolean) d (fun q : Bool × Mem => (some (.int (b2i q.1)), hM E ad q.2)) 134 [(0, .ref (ad 0)), (1, .int y1), (2, .int y2)] [] (hM E ad μ) (md_readsParallel_134 N B y1 y2 μ) := by
  unfold md_readsParallel_134
  refine b_aload_n (n := 135) 0 dX7_readsParallel_134 rfl rfl rfl ?_
  refine b_iload_n (n := 136) 1 dX7_readsParallel_135 rfl rfl rfl ?_
  refine b_iconst (n := 137) (v := 2) dX7_readsParallel_136 rfl (by decide) ?_
  refine b_iload_n (n := 138) 2 dX7_readsParallel_137 rfl rfl rfl ?_
  refine bV0wv (n := 141) (hh := (fun s : Mem => hM E ad s)) (As := [.int y1, .int 2, .int y2]) (rest := []) 0 lk_X7_74 (c_md_put (Nat.le_refl _)) (by omega) (fun _ => rfl) rfl rfl rfl rfl (Nat.le_of_ble_eq_true rfl) dX7_readsParallel_138 rfl ?_
  rintro μ138
  try dsimp only
  refine b_iconst (n := 142) (v := 1) dX7_readsParallel_141 rfl (by decide) ?_
  exact b_zret (b := true) dX7_readsParallel_142 rfl rfl
def md_readsParallel_18 (N : Nat) (B : Int32 → Int32 → Mem → Option (Bool × Mem))  : Nat → Int32 → Int32 → Int32 → Mem → Option (Bool × Mem)
  | 0, _, _, _, _ => none
  | n + 1, y1, y2, y3, μ =>
    if y2 = 4 then
      ((md_here μ).bind fun k25 =>
      (md_beginsItem k25).bind fun k28 =>
      if k28 = true then
        (some (false, up μ 0 13 2))
      else
        (some (false, up μ 0 13 1)))
    else
      ((B y1 y3 μ).bind fun (k53, μ53) =>
      if k53 = true then
        ((md_takes 124 μ53).bind fun (k70, μ70) =>
        if k70 = true then
          (md_readsParallel_18 N B n y1 (y2 + 1) (μ 0 14) μ70)
        else
          ((md_takes 41 μ70).bind fun (k79, μ79) =>
          if k79 = true then
            ((md_put y1 1 (y2 + 1) (up μ79 0 16 ((μ79 0 16) - 1))).bind fun μ101 =>
            (md_takes 113 μ101).bind fun (k107, μ107) =>
            if k107 = true then
              ((md_takesDigit 1 (y2 + 1) μ107).bind fun (k116, μ116) =>
              if k116 = true then
                ((md_put y1 1 (μ116 0 18) μ116).bind fun μ131 =>
                md_readsParallel_134 N B y1 (y2 + 1) μ131)
              else
                (some (false, μ116)))
            else
              (md_readsParallel_134 N B y1 (y2 + 1) μ107))
          else
            (some (false, μ79))))
      else
        (some (false, μ53)))
set_option maxHeartbeats 400000 in
set_option maxRecDepth 100000 in
theorem w_md_readsParallel_18 {l : Launch} {E : Ev} {ad : Nat → Nat} {A : Nat → Prop} {d : Nat} {N : Nat}   {B : Int32 → Int32 → Mem → Option (Bool × Mem)} {dB : Nat} (hdB : 6 ≤ dB) (hB : ∀ (x1 : Int32) (x2 : Int32) (μ : Mem), Ct l yX7_readsBody cX7_readsBody 6 (some .boolean) dB E (hM E ad μ) [.ref (ad 0), .int x1, .int x2] (fun q : Bool × Mem => (some (.int (b2i q.1)), hM E ad q.2)) (B x1 x2 μ))  (hd : dB + 1 ≤ d)  (n : Nat) : ∀ (y1 : Int32) (y2 : Int32) (y3 : Int32) (μ : Mem), Bd l E A RX7 cX7_readsParallel 5 (some .boolean) d (fun q : Bool × Mem => (some (.int (b2i q.1)), hM E ad q.2)) 18 [(0, .ref (ad 0)), (1, .int y1), (2, .int y2), (3, .int y3)] [] (hM E ad μ) (md_readsParallel_18 N B n y1 y2 y3 μ) := by
  induction n with
  | zero => intro y1 y2 y3 μ; exact b_none
  | succ n ih =>
    intro y1 y2 y3 μ
    rw [md_readsParallel_18]
    refine b_iload_n (n := 19) 2 dX7_readsParallel_18 rfl rfl rfl ?_
    refine b_iconst (n := 20) (v := 4) dX7_readsParallel_19 rfl (by decide) ?_
    refine b_cmp_ne (n := 23) (tgt := 44) dX7_readsParallel_20 (by decide) rfl (fun h20 => ?_) (fun h20 => ?_)
    · refine b_aload_n (n := 24) 0 dX7_readsParallel_23 rfl rfl rfl ?_
      refine b_aload_n (n := 25) 0 dX7_readsParallel_24 rfl rfl rfl ?_
      refine bV0i (n := 28) (As := []) (rest := [.ref (ad 0)]) 0 lk_X7_48 (c_md_here (Nat.le_refl _)) (by omega) rfl rfl rfl rfl (Nat.le_of_ble_eq_true rfl) dX7_readsParallel_25 rfl (fun k25 => ?_)
      refine bSb (n := 31) (As := [.int k25]) (rest := [.ref (ad 0)]) lk_X7_88 (c_md_beginsItem (Nat.le_refl _)) (by omega) rfl rfl (Nat.le_of_ble_eq_true rfl) dX7_readsParallel_28 rfl (fun k28 => ?_)
      refine b_bz (n := 34) (tgt := 38) dX7_readsParallel_31 (by decide) rfl (fun h31 => ?_) (fun h31 => ?_)
      · refine b_iconst (n := 35) (v := 2) dX7_readsParallel_34 rfl (by decide) ?_
        refine b_goto (n := 39) dX7_readsParallel_35 (by decide) ?_
        refine b_put (n := 42) (ws' := hM E ad (up μ 0 13 2)) 0 fp_X7_78 dX7_readsParallel_39 rfl hM_o0 rfl rfl (Nat.le_of_ble_eq_true rfl) hM_p0_13 ?_
        refine b_iconst (n := 43) (v := 0) dX7_readsParallel_42 rfl (by decide) ?_
        exact b_zret (b := false) dX7_readsParallel_43 rfl rfl
      · refine b_iconst (n := 39) (v := 1) dX7_readsParallel_38 rfl (by decide) ?_
        refine b_put (n := 42) (ws' := hM E ad (up μ 0 13 1)) 0 fp_X7_78 dX7_readsParallel_39 rfl hM_o0 rfl rfl (Nat.le_of_ble_eq_true rfl) hM_p0_13 ?_
        refine b_iconst (n := 43) (v := 0) dX7_readsParallel_42 rfl (by decide) ?_
        exact b_zret (b := false) dX7_readsParallel_43 rfl rfl
    · refine b_aload_n (n := 45) 0 dX7_readsParallel_44 rfl rfl rfl ?_
      refine b_get (n := 48) (v := .int (μ 0 14)) 0 f_X7_71 dX7_readsParallel_45 rfl hM_o0 rfl ?_
      refine b_istore (n := 50) (L' := [(4, .int (μ 0 14)), (0, .ref (ad 0)), (1, .int y1), (2, .int y2), (3, .int y3)]) dX7_readsParallel_48 rfl (Nat.le_of_ble_eq_true rfl) rfl ?_
      refine b_aload_n (n := 51) 1 dX7_readsParallel_50 rfl rfl rfl ?_
      refine b_iload_n (n := 52) 2 dX7_readsParallel_51 rfl rfl rfl ?_
      refine b_iload_n (n := 53) 4 dX7_readsParallel_52 rfl rfl rfl ?_
      refine bV0wb (n := 56) (hh := (fun s : Mem => hM E ad s)) (As := [.int y1, .int y3]) (rest := []) 0 lk_X7_135 (hB _ _ _) (by omega) (fun _ => rfl) rfl rfl rfl rfl (Nat.le_of_ble_eq_true rfl) dX7_readsParallel_53 rfl ?_
      rintro k53 μ53
      try dsimp only
      refine b_bnz (n := 59) (tgt := 61) dX7_readsParallel_56 (by decide) rfl (fun h56 => ?_) (fun h56 => ?_)
      · refine b_iload (n := 63) 0 dX7_readsParallel_61 rfl rfl ?_
        refine b_istore_n (n := 64) (L' := [(3, .int (μ 0 14)), (4, .int (μ 0 14)), (0, .ref (ad 0)), (1, .int y1), (2, .int y2)]) dX7_readsParallel_63 rfl rfl (Nat.le_of_ble_eq_true rfl) rfl ?_
        refine b_iinc (n := 67) (L' := [(2, .int (y2 + 1)), (3, .int (μ 0 14)), (4, .int (μ 0 14)), (0, .ref (ad 0)), (1, .int y1)]) 4 1 dX7_readsParallel_64 rfl rfl (by decide) (Nat.le_of_ble_eq_true rfl) rfl ?_
        refine b_aload_n (n := 68) 3 dX7_readsParallel_67 rfl rfl rfl ?_
        refine b_bipush (n := 70) (v := 124) dX7_readsParallel_68 rfl (by decide) ?_
        refine bV0wb (n := 73) (hh := (fun s : Mem => hM E ad s)) (As := [.int 124]) (rest := []) 0 lk_X7_59 (c_md_takes (Nat.le_refl _)) (by omega) (fun _ => rfl) rfl rfl rfl rfl (Nat.le_of_ble_eq_true rfl) dX7_readsParallel_70 rfl ?_
        rintro k70 μ70
        try dsimp only
        refine b_bnz (n := 76) (tgt := 18) dX7_readsParallel_73 (by decide) rfl (fun h73 => ?_) (fun h73 => ?_)
        · refine Bd.sub (L' := [(0, .ref (ad 0)), (1, .int y1), (2, .int (y2 + 1)), (3, .int (μ 0 14))]) [3, 4, 0, 1] rfl ?_
          exact ih _ _ _ _
        · refine b_aload_n (n := 77) 3 dX7_readsParallel_76 rfl rfl rfl ?_
          refine b_bipush (n := 79) (v := 41) dX7_readsParallel_77 rfl (by decide) ?_
          refine bV0wb (n := 82) (hh := (fun s : Mem => hM E ad s)) (As := [.int 41]) (rest := []) 0 lk_X7_59 (c_md_takes (Nat.le_refl _)) (by omega) (fun _ => rfl) rfl rfl rfl rfl (Nat.le_of_ble_eq_true rfl) dX7_readsParallel_79 rfl ?_
          rintro k79 μ79
          try dsimp only
          refine b_bnz (n := 85) (tgt := 87) dX7_readsParallel_82 (by decide) rfl (fun h82 => ?_) (fun h82 => ?_)
          · refine b_aload_n (n := 88) 3 dX7_readsParallel_87 rfl rfl rfl ?_
            refine b_dup (n := 89) dX7_readsParallel_88 rfl rfl ?_
            refine b_get (n := 92) (v := .int (μ79 0 16)) 0 f_X7_94 dX7_readsParallel_89 rfl hM_o0 rfl ?_
            refine b_iconst (n := 93) (v := 1) dX7_readsParallel_92 rfl (by decide) ?_
            refine b_isub (n := 94) dX7_readsParallel_93 rfl ?_
            refine b_put (n := 97) (ws' := hM E ad (up μ79 0 16 ((μ79 0 16) - 1))) 0 fp_X7_94 dX7_readsParallel_94 rfl hM_o0 rfl rfl (Nat.le_of_ble_eq_true rfl) hM_p0_16 ?_
            refine b_aload_n (n := 98) 3 dX7_readsParallel_97 rfl rfl rfl ?_
            refine b_iload_n (n := 99) 4 dX7_readsParallel_98 rfl rfl rfl ?_
            refine b_iconst (n := 100) (v := 1) dX7_readsParallel_99 rfl (by decide) ?_
            refine b_iload_n (n := 101) 0 dX7_readsParallel_100 rfl rfl rfl ?_
            refine bV0wv (n := 104) (hh := (fun s : Mem => hM E ad s)) (As := [.int y1, .int 1, .int (y2 + 1)]) (rest := []) 0 lk_X7_74 (c_md_put (Nat.le_refl _)) (by omega) (fun _ => rfl) rfl rfl rfl rfl (Nat.le_of_ble_eq_true rfl) dX7_readsParallel_101 rfl ?_
            rintro μ101
            try dsimp only
            refine b_aload_n (n := 105) 3 dX7_readsParallel_104 rfl rfl rfl ?_
            refine b_bipush (n := 107) (v := 113) dX7_readsParallel_105 rfl (by decide) ?_
            refine bV0wb (n := 110) (hh := (fun s : Mem => hM E ad s)) (As := [.int 113]) (rest := []) 0 lk_X7_59 (c_md_takes (Nat.le_refl _)) (by omega) (fun _ => rfl) rfl rfl rfl rfl (Nat.le_of_ble_eq_true rfl) dX7_readsParallel_107 rfl ?_
            rintro k107 μ107
            try dsimp only
            refine b_bz (n := 113) (tgt := 134) dX7_readsParallel_110 (by decide) rfl (fun h110 => ?_) (fun h110 => ?_)
            · refine b_aload_n (n := 114) 3 dX7_readsParallel_113 rfl rfl rfl ?_
              refine b_iconst (n := 115) (v := 1) dX7_readsParallel_114 rfl (by decide) ?_
              refine b_iload_n (n := 116) 0 dX7_readsParallel_115 rfl rfl rfl ?_
              refine bV0wb (n := 119) (hh := (fun s : Mem => hM E ad s)) (As := [.int 1, .int (y2 + 1)]) (rest := []) 0 lk_X7_55 (c_md_takesDigit (Nat.le_refl _)) (by omega) (fun _ => rfl) rfl rfl rfl rfl (Nat.le_of_ble_eq_true rfl) dX7_readsParallel_116 rfl ?_
              rintro k116 μ116
              try dsimp only
              refine b_bnz (n := 122) (tgt := 124) dX7_readsParallel_119 (by decide) rfl (fun h119 => ?_) (fun h119 => ?_)
              · refine b_aload_n (n := 125) 3 dX7_readsParallel_124 rfl rfl rfl ?_
                refine b_iload_n (n := 126) 4 dX7_readsParallel_125 rfl rfl rfl ?_
                refine b_iconst (n := 127) (v := 1) dX7_readsParallel_126 rfl (by decide) ?_
                refine b_aload_n (n := 128) 3 dX7_readsParallel_127 rfl rfl rfl ?_
                refine b_get (n := 131) (v := .int (μ116 0 18)) 0 f_X7_52 dX7_readsParallel_128 rfl hM_o0 rfl ?_
                refine bV0wv (n := 134) (hh := (fun s : Mem => hM E ad s)) (As := [.int y1, .int 1, .int (μ116 0 18)]) (rest := []) 0 lk_X7_74 (c_md_put (Nat.le_refl _)) (by omega) (fun _ => rfl) rfl rfl rfl rfl (Nat.le_of_ble_eq_true rfl) dX7_readsParallel_131 rfl ?_
                rintro μ131
                try dsimp only
                refine Bd.sub (L' := [(0, .ref (ad 0)), (1, .int y1), (2, .int (y2 + 1))]) [3, 4, 0] rfl ?_
                exact w_md_readsParallel_134 hdB hB hd _ _ _
              · refine b_iconst (n := 123) (v := 0) dX7_readsParallel_122 rfl (by decide) ?_
                exact b_zret (b := false) dX7_readsParallel_123 rfl rfl
            · refine Bd.sub (L' := [(0, .ref (ad 0)), (1, .int y1), (2, .int (y2 + 1))]) [3, 4, 0] rfl ?_
              exact w_md_readsParallel_134 hdB hB hd _ _ _
          · refine b_iconst (n := 86) (v := 0) dX7_readsParallel_85 rfl (by decide) ?_
            exact b_zret (b := false) dX7_readsParallel_86 rfl rfl
      · refine b_iconst (n := 60) (v := 0) dX7_readsParallel_59 rfl (by decide) ?_
        exact b_zret (b := false) dX7_readsParallel_60 rfl rfl
def md_readsParallel (N : Nat) (B : Int32 → Int32 → Mem → Option (Bool × Mem)) (x1 : Int32) (μ : Mem) : Option (Bool × Mem) :=
  (md_opens (up μ 0 12 ((μ 0 12) + 1))).bind fun μ11 =>
  md_readsParallel_18 N B N x1 0 ((-1)) μ11
set_option maxHeartbeats 400000 in
set_option maxRecDepth 100000 in
theorem c_md_readsParallel {l : Launch} {E : Ev} {ad : Nat → Nat} {d : Nat} {N : Nat}   {B : Int32 → Int32 → Mem → Option (Bool × Mem)} {dB : Nat} {x1 : Int32} {μ : Mem} (hd : dB + 1 ≤ d) (hdB : 6 ≤ dB) (hB : ∀ (x1 : Int32) (x2 : Int32) (μ : Mem), Ct l yX7_readsBody cX7_readsBody 6 (some .boolean) dB E (hM E ad μ) [.ref (ad 0), .int x1, .int x2] (fun q : Bool × Mem => (some (.int (b2i q.1)), hM E ad q.2)) (B x1 x2 μ)) : Ct l yX7_readsParallel cX7_readsParallel 5 (some .boolean) d E (hM E ad μ) [.ref (ad 0), .int x1] (fun q : Bool × Mem => (some (.int (b2i q.1)), hM E ad q.2)) (md_readsParallel N B x1 μ) := by
  refine Ct.of2 (own := RX7) (L := [(0, .ref (ad 0)), (1, .int x1)]) rfl (by decide +kernel) (Nat.le_of_ble_eq_true rfl) rfl ?_
  unfold md_readsParallel
  refine b_aload_n (n := 1) 0 dX7_readsParallel_0 rfl rfl rfl ?_
  refine b_dup (n := 2) dX7_readsParallel_1 rfl rfl ?_
  refine b_get (n := 5) (v := .int (μ 0 12)) 0 f_X7_45 dX7_readsParallel_2 rfl hM_o0 rfl ?_
  refine b_iconst (n := 6) (v := 1) dX7_readsParallel_5 rfl (by decide) ?_
  refine b_iadd (n := 7) dX7_readsParallel_6 rfl ?_
  refine b_put (n := 10) (ws' := hM E ad (up μ 0 12 ((μ 0 12) + 1))) 0 fp_X7_45 dX7_readsParallel_7 rfl hM_o0 rfl rfl (Nat.le_of_ble_eq_true rfl) hM_p0_12 ?_
  refine b_aload_n (n := 11) 0 dX7_readsParallel_10 rfl rfl rfl ?_
  refine bV0wv (n := 14) (hh := (fun s : Mem => hM E ad s)) (As := []) (rest := []) 0 lk_X7_132 (c_md_opens (Nat.le_refl _)) (by omega) (fun _ => rfl) rfl rfl rfl rfl (Nat.le_of_ble_eq_true rfl) dX7_readsParallel_11 rfl ?_
  rintro μ11
  try dsimp only
  refine b_iconst (n := 15) (v := 0) dX7_readsParallel_14 rfl (by decide) ?_
  refine b_istore_n (n := 16) (L' := [(2, .int 0), (0, .ref (ad 0)), (1, .int x1)]) dX7_readsParallel_15 rfl rfl (Nat.le_of_ble_eq_true rfl) rfl ?_
  refine b_iconst (n := 17) (v := -1) dX7_readsParallel_16 rfl (by decide) ?_
  refine b_istore_n (n := 18) (L' := [(3, .int ((-1))), (2, .int 0), (0, .ref (ad 0)), (1, .int x1)]) dX7_readsParallel_17 rfl rfl (Nat.le_of_ble_eq_true rfl) rfl ?_
  refine Bd.sub (L' := [(0, .ref (ad 0)), (1, .int x1), (2, .int 0), (3, .int ((-1)))]) [2, 3, 1, 0] rfl ?_
  exact w_md_readsParallel_18 hdB hB hd _ _ _ _ _
def md_readsItem_48 (N : Nat) (B : Int32 → Int32 → Mem → Option (Bool × Mem))  (y1 : Int32) (y2 : Int32) (μ : Mem) : Option (Bool × Mem) :=
  if y2 = 91 then
    ((md_makes N 5 y1 (up μ 0 15 ((μ 0 15) + 1))).bind fun (k156, μ156) =>
    (md_readsChoice N B k156 μ156).bind fun (k159, μ159) =>
    some (k159, μ159))
  else if y2 = 115 then
    ((md_makes N 3 y1 (up μ 0 15 ((μ 0 15) + 1))).bind fun (k134, μ134) =>
    (md_readsSignal N k134 μ134).bind fun (k137, μ137) =>
    some (k137, μ137))
  else if y2 = 116 then
    ((md_makes N 1 y1 (up μ 0 15 ((μ 0 15) + 1))).bind fun (k112, μ112) =>
    (md_readsTask N k112 μ112).bind fun (k115, μ115) =>
    some (k115, μ115))
  else if y2 = 119 then
    ((md_makes N 2 y1 (up μ 0 15 ((μ 0 15) + 1))).bind fun (k123, μ123) =>
    (md_readsWait N k123 μ123).bind fun (k126, μ126) =>
    some (k126, μ126))
  else if y2 = 120 then
    ((md_makes N 4 y1 (up μ 0 15 ((μ 0 15) + 1))).bind fun (k145, μ145) =>
    (md_readsSet N k145 μ145).bind fun (k148, μ148) =>
    some (k148, μ148))
  else 
    ((md_makes N 6 y1 (up μ 0 15 ((μ 0 15) + 1))).bind fun (k168, μ168) =>
    (md_readsParallel N B k168 μ168).bind fun (k171, μ171) =>
    some (k171, μ171))
set_option maxHeartbeats 400000 in
set_option maxRecDepth 100000 in
theorem w_md_readsItem_48 {l : Launch} {E : Ev} {ad : Nat → Nat} {A : Nat → Prop} {d : Nat} {N : Nat}   {B : Int32 → Int32 → Mem → Option (Bool × Mem)} {dB : Nat} (hdB : 6 ≤ dB) (hB : ∀ (x1 : Int32) (x2 : Int32) (μ : Mem), Ct l yX7_readsBody cX7_readsBody 6 (some .boolean) dB E (hM E ad μ) [.ref (ad 0), .int x1, .int x2] (fun q : Bool × Mem => (some (.int (b2i q.1)), hM E ad q.2)) (B x1 x2 μ))  (hd : dB + 2 ≤ d)  (y1 : Int32) (y2 : Int32) (μ : Mem) : Bd l E A RX7 cX7_readsItem 3 (some .boolean) d (fun q : Bool × Mem => (some (.int (b2i q.1)), hM E ad q.2)) 48 [(0, .ref (ad 0)), (1, .int y1), (2, .int y2)] [] (hM E ad μ) (md_readsItem_48 N B y1 y2 μ) := by
  unfold md_readsItem_48
  refine b_aload_n (n := 49) 0 dX7_readsItem_48 rfl rfl rfl ?_
  refine b_dup (n := 50) dX7_readsItem_49 rfl rfl ?_
  refine b_get (n := 53) (v := .int (μ 0 15)) 0 f_X7_91 dX7_readsItem_50 rfl hM_o0 rfl ?_
  refine b_iconst (n := 54) (v := 1) dX7_readsItem_53 rfl (by decide) ?_
  refine b_iadd (n := 55) dX7_readsItem_54 rfl ?_
  refine b_put (n := 58) (ws' := hM E ad (up μ 0 15 ((μ 0 15) + 1))) 0 fp_X7_91 dX7_readsItem_55 rfl hM_o0 rfl rfl (Nat.le_of_ble_eq_true rfl) hM_p0_15 ?_
  refine b_iload_n (n := 59) 2 dX7_readsItem_58 rfl rfl rfl ?_
  refine b_if (fun h59_91 => ?_) (fun h59_91 => ?_)
  · refine b_lsw (n := 152) (off := 93) dX7_readsItem_59 (by decide) (by rw [h59_91]; decide) (by decide) ?_
    refine b_aload_n (n := 153) 0 dX7_readsItem_152 rfl rfl rfl ?_
    refine b_aload_n (n := 154) 0 dX7_readsItem_153 rfl rfl rfl ?_
    refine b_iconst (n := 155) (v := 5) dX7_readsItem_154 rfl (by decide) ?_
    refine b_iload_n (n := 156) 1 dX7_readsItem_155 rfl rfl rfl ?_
    refine bV0wi (n := 159) (hh := (fun s : Mem => hM E ad s)) (As := [.int 5, .int y1]) (rest := [.ref (ad 0)]) 0 lk_X7_81 (c_md_makes (Nat.le_refl _)) (by omega) (fun _ => rfl) rfl rfl rfl rfl (Nat.le_of_ble_eq_true rfl) dX7_readsItem_156 rfl ?_
    rintro k156 μ156
    try dsimp only
    refine bV0wb (n := 162) (hh := (fun s : Mem => hM E ad s)) (As := [.int k156]) (rest := []) 0 lk_X7_112 (c_md_readsChoice (Nat.le_refl _) hdB hB) (by omega) (fun _ => rfl) rfl rfl rfl rfl (Nat.le_of_ble_eq_true rfl) dX7_readsItem_159 rfl ?_
    rintro k159 μ159
    try dsimp only
    exact b_zret (b := k159) dX7_readsItem_162 rfl rfl
  refine b_if (fun h59_115 => ?_) (fun h59_115 => ?_)
  · refine b_lsw (n := 130) (off := 71) dX7_readsItem_59 (by decide) (by rw [h59_115]; decide) (by decide) ?_
    refine b_aload_n (n := 131) 0 dX7_readsItem_130 rfl rfl rfl ?_
    refine b_aload_n (n := 132) 0 dX7_readsItem_131 rfl rfl rfl ?_
    refine b_iconst (n := 133) (v := 3) dX7_readsItem_132 rfl (by decide) ?_
    refine b_iload_n (n := 134) 1 dX7_readsItem_133 rfl rfl rfl ?_
    refine bV0wi (n := 137) (hh := (fun s : Mem => hM E ad s)) (As := [.int 3, .int y1]) (rest := [.ref (ad 0)]) 0 lk_X7_81 (c_md_makes (Nat.le_refl _)) (by omega) (fun _ => rfl) rfl rfl rfl rfl (Nat.le_of_ble_eq_true rfl) dX7_readsItem_134 rfl ?_
    rintro k134 μ134
    try dsimp only
    refine bV0wb (n := 140) (hh := (fun s : Mem => hM E ad s)) (As := [.int k134]) (rest := []) 0 lk_X7_106 (c_md_readsSignal (Nat.le_refl _)) (by omega) (fun _ => rfl) rfl rfl rfl rfl (Nat.le_of_ble_eq_true rfl) dX7_readsItem_137 rfl ?_
    rintro k137 μ137
    try dsimp only
    exact b_zret (b := k137) dX7_readsItem_140 rfl rfl
  refine b_if (fun h59_116 => ?_) (fun h59_116 => ?_)
  · refine b_lsw (n := 108) (off := 49) dX7_readsItem_59 (by decide) (by rw [h59_116]; decide) (by decide) ?_
    refine b_aload_n (n := 109) 0 dX7_readsItem_108 rfl rfl rfl ?_
    refine b_aload_n (n := 110) 0 dX7_readsItem_109 rfl rfl rfl ?_
    refine b_iconst (n := 111) (v := 1) dX7_readsItem_110 rfl (by decide) ?_
    refine b_iload_n (n := 112) 1 dX7_readsItem_111 rfl rfl rfl ?_
    refine bV0wi (n := 115) (hh := (fun s : Mem => hM E ad s)) (As := [.int 1, .int y1]) (rest := [.ref (ad 0)]) 0 lk_X7_81 (c_md_makes (Nat.le_refl _)) (by omega) (fun _ => rfl) rfl rfl rfl rfl (Nat.le_of_ble_eq_true rfl) dX7_readsItem_112 rfl ?_
    rintro k112 μ112
    try dsimp only
    refine bV0wb (n := 118) (hh := (fun s : Mem => hM E ad s)) (As := [.int k112]) (rest := []) 0 lk_X7_100 (c_md_readsTask (Nat.le_refl _)) (by omega) (fun _ => rfl) rfl rfl rfl rfl (Nat.le_of_ble_eq_true rfl) dX7_readsItem_115 rfl ?_
    rintro k115 μ115
    try dsimp only
    exact b_zret (b := k115) dX7_readsItem_118 rfl rfl
  refine b_if (fun h59_119 => ?_) (fun h59_119 => ?_)
  · refine b_lsw (n := 119) (off := 60) dX7_readsItem_59 (by decide) (by rw [h59_119]; decide) (by decide) ?_
    refine b_aload_n (n := 120) 0 dX7_readsItem_119 rfl rfl rfl ?_
    refine b_aload_n (n := 121) 0 dX7_readsItem_120 rfl rfl rfl ?_
    refine b_iconst (n := 122) (v := 2) dX7_readsItem_121 rfl (by decide) ?_
    refine b_iload_n (n := 123) 1 dX7_readsItem_122 rfl rfl rfl ?_
    refine bV0wi (n := 126) (hh := (fun s : Mem => hM E ad s)) (As := [.int 2, .int y1]) (rest := [.ref (ad 0)]) 0 lk_X7_81 (c_md_makes (Nat.le_refl _)) (by omega) (fun _ => rfl) rfl rfl rfl rfl (Nat.le_of_ble_eq_true rfl) dX7_readsItem_123 rfl ?_
    rintro k123 μ123
    try dsimp only
    refine bV0wb (n := 129) (hh := (fun s : Mem => hM E ad s)) (As := [.int k123]) (rest := []) 0 lk_X7_103 (c_md_readsWait (Nat.le_refl _)) (by omega) (fun _ => rfl) rfl rfl rfl rfl (Nat.le_of_ble_eq_true rfl) dX7_readsItem_126 rfl ?_
    rintro k126 μ126
    try dsimp only
    exact b_zret (b := k126) dX7_readsItem_129 rfl rfl
  refine b_if (fun h59_120 => ?_) (fun h59_120 => ?_)
  · refine b_lsw (n := 141) (off := 82) dX7_readsItem_59 (by decide) (by rw [h59_120]; decide) (by decide) ?_
    refine b_aload_n (n := 142) 0 dX7_readsItem_141 rfl rfl rfl ?_
    refine b_aload_n (n := 143) 0 dX7_readsItem_142 rfl rfl rfl ?_
    refine b_iconst (n := 144) (v := 4) dX7_readsItem_143 rfl (by decide) ?_
    refine b_iload_n (n := 145) 1 dX7_readsItem_144 rfl rfl rfl ?_
    refine bV0wi (n := 148) (hh := (fun s : Mem => hM E ad s)) (As := [.int 4, .int y1]) (rest := [.ref (ad 0)]) 0 lk_X7_81 (c_md_makes (Nat.le_refl _)) (by omega) (fun _ => rfl) rfl rfl rfl rfl (Nat.le_of_ble_eq_true rfl) dX7_readsItem_145 rfl ?_
    rintro k145 μ145
    try dsimp only
    refine bV0wb (n := 151) (hh := (fun s : Mem => hM E ad s)) (As := [.int k145]) (rest := []) 0 lk_X7_109 (c_md_readsSet (Nat.le_refl _)) (by omega) (fun _ => rfl) rfl rfl rfl rfl (Nat.le_of_ble_eq_true rfl) dX7_readsItem_148 rfl ?_
    rintro k148 μ148
    try dsimp only
    exact b_zret (b := k148) dX7_readsItem_151 rfl rfl
  refine b_lsw (n := 163) (off := 104) dX7_readsItem_59 (by decide) (by have nh59_91 := i32_ne (k := 91) h59_91 (by decide); have nh59_115 := i32_ne (k := 115) h59_115 (by decide); have nh59_116 := i32_ne (k := 116) h59_116 (by decide); have nh59_119 := i32_ne (k := 119) h59_119 (by decide); have nh59_120 := i32_ne (k := 120) h59_120 (by decide); simp_all [Op.lookupswitch.offset] <;> (repeat rw [if_neg (by omega)])) (by decide) ?_
  refine b_aload_n (n := 164) 0 dX7_readsItem_163 rfl rfl rfl ?_
  refine b_aload_n (n := 165) 0 dX7_readsItem_164 rfl rfl rfl ?_
  refine b_bipush (n := 167) (v := 6) dX7_readsItem_165 rfl (by decide) ?_
  refine b_iload_n (n := 168) 1 dX7_readsItem_167 rfl rfl rfl ?_
  refine bV0wi (n := 171) (hh := (fun s : Mem => hM E ad s)) (As := [.int 6, .int y1]) (rest := [.ref (ad 0)]) 0 lk_X7_81 (c_md_makes (Nat.le_refl _)) (by omega) (fun _ => rfl) rfl rfl rfl rfl (Nat.le_of_ble_eq_true rfl) dX7_readsItem_168 rfl ?_
  rintro k168 μ168
  try dsimp only
  refine bV0wb (n := 174) (hh := (fun s : Mem => hM E ad s)) (As := [.int k168]) (rest := []) 0 lk_X7_115 (c_md_readsParallel (Nat.le_refl _) hdB hB) (by omega) (fun _ => rfl) rfl rfl rfl rfl (Nat.le_of_ble_eq_true rfl) dX7_readsItem_171 rfl ?_
  rintro k171 μ171
  try dsimp only
  exact b_zret (b := k171) dX7_readsItem_174 rfl rfl
def md_readsItem_43 (N : Nat) (B : Int32 → Int32 → Mem → Option (Bool × Mem))   (μ : Mem) : Option (Bool × Mem) :=
  (md_isTooMuch μ).bind fun (k44, μ44) =>
  some (k44, μ44)
set_option maxHeartbeats 400000 in
set_option maxRecDepth 100000 in
theorem w_md_readsItem_43 {l : Launch} {E : Ev} {ad : Nat → Nat} {A : Nat → Prop} {d : Nat} {N : Nat}   {B : Int32 → Int32 → Mem → Option (Bool × Mem)} {dB : Nat} (hdB : 6 ≤ dB) (hB : ∀ (x1 : Int32) (x2 : Int32) (μ : Mem), Ct l yX7_readsBody cX7_readsBody 6 (some .boolean) dB E (hM E ad μ) [.ref (ad 0), .int x1, .int x2] (fun q : Bool × Mem => (some (.int (b2i q.1)), hM E ad q.2)) (B x1 x2 μ))  (hd : dB + 2 ≤ d)  (μ : Mem) : Bd l E A RX7 cX7_readsItem 3 (some .boolean) d (fun q : Bool × Mem => (some (.int (b2i q.1)), hM E ad q.2)) 43 [(0, .ref (ad 0))] [] (hM E ad μ) (md_readsItem_43 N B μ) := by
  unfold md_readsItem_43
  refine b_aload_n (n := 44) 0 dX7_readsItem_43 rfl rfl rfl ?_
  refine bV0wb (n := 47) (hh := (fun s : Mem => hM E ad s)) (As := []) (rest := []) 0 lk_X7_97 (c_md_isTooMuch (Nat.le_refl _)) (by omega) (fun _ => rfl) rfl rfl rfl rfl (Nat.le_of_ble_eq_true rfl) dX7_readsItem_44 rfl ?_
  rintro k44 μ44
  try dsimp only
  exact b_zret (b := k44) dX7_readsItem_47 rfl rfl
def md_readsItem_35 (N : Nat) (B : Int32 → Int32 → Mem → Option (Bool × Mem))  (y1 : Int32) (y2 : Int32) (μ : Mem) : Option (Bool × Mem) :=
  if μ 0 16 = 4 then
    (md_readsItem_43 N B μ)
  else
    (md_readsItem_48 N B y1 y2 μ)
set_option maxHeartbeats 400000 in
set_option maxRecDepth 100000 in
theorem w_md_readsItem_35 {l : Launch} {E : Ev} {ad : Nat → Nat} {A : Nat → Prop} {d : Nat} {N : Nat}   {B : Int32 → Int32 → Mem → Option (Bool × Mem)} {dB : Nat} (hdB : 6 ≤ dB) (hB : ∀ (x1 : Int32) (x2 : Int32) (μ : Mem), Ct l yX7_readsBody cX7_readsBody 6 (some .boolean) dB E (hM E ad μ) [.ref (ad 0), .int x1, .int x2] (fun q : Bool × Mem => (some (.int (b2i q.1)), hM E ad q.2)) (B x1 x2 μ))  (hd : dB + 2 ≤ d)  (y1 : Int32) (y2 : Int32) (μ : Mem) : Bd l E A RX7 cX7_readsItem 3 (some .boolean) d (fun q : Bool × Mem => (some (.int (b2i q.1)), hM E ad q.2)) 35 [(0, .ref (ad 0)), (1, .int y1), (2, .int y2)] [] (hM E ad μ) (md_readsItem_35 N B y1 y2 μ) := by
  unfold md_readsItem_35
  refine b_aload_n (n := 36) 0 dX7_readsItem_35 rfl rfl rfl ?_
  refine b_get (n := 39) (v := .int (μ 0 16)) 0 f_X7_94 dX7_readsItem_36 rfl hM_o0 rfl ?_
  refine b_iconst (n := 40) (v := 4) dX7_readsItem_39 rfl (by decide) ?_
  refine b_cmp_ne (n := 43) (tgt := 48) dX7_readsItem_40 (by decide) rfl (fun h40 => ?_) (fun h40 => ?_)
  · refine Bd.sub (L' := [(0, .ref (ad 0))]) [0] rfl ?_
    exact w_md_readsItem_43 hdB hB hd _
  · exact w_md_readsItem_48 hdB hB hd _ _ _
def md_readsItem (N : Nat) (B : Int32 → Int32 → Mem → Option (Bool × Mem)) (x1 : Int32) (μ : Mem) : Option (Bool × Mem) :=
  (md_here μ).bind fun k1 =>
  (md_beginsItem k1).bind fun k6 =>
  if k6 = true then
    (if μ 0 15 = 24 then
      (md_readsItem_43 N B μ)
    else
      (if k1 = 91 then
        (md_readsItem_35 N B x1 k1 μ)
      else
        (if k1 = 40 then
          (md_readsItem_35 N B x1 k1 μ)
        else
          (md_readsItem_48 N B x1 k1 μ))))
  else
    (some (false, μ))
set_option maxHeartbeats 400000 in
set_option maxRecDepth 100000 in
theorem c_md_readsItem {l : Launch} {E : Ev} {ad : Nat → Nat} {d : Nat} {N : Nat}   {B : Int32 → Int32 → Mem → Option (Bool × Mem)} {dB : Nat} {x1 : Int32} {μ : Mem} (hd : dB + 2 ≤ d) (hdB : 6 ≤ dB) (hB : ∀ (x1 : Int32) (x2 : Int32) (μ : Mem), Ct l yX7_readsBody cX7_readsBody 6 (some .boolean) dB E (hM E ad μ) [.ref (ad 0), .int x1, .int x2] (fun q : Bool × Mem => (some (.int (b2i q.1)), hM E ad q.2)) (B x1 x2 μ)) : Ct l yX7_readsItem cX7_readsItem 3 (some .boolean) d E (hM E ad μ) [.ref (ad 0), .int x1] (fun q : Bool × Mem => (some (.int (b2i q.1)), hM E ad q.2)) (md_readsItem N B x1 μ) := by
  refine Ct.of2 (own := RX7) (L := [(0, .ref (ad 0)), (1, .int x1)]) rfl (by decide +kernel) (Nat.le_of_ble_eq_true rfl) rfl ?_
  unfold md_readsItem
  refine b_aload_n (n := 1) 0 dX7_readsItem_0 rfl rfl rfl ?_
  refine bV0i (n := 4) (As := []) (rest := []) 0 lk_X7_48 (c_md_here (Nat.le_refl _)) (by omega) rfl rfl rfl rfl (Nat.le_of_ble_eq_true rfl) dX7_readsItem_1 rfl (fun k1 => ?_)
  refine b_istore_n (n := 5) (L' := [(2, .int k1), (0, .ref (ad 0)), (1, .int x1)]) dX7_readsItem_4 rfl rfl (Nat.le_of_ble_eq_true rfl) rfl ?_
  refine b_iload_n (n := 6) 0 dX7_readsItem_5 rfl rfl rfl ?_
  refine bSb (n := 9) (As := [.int k1]) (rest := []) lk_X7_88 (c_md_beginsItem (Nat.le_refl _)) (by omega) rfl rfl (Nat.le_of_ble_eq_true rfl) dX7_readsItem_6 rfl (fun k6 => ?_)
  refine b_bnz (n := 12) (tgt := 14) dX7_readsItem_9 (by decide) rfl (fun h9 => ?_) (fun h9 => ?_)
  · refine b_aload_n (n := 15) 1 dX7_readsItem_14 rfl rfl rfl ?_
    refine b_get (n := 18) (v := .int (μ 0 15)) 0 f_X7_91 dX7_readsItem_15 rfl hM_o0 rfl ?_
    refine b_bipush (n := 20) (v := 24) dX7_readsItem_18 rfl (by decide) ?_
    refine b_cmp_eq (n := 23) (tgt := 43) dX7_readsItem_20 (by decide) rfl (fun h20 => ?_) (fun h20 => ?_)
    · refine Bd.sub (L' := [(0, .ref (ad 0))]) [1] rfl ?_
      exact w_md_readsItem_43 hdB hB hd _
    · refine b_iload_n (n := 24) 0 dX7_readsItem_23 rfl rfl rfl ?_
      refine b_bipush (n := 26) (v := 91) dX7_readsItem_24 rfl (by decide) ?_
      refine b_cmp_eq (n := 29) (tgt := 35) dX7_readsItem_26 (by decide) rfl (fun h26 => ?_) (fun h26 => ?_)
      · refine Bd.sub (L' := [(0, .ref (ad 0)), (1, .int x1), (2, .int k1)]) [1, 2, 0] rfl ?_
        exact w_md_readsItem_35 hdB hB hd _ _ _
      · refine b_iload_n (n := 30) 0 dX7_readsItem_29 rfl rfl rfl ?_
        refine b_bipush (n := 32) (v := 40) dX7_readsItem_30 rfl (by decide) ?_
        refine b_cmp_ne (n := 35) (tgt := 48) dX7_readsItem_32 (by decide) rfl (fun h32 => ?_) (fun h32 => ?_)
        · refine Bd.sub (L' := [(0, .ref (ad 0)), (1, .int x1), (2, .int k1)]) [1, 2, 0] rfl ?_
          exact w_md_readsItem_35 hdB hB hd _ _ _
        · refine Bd.sub (L' := [(0, .ref (ad 0)), (1, .int x1), (2, .int k1)]) [1, 2, 0] rfl ?_
          exact w_md_readsItem_48 hdB hB hd _ _ _
  · refine b_iconst (n := 13) (v := 0) dX7_readsItem_12 rfl (by decide) ?_
    exact b_zret (b := false) dX7_readsItem_13 rfl rfl
def md_readsBody_78 (N : Nat) (B : Int32 → Int32 → Mem → Option (Bool × Mem)) (K36 : Int32 → Int32 → Mem → Option (Bool × Mem)) (y3 : Int32) (y5 : Int32) (μ : Mem) : Option (Bool × Mem) :=
  (md_takes 59 μ).bind fun (k85, μ85) =>
  if k85 = true then
    (K36 y3 y5 μ85)
  else
    (some (true, μ85))
set_option maxHeartbeats 400000 in
set_option maxRecDepth 100000 in
theorem w_md_readsBody_78 {l : Launch} {E : Ev} {ad : Nat → Nat} {A : Nat → Prop} {d : Nat} {N : Nat}   {B : Int32 → Int32 → Mem → Option (Bool × Mem)} {dB : Nat} (hdB : 6 ≤ dB) (hB : ∀ (x1 : Int32) (x2 : Int32) (μ : Mem), Ct l yX7_readsBody cX7_readsBody 6 (some .boolean) dB E (hM E ad μ) [.ref (ad 0), .int x1, .int x2] (fun q : Bool × Mem => (some (.int (b2i q.1)), hM E ad q.2)) (B x1 x2 μ)) {K36 : Int32 → Int32 → Mem → Option (Bool × Mem)} (hd : dB + 3 ≤ d) (hK36 : ∀ (y3 : Int32) (y4 : Int32) (μ : Mem), Bd l E A RX7 cX7_readsBody 6 (some .boolean) d (fun q : Bool × Mem => (some (.int (b2i q.1)), hM E ad q.2)) 36 [(0, .ref (ad 0)), (3, .int y3), (4, .int y4)] [] (hM E ad μ) (K36 y3 y4 μ)) (y3 : Int32) (y5 : Int32) (μ : Mem) : Bd l E A RX7 cX7_readsBody 6 (some .boolean) d (fun q : Bool × Mem => (some (.int (b2i q.1)), hM E ad q.2)) 78 [(0, .ref (ad 0)), (3, .int y3), (5, .int y5)] [] (hM E ad μ) (md_readsBody_78 N B K36 y3 y5 μ) := by
  unfold md_readsBody_78
  refine b_iload (n := 80) 2 dX7_readsBody_78 rfl rfl ?_
  refine b_istore (n := 82) (L' := [(4, .int y5), (0, .ref (ad 0)), (3, .int y3), (5, .int y5)]) dX7_readsBody_80 rfl (Nat.le_of_ble_eq_true rfl) rfl ?_
  refine b_aload_n (n := 83) 1 dX7_readsBody_82 rfl rfl rfl ?_
  refine b_bipush (n := 85) (v := 59) dX7_readsBody_83 rfl (by decide) ?_
  refine bV0wb (n := 88) (hh := (fun s : Mem => hM E ad s)) (As := [.int 59]) (rest := []) 0 lk_X7_59 (c_md_takes (Nat.le_refl _)) (by omega) (fun _ => rfl) rfl rfl rfl rfl (Nat.le_of_ble_eq_true rfl) dX7_readsBody_85 rfl ?_
  rintro k85 μ85
  try dsimp only
  refine b_bnz (n := 91) (tgt := 36) dX7_readsBody_88 (by decide) rfl (fun h88 => ?_) (fun h88 => ?_)
  · refine Bd.sub (L' := [(0, .ref (ad 0)), (3, .int y3), (4, .int y5)]) [1, 2, 0] rfl ?_
    exact hK36 _ _ _
  · refine b_iconst (n := 92) (v := 1) dX7_readsBody_91 rfl (by decide) ?_
    exact b_zret (b := true) dX7_readsBody_92 rfl rfl
def md_readsBody_36 (N : Nat) (B : Int32 → Int32 → Mem → Option (Bool × Mem))  : Nat → Int32 → Int32 → Mem → Option (Bool × Mem)
  | 0, _, _, _ => none
  | n + 1, y3, y4, μ =>
    (md_readsItem N B y3 μ).bind fun (k44, μ44) =>
    if k44 = true then
      (if y4 < 0 then
        ((md_put y3 5 (μ 0 14) μ44).bind fun μ62 =>
        md_readsBody_78 N B (md_readsBody_36 N B n) y3 (μ 0 14) μ62)
      else
        ((md_put y4 6 (μ 0 14) μ44).bind fun μ75 =>
        md_readsBody_78 N B (md_readsBody_36 N B n) y3 (μ 0 14) μ75))
    else
      (some (false, μ44))
set_option maxHeartbeats 400000 in
set_option maxRecDepth 100000 in
theorem w_md_readsBody_36 {l : Launch} {E : Ev} {ad : Nat → Nat} {A : Nat → Prop} {d : Nat} {N : Nat}   {B : Int32 → Int32 → Mem → Option (Bool × Mem)} {dB : Nat} (hdB : 6 ≤ dB) (hB : ∀ (x1 : Int32) (x2 : Int32) (μ : Mem), Ct l yX7_readsBody cX7_readsBody 6 (some .boolean) dB E (hM E ad μ) [.ref (ad 0), .int x1, .int x2] (fun q : Bool × Mem => (some (.int (b2i q.1)), hM E ad q.2)) (B x1 x2 μ))  (hd : dB + 3 ≤ d)  (n : Nat) : ∀ (y3 : Int32) (y4 : Int32) (μ : Mem), Bd l E A RX7 cX7_readsBody 6 (some .boolean) d (fun q : Bool × Mem => (some (.int (b2i q.1)), hM E ad q.2)) 36 [(0, .ref (ad 0)), (3, .int y3), (4, .int y4)] [] (hM E ad μ) (md_readsBody_36 N B n y3 y4 μ) := by
  induction n with
  | zero => intro y3 y4 μ; exact b_none
  | succ n ih =>
    intro y3 y4 μ
    rw [md_readsBody_36]
    refine b_aload_n (n := 37) 0 dX7_readsBody_36 rfl rfl rfl ?_
    refine b_get (n := 40) (v := .int (μ 0 14)) 0 f_X7_71 dX7_readsBody_37 rfl hM_o0 rfl ?_
    refine b_istore (n := 42) (L' := [(5, .int (μ 0 14)), (0, .ref (ad 0)), (3, .int y3), (4, .int y4)]) dX7_readsBody_40 rfl (Nat.le_of_ble_eq_true rfl) rfl ?_
    refine b_aload_n (n := 43) 1 dX7_readsBody_42 rfl rfl rfl ?_
    refine b_iload_n (n := 44) 2 dX7_readsBody_43 rfl rfl rfl ?_
    refine bV0wb (n := 47) (hh := (fun s : Mem => hM E ad s)) (As := [.int y3]) (rest := []) 0 lk_X7_85 (c_md_readsItem (Nat.le_refl _) hdB hB) (by omega) (fun _ => rfl) rfl rfl rfl rfl (Nat.le_of_ble_eq_true rfl) dX7_readsBody_44 rfl ?_
    rintro k44 μ44
    try dsimp only
    refine b_bnz (n := 50) (tgt := 52) dX7_readsBody_47 (by decide) rfl (fun h47 => ?_) (fun h47 => ?_)
    · refine b_iload (n := 54) 3 dX7_readsBody_52 rfl rfl ?_
      refine b_if_ge (n := 57) (tgt := 68) dX7_readsBody_54 (by decide) rfl (fun h54 => ?_) (fun h54 => ?_)
      · refine b_aload_n (n := 58) 1 dX7_readsBody_57 rfl rfl rfl ?_
        refine b_iload_n (n := 59) 2 dX7_readsBody_58 rfl rfl rfl ?_
        refine b_iconst (n := 60) (v := 5) dX7_readsBody_59 rfl (by decide) ?_
        refine b_iload (n := 62) 0 dX7_readsBody_60 rfl rfl ?_
        refine bV0wv (n := 65) (hh := (fun s : Mem => hM E ad s)) (As := [.int y3, .int 5, .int (μ 0 14)]) (rest := []) 0 lk_X7_74 (c_md_put (Nat.le_refl _)) (by omega) (fun _ => rfl) rfl rfl rfl rfl (Nat.le_of_ble_eq_true rfl) dX7_readsBody_62 rfl ?_
        rintro μ62
        try dsimp only
        refine b_goto (n := 78) dX7_readsBody_65 (by decide) ?_
        refine Bd.sub (L' := [(0, .ref (ad 0)), (3, .int y3), (5, .int (μ 0 14))]) [1, 2, 0] rfl ?_
        exact w_md_readsBody_78 hdB hB hd (fun a0 a1 a2 => ih a0 a1 a2) _ _ _
      · refine b_aload_n (n := 69) 1 dX7_readsBody_68 rfl rfl rfl ?_
        refine b_iload (n := 71) 3 dX7_readsBody_69 rfl rfl ?_
        refine b_bipush (n := 73) (v := 6) dX7_readsBody_71 rfl (by decide) ?_
        refine b_iload (n := 75) 0 dX7_readsBody_73 rfl rfl ?_
        refine bV0wv (n := 78) (hh := (fun s : Mem => hM E ad s)) (As := [.int y4, .int 6, .int (μ 0 14)]) (rest := []) 0 lk_X7_74 (c_md_put (Nat.le_refl _)) (by omega) (fun _ => rfl) rfl rfl rfl rfl (Nat.le_of_ble_eq_true rfl) dX7_readsBody_75 rfl ?_
        rintro μ75
        try dsimp only
        refine Bd.sub (L' := [(0, .ref (ad 0)), (3, .int y3), (5, .int (μ 0 14))]) [1, 2, 0] rfl ?_
        exact w_md_readsBody_78 hdB hB hd (fun a0 a1 a2 => ih a0 a1 a2) _ _ _
    · refine b_iconst (n := 51) (v := 0) dX7_readsBody_50 rfl (by decide) ?_
      exact b_zret (b := false) dX7_readsBody_51 rfl rfl
def md_readsBody (N : Nat) (B : Int32 → Int32 → Mem → Option (Bool × Mem)) (x1 : Int32) (x2 : Int32) (μ : Mem) : Option (Bool × Mem) :=
  (md_makes N 0 x1 μ).bind fun (k3, μ3) =>
  if x2 < 0 then
    (if x1 < 0 then
      (md_readsBody_36 N B N k3 ((-1)) μ3)
    else
      ((md_put x1 5 k3 μ3).bind fun μ30 =>
      md_readsBody_36 N B N k3 ((-1)) μ30))
  else
    ((md_put x2 6 k3 μ3).bind fun μ16 =>
    md_readsBody_36 N B N k3 ((-1)) μ16)
set_option maxHeartbeats 400000 in
set_option maxRecDepth 100000 in
theorem c_md_readsBody {l : Launch} {E : Ev} {ad : Nat → Nat} {d : Nat} {N : Nat}   {B : Int32 → Int32 → Mem → Option (Bool × Mem)} {dB : Nat} {x1 : Int32} {x2 : Int32} {μ : Mem} (hd : dB + 3 ≤ d) (hdB : 6 ≤ dB) (hB : ∀ (x1 : Int32) (x2 : Int32) (μ : Mem), Ct l yX7_readsBody cX7_readsBody 6 (some .boolean) dB E (hM E ad μ) [.ref (ad 0), .int x1, .int x2] (fun q : Bool × Mem => (some (.int (b2i q.1)), hM E ad q.2)) (B x1 x2 μ)) : Ct l yX7_readsBody cX7_readsBody 6 (some .boolean) d E (hM E ad μ) [.ref (ad 0), .int x1, .int x2] (fun q : Bool × Mem => (some (.int (b2i q.1)), hM E ad q.2)) (md_readsBody N B x1 x2 μ) := by
  refine Ct.of2 (own := RX7) (L := [(0, .ref (ad 0)), (1, .int x1), (2, .int x2)]) rfl (by decide +kernel) (Nat.le_of_ble_eq_true rfl) rfl ?_
  unfold md_readsBody
  refine b_aload_n (n := 1) 0 dX7_readsBody_0 rfl rfl rfl ?_
  refine b_iconst (n := 2) (v := 0) dX7_readsBody_1 rfl (by decide) ?_
  refine b_iload_n (n := 3) 1 dX7_readsBody_2 rfl rfl rfl ?_
  refine bV0wi (n := 6) (hh := (fun s : Mem => hM E ad s)) (As := [.int 0, .int x1]) (rest := []) 0 lk_X7_81 (c_md_makes (Nat.le_refl _)) (by omega) (fun _ => rfl) rfl rfl rfl rfl (Nat.le_of_ble_eq_true rfl) dX7_readsBody_3 rfl ?_
  rintro k3 μ3
  try dsimp only
  refine b_istore_n (n := 7) (L' := [(3, .int k3), (0, .ref (ad 0)), (1, .int x1), (2, .int x2)]) dX7_readsBody_6 rfl rfl (Nat.le_of_ble_eq_true rfl) rfl ?_
  refine b_iload_n (n := 8) 3 dX7_readsBody_7 rfl rfl rfl ?_
  refine b_if_lt (n := 11) (tgt := 22) dX7_readsBody_8 (by decide) rfl (fun h8 => ?_) (fun h8 => ?_)
  · refine b_iload_n (n := 23) 2 dX7_readsBody_22 rfl rfl rfl ?_
    refine b_if_lt (n := 26) (tgt := 33) dX7_readsBody_23 (by decide) rfl (fun h23 => ?_) (fun h23 => ?_)
    · refine b_iconst (n := 34) (v := -1) dX7_readsBody_33 rfl (by decide) ?_
      refine b_istore (n := 36) (L' := [(4, .int ((-1))), (3, .int k3), (0, .ref (ad 0)), (1, .int x1), (2, .int x2)]) dX7_readsBody_34 rfl (Nat.le_of_ble_eq_true rfl) rfl ?_
      refine Bd.sub (L' := [(0, .ref (ad 0)), (3, .int k3), (4, .int ((-1)))]) [2, 1, 0] rfl ?_
      exact w_md_readsBody_36 hdB hB hd _ _ _ _
    · refine b_aload_n (n := 27) 1 dX7_readsBody_26 rfl rfl rfl ?_
      refine b_iload_n (n := 28) 2 dX7_readsBody_27 rfl rfl rfl ?_
      refine b_iconst (n := 29) (v := 5) dX7_readsBody_28 rfl (by decide) ?_
      refine b_iload_n (n := 30) 0 dX7_readsBody_29 rfl rfl rfl ?_
      refine bV0wv (n := 33) (hh := (fun s : Mem => hM E ad s)) (As := [.int x1, .int 5, .int k3]) (rest := []) 0 lk_X7_74 (c_md_put (Nat.le_refl _)) (by omega) (fun _ => rfl) rfl rfl rfl rfl (Nat.le_of_ble_eq_true rfl) dX7_readsBody_30 rfl ?_
      rintro μ30
      try dsimp only
      refine b_iconst (n := 34) (v := -1) dX7_readsBody_33 rfl (by decide) ?_
      refine b_istore (n := 36) (L' := [(4, .int ((-1))), (3, .int k3), (0, .ref (ad 0)), (1, .int x1), (2, .int x2)]) dX7_readsBody_34 rfl (Nat.le_of_ble_eq_true rfl) rfl ?_
      refine Bd.sub (L' := [(0, .ref (ad 0)), (3, .int k3), (4, .int ((-1)))]) [2, 1, 0] rfl ?_
      exact w_md_readsBody_36 hdB hB hd _ _ _ _
  · refine b_aload_n (n := 12) 1 dX7_readsBody_11 rfl rfl rfl ?_
    refine b_iload_n (n := 13) 3 dX7_readsBody_12 rfl rfl rfl ?_
    refine b_bipush (n := 15) (v := 6) dX7_readsBody_13 rfl (by decide) ?_
    refine b_iload_n (n := 16) 0 dX7_readsBody_15 rfl rfl rfl ?_
    refine bV0wv (n := 19) (hh := (fun s : Mem => hM E ad s)) (As := [.int x2, .int 6, .int k3]) (rest := []) 0 lk_X7_74 (c_md_put (Nat.le_refl _)) (by omega) (fun _ => rfl) rfl rfl rfl rfl (Nat.le_of_ble_eq_true rfl) dX7_readsBody_16 rfl ?_
    rintro μ16
    try dsimp only
    refine b_goto (n := 33) dX7_readsBody_19 (by decide) ?_
    refine b_iconst (n := 34) (v := -1) dX7_readsBody_33 rfl (by decide) ?_
    refine b_istore (n := 36) (L' := [(4, .int ((-1))), (3, .int k3), (0, .ref (ad 0)), (1, .int x1), (2, .int x2)]) dX7_readsBody_34 rfl (Nat.le_of_ble_eq_true rfl) rfl ?_
    refine Bd.sub (L' := [(0, .ref (ad 0)), (3, .int k3), (4, .int ((-1)))]) [2, 1, 0] rfl ?_
    exact w_md_readsBody_36 hdB hB hd _ _ _ _
def kn_mread (N : Nat) : Nat → Int32 → Int32 → Mem → Option (Bool × Mem)
  | 0, _, _, _ => none
  | n + 1, x1, x2, μ => md_readsBody N (kn_mread N n) x1 x2 μ
set_option maxHeartbeats 400000 in
set_option maxRecDepth 100000 in
theorem cka_mread {l : Launch} {E : Ev} {ad : Nat → Nat} {N : Nat}   (n : Nat) : (∀ (x1 : Int32) (x2 : Int32) (μ : Mem), Ct l yX7_readsBody cX7_readsBody 6 (some .boolean) (6 + 3 * n) E (hM E ad μ) [.ref (ad 0), .int x1, .int x2] (fun q : Bool × Mem => (some (.int (b2i q.1)), hM E ad q.2)) (kn_mread N n x1 x2 μ)) := by
  induction n with
  | zero => exact fun _ _ _ => fun h => by cases h
  | succ n ih => exact fun _ _ _ => c_md_readsBody (by omega) (Nat.le_add_right _ _) ih
theorem ck_mread {l : Launch} {E : Ev} {ad : Nat → Nat} {N : Nat}   (n : Nat) : ∀ (x1 : Int32) (x2 : Int32) (μ : Mem), Ct l yX7_readsBody cX7_readsBody 6 (some .boolean) (6 + 3 * n) E (hM E ad μ) [.ref (ad 0), .int x1, .int x2] (fun q : Bool × Mem => (some (.int (b2i q.1)), hM E ad q.2)) (kn_mread N n x1 x2 μ) := cka_mread n
