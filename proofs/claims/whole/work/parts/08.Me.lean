/-! the reference: partial pure functions, and the walk of each method (4) -/
def md_version_38 (N : Nat) (D : Nat) (μ : Mem)  (y1 : Int32) (y3 : Int32) (z0 : Int32)  : Option (Int32) :=
  (rd 7593 (μ 5) (17 + y1)).bind fun v51 =>
  (md_isIn z0 0 (v51 - 1)).bind fun k54 =>
  if k54 = true then
    (if y3 = 0 then
      ((rd 68 (μ 3) ((4 * ((4 * y1) + z0)) + 1)).bind fun v84 =>
      some v84)
    else
      (if y3 = 1 then
        ((md_tasksIn N μ ((4 * y1) + z0)).bind fun k96 =>
        some k96)
      else
        (if y3 = 2 then
          ((rd 68 (μ 3) ((4 * ((4 * y1) + z0)) + 2)).bind fun v117 =>
          some v117)
        else
          (if y3 = 3 then
            ((rd 68 (μ 3) ((4 * ((4 * y1) + z0)) + 3)).bind fun v136 =>
            some v136)
          else
            ((md_width N μ (kn_mwidth N μ D) ((4 * y1) + z0) 0).bind fun k144 =>
            some k144)))))
  else
    (some ((-1)))
set_option maxHeartbeats 400000 in
set_option maxRecDepth 100000 in
theorem w_md_version_38 {l : Launch} {E : Ev} {ad : Nat → Nat} {A : Nat → Prop} {d : Nat} {N : Nat} {D : Nat}  {μ : Mem}  (hd : D + 5 ≤ d)  (y1 : Int32) (y3 : Int32) (z0 : Int32) : Bd l E A RX7 cX7_version 6 (some .int) d (fun v : Int32 => (some (.int v), hM E ad μ)) 38 [(0, .ref (ad 0)), (1, .int y1), (3, .int y3)] [.int z0] (hM E ad μ) (md_version_38 N D μ y1 y3 z0) := by
  unfold md_version_38
  refine b_istore (n := 40) (L' := [(4, .int z0), (0, .ref (ad 0)), (1, .int y1), (3, .int y3)]) dX7_version_38 rfl (Nat.le_of_ble_eq_true rfl) rfl ?_
  refine b_iload (n := 42) 0 dX7_version_40 rfl rfl ?_
  refine b_iconst (n := 43) (v := 0) dX7_version_42 rfl (by decide) ?_
  refine b_aload_n (n := 44) 1 dX7_version_43 rfl rfl rfl ?_
  refine b_get (n := 47) (v := .ref (ad 5)) 0 f_X7_22 dX7_version_44 rfl hM_o0 rfl ?_
  refine b_bipush (n := 49) (v := 17) dX7_version_47 rfl (by decide) ?_
  refine b_iload_n (n := 50) 2 dX7_version_49 rfl rfl rfl ?_
  refine b_iadd (n := 51) dX7_version_50 rfl ?_
  refine b_iald (n := 52) 5 dX7_version_51 rfl hM_a5 (fun v51 => ?_)
  refine b_iconst (n := 53) (v := 1) dX7_version_52 rfl (by decide) ?_
  refine b_isub (n := 54) dX7_version_53 rfl ?_
  refine bSb (n := 57) (As := [.int z0, .int 0, .int (v51 - 1)]) (rest := []) lk_X7_38 (c_md_isIn (Nat.le_refl _)) (by omega) rfl rfl (Nat.le_of_ble_eq_true rfl) dX7_version_54 rfl (fun k54 => ?_)
  refine b_bnz (n := 60) (tgt := 62) dX7_version_57 (by decide) rfl (fun h57 => ?_) (fun h57 => ?_)
  · refine b_iconst (n := 63) (v := 4) dX7_version_62 rfl (by decide) ?_
    refine b_iload_n (n := 64) 2 dX7_version_63 rfl rfl rfl ?_
    refine b_imul (n := 65) dX7_version_64 rfl ?_
    refine b_iload (n := 67) 0 dX7_version_65 rfl rfl ?_
    refine b_iadd (n := 68) dX7_version_67 rfl ?_
    refine b_istore (n := 70) (L' := [(5, .int ((4 * y1) + z0)), (4, .int z0), (0, .ref (ad 0)), (1, .int y1), (3, .int y3)]) dX7_version_68 rfl (Nat.le_of_ble_eq_true rfl) rfl ?_
    refine b_iload_n (n := 71) 4 dX7_version_70 rfl rfl rfl ?_
    refine b_if_ne (n := 74) (tgt := 88) dX7_version_71 (by decide) rfl (fun h71 => ?_) (fun h71 => ?_)
    · refine b_aload_n (n := 75) 2 dX7_version_74 rfl rfl rfl ?_
      refine b_get (n := 78) (v := .ref (ad 3)) 0 f_X7_16 dX7_version_75 rfl hM_o0 rfl ?_
      refine b_iconst (n := 79) (v := 4) dX7_version_78 rfl (by decide) ?_
      refine b_iload (n := 81) 0 dX7_version_79 rfl rfl ?_
      refine b_imul (n := 82) dX7_version_81 rfl ?_
      refine b_iconst (n := 83) (v := 1) dX7_version_82 rfl (by decide) ?_
      refine b_iadd (n := 84) dX7_version_83 rfl ?_
      refine b_iald (n := 85) 3 dX7_version_84 rfl hM_a3 (fun v84 => ?_)
      refine b_goto (n := 147) dX7_version_85 (by decide) ?_
      exact b_iret dX7_version_147 rfl rfl
    · refine b_iload_n (n := 89) 4 dX7_version_88 rfl rfl rfl ?_
      refine b_iconst (n := 90) (v := 1) dX7_version_89 rfl (by decide) ?_
      refine b_cmp_ne (n := 93) (tgt := 102) dX7_version_90 (by decide) rfl (fun h90 => ?_) (fun h90 => ?_)
      · refine b_aload_n (n := 94) 2 dX7_version_93 rfl rfl rfl ?_
        refine b_iload (n := 96) 0 dX7_version_94 rfl rfl ?_
        refine bV0i (n := 99) (As := [.int ((4 * y1) + z0)]) (rest := []) 0 lk_X7_156 (c_md_tasksIn (Nat.le_refl _)) (by omega) rfl rfl rfl rfl (Nat.le_of_ble_eq_true rfl) dX7_version_96 rfl (fun k96 => ?_)
        refine b_goto (n := 147) dX7_version_99 (by decide) ?_
        exact b_iret dX7_version_147 rfl rfl
      · refine b_iload_n (n := 103) 4 dX7_version_102 rfl rfl rfl ?_
        refine b_iconst (n := 104) (v := 2) dX7_version_103 rfl (by decide) ?_
        refine b_cmp_ne (n := 107) (tgt := 121) dX7_version_104 (by decide) rfl (fun h104 => ?_) (fun h104 => ?_)
        · refine b_aload_n (n := 108) 2 dX7_version_107 rfl rfl rfl ?_
          refine b_get (n := 111) (v := .ref (ad 3)) 0 f_X7_16 dX7_version_108 rfl hM_o0 rfl ?_
          refine b_iconst (n := 112) (v := 4) dX7_version_111 rfl (by decide) ?_
          refine b_iload (n := 114) 0 dX7_version_112 rfl rfl ?_
          refine b_imul (n := 115) dX7_version_114 rfl ?_
          refine b_iconst (n := 116) (v := 2) dX7_version_115 rfl (by decide) ?_
          refine b_iadd (n := 117) dX7_version_116 rfl ?_
          refine b_iald (n := 118) 3 dX7_version_117 rfl hM_a3 (fun v117 => ?_)
          refine b_goto (n := 147) dX7_version_118 (by decide) ?_
          exact b_iret dX7_version_147 rfl rfl
        · refine b_iload_n (n := 122) 4 dX7_version_121 rfl rfl rfl ?_
          refine b_iconst (n := 123) (v := 3) dX7_version_122 rfl (by decide) ?_
          refine b_cmp_ne (n := 126) (tgt := 140) dX7_version_123 (by decide) rfl (fun h123 => ?_) (fun h123 => ?_)
          · refine b_aload_n (n := 127) 2 dX7_version_126 rfl rfl rfl ?_
            refine b_get (n := 130) (v := .ref (ad 3)) 0 f_X7_16 dX7_version_127 rfl hM_o0 rfl ?_
            refine b_iconst (n := 131) (v := 4) dX7_version_130 rfl (by decide) ?_
            refine b_iload (n := 133) 0 dX7_version_131 rfl rfl ?_
            refine b_imul (n := 134) dX7_version_133 rfl ?_
            refine b_iconst (n := 135) (v := 3) dX7_version_134 rfl (by decide) ?_
            refine b_iadd (n := 136) dX7_version_135 rfl ?_
            refine b_iald (n := 137) 3 dX7_version_136 rfl hM_a3 (fun v136 => ?_)
            refine b_goto (n := 147) dX7_version_137 (by decide) ?_
            exact b_iret dX7_version_147 rfl rfl
          · refine b_aload_n (n := 141) 2 dX7_version_140 rfl rfl rfl ?_
            refine b_iload (n := 143) 0 dX7_version_141 rfl rfl ?_
            refine b_iconst (n := 144) (v := 0) dX7_version_143 rfl (by decide) ?_
            refine bV0i (n := 147) (As := [.int ((4 * y1) + z0), .int 0]) (rest := []) 0 lk_X7_150 (c_md_width (Nat.le_refl _) (Nat.le_add_right _ _) (ck_mwidth D)) (by omega) rfl rfl rfl rfl (Nat.le_of_ble_eq_true rfl) dX7_version_144 rfl (fun k144 => ?_)
            exact b_iret dX7_version_147 rfl rfl
  · refine b_iconst (n := 61) (v := -1) dX7_version_60 rfl (by decide) ?_
    exact b_iret dX7_version_61 rfl rfl
def md_version (N : Nat) (D : Nat) (μ : Mem) (x1 : Int32) (x2 : Int32) (x3 : Int32)  : Option (Int32) :=
  (md_isWorkflow x1).bind fun k1 =>
  if k1 = true then
    ((md_isIn x3 0 4).bind fun k10 =>
    if k10 = true then
      (if x2 = (-1) then
        ((rd 7593 (μ 5) (17 + x1)).bind fun v31 =>
        md_version_38 N D μ x1 x3 (v31 - 1))
      else
        (md_version_38 N D μ x1 x3 x2))
    else
      (some ((-1))))
  else
    (some ((-1)))
set_option maxHeartbeats 400000 in
set_option maxRecDepth 100000 in
theorem c_md_version {l : Launch} {E : Ev} {ad : Nat → Nat} {d : Nat} {N : Nat} {D : Nat}  {μ : Mem} {x1 : Int32} {x2 : Int32} {x3 : Int32}  (hd : D + 5 ≤ d) : Ct l yX7_version cX7_version 6 (some .int) d E (hM E ad μ) [.ref (ad 0), .int x1, .int x2, .int x3] (fun v : Int32 => (some (.int v), hM E ad μ)) (md_version N D μ x1 x2 x3) := by
  refine Ct.of2 (own := RX7) (L := [(0, .ref (ad 0)), (1, .int x1), (2, .int x2), (3, .int x3)]) rfl (by decide +kernel) (Nat.le_of_ble_eq_true rfl) rfl ?_
  unfold md_version
  refine b_iload_n (n := 1) 1 dX7_version_0 rfl rfl rfl ?_
  refine bSb (n := 4) (As := [.int x1]) (rest := []) lk_X7_138 (c_md_isWorkflow (Nat.le_refl _)) (by omega) rfl rfl (Nat.le_of_ble_eq_true rfl) dX7_version_1 rfl (fun k1 => ?_)
  refine b_bz (n := 7) (tgt := 16) dX7_version_4 (by decide) rfl (fun h4 => ?_) (fun h4 => ?_)
  · refine b_iload_n (n := 8) 3 dX7_version_7 rfl rfl rfl ?_
    refine b_iconst (n := 9) (v := 0) dX7_version_8 rfl (by decide) ?_
    refine b_iconst (n := 10) (v := 4) dX7_version_9 rfl (by decide) ?_
    refine bSb (n := 13) (As := [.int x3, .int 0, .int 4]) (rest := []) lk_X7_38 (c_md_isIn (Nat.le_refl _)) (by omega) rfl rfl (Nat.le_of_ble_eq_true rfl) dX7_version_10 rfl (fun k10 => ?_)
    refine b_bnz (n := 16) (tgt := 18) dX7_version_13 (by decide) rfl (fun h13 => ?_) (fun h13 => ?_)
    · refine b_iload_n (n := 19) 2 dX7_version_18 rfl rfl rfl ?_
      refine b_iconst (n := 20) (v := -1) dX7_version_19 rfl (by decide) ?_
      refine b_cmp_ne (n := 23) (tgt := 37) dX7_version_20 (by decide) rfl (fun h20 => ?_) (fun h20 => ?_)
      · refine b_aload_n (n := 24) 0 dX7_version_23 rfl rfl rfl ?_
        refine b_get (n := 27) (v := .ref (ad 5)) 0 f_X7_22 dX7_version_24 rfl hM_o0 rfl ?_
        refine b_bipush (n := 29) (v := 17) dX7_version_27 rfl (by decide) ?_
        refine b_iload_n (n := 30) 1 dX7_version_29 rfl rfl rfl ?_
        refine b_iadd (n := 31) dX7_version_30 rfl ?_
        refine b_iald (n := 32) 5 dX7_version_31 rfl hM_a5 (fun v31 => ?_)
        refine b_iconst (n := 33) (v := 1) dX7_version_32 rfl (by decide) ?_
        refine b_isub (n := 34) dX7_version_33 rfl ?_
        refine b_goto (n := 38) dX7_version_34 (by decide) ?_
        refine Bd.sub (L' := [(0, .ref (ad 0)), (1, .int x1), (3, .int x3)]) [0, 1, 3] rfl ?_
        exact w_md_version_38 hd _ _ _
      · refine b_iload_n (n := 38) 2 dX7_version_37 rfl rfl rfl ?_
        refine Bd.sub (L' := [(0, .ref (ad 0)), (1, .int x1), (3, .int x3)]) [0, 1, 3] rfl ?_
        exact w_md_version_38 hd _ _ _
    · refine b_iconst (n := 17) (v := -1) dX7_version_16 rfl (by decide) ?_
      exact b_iret dX7_version_17 rfl rfl
  · refine b_iconst (n := 17) (v := -1) dX7_version_16 rfl (by decide) ?_
    exact b_iret dX7_version_17 rfl rfl
def md_duration  (x1 : Int32) (x2 : Int32) (μ : Mem) : Option (Int32 × Mem) :=
  (md_isCode x1).bind fun k1 =>
  if k1 = true then
    ((md_isIn x2 0 99).bind fun k13 =>
    if k13 = true then
      ((rd 7593 (μ 5) (1 + x1)).bind fun v29 =>
      ck 7593 (1 + x1) <|
      some (v29, up μ 5 (1 + x1).toNatClampNeg x2))
    else
      (some ((-2), μ)))
  else
    (some ((-1), μ))
set_option maxHeartbeats 400000 in
set_option maxRecDepth 100000 in
theorem c_md_duration {l : Launch} {E : Ev} {ad : Nat → Nat} {d : Nat}    {x1 : Int32} {x2 : Int32} {μ : Mem} (hd : 3 ≤ d) : Ct l yX7_duration cX7_duration 4 (some .int) d E (hM E ad μ) [.ref (ad 0), .int x1, .int x2] (fun q : Int32 × Mem => (some (.int q.1), hM E ad q.2)) (md_duration x1 x2 μ) := by
  refine Ct.of2 (own := RX7) (L := [(0, .ref (ad 0)), (1, .int x1), (2, .int x2)]) rfl (by decide +kernel) (Nat.le_of_ble_eq_true rfl) rfl ?_
  unfold md_duration
  refine b_iload_n (n := 1) 1 dX7_duration_0 rfl rfl rfl ?_
  refine bSb (n := 4) (As := [.int x1]) (rest := []) lk_X7_160 (c_md_isCode (Nat.le_refl _)) (by omega) rfl rfl (Nat.le_of_ble_eq_true rfl) dX7_duration_1 rfl (fun k1 => ?_)
  refine b_bnz (n := 7) (tgt := 9) dX7_duration_4 (by decide) rfl (fun h4 => ?_) (fun h4 => ?_)
  · refine b_iload_n (n := 10) 2 dX7_duration_9 rfl rfl rfl ?_
    refine b_iconst (n := 11) (v := 0) dX7_duration_10 rfl (by decide) ?_
    refine b_bipush (n := 13) (v := 99) dX7_duration_11 rfl (by decide) ?_
    refine bSb (n := 16) (As := [.int x2, .int 0, .int 99]) (rest := []) lk_X7_38 (c_md_isIn (Nat.le_refl _)) (by omega) rfl rfl (Nat.le_of_ble_eq_true rfl) dX7_duration_13 rfl (fun k13 => ?_)
    refine b_bnz (n := 19) (tgt := 22) dX7_duration_16 (by decide) rfl (fun h16 => ?_) (fun h16 => ?_)
    · refine b_aload_n (n := 23) 0 dX7_duration_22 rfl rfl rfl ?_
      refine b_get (n := 26) (v := .ref (ad 5)) 0 f_X7_22 dX7_duration_23 rfl hM_o0 rfl ?_
      refine b_iconst (n := 27) (v := 1) dX7_duration_26 rfl (by decide) ?_
      refine b_iload_n (n := 28) 1 dX7_duration_27 rfl rfl rfl ?_
      refine b_iadd (n := 29) dX7_duration_28 rfl ?_
      refine b_iald (n := 30) 5 dX7_duration_29 rfl hM_a5 (fun v29 => ?_)
      refine b_istore_n (n := 31) (L' := [(3, .int v29), (0, .ref (ad 0)), (1, .int x1), (2, .int x2)]) dX7_duration_30 rfl rfl (Nat.le_of_ble_eq_true rfl) rfl ?_
      refine b_aload_n (n := 32) 1 dX7_duration_31 rfl rfl rfl ?_
      refine b_get (n := 35) (v := .ref (ad 5)) 0 f_X7_22 dX7_duration_32 rfl hM_o0 rfl ?_
      refine b_iconst (n := 36) (v := 1) dX7_duration_35 rfl (by decide) ?_
      refine b_iload_n (n := 37) 2 dX7_duration_36 rfl rfl rfl ?_
      refine b_iadd (n := 38) dX7_duration_37 rfl ?_
      refine b_iload_n (n := 39) 3 dX7_duration_38 rfl rfl rfl ?_
      refine b_iast (n := 40) (ws' := hM E ad (up μ 5 (1 + x1).toNatClampNeg x2)) 5 dX7_duration_39 rfl hM_a5 hM_s5 ?_
      refine b_iload_n (n := 41) 0 dX7_duration_40 rfl rfl rfl ?_
      exact b_iret dX7_duration_41 rfl rfl
    · refine b_bipush (n := 21) (v := -2) dX7_duration_19 rfl (by decide) ?_
      exact b_iret dX7_duration_21 rfl rfl
  · refine b_iconst (n := 8) (v := -1) dX7_duration_7 rfl (by decide) ?_
    exact b_iret dX7_duration_8 rfl rfl
def md_failures  (x1 : Int32) (x2 : Int32) (μ : Mem) : Option (Int32 × Mem) :=
  (md_isCode x1).bind fun k1 =>
  if k1 = true then
    ((md_isIn x2 0 99).bind fun k13 =>
    if k13 = true then
      ((rd 7593 (μ 5) (9 + x1)).bind fun v30 =>
      ck 7593 (9 + x1) <|
      some (v30, up μ 5 (9 + x1).toNatClampNeg x2))
    else
      (some ((-2), μ)))
  else
    (some ((-1), μ))
set_option maxHeartbeats 400000 in
set_option maxRecDepth 100000 in
theorem c_md_failures {l : Launch} {E : Ev} {ad : Nat → Nat} {d : Nat}    {x1 : Int32} {x2 : Int32} {μ : Mem} (hd : 3 ≤ d) : Ct l yX7_failures cX7_failures 4 (some .int) d E (hM E ad μ) [.ref (ad 0), .int x1, .int x2] (fun q : Int32 × Mem => (some (.int q.1), hM E ad q.2)) (md_failures x1 x2 μ) := by
  refine Ct.of2 (own := RX7) (L := [(0, .ref (ad 0)), (1, .int x1), (2, .int x2)]) rfl (by decide +kernel) (Nat.le_of_ble_eq_true rfl) rfl ?_
  unfold md_failures
  refine b_iload_n (n := 1) 1 dX7_failures_0 rfl rfl rfl ?_
  refine bSb (n := 4) (As := [.int x1]) (rest := []) lk_X7_160 (c_md_isCode (Nat.le_refl _)) (by omega) rfl rfl (Nat.le_of_ble_eq_true rfl) dX7_failures_1 rfl (fun k1 => ?_)
  refine b_bnz (n := 7) (tgt := 9) dX7_failures_4 (by decide) rfl (fun h4 => ?_) (fun h4 => ?_)
  · refine b_iload_n (n := 10) 2 dX7_failures_9 rfl rfl rfl ?_
    refine b_iconst (n := 11) (v := 0) dX7_failures_10 rfl (by decide) ?_
    refine b_bipush (n := 13) (v := 99) dX7_failures_11 rfl (by decide) ?_
    refine bSb (n := 16) (As := [.int x2, .int 0, .int 99]) (rest := []) lk_X7_38 (c_md_isIn (Nat.le_refl _)) (by omega) rfl rfl (Nat.le_of_ble_eq_true rfl) dX7_failures_13 rfl (fun k13 => ?_)
    refine b_bnz (n := 19) (tgt := 22) dX7_failures_16 (by decide) rfl (fun h16 => ?_) (fun h16 => ?_)
    · refine b_aload_n (n := 23) 0 dX7_failures_22 rfl rfl rfl ?_
      refine b_get (n := 26) (v := .ref (ad 5)) 0 f_X7_22 dX7_failures_23 rfl hM_o0 rfl ?_
      refine b_bipush (n := 28) (v := 9) dX7_failures_26 rfl (by decide) ?_
      refine b_iload_n (n := 29) 1 dX7_failures_28 rfl rfl rfl ?_
      refine b_iadd (n := 30) dX7_failures_29 rfl ?_
      refine b_iald (n := 31) 5 dX7_failures_30 rfl hM_a5 (fun v30 => ?_)
      refine b_istore_n (n := 32) (L' := [(3, .int v30), (0, .ref (ad 0)), (1, .int x1), (2, .int x2)]) dX7_failures_31 rfl rfl (Nat.le_of_ble_eq_true rfl) rfl ?_
      refine b_aload_n (n := 33) 1 dX7_failures_32 rfl rfl rfl ?_
      refine b_get (n := 36) (v := .ref (ad 5)) 0 f_X7_22 dX7_failures_33 rfl hM_o0 rfl ?_
      refine b_bipush (n := 38) (v := 9) dX7_failures_36 rfl (by decide) ?_
      refine b_iload_n (n := 39) 2 dX7_failures_38 rfl rfl rfl ?_
      refine b_iadd (n := 40) dX7_failures_39 rfl ?_
      refine b_iload_n (n := 41) 3 dX7_failures_40 rfl rfl rfl ?_
      refine b_iast (n := 42) (ws' := hM E ad (up μ 5 (9 + x1).toNatClampNeg x2)) 5 dX7_failures_41 rfl hM_a5 hM_s5 ?_
      refine b_iload_n (n := 43) 0 dX7_failures_42 rfl rfl rfl ?_
      exact b_iret dX7_failures_43 rfl rfl
    · refine b_bipush (n := 21) (v := -2) dX7_failures_19 rfl (by decide) ?_
      exact b_iret dX7_failures_21 rfl rfl
  · refine b_iconst (n := 8) (v := -1) dX7_failures_7 rfl (by decide) ?_
    exact b_iret dX7_failures_8 rfl rfl
def md_fails  (x1 : Int32) (μ : Mem) : Option (Bool × Mem) :=
  (rd 7593 (μ 5) (9 + x1)).bind fun v8 =>
  if v8 = 0 then
    (some (false, μ))
  else
    ((rd 7593 (μ 5) (9 + x1)).bind fun v23 =>
    ck 7593 (9 + x1) <|
    some (true, up μ 5 (9 + x1).toNatClampNeg (v23 - 1)))
set_option maxHeartbeats 400000 in
set_option maxRecDepth 100000 in
theorem c_md_fails {l : Launch} {E : Ev} {ad : Nat → Nat} {d : Nat}    {x1 : Int32} {μ : Mem} (hd : 1 ≤ d) : Ct l yX7_fails cX7_fails 2 (some .boolean) d E (hM E ad μ) [.ref (ad 0), .int x1] (fun q : Bool × Mem => (some (.int (b2i q.1)), hM E ad q.2)) (md_fails x1 μ) := by
  refine Ct.of2 (own := RX7) (L := [(0, .ref (ad 0)), (1, .int x1)]) rfl (by decide +kernel) (Nat.le_of_ble_eq_true rfl) rfl ?_
  unfold md_fails
  refine b_aload_n (n := 1) 0 dX7_fails_0 rfl rfl rfl ?_
  refine b_get (n := 4) (v := .ref (ad 5)) 0 f_X7_22 dX7_fails_1 rfl hM_o0 rfl ?_
  refine b_bipush (n := 6) (v := 9) dX7_fails_4 rfl (by decide) ?_
  refine b_iload_n (n := 7) 1 dX7_fails_6 rfl rfl rfl ?_
  refine b_iadd (n := 8) dX7_fails_7 rfl ?_
  refine b_iald (n := 9) 5 dX7_fails_8 rfl hM_a5 (fun v8 => ?_)
  refine b_if_ne (n := 12) (tgt := 14) dX7_fails_9 (by decide) rfl (fun h9 => ?_) (fun h9 => ?_)
  · refine b_iconst (n := 13) (v := 0) dX7_fails_12 rfl (by decide) ?_
    exact b_zret (b := false) dX7_fails_13 rfl rfl
  · refine b_aload_n (n := 15) 0 dX7_fails_14 rfl rfl rfl ?_
    refine b_get (n := 18) (v := .ref (ad 5)) 0 f_X7_22 dX7_fails_15 rfl hM_o0 rfl ?_
    refine b_bipush (n := 20) (v := 9) dX7_fails_18 rfl (by decide) ?_
    refine b_iload_n (n := 21) 1 dX7_fails_20 rfl rfl rfl ?_
    refine b_iadd (n := 22) dX7_fails_21 rfl ?_
    refine b_dup2 (n := 23) dX7_fails_22 rfl rfl rfl ?_
    refine b_iald (n := 24) 5 dX7_fails_23 rfl hM_a5 (fun v23 => ?_)
    refine b_iconst (n := 25) (v := 1) dX7_fails_24 rfl (by decide) ?_
    refine b_isub (n := 26) dX7_fails_25 rfl ?_
    refine b_iast (n := 27) (ws' := hM E ad (up μ 5 (9 + x1).toNatClampNeg (v23 - 1))) 5 dX7_fails_26 rfl hM_a5 hM_s5 ?_
    refine b_iconst (n := 28) (v := 1) dX7_fails_27 rfl (by decide) ?_
    exact b_zret (b := true) dX7_fails_28 rfl rfl
def md_of  (x0 : Int32) (x1 : Int32)  : Option (Int32) :=
  some ((21 + (1262 * x0)) + x1)
set_option maxHeartbeats 400000 in
set_option maxRecDepth 100000 in
theorem c_md_of {l : Launch} {E : Ev} {d : Nat}    {x0 : Int32} {x1 : Int32}  (hd : 1 ≤ d) : Ct l yX7_of cX7_of 2 (some .int) d E ([]) [.int x0, .int x1] (fun v : Int32 => (some (.int v), [])) (md_of x0 x1) := by
  refine Ct.of2 (own := RX7) (L := [(0, .int x0), (1, .int x1)]) rfl (by decide +kernel) (Nat.le_of_ble_eq_true rfl) rfl ?_
  unfold md_of
  refine b_bipush (n := 2) (v := 21) dX7_of_0 rfl (by decide) ?_
  refine b_sipush (n := 5) (v := 1262) dX7_of_2 rfl (by decide) ?_
  refine b_iload_n (n := 6) 0 dX7_of_5 rfl rfl rfl ?_
  refine b_imul (n := 7) dX7_of_6 rfl ?_
  refine b_iadd (n := 8) dX7_of_7 rfl ?_
  refine b_iload_n (n := 9) 1 dX7_of_8 rfl rfl rfl ?_
  refine b_iadd (n := 10) dX7_of_9 rfl ?_
  exact b_iret dX7_of_10 rfl rfl
def md_at  (x0 : Int32) (x1 : Int32) (x2 : Int32)  : Option (Int32) :=
  (md_of x0 ((622 + (10 * x1)) + x2)).bind fun k11 =>
  some k11
set_option maxHeartbeats 400000 in
set_option maxRecDepth 100000 in
theorem c_md_at {l : Launch} {E : Ev} {d : Nat}    {x0 : Int32} {x1 : Int32} {x2 : Int32}  (hd : 2 ≤ d) : Ct l yX7_at cX7_at 3 (some .int) d E ([]) [.int x0, .int x1, .int x2] (fun v : Int32 => (some (.int v), [])) (md_at x0 x1 x2) := by
  refine Ct.of2 (own := RX7) (L := [(0, .int x0), (1, .int x1), (2, .int x2)]) rfl (by decide +kernel) (Nat.le_of_ble_eq_true rfl) rfl ?_
  unfold md_at
  refine b_iload_n (n := 1) 0 dX7_at_0 rfl rfl rfl ?_
  refine b_sipush (n := 4) (v := 622) dX7_at_1 rfl (by decide) ?_
  refine b_bipush (n := 6) (v := 10) dX7_at_4 rfl (by decide) ?_
  refine b_iload_n (n := 7) 1 dX7_at_6 rfl rfl rfl ?_
  refine b_imul (n := 8) dX7_at_7 rfl ?_
  refine b_iadd (n := 9) dX7_at_8 rfl ?_
  refine b_iload_n (n := 10) 2 dX7_at_9 rfl rfl rfl ?_
  refine b_iadd (n := 11) dX7_at_10 rfl ?_
  refine bSi (n := 14) (As := [.int x0, .int ((622 + (10 * x1)) + x2)]) (rest := []) lk_X7_163 (c_md_of (Nat.le_refl _)) (by omega) rfl rfl (Nat.le_of_ble_eq_true rfl) dX7_at_11 rfl (fun k11 => ?_)
  exact b_iret dX7_at_14 rfl rfl
def md_versionOf (μ : Mem) (x1 : Int32)  : Option (Int32) :=
  (md_of x1 2).bind fun k7 =>
  (rd 7593 (μ 5) k7).bind fun v10 =>
  (md_of x1 3).bind fun k18 =>
  (rd 7593 (μ 5) k18).bind fun v21 =>
  some ((4 * v10) + v21)
set_option maxHeartbeats 400000 in
set_option maxRecDepth 100000 in
theorem c_md_versionOf {l : Launch} {E : Ev} {ad : Nat → Nat} {d : Nat}   {μ : Mem} {x1 : Int32}  (hd : 2 ≤ d) : Ct l yX7_versionOf cX7_versionOf 2 (some .int) d E (hM E ad μ) [.ref (ad 0), .int x1] (fun v : Int32 => (some (.int v), hM E ad μ)) (md_versionOf μ x1) := by
  refine Ct.of2 (own := RX7) (L := [(0, .ref (ad 0)), (1, .int x1)]) rfl (by decide +kernel) (Nat.le_of_ble_eq_true rfl) rfl ?_
  unfold md_versionOf
  refine b_iconst (n := 1) (v := 4) dX7_versionOf_0 rfl (by decide) ?_
  refine b_aload_n (n := 2) 0 dX7_versionOf_1 rfl rfl rfl ?_
  refine b_get (n := 5) (v := .ref (ad 5)) 0 f_X7_22 dX7_versionOf_2 rfl hM_o0 rfl ?_
  refine b_iload_n (n := 6) 1 dX7_versionOf_5 rfl rfl rfl ?_
  refine b_iconst (n := 7) (v := 2) dX7_versionOf_6 rfl (by decide) ?_
  refine bSi (n := 10) (As := [.int x1, .int 2]) (rest := [.ref (ad 5), .int 4]) lk_X7_163 (c_md_of (Nat.le_refl _)) (by omega) rfl rfl (Nat.le_of_ble_eq_true rfl) dX7_versionOf_7 rfl (fun k7 => ?_)
  refine b_iald (n := 11) 5 dX7_versionOf_10 rfl hM_a5 (fun v10 => ?_)
  refine b_imul (n := 12) dX7_versionOf_11 rfl ?_
  refine b_aload_n (n := 13) 0 dX7_versionOf_12 rfl rfl rfl ?_
  refine b_get (n := 16) (v := .ref (ad 5)) 0 f_X7_22 dX7_versionOf_13 rfl hM_o0 rfl ?_
  refine b_iload_n (n := 17) 1 dX7_versionOf_16 rfl rfl rfl ?_
  refine b_iconst (n := 18) (v := 3) dX7_versionOf_17 rfl (by decide) ?_
  refine bSi (n := 21) (As := [.int x1, .int 3]) (rest := [.ref (ad 5), .int (4 * v10)]) lk_X7_163 (c_md_of (Nat.le_refl _)) (by omega) rfl rfl (Nat.le_of_ble_eq_true rfl) dX7_versionOf_18 rfl (fun k18 => ?_)
  refine b_iald (n := 22) 5 dX7_versionOf_21 rfl hM_a5 (fun v21 => ?_)
  refine b_iadd (n := 23) dX7_versionOf_22 rfl ?_
  exact b_iret dX7_versionOf_23 rfl rfl
def md_nodePart (μ : Mem) (x1 : Int32) (x2 : Int32) (x3 : Int32)  : Option (Int32) :=
  (md_versionOf μ x1).bind fun k6 =>
  (md_part k6 x2 x3).bind fun k11 =>
  (rd 9792 (μ 1) k11).bind fun v14 =>
  some v14
set_option maxHeartbeats 400000 in
set_option maxRecDepth 100000 in
theorem c_md_nodePart {l : Launch} {E : Ev} {ad : Nat → Nat} {d : Nat}   {μ : Mem} {x1 : Int32} {x2 : Int32} {x3 : Int32}  (hd : 3 ≤ d) : Ct l yX7_nodePart cX7_nodePart 4 (some .int) d E (hM E ad μ) [.ref (ad 0), .int x1, .int x2, .int x3] (fun v : Int32 => (some (.int v), hM E ad μ)) (md_nodePart μ x1 x2 x3) := by
  refine Ct.of2 (own := RX7) (L := [(0, .ref (ad 0)), (1, .int x1), (2, .int x2), (3, .int x3)]) rfl (by decide +kernel) (Nat.le_of_ble_eq_true rfl) rfl ?_
  unfold md_nodePart
  refine b_aload_n (n := 1) 0 dX7_nodePart_0 rfl rfl rfl ?_
  refine b_get (n := 4) (v := .ref (ad 1)) 0 f_X7_9 dX7_nodePart_1 rfl hM_o0 rfl ?_
  refine b_aload_n (n := 5) 0 dX7_nodePart_4 rfl rfl rfl ?_
  refine b_iload_n (n := 6) 1 dX7_nodePart_5 rfl rfl rfl ?_
  refine bV0i (n := 9) (As := [.int x1]) (rest := [.ref (ad 1)]) 0 lk_X7_166 (c_md_versionOf (Nat.le_refl _)) (by omega) rfl rfl rfl rfl (Nat.le_of_ble_eq_true rfl) dX7_nodePart_6 rfl (fun k6 => ?_)
  refine b_iload_n (n := 10) 2 dX7_nodePart_9 rfl rfl rfl ?_
  refine b_iload_n (n := 11) 3 dX7_nodePart_10 rfl rfl rfl ?_
  refine bSi (n := 14) (As := [.int k6, .int x2, .int x3]) (rest := [.ref (ad 1)]) lk_X7_67 (c_md_part (Nat.le_refl _)) (by omega) rfl rfl (Nat.le_of_ble_eq_true rfl) dX7_nodePart_11 rfl (fun k11 => ?_)
  refine b_iald (n := 15) 1 dX7_nodePart_14 rfl hM_a1 (fun v14 => ?_)
  exact b_iret dX7_nodePart_15 rfl rfl
def md_isInstance (μ : Mem) (x1 : Int32)  : Option (Bool) :=
  (md_isIn x1 0 5).bind fun k3 =>
  if k3 = true then
    ((md_of x1 0).bind fun k15 =>
    (rd 7593 (μ 5) k15).bind fun v18 =>
    if v18 = 1 then
      (some true)
    else
      (some false))
  else
    (some false)
set_option maxHeartbeats 400000 in
set_option maxRecDepth 100000 in
theorem c_md_isInstance {l : Launch} {E : Ev} {ad : Nat → Nat} {d : Nat}   {μ : Mem} {x1 : Int32}  (hd : 2 ≤ d) : Ct l yX7_isInstance cX7_isInstance 2 (some .boolean) d E (hM E ad μ) [.ref (ad 0), .int x1] (fun v : Bool => (some (.int (b2i v)), hM E ad μ)) (md_isInstance μ x1) := by
  refine Ct.of2 (own := RX7) (L := [(0, .ref (ad 0)), (1, .int x1)]) rfl (by decide +kernel) (Nat.le_of_ble_eq_true rfl) rfl ?_
  unfold md_isInstance
  refine b_iload_n (n := 1) 1 dX7_isInstance_0 rfl rfl rfl ?_
  refine b_iconst (n := 2) (v := 0) dX7_isInstance_1 rfl (by decide) ?_
  refine b_iconst (n := 3) (v := 5) dX7_isInstance_2 rfl (by decide) ?_
  refine bSb (n := 6) (As := [.int x1, .int 0, .int 5]) (rest := []) lk_X7_38 (c_md_isIn (Nat.le_refl _)) (by omega) rfl rfl (Nat.le_of_ble_eq_true rfl) dX7_isInstance_3 rfl (fun k3 => ?_)
  refine b_bz (n := 9) (tgt := 27) dX7_isInstance_6 (by decide) rfl (fun h6 => ?_) (fun h6 => ?_)
  · refine b_aload_n (n := 10) 0 dX7_isInstance_9 rfl rfl rfl ?_
    refine b_get (n := 13) (v := .ref (ad 5)) 0 f_X7_22 dX7_isInstance_10 rfl hM_o0 rfl ?_
    refine b_iload_n (n := 14) 1 dX7_isInstance_13 rfl rfl rfl ?_
    refine b_iconst (n := 15) (v := 0) dX7_isInstance_14 rfl (by decide) ?_
    refine bSi (n := 18) (As := [.int x1, .int 0]) (rest := [.ref (ad 5)]) lk_X7_163 (c_md_of (Nat.le_refl _)) (by omega) rfl rfl (Nat.le_of_ble_eq_true rfl) dX7_isInstance_15 rfl (fun k15 => ?_)
    refine b_iald (n := 19) 5 dX7_isInstance_18 rfl hM_a5 (fun v18 => ?_)
    refine b_iconst (n := 20) (v := 1) dX7_isInstance_19 rfl (by decide) ?_
    refine b_cmp_ne (n := 23) (tgt := 27) dX7_isInstance_20 (by decide) rfl (fun h20 => ?_) (fun h20 => ?_)
    · refine b_iconst (n := 24) (v := 1) dX7_isInstance_23 rfl (by decide) ?_
      refine b_goto (n := 28) dX7_isInstance_24 (by decide) ?_
      exact b_zret (b := true) dX7_isInstance_28 rfl rfl
    · refine b_iconst (n := 28) (v := 0) dX7_isInstance_27 rfl (by decide) ?_
      exact b_zret (b := false) dX7_isInstance_28 rfl rfl
  · refine b_iconst (n := 28) (v := 0) dX7_isInstance_27 rfl (by decide) ?_
    exact b_zret (b := false) dX7_isInstance_28 rfl rfl
def md_notes_81   (y1 : Int32) (μ : Mem) : Option (Mem) :=
  (md_of y1 9).bind fun k88 =>
  (rd 7593 (μ 5) k88).bind fun v92 =>
  ck 7593 k88 <|
  some (up μ 5 k88.toNatClampNeg (v92 + 1))
set_option maxHeartbeats 400000 in
set_option maxRecDepth 100000 in
theorem w_md_notes_81 {l : Launch} {E : Ev} {ad : Nat → Nat} {A : Nat → Prop} {d : Nat}     (hd : 2 ≤ d)  (y1 : Int32) (μ : Mem) : Bd l E A RX7 cX7_notes 5 none d (fun q : Mem => (none, hM E ad q)) 81 [(0, .ref (ad 0)), (1, .int y1)] [] (hM E ad μ) (md_notes_81 y1 μ) := by
  unfold md_notes_81
  refine b_aload_n (n := 82) 0 dX7_notes_81 rfl rfl rfl ?_
  refine b_get (n := 85) (v := .ref (ad 5)) 0 f_X7_22 dX7_notes_82 rfl hM_o0 rfl ?_
  refine b_iload_n (n := 86) 1 dX7_notes_85 rfl rfl rfl ?_
  refine b_bipush (n := 88) (v := 9) dX7_notes_86 rfl (by decide) ?_
  refine bSi (n := 91) (As := [.int y1, .int 9]) (rest := [.ref (ad 5)]) lk_X7_163 (c_md_of (Nat.le_refl _)) (by omega) rfl rfl (Nat.le_of_ble_eq_true rfl) dX7_notes_88 rfl (fun k88 => ?_)
  refine b_dup2 (n := 92) dX7_notes_91 rfl rfl rfl ?_
  refine b_iald (n := 93) 5 dX7_notes_92 rfl hM_a5 (fun v92 => ?_)
  refine b_iconst (n := 94) (v := 1) dX7_notes_93 rfl (by decide) ?_
  refine b_iadd (n := 95) dX7_notes_94 rfl ?_
  refine b_iast (n := 96) (ws' := hM E ad (up μ 5 k88.toNatClampNeg (v92 + 1))) 5 dX7_notes_95 rfl hM_a5 hM_s5 ?_
  exact b_vret dX7_notes_96 rfl rfl
def md_notes  (x1 : Int32) (x2 : Int32) (x3 : Int32) (μ : Mem) : Option (Mem) :=
  (md_of x1 9).bind fun k7 =>
  (rd 7593 (μ 5) k7).bind fun v10 =>
  if v10 < 200 then
    ((md_of x1 (22 + (3 * v10))).bind fun k33 =>
    (rd 7593 (μ 5) 0).bind fun v41 =>
    ck 7593 k33 <|
    (md_of x1 ((22 + (3 * v10)) + 1)).bind fun k57 =>
    ck 7593 k57 <|
    (md_of x1 ((22 + (3 * v10)) + 2)).bind fun k76 =>
    ck 7593 k76 <|
    md_notes_81 x1 (up (up (up μ 5 k33.toNatClampNeg v41) 5 k57.toNatClampNeg x2) 5 k76.toNatClampNeg x3))
  else
    (md_notes_81 x1 μ)
set_option maxHeartbeats 400000 in
set_option maxRecDepth 100000 in
theorem c_md_notes {l : Launch} {E : Ev} {ad : Nat → Nat} {d : Nat}    {x1 : Int32} {x2 : Int32} {x3 : Int32} {μ : Mem} (hd : 2 ≤ d) : Ct l yX7_notes cX7_notes 5 none d E (hM E ad μ) [.ref (ad 0), .int x1, .int x2, .int x3] (fun q : Mem => (none, hM E ad q)) (md_notes x1 x2 x3 μ) := by
  refine Ct.of2 (own := RX7) (L := [(0, .ref (ad 0)), (1, .int x1), (2, .int x2), (3, .int x3)]) rfl (by decide +kernel) (Nat.le_of_ble_eq_true rfl) rfl ?_
  unfold md_notes
  refine b_aload_n (n := 1) 0 dX7_notes_0 rfl rfl rfl ?_
  refine b_get (n := 4) (v := .ref (ad 5)) 0 f_X7_22 dX7_notes_1 rfl hM_o0 rfl ?_
  refine b_iload_n (n := 5) 1 dX7_notes_4 rfl rfl rfl ?_
  refine b_bipush (n := 7) (v := 9) dX7_notes_5 rfl (by decide) ?_
  refine bSi (n := 10) (As := [.int x1, .int 9]) (rest := [.ref (ad 5)]) lk_X7_163 (c_md_of (Nat.le_refl _)) (by omega) rfl rfl (Nat.le_of_ble_eq_true rfl) dX7_notes_7 rfl (fun k7 => ?_)
  refine b_iald (n := 11) 5 dX7_notes_10 rfl hM_a5 (fun v10 => ?_)
  refine b_istore (n := 13) (L' := [(4, .int v10), (0, .ref (ad 0)), (1, .int x1), (2, .int x2), (3, .int x3)]) dX7_notes_11 rfl (Nat.le_of_ble_eq_true rfl) rfl ?_
  refine b_iload (n := 15) 0 dX7_notes_13 rfl rfl ?_
  refine b_sipush (n := 18) (v := 200) dX7_notes_15 rfl (by decide) ?_
  refine b_cmp_ge (n := 21) (tgt := 81) dX7_notes_18 (by decide) rfl (fun h18 => ?_) (fun h18 => ?_)
  · refine b_aload_n (n := 22) 1 dX7_notes_21 rfl rfl rfl ?_
    refine b_get (n := 25) (v := .ref (ad 5)) 0 f_X7_22 dX7_notes_22 rfl hM_o0 rfl ?_
    refine b_iload_n (n := 26) 2 dX7_notes_25 rfl rfl rfl ?_
    refine b_bipush (n := 28) (v := 22) dX7_notes_26 rfl (by decide) ?_
    refine b_iconst (n := 29) (v := 3) dX7_notes_28 rfl (by decide) ?_
    refine b_iload (n := 31) 0 dX7_notes_29 rfl rfl ?_
    refine b_imul (n := 32) dX7_notes_31 rfl ?_
    refine b_iadd (n := 33) dX7_notes_32 rfl ?_
    refine bSi (n := 36) (As := [.int x1, .int (22 + (3 * v10))]) (rest := [.ref (ad 5)]) lk_X7_163 (c_md_of (Nat.le_refl _)) (by omega) rfl rfl (Nat.le_of_ble_eq_true rfl) dX7_notes_33 rfl (fun k33 => ?_)
    refine b_aload_n (n := 37) 1 dX7_notes_36 rfl rfl rfl ?_
    refine b_get (n := 40) (v := .ref (ad 5)) 0 f_X7_22 dX7_notes_37 rfl hM_o0 rfl ?_
    refine b_iconst (n := 41) (v := 0) dX7_notes_40 rfl (by decide) ?_
    refine b_iald (n := 42) 5 dX7_notes_41 rfl hM_a5 (fun v41 => ?_)
    refine b_iast (n := 43) (ws' := hM E ad (up μ 5 k33.toNatClampNeg v41)) 5 dX7_notes_42 rfl hM_a5 hM_s5 ?_
    refine b_aload_n (n := 44) 1 dX7_notes_43 rfl rfl rfl ?_
    refine b_get (n := 47) (v := .ref (ad 5)) 0 f_X7_22 dX7_notes_44 rfl hM_o0 rfl ?_
    refine b_iload_n (n := 48) 2 dX7_notes_47 rfl rfl rfl ?_
    refine b_bipush (n := 50) (v := 22) dX7_notes_48 rfl (by decide) ?_
    refine b_iconst (n := 51) (v := 3) dX7_notes_50 rfl (by decide) ?_
    refine b_iload (n := 53) 0 dX7_notes_51 rfl rfl ?_
    refine b_imul (n := 54) dX7_notes_53 rfl ?_
    refine b_iadd (n := 55) dX7_notes_54 rfl ?_
    refine b_iconst (n := 56) (v := 1) dX7_notes_55 rfl (by decide) ?_
    refine b_iadd (n := 57) dX7_notes_56 rfl ?_
    refine bSi (n := 60) (As := [.int x1, .int ((22 + (3 * v10)) + 1)]) (rest := [.ref (ad 5)]) lk_X7_163 (c_md_of (Nat.le_refl _)) (by omega) rfl rfl (Nat.le_of_ble_eq_true rfl) dX7_notes_57 rfl (fun k57 => ?_)
    refine b_iload_n (n := 61) 3 dX7_notes_60 rfl rfl rfl ?_
    refine b_iast (n := 62) (ws' := hM E ad (up (up μ 5 k33.toNatClampNeg v41) 5 k57.toNatClampNeg x2)) 5 dX7_notes_61 rfl hM_a5 hM_s5 ?_
    refine b_aload_n (n := 63) 1 dX7_notes_62 rfl rfl rfl ?_
    refine b_get (n := 66) (v := .ref (ad 5)) 0 f_X7_22 dX7_notes_63 rfl hM_o0 rfl ?_
    refine b_iload_n (n := 67) 2 dX7_notes_66 rfl rfl rfl ?_
    refine b_bipush (n := 69) (v := 22) dX7_notes_67 rfl (by decide) ?_
    refine b_iconst (n := 70) (v := 3) dX7_notes_69 rfl (by decide) ?_
    refine b_iload (n := 72) 0 dX7_notes_70 rfl rfl ?_
    refine b_imul (n := 73) dX7_notes_72 rfl ?_
    refine b_iadd (n := 74) dX7_notes_73 rfl ?_
    refine b_iconst (n := 75) (v := 2) dX7_notes_74 rfl (by decide) ?_
    refine b_iadd (n := 76) dX7_notes_75 rfl ?_
    refine bSi (n := 79) (As := [.int x1, .int ((22 + (3 * v10)) + 2)]) (rest := [.ref (ad 5)]) lk_X7_163 (c_md_of (Nat.le_refl _)) (by omega) rfl rfl (Nat.le_of_ble_eq_true rfl) dX7_notes_76 rfl (fun k76 => ?_)
    refine b_iload_n (n := 80) 4 dX7_notes_79 rfl rfl rfl ?_
    refine b_iast (n := 81) (ws' := hM E ad (up (up (up μ 5 k33.toNatClampNeg v41) 5 k57.toNatClampNeg x2) 5 k76.toNatClampNeg x3)) 5 dX7_notes_80 rfl hM_a5 hM_s5 ?_
    refine Bd.sub (L' := [(0, .ref (ad 0)), (1, .int x1)]) [1, 2] rfl ?_
    exact w_md_notes_81 hd _ _
  · refine Bd.sub (L' := [(0, .ref (ad 0)), (1, .int x1)]) [1, 2] rfl ?_
    exact w_md_notes_81 hd _ _
def md_comesTo  (x1 : Int32) (x2 : Int32) (x3 : Int32) (μ : Mem) : Option (Int32 × Mem) :=
  (md_at x1 x2 0).bind fun k7 =>
  ck 7593 k7 <|
  some (x3, up μ 5 k7.toNatClampNeg x3)
set_option maxHeartbeats 400000 in
set_option maxRecDepth 100000 in
theorem c_md_comesTo {l : Launch} {E : Ev} {ad : Nat → Nat} {d : Nat}    {x1 : Int32} {x2 : Int32} {x3 : Int32} {μ : Mem} (hd : 3 ≤ d) : Ct l yX7_comesTo cX7_comesTo 4 (some .int) d E (hM E ad μ) [.ref (ad 0), .int x1, .int x2, .int x3] (fun q : Int32 × Mem => (some (.int q.1), hM E ad q.2)) (md_comesTo x1 x2 x3 μ) := by
  refine Ct.of2 (own := RX7) (L := [(0, .ref (ad 0)), (1, .int x1), (2, .int x2), (3, .int x3)]) rfl (by decide +kernel) (Nat.le_of_ble_eq_true rfl) rfl ?_
  unfold md_comesTo
  refine b_aload_n (n := 1) 0 dX7_comesTo_0 rfl rfl rfl ?_
  refine b_get (n := 4) (v := .ref (ad 5)) 0 f_X7_22 dX7_comesTo_1 rfl hM_o0 rfl ?_
  refine b_iload_n (n := 5) 1 dX7_comesTo_4 rfl rfl rfl ?_
  refine b_iload_n (n := 6) 2 dX7_comesTo_5 rfl rfl rfl ?_
  refine b_iconst (n := 7) (v := 0) dX7_comesTo_6 rfl (by decide) ?_
  refine bSi (n := 10) (As := [.int x1, .int x2, .int 0]) (rest := [.ref (ad 5)]) lk_X7_169 (c_md_at (Nat.le_refl _)) (by omega) rfl rfl (Nat.le_of_ble_eq_true rfl) dX7_comesTo_7 rfl (fun k7 => ?_)
  refine b_iload_n (n := 11) 3 dX7_comesTo_10 rfl rfl rfl ?_
  refine b_iast (n := 12) (ws' := hM E ad (up μ 5 k7.toNatClampNeg x3)) 5 dX7_comesTo_11 rfl hM_a5 hM_s5 ?_
  refine b_iload_n (n := 13) 3 dX7_comesTo_12 rfl rfl rfl ?_
  exact b_iret dX7_comesTo_13 rfl rfl
def md_tries  (x1 : Int32) (x2 : Int32) (μ : Mem) : Option (Mem) :=
  (md_nodePart μ x1 x2 1).bind fun k4 =>
  (md_notes x1 0 k4 μ).bind fun μ12 =>
  (md_at x1 x2 2).bind fun k22 =>
  (rd 7593 (μ12 5) k22).bind fun v26 =>
  ck 7593 k22 <|
  (md_at x1 x2 3).bind fun k37 =>
  (rd 7593 ((up μ12 5 k22.toNatClampNeg (v26 + 1)) 5) 0).bind fun v45 =>
  (rd 7593 ((up μ12 5 k22.toNatClampNeg (v26 + 1)) 5) (1 + k4)).bind fun v53 =>
  ck 7593 k37 <|
  some (up (up μ12 5 k22.toNatClampNeg (v26 + 1)) 5 k37.toNatClampNeg (v45 + v53))
set_option maxHeartbeats 400000 in
set_option maxRecDepth 100000 in
theorem c_md_tries {l : Launch} {E : Ev} {ad : Nat → Nat} {d : Nat}    {x1 : Int32} {x2 : Int32} {μ : Mem} (hd : 4 ≤ d) : Ct l yX7_tries cX7_tries 4 none d E (hM E ad μ) [.ref (ad 0), .int x1, .int x2] (fun q : Mem => (none, hM E ad q)) (md_tries x1 x2 μ) := by
  refine Ct.of2 (own := RX7) (L := [(0, .ref (ad 0)), (1, .int x1), (2, .int x2)]) rfl (by decide +kernel) (Nat.le_of_ble_eq_true rfl) rfl ?_
  unfold md_tries
  refine b_aload_n (n := 1) 0 dX7_tries_0 rfl rfl rfl ?_
  refine b_iload_n (n := 2) 1 dX7_tries_1 rfl rfl rfl ?_
  refine b_iload_n (n := 3) 2 dX7_tries_2 rfl rfl rfl ?_
  refine b_iconst (n := 4) (v := 1) dX7_tries_3 rfl (by decide) ?_
  refine bV0i (n := 7) (As := [.int x1, .int x2, .int 1]) (rest := []) 0 lk_X7_171 (c_md_nodePart (Nat.le_refl _)) (by omega) rfl rfl rfl rfl (Nat.le_of_ble_eq_true rfl) dX7_tries_4 rfl (fun k4 => ?_)
  refine b_istore_n (n := 8) (L' := [(3, .int k4), (0, .ref (ad 0)), (1, .int x1), (2, .int x2)]) dX7_tries_7 rfl rfl (Nat.le_of_ble_eq_true rfl) rfl ?_
  refine b_aload_n (n := 9) 1 dX7_tries_8 rfl rfl rfl ?_
  refine b_iload_n (n := 10) 2 dX7_tries_9 rfl rfl rfl ?_
  refine b_iconst (n := 11) (v := 0) dX7_tries_10 rfl (by decide) ?_
  refine b_iload_n (n := 12) 0 dX7_tries_11 rfl rfl rfl ?_
  refine bV0wv (n := 15) (hh := (fun s : Mem => hM E ad s)) (As := [.int x1, .int 0, .int k4]) (rest := []) 0 lk_X7_174 (c_md_notes (Nat.le_refl _)) (by omega) (fun _ => rfl) rfl rfl rfl rfl (Nat.le_of_ble_eq_true rfl) dX7_tries_12 rfl ?_
  rintro μ12
  try dsimp only
  refine b_aload_n (n := 16) 1 dX7_tries_15 rfl rfl rfl ?_
  refine b_get (n := 19) (v := .ref (ad 5)) 0 f_X7_22 dX7_tries_16 rfl hM_o0 rfl ?_
  refine b_iload_n (n := 20) 2 dX7_tries_19 rfl rfl rfl ?_
  refine b_iload_n (n := 21) 3 dX7_tries_20 rfl rfl rfl ?_
  refine b_iconst (n := 22) (v := 2) dX7_tries_21 rfl (by decide) ?_
  refine bSi (n := 25) (As := [.int x1, .int x2, .int 2]) (rest := [.ref (ad 5)]) lk_X7_169 (c_md_at (Nat.le_refl _)) (by omega) rfl rfl (Nat.le_of_ble_eq_true rfl) dX7_tries_22 rfl (fun k22 => ?_)
  refine b_dup2 (n := 26) dX7_tries_25 rfl rfl rfl ?_
  refine b_iald (n := 27) 5 dX7_tries_26 rfl hM_a5 (fun v26 => ?_)
  refine b_iconst (n := 28) (v := 1) dX7_tries_27 rfl (by decide) ?_
  refine b_iadd (n := 29) dX7_tries_28 rfl ?_
  refine b_iast (n := 30) (ws' := hM E ad (up μ12 5 k22.toNatClampNeg (v26 + 1))) 5 dX7_tries_29 rfl hM_a5 hM_s5 ?_
  refine b_aload_n (n := 31) 1 dX7_tries_30 rfl rfl rfl ?_
  refine b_get (n := 34) (v := .ref (ad 5)) 0 f_X7_22 dX7_tries_31 rfl hM_o0 rfl ?_
  refine b_iload_n (n := 35) 2 dX7_tries_34 rfl rfl rfl ?_
  refine b_iload_n (n := 36) 3 dX7_tries_35 rfl rfl rfl ?_
  refine b_iconst (n := 37) (v := 3) dX7_tries_36 rfl (by decide) ?_
  refine bSi (n := 40) (As := [.int x1, .int x2, .int 3]) (rest := [.ref (ad 5)]) lk_X7_169 (c_md_at (Nat.le_refl _)) (by omega) rfl rfl (Nat.le_of_ble_eq_true rfl) dX7_tries_37 rfl (fun k37 => ?_)
  refine b_aload_n (n := 41) 1 dX7_tries_40 rfl rfl rfl ?_
  refine b_get (n := 44) (v := .ref (ad 5)) 0 f_X7_22 dX7_tries_41 rfl hM_o0 rfl ?_
  refine b_iconst (n := 45) (v := 0) dX7_tries_44 rfl (by decide) ?_
  refine b_iald (n := 46) 5 dX7_tries_45 rfl hM_a5 (fun v45 => ?_)
  refine b_aload_n (n := 47) 1 dX7_tries_46 rfl rfl rfl ?_
  refine b_get (n := 50) (v := .ref (ad 5)) 0 f_X7_22 dX7_tries_47 rfl hM_o0 rfl ?_
  refine b_iconst (n := 51) (v := 1) dX7_tries_50 rfl (by decide) ?_
  refine b_iload_n (n := 52) 0 dX7_tries_51 rfl rfl rfl ?_
  refine b_iadd (n := 53) dX7_tries_52 rfl ?_
  refine b_iald (n := 54) 5 dX7_tries_53 rfl hM_a5 (fun v53 => ?_)
  refine b_iadd (n := 55) dX7_tries_54 rfl ?_
  refine b_iast (n := 56) (ws' := hM E ad (up (up μ12 5 k22.toNatClampNeg (v26 + 1)) 5 k37.toNatClampNeg (v45 + v53))) 5 dX7_tries_55 rfl hM_a5 hM_s5 ?_
  exact b_vret dX7_tries_56 rfl rfl
