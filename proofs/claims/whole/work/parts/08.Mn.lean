/-! the reference: partial pure functions, and the walk of each method (13) -/
def md_count (N : Nat) (μ : Mem) (x1 : Int32)  : Option (Int32) :=
  (md_isIn x1 10 17).bind fun k5 =>
  if k5 = true then
    ((rd 7593 (μ 5) ((1 + x1) - 10)).bind fun v21 =>
    some v21)
  else
    ((md_isIn x1 20 27).bind fun k28 =>
    if k28 = true then
      ((rd 7593 (μ 5) ((9 + x1) - 20)).bind fun v45 =>
      some v45)
    else
      (if x1 = 0 then
        ((rd 7593 (μ 5) 0).bind fun v93 =>
        some v93)
      else if x1 = 1 then
        ((md_instances N μ).bind fun k96 =>
        some k96)
      else if x1 = 2 then
        ((md_withStatus N μ 0).bind fun k102 =>
        some k102)
      else if x1 = 3 then
        ((md_withStatus N μ 2).bind fun k108 =>
        some k108)
      else if x1 = 4 then
        (some (μ 0 9))
      else if x1 = 5 then
        ((md_versions N μ).bind fun k118 =>
        some k118)
      else 
        (some ((-1)))))
set_option maxHeartbeats 400000 in
set_option maxRecDepth 100000 in
theorem c_md_count {l : Launch} {E : Ev} {ad : Nat → Nat} {d : Nat} {N : Nat}  {μ : Mem} {x1 : Int32}  (hd : 5 ≤ d) : Ct l yX7_count cX7_count 2 (some .int) d E (hM E ad μ) [.ref (ad 0), .int x1] (fun v : Int32 => (some (.int v), hM E ad μ)) (md_count N μ x1) := by
  refine Ct.of2 (own := RX7) (L := [(0, .ref (ad 0)), (1, .int x1)]) rfl (by decide +kernel) (Nat.le_of_ble_eq_true rfl) rfl ?_
  unfold md_count
  refine b_iload_n (n := 1) 1 dX7_count_0 rfl rfl rfl ?_
  refine b_bipush (n := 3) (v := 10) dX7_count_1 rfl (by decide) ?_
  refine b_bipush (n := 5) (v := 17) dX7_count_3 rfl (by decide) ?_
  refine bSb (n := 8) (As := [.int x1, .int 10, .int 17]) (rest := []) lk_X7_38 (c_md_isIn (Nat.le_refl _)) (by omega) rfl rfl (Nat.le_of_ble_eq_true rfl) dX7_count_5 rfl (fun k5 => ?_)
  refine b_bz (n := 11) (tgt := 23) dX7_count_8 (by decide) rfl (fun h8 => ?_) (fun h8 => ?_)
  · refine b_aload_n (n := 12) 0 dX7_count_11 rfl rfl rfl ?_
    refine b_get (n := 15) (v := .ref (ad 5)) 0 f_X7_22 dX7_count_12 rfl hM_o0 rfl ?_
    refine b_iconst (n := 16) (v := 1) dX7_count_15 rfl (by decide) ?_
    refine b_iload_n (n := 17) 1 dX7_count_16 rfl rfl rfl ?_
    refine b_iadd (n := 18) dX7_count_17 rfl ?_
    refine b_bipush (n := 20) (v := 10) dX7_count_18 rfl (by decide) ?_
    refine b_isub (n := 21) dX7_count_20 rfl ?_
    refine b_iald (n := 22) 5 dX7_count_21 rfl hM_a5 (fun v21 => ?_)
    exact b_iret dX7_count_22 rfl rfl
  · refine b_iload_n (n := 24) 1 dX7_count_23 rfl rfl rfl ?_
    refine b_bipush (n := 26) (v := 20) dX7_count_24 rfl (by decide) ?_
    refine b_bipush (n := 28) (v := 27) dX7_count_26 rfl (by decide) ?_
    refine bSb (n := 31) (As := [.int x1, .int 20, .int 27]) (rest := []) lk_X7_38 (c_md_isIn (Nat.le_refl _)) (by omega) rfl rfl (Nat.le_of_ble_eq_true rfl) dX7_count_28 rfl (fun k28 => ?_)
    refine b_bz (n := 34) (tgt := 47) dX7_count_31 (by decide) rfl (fun h31 => ?_) (fun h31 => ?_)
    · refine b_aload_n (n := 35) 0 dX7_count_34 rfl rfl rfl ?_
      refine b_get (n := 38) (v := .ref (ad 5)) 0 f_X7_22 dX7_count_35 rfl hM_o0 rfl ?_
      refine b_bipush (n := 40) (v := 9) dX7_count_38 rfl (by decide) ?_
      refine b_iload_n (n := 41) 1 dX7_count_40 rfl rfl rfl ?_
      refine b_iadd (n := 42) dX7_count_41 rfl ?_
      refine b_bipush (n := 44) (v := 20) dX7_count_42 rfl (by decide) ?_
      refine b_isub (n := 45) dX7_count_44 rfl ?_
      refine b_iald (n := 46) 5 dX7_count_45 rfl hM_a5 (fun v45 => ?_)
      exact b_iret dX7_count_46 rfl rfl
    · refine b_iload_n (n := 48) 1 dX7_count_47 rfl rfl rfl ?_
      refine b_if (fun h48_0 => ?_) (fun h48_0 => ?_)
      · refine b_tsIn (n := 88) (w := 0) h48_0 dX7_count_48 (by decide) (by decide) rfl (by decide) ?_
        refine b_aload_n (n := 89) 0 dX7_count_88 rfl rfl rfl ?_
        refine b_get (n := 92) (v := .ref (ad 5)) 0 f_X7_22 dX7_count_89 rfl hM_o0 rfl ?_
        refine b_iconst (n := 93) (v := 0) dX7_count_92 rfl (by decide) ?_
        refine b_iald (n := 94) 5 dX7_count_93 rfl hM_a5 (fun v93 => ?_)
        exact b_iret dX7_count_94 rfl rfl
      refine b_if (fun h48_1 => ?_) (fun h48_1 => ?_)
      · refine b_tsIn (n := 95) (w := 1) h48_1 dX7_count_48 (by decide) (by decide) rfl (by decide) ?_
        refine b_aload_n (n := 96) 0 dX7_count_95 rfl rfl rfl ?_
        refine bV0i (n := 99) (As := []) (rest := []) 0 lk_X7_236 (c_md_instances (Nat.le_refl _)) (by omega) rfl rfl rfl rfl (Nat.le_of_ble_eq_true rfl) dX7_count_96 rfl (fun k96 => ?_)
        exact b_iret dX7_count_99 rfl rfl
      refine b_if (fun h48_2 => ?_) (fun h48_2 => ?_)
      · refine b_tsIn (n := 100) (w := 2) h48_2 dX7_count_48 (by decide) (by decide) rfl (by decide) ?_
        refine b_aload_n (n := 101) 0 dX7_count_100 rfl rfl rfl ?_
        refine b_iconst (n := 102) (v := 0) dX7_count_101 rfl (by decide) ?_
        refine bV0i (n := 105) (As := [.int 0]) (rest := []) 0 lk_X7_288 (c_md_withStatus (Nat.le_refl _)) (by omega) rfl rfl rfl rfl (Nat.le_of_ble_eq_true rfl) dX7_count_102 rfl (fun k102 => ?_)
        exact b_iret dX7_count_105 rfl rfl
      refine b_if (fun h48_3 => ?_) (fun h48_3 => ?_)
      · refine b_tsIn (n := 106) (w := 3) h48_3 dX7_count_48 (by decide) (by decide) rfl (by decide) ?_
        refine b_aload_n (n := 107) 0 dX7_count_106 rfl rfl rfl ?_
        refine b_iconst (n := 108) (v := 2) dX7_count_107 rfl (by decide) ?_
        refine bV0i (n := 111) (As := [.int 2]) (rest := []) 0 lk_X7_288 (c_md_withStatus (Nat.le_refl _)) (by omega) rfl rfl rfl rfl (Nat.le_of_ble_eq_true rfl) dX7_count_108 rfl (fun k108 => ?_)
        exact b_iret dX7_count_111 rfl rfl
      refine b_if (fun h48_4 => ?_) (fun h48_4 => ?_)
      · refine b_tsIn (n := 112) (w := 4) h48_4 dX7_count_48 (by decide) (by decide) rfl (by decide) ?_
        refine b_aload_n (n := 113) 0 dX7_count_112 rfl rfl rfl ?_
        refine b_get (n := 116) (v := .int (μ 0 9)) 0 f_X7_42 dX7_count_113 rfl hM_o0 rfl ?_
        exact b_iret dX7_count_116 rfl rfl
      refine b_if (fun h48_5 => ?_) (fun h48_5 => ?_)
      · refine b_tsIn (n := 117) (w := 5) h48_5 dX7_count_48 (by decide) (by decide) rfl (by decide) ?_
        refine b_aload_n (n := 118) 0 dX7_count_117 rfl rfl rfl ?_
        refine bV0i (n := 121) (As := []) (rest := []) 0 lk_X7_291 (c_md_versions (Nat.le_refl _)) (by omega) rfl rfl rfl rfl (Nat.le_of_ble_eq_true rfl) dX7_count_118 rfl (fun k118 => ?_)
        exact b_iret dX7_count_121 rfl rfl
      refine b_tsOut (n := 122) dX7_count_48 (by have nh48_0 := i32_ne (k := 0) h48_0 (by decide); have nh48_1 := i32_ne (k := 1) h48_1 (by decide); have nh48_2 := i32_ne (k := 2) h48_2 (by decide); have nh48_3 := i32_ne (k := 3) h48_3 (by decide); have nh48_4 := i32_ne (k := 4) h48_4 (by decide); have nh48_5 := i32_ne (k := 5) h48_5 (by decide); omega) (by decide) ?_
      refine b_iconst (n := 123) (v := -1) dX7_count_122 rfl (by decide) ?_
      exact b_iret dX7_count_123 rfl rfl
