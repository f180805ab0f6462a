/-! the reference: partial pure functions, and the walk of each method (7) -/
def md_nextToCompensate_85 (N : Nat) (μ : Mem) (K8 : Int32 → Int32 → Int32 → Int32 → Int32 → Option (Int32)) (y1 : Int32) (y2 : Int32) (y3 : Int32) (y4 : Int32) (y5 : Int32) (z0 : Int32)  : Option (Int32) :=
  if z0 = 0 then
    (K8 y1 y2 y3 y4 (y5 + 1))
  else
    ((md_at y1 y5 5).bind fun k100 =>
    (rd 7593 (μ 5) k100).bind fun v103 =>
    if y4 < v103 then
      ((md_isFor N μ y1 y5 y2).bind fun k114 =>
      if k114 = true then
        ((md_at y1 y5 5).bind fun k131 =>
        (rd 7593 (μ 5) k131).bind fun v134 =>
        K8 y1 y2 y5 v134 (y5 + 1))
      else
        (K8 y1 y2 y3 y4 (y5 + 1)))
    else
      (K8 y1 y2 y3 y4 (y5 + 1)))
set_option maxHeartbeats 400000 in
set_option maxRecDepth 100000 in
theorem w_md_nextToCompensate_85 {l : Launch} {E : Ev} {ad : Nat → Nat} {A : Nat → Prop} {d : Nat} {N : Nat}  {μ : Mem} {K8 : Int32 → Int32 → Int32 → Int32 → Int32 → Option (Int32)} (hd : 5 ≤ d) (hK8 : ∀ (y1 : Int32) (y2 : Int32) (y3 : Int32) (y4 : Int32) (y5 : Int32), Bd l E A RX7 cX7_nextToCompensate 7 (some .int) d (fun v : Int32 => (some (.int v), hM E ad μ)) 8 [(0, .ref (ad 0)), (1, .int y1), (2, .int y2), (3, .int y3), (4, .int y4), (5, .int y5)] [] (hM E ad μ) (K8 y1 y2 y3 y4 y5)) (y1 : Int32) (y2 : Int32) (y3 : Int32) (y4 : Int32) (y5 : Int32) (z0 : Int32) : Bd l E A RX7 cX7_nextToCompensate 7 (some .int) d (fun v : Int32 => (some (.int v), hM E ad μ)) 85 [(0, .ref (ad 0)), (1, .int y1), (2, .int y2), (3, .int y3), (4, .int y4), (5, .int y5)] [.int z0] (hM E ad μ) (md_nextToCompensate_85 N μ K8 y1 y2 y3 y4 y5 z0) := by
  unfold md_nextToCompensate_85
  refine b_istore (n := 87) (L' := [(6, .int z0), (0, .ref (ad 0)), (1, .int y1), (2, .int y2), (3, .int y3), (4, .int y4), (5, .int y5)]) dX7_nextToCompensate_85 rfl (Nat.le_of_ble_eq_true rfl) rfl ?_
  refine b_iload (n := 89) 0 dX7_nextToCompensate_87 rfl rfl ?_
  refine b_if_eq (n := 92) (tgt := 137) dX7_nextToCompensate_89 (by decide) rfl (fun h89 => ?_) (fun h89 => ?_)
  · refine b_iinc (n := 140) (L' := [(5, .int (y5 + 1)), (6, .int z0), (0, .ref (ad 0)), (1, .int y1), (2, .int y2), (3, .int y3), (4, .int y4)]) 6 1 dX7_nextToCompensate_137 rfl rfl (by decide) (Nat.le_of_ble_eq_true rfl) rfl ?_
    refine b_goto (n := 8) dX7_nextToCompensate_140 (by decide) ?_
    refine Bd.sub (L' := [(0, .ref (ad 0)), (1, .int y1), (2, .int y2), (3, .int y3), (4, .int y4), (5, .int (y5 + 1))]) [2, 3, 4, 5, 6, 0] rfl ?_
    exact hK8 _ _ _ _ _
  · refine b_aload_n (n := 93) 1 dX7_nextToCompensate_92 rfl rfl rfl ?_
    refine b_get (n := 96) (v := .ref (ad 5)) 0 f_X7_22 dX7_nextToCompensate_93 rfl hM_o0 rfl ?_
    refine b_iload_n (n := 97) 2 dX7_nextToCompensate_96 rfl rfl rfl ?_
    refine b_iload (n := 99) 6 dX7_nextToCompensate_97 rfl rfl ?_
    refine b_iconst (n := 100) (v := 5) dX7_nextToCompensate_99 rfl (by decide) ?_
    refine bSi (n := 103) (As := [.int y1, .int y5, .int 5]) (rest := [.ref (ad 5)]) lk_X7_169 (c_md_at (Nat.le_refl _)) (by omega) rfl rfl (Nat.le_of_ble_eq_true rfl) dX7_nextToCompensate_100 rfl (fun k100 => ?_)
    refine b_iald (n := 104) 5 dX7_nextToCompensate_103 rfl hM_a5 (fun v103 => ?_)
    refine b_iload (n := 106) 5 dX7_nextToCompensate_104 rfl rfl ?_
    refine b_cmp_le (n := 109) (tgt := 137) dX7_nextToCompensate_106 (by decide) rfl (fun h106 => ?_) (fun h106 => ?_)
    · refine b_aload_n (n := 110) 1 dX7_nextToCompensate_109 rfl rfl rfl ?_
      refine b_iload_n (n := 111) 2 dX7_nextToCompensate_110 rfl rfl rfl ?_
      refine b_iload (n := 113) 6 dX7_nextToCompensate_111 rfl rfl ?_
      refine b_iload_n (n := 114) 3 dX7_nextToCompensate_113 rfl rfl rfl ?_
      refine bV0b (n := 117) (As := [.int y1, .int y5, .int y2]) (rest := []) 0 lk_X7_220 (c_md_isFor (Nat.le_refl _)) (by omega) rfl rfl rfl rfl (Nat.le_of_ble_eq_true rfl) dX7_nextToCompensate_114 rfl (fun k114 => ?_)
      refine b_bz (n := 120) (tgt := 137) dX7_nextToCompensate_117 (by decide) rfl (fun h117 => ?_) (fun h117 => ?_)
      · refine b_iload (n := 122) 6 dX7_nextToCompensate_120 rfl rfl ?_
        refine b_istore_n (n := 123) (L' := [(3, .int y5), (6, .int z0), (0, .ref (ad 0)), (1, .int y1), (2, .int y2), (4, .int y4), (5, .int y5)]) dX7_nextToCompensate_122 rfl rfl (Nat.le_of_ble_eq_true rfl) rfl ?_
        refine b_aload_n (n := 124) 2 dX7_nextToCompensate_123 rfl rfl rfl ?_
        refine b_get (n := 127) (v := .ref (ad 5)) 0 f_X7_22 dX7_nextToCompensate_124 rfl hM_o0 rfl ?_
        refine b_iload_n (n := 128) 3 dX7_nextToCompensate_127 rfl rfl rfl ?_
        refine b_iload (n := 130) 6 dX7_nextToCompensate_128 rfl rfl ?_
        refine b_iconst (n := 131) (v := 5) dX7_nextToCompensate_130 rfl (by decide) ?_
        refine bSi (n := 134) (As := [.int y1, .int y5, .int 5]) (rest := [.ref (ad 5)]) lk_X7_169 (c_md_at (Nat.le_refl _)) (by omega) rfl rfl (Nat.le_of_ble_eq_true rfl) dX7_nextToCompensate_131 rfl (fun k131 => ?_)
        refine b_iald (n := 135) 5 dX7_nextToCompensate_134 rfl hM_a5 (fun v134 => ?_)
        refine b_istore (n := 137) (L' := [(4, .int v134), (3, .int y5), (6, .int z0), (0, .ref (ad 0)), (1, .int y1), (2, .int y2), (5, .int y5)]) dX7_nextToCompensate_135 rfl (Nat.le_of_ble_eq_true rfl) rfl ?_
        refine b_iinc (n := 140) (L' := [(5, .int (y5 + 1)), (4, .int v134), (3, .int y5), (6, .int z0), (0, .ref (ad 0)), (1, .int y1), (2, .int y2)]) 6 1 dX7_nextToCompensate_137 rfl rfl (by decide) (Nat.le_of_ble_eq_true rfl) rfl ?_
        refine b_goto (n := 8) dX7_nextToCompensate_140 (by decide) ?_
        refine Bd.sub (L' := [(0, .ref (ad 0)), (1, .int y1), (2, .int y2), (3, .int y5), (4, .int v134), (5, .int (y5 + 1))]) [4, 5, 6, 2, 1, 0] rfl ?_
        exact hK8 _ _ _ _ _
      · refine b_iinc (n := 140) (L' := [(5, .int (y5 + 1)), (6, .int z0), (0, .ref (ad 0)), (1, .int y1), (2, .int y2), (3, .int y3), (4, .int y4)]) 6 1 dX7_nextToCompensate_137 rfl rfl (by decide) (Nat.le_of_ble_eq_true rfl) rfl ?_
        refine b_goto (n := 8) dX7_nextToCompensate_140 (by decide) ?_
        refine Bd.sub (L' := [(0, .ref (ad 0)), (1, .int y1), (2, .int y2), (3, .int y3), (4, .int y4), (5, .int (y5 + 1))]) [2, 3, 4, 5, 6, 0] rfl ?_
        exact hK8 _ _ _ _ _
    · refine b_iinc (n := 140) (L' := [(5, .int (y5 + 1)), (6, .int z0), (0, .ref (ad 0)), (1, .int y1), (2, .int y2), (3, .int y3), (4, .int y4)]) 6 1 dX7_nextToCompensate_137 rfl rfl (by decide) (Nat.le_of_ble_eq_true rfl) rfl ?_
      refine b_goto (n := 8) dX7_nextToCompensate_140 (by decide) ?_
      refine Bd.sub (L' := [(0, .ref (ad 0)), (1, .int y1), (2, .int y2), (3, .int y3), (4, .int y4), (5, .int (y5 + 1))]) [2, 3, 4, 5, 6, 0] rfl ?_
      exact hK8 _ _ _ _ _
def md_nextToCompensate_8 (N : Nat) (μ : Mem)  : Nat → Int32 → Int32 → Int32 → Int32 → Int32 → Option (Int32)
  | 0, _, _, _, _, _ => none
  | n + 1, y1, y2, y3, y4, y5 =>
    (md_versionOf μ y1).bind fun k17 =>
    (rd 68 (μ 3) (4 * k17)).bind fun v21 =>
    if y5 < v21 then
      ((md_nodePart μ y1 y5 0).bind fun k30 =>
      if k30 = 1 then
        ((md_at y1 y5 0).bind fun k45 =>
        (rd 7593 (μ 5) k45).bind fun v48 =>
        if v48 = 2 then
          ((md_nodePart μ y1 y5 4).bind fun k58 =>
          if k58 < 0 then
            (md_nextToCompensate_85 N μ (md_nextToCompensate_8 N μ n) y1 y2 y3 y4 y5 0)
          else
            ((md_at y1 y5 6).bind fun k73 =>
            (rd 7593 (μ 5) k73).bind fun v76 =>
            if v76 = 0 then
              (md_nextToCompensate_85 N μ (md_nextToCompensate_8 N μ n) y1 y2 y3 y4 y5 1)
            else
              (md_nextToCompensate_85 N μ (md_nextToCompensate_8 N μ n) y1 y2 y3 y4 y5 0)))
        else
          (md_nextToCompensate_85 N μ (md_nextToCompensate_8 N μ n) y1 y2 y3 y4 y5 0))
      else
        (md_nextToCompensate_85 N μ (md_nextToCompensate_8 N μ n) y1 y2 y3 y4 y5 0))
    else
      (some y3)
set_option maxHeartbeats 400000 in
set_option maxRecDepth 100000 in
theorem w_md_nextToCompensate_8 {l : Launch} {E : Ev} {ad : Nat → Nat} {A : Nat → Prop} {d : Nat} {N : Nat}  {μ : Mem}  (hd : 5 ≤ d)  (n : Nat) : ∀ (y1 : Int32) (y2 : Int32) (y3 : Int32) (y4 : Int32) (y5 : Int32), Bd l E A RX7 cX7_nextToCompensate 7 (some .int) d (fun v : Int32 => (some (.int v), hM E ad μ)) 8 [(0, .ref (ad 0)), (1, .int y1), (2, .int y2), (3, .int y3), (4, .int y4), (5, .int y5)] [] (hM E ad μ) (md_nextToCompensate_8 N μ n y1 y2 y3 y4 y5) := by
  induction n with
  | zero => intro y1 y2 y3 y4 y5; exact b_none
  | succ n ih =>
    intro y1 y2 y3 y4 y5
    rw [md_nextToCompensate_8]
    refine b_iload (n := 10) 5 dX7_nextToCompensate_8 rfl rfl ?_
    refine b_aload_n (n := 11) 0 dX7_nextToCompensate_10 rfl rfl rfl ?_
    refine b_get (n := 14) (v := .ref (ad 3)) 0 f_X7_16 dX7_nextToCompensate_11 rfl hM_o0 rfl ?_
    refine b_iconst (n := 15) (v := 4) dX7_nextToCompensate_14 rfl (by decide) ?_
    refine b_aload_n (n := 16) 0 dX7_nextToCompensate_15 rfl rfl rfl ?_
    refine b_iload_n (n := 17) 1 dX7_nextToCompensate_16 rfl rfl rfl ?_
    refine bV0i (n := 20) (As := [.int y1]) (rest := [.int 4, .ref (ad 3), .int y5]) 0 lk_X7_166 (c_md_versionOf (Nat.le_refl _)) (by omega) rfl rfl rfl rfl (Nat.le_of_ble_eq_true rfl) dX7_nextToCompensate_17 rfl (fun k17 => ?_)
    refine b_imul (n := 21) dX7_nextToCompensate_20 rfl ?_
    refine b_iald (n := 22) 3 dX7_nextToCompensate_21 rfl hM_a3 (fun v21 => ?_)
    refine b_cmp_ge (n := 25) (tgt := 143) dX7_nextToCompensate_22 (by decide) rfl (fun h22 => ?_) (fun h22 => ?_)
    · refine b_aload_n (n := 26) 0 dX7_nextToCompensate_25 rfl rfl rfl ?_
      refine b_iload_n (n := 27) 1 dX7_nextToCompensate_26 rfl rfl rfl ?_
      refine b_iload (n := 29) 5 dX7_nextToCompensate_27 rfl rfl ?_
      refine b_iconst (n := 30) (v := 0) dX7_nextToCompensate_29 rfl (by decide) ?_
      refine bV0i (n := 33) (As := [.int y1, .int y5, .int 0]) (rest := []) 0 lk_X7_171 (c_md_nodePart (Nat.le_refl _)) (by omega) rfl rfl rfl rfl (Nat.le_of_ble_eq_true rfl) dX7_nextToCompensate_30 rfl (fun k30 => ?_)
      refine b_iconst (n := 34) (v := 1) dX7_nextToCompensate_33 rfl (by decide) ?_
      refine b_cmp_ne (n := 37) (tgt := 84) dX7_nextToCompensate_34 (by decide) rfl (fun h34 => ?_) (fun h34 => ?_)
      · refine b_aload_n (n := 38) 0 dX7_nextToCompensate_37 rfl rfl rfl ?_
        refine b_get (n := 41) (v := .ref (ad 5)) 0 f_X7_22 dX7_nextToCompensate_38 rfl hM_o0 rfl ?_
        refine b_iload_n (n := 42) 1 dX7_nextToCompensate_41 rfl rfl rfl ?_
        refine b_iload (n := 44) 5 dX7_nextToCompensate_42 rfl rfl ?_
        refine b_iconst (n := 45) (v := 0) dX7_nextToCompensate_44 rfl (by decide) ?_
        refine bSi (n := 48) (As := [.int y1, .int y5, .int 0]) (rest := [.ref (ad 5)]) lk_X7_169 (c_md_at (Nat.le_refl _)) (by omega) rfl rfl (Nat.le_of_ble_eq_true rfl) dX7_nextToCompensate_45 rfl (fun k45 => ?_)
        refine b_iald (n := 49) 5 dX7_nextToCompensate_48 rfl hM_a5 (fun v48 => ?_)
        refine b_iconst (n := 50) (v := 2) dX7_nextToCompensate_49 rfl (by decide) ?_
        refine b_cmp_ne (n := 53) (tgt := 84) dX7_nextToCompensate_50 (by decide) rfl (fun h50 => ?_) (fun h50 => ?_)
        · refine b_aload_n (n := 54) 0 dX7_nextToCompensate_53 rfl rfl rfl ?_
          refine b_iload_n (n := 55) 1 dX7_nextToCompensate_54 rfl rfl rfl ?_
          refine b_iload (n := 57) 5 dX7_nextToCompensate_55 rfl rfl ?_
          refine b_iconst (n := 58) (v := 4) dX7_nextToCompensate_57 rfl (by decide) ?_
          refine bV0i (n := 61) (As := [.int y1, .int y5, .int 4]) (rest := []) 0 lk_X7_171 (c_md_nodePart (Nat.le_refl _)) (by omega) rfl rfl rfl rfl (Nat.le_of_ble_eq_true rfl) dX7_nextToCompensate_58 rfl (fun k58 => ?_)
          refine b_if_lt (n := 64) (tgt := 84) dX7_nextToCompensate_61 (by decide) rfl (fun h61 => ?_) (fun h61 => ?_)
          · refine b_iconst (n := 85) (v := 0) dX7_nextToCompensate_84 rfl (by decide) ?_
            exact w_md_nextToCompensate_85 hd (fun a0 a1 a2 a3 a4 => ih a0 a1 a2 a3 a4) _ _ _ _ _ _
          · refine b_aload_n (n := 65) 0 dX7_nextToCompensate_64 rfl rfl rfl ?_
            refine b_get (n := 68) (v := .ref (ad 5)) 0 f_X7_22 dX7_nextToCompensate_65 rfl hM_o0 rfl ?_
            refine b_iload_n (n := 69) 1 dX7_nextToCompensate_68 rfl rfl rfl ?_
            refine b_iload (n := 71) 5 dX7_nextToCompensate_69 rfl rfl ?_
            refine b_bipush (n := 73) (v := 6) dX7_nextToCompensate_71 rfl (by decide) ?_
            refine bSi (n := 76) (As := [.int y1, .int y5, .int 6]) (rest := [.ref (ad 5)]) lk_X7_169 (c_md_at (Nat.le_refl _)) (by omega) rfl rfl (Nat.le_of_ble_eq_true rfl) dX7_nextToCompensate_73 rfl (fun k73 => ?_)
            refine b_iald (n := 77) 5 dX7_nextToCompensate_76 rfl hM_a5 (fun v76 => ?_)
            refine b_if_ne (n := 80) (tgt := 84) dX7_nextToCompensate_77 (by decide) rfl (fun h77 => ?_) (fun h77 => ?_)
            · refine b_iconst (n := 81) (v := 1) dX7_nextToCompensate_80 rfl (by decide) ?_
              refine b_goto (n := 85) dX7_nextToCompensate_81 (by decide) ?_
              exact w_md_nextToCompensate_85 hd (fun a0 a1 a2 a3 a4 => ih a0 a1 a2 a3 a4) _ _ _ _ _ _
            · refine b_iconst (n := 85) (v := 0) dX7_nextToCompensate_84 rfl (by decide) ?_
              exact w_md_nextToCompensate_85 hd (fun a0 a1 a2 a3 a4 => ih a0 a1 a2 a3 a4) _ _ _ _ _ _
        · refine b_iconst (n := 85) (v := 0) dX7_nextToCompensate_84 rfl (by decide) ?_
          exact w_md_nextToCompensate_85 hd (fun a0 a1 a2 a3 a4 => ih a0 a1 a2 a3 a4) _ _ _ _ _ _
      · refine b_iconst (n := 85) (v := 0) dX7_nextToCompensate_84 rfl (by decide) ?_
        exact w_md_nextToCompensate_85 hd (fun a0 a1 a2 a3 a4 => ih a0 a1 a2 a3 a4) _ _ _ _ _ _
    · refine b_iload_n (n := 144) 3 dX7_nextToCompensate_143 rfl rfl rfl ?_
      exact b_iret dX7_nextToCompensate_144 rfl rfl
def md_nextToCompensate (N : Nat) (μ : Mem) (x1 : Int32) (x2 : Int32)  : Option (Int32) :=
  md_nextToCompensate_8 N μ N x1 x2 ((-1)) 0 0
set_option maxHeartbeats 400000 in
set_option maxRecDepth 100000 in
theorem c_md_nextToCompensate {l : Launch} {E : Ev} {ad : Nat → Nat} {d : Nat} {N : Nat}  {μ : Mem} {x1 : Int32} {x2 : Int32}  (hd : 5 ≤ d) : Ct l yX7_nextToCompensate cX7_nextToCompensate 7 (some .int) d E (hM E ad μ) [.ref (ad 0), .int x1, .int x2] (fun v : Int32 => (some (.int v), hM E ad μ)) (md_nextToCompensate N μ x1 x2) := by
  refine Ct.of2 (own := RX7) (L := [(0, .ref (ad 0)), (1, .int x1), (2, .int x2)]) rfl (by decide +kernel) (Nat.le_of_ble_eq_true rfl) rfl ?_
  unfold md_nextToCompensate
  refine b_iconst (n := 1) (v := -1) dX7_nextToCompensate_0 rfl (by decide) ?_
  refine b_istore_n (n := 2) (L' := [(3, .int ((-1))), (0, .ref (ad 0)), (1, .int x1), (2, .int x2)]) dX7_nextToCompensate_1 rfl rfl (Nat.le_of_ble_eq_true rfl) rfl ?_
  refine b_iconst (n := 3) (v := 0) dX7_nextToCompensate_2 rfl (by decide) ?_
  refine b_istore (n := 5) (L' := [(4, .int 0), (3, .int ((-1))), (0, .ref (ad 0)), (1, .int x1), (2, .int x2)]) dX7_nextToCompensate_3 rfl (Nat.le_of_ble_eq_true rfl) rfl ?_
  refine b_iconst (n := 6) (v := 0) dX7_nextToCompensate_5 rfl (by decide) ?_
  refine b_istore (n := 8) (L' := [(5, .int 0), (4, .int 0), (3, .int ((-1))), (0, .ref (ad 0)), (1, .int x1), (2, .int x2)]) dX7_nextToCompensate_6 rfl (Nat.le_of_ble_eq_true rfl) rfl ?_
  refine Bd.sub (L' := [(0, .ref (ad 0)), (1, .int x1), (2, .int x2), (3, .int ((-1))), (4, .int 0), (5, .int 0)]) [3, 4, 5, 2, 1, 0] rfl ?_
  exact w_md_nextToCompensate_8 hd _ _ _ _ _ _
def md_triesToCompensate  (x1 : Int32) (x2 : Int32) (μ : Mem) : Option (Mem) :=
  (md_at x1 x2 7).bind fun k10 =>
  (rd 7593 (μ 5) k10).bind fun v13 =>
  (md_nodePart μ x1 v13 4).bind fun k15 =>
  (md_notes x1 5 k15 μ).bind fun μ23 =>
  (md_at x1 x2 9).bind fun k34 =>
  (rd 7593 (μ23 5) 0).bind fun v42 =>
  (rd 7593 (μ23 5) (1 + k15)).bind fun v50 =>
  ck 7593 k34 <|
  some (up μ23 5 k34.toNatClampNeg (v42 + v50))
set_option maxHeartbeats 400000 in
set_option maxRecDepth 100000 in
theorem c_md_triesToCompensate {l : Launch} {E : Ev} {ad : Nat → Nat} {d : Nat}    {x1 : Int32} {x2 : Int32} {μ : Mem} (hd : 4 ≤ d) : Ct l yX7_triesToCompensate cX7_triesToCompensate 4 none d E (hM E ad μ) [.ref (ad 0), .int x1, .int x2] (fun q : Mem => (none, hM E ad q)) (md_triesToCompensate x1 x2 μ) := by
  refine Ct.of2 (own := RX7) (L := [(0, .ref (ad 0)), (1, .int x1), (2, .int x2)]) rfl (by decide +kernel) (Nat.le_of_ble_eq_true rfl) rfl ?_
  unfold md_triesToCompensate
  refine b_aload_n (n := 1) 0 dX7_triesToCompensate_0 rfl rfl rfl ?_
  refine b_iload_n (n := 2) 1 dX7_triesToCompensate_1 rfl rfl rfl ?_
  refine b_aload_n (n := 3) 0 dX7_triesToCompensate_2 rfl rfl rfl ?_
  refine b_get (n := 6) (v := .ref (ad 5)) 0 f_X7_22 dX7_triesToCompensate_3 rfl hM_o0 rfl ?_
  refine b_iload_n (n := 7) 1 dX7_triesToCompensate_6 rfl rfl rfl ?_
  refine b_iload_n (n := 8) 2 dX7_triesToCompensate_7 rfl rfl rfl ?_
  refine b_bipush (n := 10) (v := 7) dX7_triesToCompensate_8 rfl (by decide) ?_
  refine bSi (n := 13) (As := [.int x1, .int x2, .int 7]) (rest := [.ref (ad 5), .int x1, .ref (ad 0)]) lk_X7_169 (c_md_at (Nat.le_refl _)) (by omega) rfl rfl (Nat.le_of_ble_eq_true rfl) dX7_triesToCompensate_10 rfl (fun k10 => ?_)
  refine b_iald (n := 14) 5 dX7_triesToCompensate_13 rfl hM_a5 (fun v13 => ?_)
  refine b_iconst (n := 15) (v := 4) dX7_triesToCompensate_14 rfl (by decide) ?_
  refine bV0i (n := 18) (As := [.int x1, .int v13, .int 4]) (rest := []) 0 lk_X7_171 (c_md_nodePart (Nat.le_refl _)) (by omega) rfl rfl rfl rfl (Nat.le_of_ble_eq_true rfl) dX7_triesToCompensate_15 rfl (fun k15 => ?_)
  refine b_istore_n (n := 19) (L' := [(3, .int k15), (0, .ref (ad 0)), (1, .int x1), (2, .int x2)]) dX7_triesToCompensate_18 rfl rfl (Nat.le_of_ble_eq_true rfl) rfl ?_
  refine b_aload_n (n := 20) 1 dX7_triesToCompensate_19 rfl rfl rfl ?_
  refine b_iload_n (n := 21) 2 dX7_triesToCompensate_20 rfl rfl rfl ?_
  refine b_iconst (n := 22) (v := 5) dX7_triesToCompensate_21 rfl (by decide) ?_
  refine b_iload_n (n := 23) 0 dX7_triesToCompensate_22 rfl rfl rfl ?_
  refine bV0wv (n := 26) (hh := (fun s : Mem => hM E ad s)) (As := [.int x1, .int 5, .int k15]) (rest := []) 0 lk_X7_174 (c_md_notes (Nat.le_refl _)) (by omega) (fun _ => rfl) rfl rfl rfl rfl (Nat.le_of_ble_eq_true rfl) dX7_triesToCompensate_23 rfl ?_
  rintro μ23
  try dsimp only
  refine b_aload_n (n := 27) 1 dX7_triesToCompensate_26 rfl rfl rfl ?_
  refine b_get (n := 30) (v := .ref (ad 5)) 0 f_X7_22 dX7_triesToCompensate_27 rfl hM_o0 rfl ?_
  refine b_iload_n (n := 31) 2 dX7_triesToCompensate_30 rfl rfl rfl ?_
  refine b_iload_n (n := 32) 3 dX7_triesToCompensate_31 rfl rfl rfl ?_
  refine b_bipush (n := 34) (v := 9) dX7_triesToCompensate_32 rfl (by decide) ?_
  refine bSi (n := 37) (As := [.int x1, .int x2, .int 9]) (rest := [.ref (ad 5)]) lk_X7_169 (c_md_at (Nat.le_refl _)) (by omega) rfl rfl (Nat.le_of_ble_eq_true rfl) dX7_triesToCompensate_34 rfl (fun k34 => ?_)
  refine b_aload_n (n := 38) 1 dX7_triesToCompensate_37 rfl rfl rfl ?_
  refine b_get (n := 41) (v := .ref (ad 5)) 0 f_X7_22 dX7_triesToCompensate_38 rfl hM_o0 rfl ?_
  refine b_iconst (n := 42) (v := 0) dX7_triesToCompensate_41 rfl (by decide) ?_
  refine b_iald (n := 43) 5 dX7_triesToCompensate_42 rfl hM_a5 (fun v42 => ?_)
  refine b_aload_n (n := 44) 1 dX7_triesToCompensate_43 rfl rfl rfl ?_
  refine b_get (n := 47) (v := .ref (ad 5)) 0 f_X7_22 dX7_triesToCompensate_44 rfl hM_o0 rfl ?_
  refine b_iconst (n := 48) (v := 1) dX7_triesToCompensate_47 rfl (by decide) ?_
  refine b_iload_n (n := 49) 0 dX7_triesToCompensate_48 rfl rfl rfl ?_
  refine b_iadd (n := 50) dX7_triesToCompensate_49 rfl ?_
  refine b_iald (n := 51) 5 dX7_triesToCompensate_50 rfl hM_a5 (fun v50 => ?_)
  refine b_iadd (n := 52) dX7_triesToCompensate_51 rfl ?_
  refine b_iast (n := 53) (ws' := hM E ad (up μ23 5 k34.toNatClampNeg (v42 + v50))) 5 dX7_triesToCompensate_52 rfl hM_a5 hM_s5 ?_
  exact b_vret dX7_triesToCompensate_53 rfl rfl
def md_compensates_60 (N : Nat) (K0 : Int32 → Int32 → Mem → Option (Bool × Mem)) (y1 : Int32) (y2 : Int32) (μ : Mem) : Option (Bool × Mem) :=
  (md_at y1 y2 9).bind fun k68 =>
  (rd 7593 (μ 5) k68).bind fun v71 =>
  (rd 7593 (μ 5) 0).bind fun v77 =>
  if v77 < v71 then
    (some (false, μ))
  else
    ((md_at y1 y2 7).bind fun k94 =>
    (rd 7593 (μ 5) k94).bind fun v97 =>
    (md_nodePart μ y1 v97 4).bind fun k99 =>
    (md_fails k99 μ).bind fun (k102, μ102) =>
    if k102 = true then
      ((md_at y1 y2 8).bind fun k129 =>
      (rd 7593 (μ102 5) k129).bind fun v133 =>
      ck 7593 k129 <|
      (md_at y1 y2 8).bind fun k145 =>
      (rd 7593 ((up μ102 5 k129.toNatClampNeg (v133 + 1)) 5) k145).bind fun v148 =>
      if v148 = 3 then
        ((md_handles y1 y2 7 8 (up μ102 5 k129.toNatClampNeg (v133 + 1))).bind fun μ160 =>
        K0 y1 y2 μ160)
      else
        ((md_triesToCompensate y1 y2 (up μ102 5 k129.toNatClampNeg (v133 + 1))).bind fun μ169 =>
        K0 y1 y2 μ169))
    else
      ((md_handles y1 y2 6 7 μ102).bind fun μ115 =>
      K0 y1 y2 μ115))
set_option maxHeartbeats 400000 in
set_option maxRecDepth 100000 in
theorem w_md_compensates_60 {l : Launch} {E : Ev} {ad : Nat → Nat} {A : Nat → Prop} {d : Nat} {N : Nat}   {K0 : Int32 → Int32 → Mem → Option (Bool × Mem)} (hd : 6 ≤ d) (hK0 : ∀ (y1 : Int32) (y2 : Int32) (μ : Mem), Bd l E A RX7 cX7_compensates 4 (some .boolean) d (fun q : Bool × Mem => (some (.int (b2i q.1)), hM E ad q.2)) 0 [(0, .ref (ad 0)), (1, .int y1), (2, .int y2)] [] (hM E ad μ) (K0 y1 y2 μ)) (y1 : Int32) (y2 : Int32) (μ : Mem) : Bd l E A RX7 cX7_compensates 4 (some .boolean) d (fun q : Bool × Mem => (some (.int (b2i q.1)), hM E ad q.2)) 60 [(0, .ref (ad 0)), (1, .int y1), (2, .int y2)] [] (hM E ad μ) (md_compensates_60 N K0 y1 y2 μ) := by
  unfold md_compensates_60
  refine b_aload_n (n := 61) 0 dX7_compensates_60 rfl rfl rfl ?_
  refine b_get (n := 64) (v := .ref (ad 5)) 0 f_X7_22 dX7_compensates_61 rfl hM_o0 rfl ?_
  refine b_iload_n (n := 65) 1 dX7_compensates_64 rfl rfl rfl ?_
  refine b_iload_n (n := 66) 2 dX7_compensates_65 rfl rfl rfl ?_
  refine b_bipush (n := 68) (v := 9) dX7_compensates_66 rfl (by decide) ?_
  refine bSi (n := 71) (As := [.int y1, .int y2, .int 9]) (rest := [.ref (ad 5)]) lk_X7_169 (c_md_at (Nat.le_refl _)) (by omega) rfl rfl (Nat.le_of_ble_eq_true rfl) dX7_compensates_68 rfl (fun k68 => ?_)
  refine b_iald (n := 72) 5 dX7_compensates_71 rfl hM_a5 (fun v71 => ?_)
  refine b_aload_n (n := 73) 0 dX7_compensates_72 rfl rfl rfl ?_
  refine b_get (n := 76) (v := .ref (ad 5)) 0 f_X7_22 dX7_compensates_73 rfl hM_o0 rfl ?_
  refine b_iconst (n := 77) (v := 0) dX7_compensates_76 rfl (by decide) ?_
  refine b_iald (n := 78) 5 dX7_compensates_77 rfl hM_a5 (fun v77 => ?_)
  refine b_cmp_le (n := 81) (tgt := 83) dX7_compensates_78 (by decide) rfl (fun h78 => ?_) (fun h78 => ?_)
  · refine b_iconst (n := 82) (v := 0) dX7_compensates_81 rfl (by decide) ?_
    exact b_zret (b := false) dX7_compensates_82 rfl rfl
  · refine b_aload_n (n := 84) 0 dX7_compensates_83 rfl rfl rfl ?_
    refine b_aload_n (n := 85) 0 dX7_compensates_84 rfl rfl rfl ?_
    refine b_iload_n (n := 86) 1 dX7_compensates_85 rfl rfl rfl ?_
    refine b_aload_n (n := 87) 0 dX7_compensates_86 rfl rfl rfl ?_
    refine b_get (n := 90) (v := .ref (ad 5)) 0 f_X7_22 dX7_compensates_87 rfl hM_o0 rfl ?_
    refine b_iload_n (n := 91) 1 dX7_compensates_90 rfl rfl rfl ?_
    refine b_iload_n (n := 92) 2 dX7_compensates_91 rfl rfl rfl ?_
    refine b_bipush (n := 94) (v := 7) dX7_compensates_92 rfl (by decide) ?_
    refine bSi (n := 97) (As := [.int y1, .int y2, .int 7]) (rest := [.ref (ad 5), .int y1, .ref (ad 0), .ref (ad 0)]) lk_X7_169 (c_md_at (Nat.le_refl _)) (by omega) rfl rfl (Nat.le_of_ble_eq_true rfl) dX7_compensates_94 rfl (fun k94 => ?_)
    refine b_iald (n := 98) 5 dX7_compensates_97 rfl hM_a5 (fun v97 => ?_)
    refine b_iconst (n := 99) (v := 4) dX7_compensates_98 rfl (by decide) ?_
    refine bV0i (n := 102) (As := [.int y1, .int v97, .int 4]) (rest := [.ref (ad 0)]) 0 lk_X7_171 (c_md_nodePart (Nat.le_refl _)) (by omega) rfl rfl rfl rfl (Nat.le_of_ble_eq_true rfl) dX7_compensates_99 rfl (fun k99 => ?_)
    refine bV0wb (n := 105) (hh := (fun s : Mem => hM E ad s)) (As := [.int k99]) (rest := []) 0 lk_X7_181 (c_md_fails (Nat.le_refl _)) (by omega) (fun _ => rfl) rfl rfl rfl rfl (Nat.le_of_ble_eq_true rfl) dX7_compensates_102 rfl ?_
    rintro k102 μ102
    try dsimp only
    refine b_bnz (n := 108) (tgt := 121) dX7_compensates_105 (by decide) rfl (fun h105 => ?_) (fun h105 => ?_)
    · refine b_aload_n (n := 122) 0 dX7_compensates_121 rfl rfl rfl ?_
      refine b_get (n := 125) (v := .ref (ad 5)) 0 f_X7_22 dX7_compensates_122 rfl hM_o0 rfl ?_
      refine b_iload_n (n := 126) 1 dX7_compensates_125 rfl rfl rfl ?_
      refine b_iload_n (n := 127) 2 dX7_compensates_126 rfl rfl rfl ?_
      refine b_bipush (n := 129) (v := 8) dX7_compensates_127 rfl (by decide) ?_
      refine bSi (n := 132) (As := [.int y1, .int y2, .int 8]) (rest := [.ref (ad 5)]) lk_X7_169 (c_md_at (Nat.le_refl _)) (by omega) rfl rfl (Nat.le_of_ble_eq_true rfl) dX7_compensates_129 rfl (fun k129 => ?_)
      refine b_dup2 (n := 133) dX7_compensates_132 rfl rfl rfl ?_
      refine b_iald (n := 134) 5 dX7_compensates_133 rfl hM_a5 (fun v133 => ?_)
      refine b_iconst (n := 135) (v := 1) dX7_compensates_134 rfl (by decide) ?_
      refine b_iadd (n := 136) dX7_compensates_135 rfl ?_
      refine b_iast (n := 137) (ws' := hM E ad (up μ102 5 k129.toNatClampNeg (v133 + 1))) 5 dX7_compensates_136 rfl hM_a5 hM_s5 ?_
      refine b_aload_n (n := 138) 0 dX7_compensates_137 rfl rfl rfl ?_
      refine b_get (n := 141) (v := .ref (ad 5)) 0 f_X7_22 dX7_compensates_138 rfl hM_o0 rfl ?_
      refine b_iload_n (n := 142) 1 dX7_compensates_141 rfl rfl rfl ?_
      refine b_iload_n (n := 143) 2 dX7_compensates_142 rfl rfl rfl ?_
      refine b_bipush (n := 145) (v := 8) dX7_compensates_143 rfl (by decide) ?_
      refine bSi (n := 148) (As := [.int y1, .int y2, .int 8]) (rest := [.ref (ad 5)]) lk_X7_169 (c_md_at (Nat.le_refl _)) (by omega) rfl rfl (Nat.le_of_ble_eq_true rfl) dX7_compensates_145 rfl (fun k145 => ?_)
      refine b_iald (n := 149) 5 dX7_compensates_148 rfl hM_a5 (fun v148 => ?_)
      refine b_iconst (n := 150) (v := 3) dX7_compensates_149 rfl (by decide) ?_
      refine b_cmp_ne (n := 153) (tgt := 166) dX7_compensates_150 (by decide) rfl (fun h150 => ?_) (fun h150 => ?_)
      · refine b_aload_n (n := 154) 0 dX7_compensates_153 rfl rfl rfl ?_
        refine b_iload_n (n := 155) 1 dX7_compensates_154 rfl rfl rfl ?_
        refine b_iload_n (n := 156) 2 dX7_compensates_155 rfl rfl rfl ?_
        refine b_bipush (n := 158) (v := 7) dX7_compensates_156 rfl (by decide) ?_
        refine b_bipush (n := 160) (v := 8) dX7_compensates_158 rfl (by decide) ?_
        refine bV0wv (n := 163) (hh := (fun s : Mem => hM E ad s)) (As := [.int y1, .int y2, .int 7, .int 8]) (rest := []) 0 lk_X7_229 (c_md_handles (Nat.le_refl _)) (by omega) (fun _ => rfl) rfl rfl rfl rfl (Nat.le_of_ble_eq_true rfl) dX7_compensates_160 rfl ?_
        rintro μ160
        try dsimp only
        refine b_goto (n := 0) dX7_compensates_163 (by decide) ?_
        exact hK0 _ _ _
      · refine b_aload_n (n := 167) 0 dX7_compensates_166 rfl rfl rfl ?_
        refine b_iload_n (n := 168) 1 dX7_compensates_167 rfl rfl rfl ?_
        refine b_iload_n (n := 169) 2 dX7_compensates_168 rfl rfl rfl ?_
        refine bV0wv (n := 172) (hh := (fun s : Mem => hM E ad s)) (As := [.int y1, .int y2]) (rest := []) 0 lk_X7_226 (c_md_triesToCompensate (Nat.le_refl _)) (by omega) (fun _ => rfl) rfl rfl rfl rfl (Nat.le_of_ble_eq_true rfl) dX7_compensates_169 rfl ?_
        rintro μ169
        try dsimp only
        refine b_goto (n := 0) dX7_compensates_172 (by decide) ?_
        exact hK0 _ _ _
    · refine b_aload_n (n := 109) 0 dX7_compensates_108 rfl rfl rfl ?_
      refine b_iload_n (n := 110) 1 dX7_compensates_109 rfl rfl rfl ?_
      refine b_iload_n (n := 111) 2 dX7_compensates_110 rfl rfl rfl ?_
      refine b_bipush (n := 113) (v := 6) dX7_compensates_111 rfl (by decide) ?_
      refine b_bipush (n := 115) (v := 7) dX7_compensates_113 rfl (by decide) ?_
      refine bV0wv (n := 118) (hh := (fun s : Mem => hM E ad s)) (As := [.int y1, .int y2, .int 6, .int 7]) (rest := []) 0 lk_X7_229 (c_md_handles (Nat.le_refl _)) (by omega) (fun _ => rfl) rfl rfl rfl rfl (Nat.le_of_ble_eq_true rfl) dX7_compensates_115 rfl ?_
      rintro μ115
      try dsimp only
      refine b_goto (n := 0) dX7_compensates_118 (by decide) ?_
      exact hK0 _ _ _
def md_compensates_0 (N : Nat)  : Nat → Int32 → Int32 → Mem → Option (Bool × Mem)
  | 0, _, _, _ => none
  | n + 1, y1, y2, μ =>
    (md_at y1 y2 7).bind fun k8 =>
    (rd 7593 (μ 5) k8).bind fun v11 =>
    if v11 < 0 then
      ((md_nextToCompensate N μ y1 y2).bind fun k18 =>
      if k18 < 0 then
        (some (true, μ))
      else
        ((md_at y1 y2 7).bind fun k36 =>
        ck 7593 k36 <|
        (md_at y1 y2 8).bind fun k49 =>
        ck 7593 k49 <|
        (md_triesToCompensate y1 y2 (up (up μ 5 k36.toNatClampNeg k18) 5 k49.toNatClampNeg 0)).bind fun μ57 =>
        md_compensates_60 N (md_compensates_0 N n) y1 y2 μ57))
    else
      (md_compensates_60 N (md_compensates_0 N n) y1 y2 μ)
set_option maxHeartbeats 400000 in
set_option maxRecDepth 100000 in
theorem w_md_compensates_0 {l : Launch} {E : Ev} {ad : Nat → Nat} {A : Nat → Prop} {d : Nat} {N : Nat}    (hd : 6 ≤ d)  (n : Nat) : ∀ (y1 : Int32) (y2 : Int32) (μ : Mem), Bd l E A RX7 cX7_compensates 4 (some .boolean) d (fun q : Bool × Mem => (some (.int (b2i q.1)), hM E ad q.2)) 0 [(0, .ref (ad 0)), (1, .int y1), (2, .int y2)] [] (hM E ad μ) (md_compensates_0 N n y1 y2 μ) := by
  induction n with
  | zero => intro y1 y2 μ; exact b_none
  | succ n ih =>
    intro y1 y2 μ
    rw [md_compensates_0]
    refine b_aload_n (n := 1) 0 dX7_compensates_0 rfl rfl rfl ?_
    refine b_get (n := 4) (v := .ref (ad 5)) 0 f_X7_22 dX7_compensates_1 rfl hM_o0 rfl ?_
    refine b_iload_n (n := 5) 1 dX7_compensates_4 rfl rfl rfl ?_
    refine b_iload_n (n := 6) 2 dX7_compensates_5 rfl rfl rfl ?_
    refine b_bipush (n := 8) (v := 7) dX7_compensates_6 rfl (by decide) ?_
    refine bSi (n := 11) (As := [.int y1, .int y2, .int 7]) (rest := [.ref (ad 5)]) lk_X7_169 (c_md_at (Nat.le_refl _)) (by omega) rfl rfl (Nat.le_of_ble_eq_true rfl) dX7_compensates_8 rfl (fun k8 => ?_)
    refine b_iald (n := 12) 5 dX7_compensates_11 rfl hM_a5 (fun v11 => ?_)
    refine b_if_ge (n := 15) (tgt := 60) dX7_compensates_12 (by decide) rfl (fun h12 => ?_) (fun h12 => ?_)
    · refine b_aload_n (n := 16) 0 dX7_compensates_15 rfl rfl rfl ?_
      refine b_iload_n (n := 17) 1 dX7_compensates_16 rfl rfl rfl ?_
      refine b_iload_n (n := 18) 2 dX7_compensates_17 rfl rfl rfl ?_
      refine bV0i (n := 21) (As := [.int y1, .int y2]) (rest := []) 0 lk_X7_223 (c_md_nextToCompensate (Nat.le_refl _)) (by omega) rfl rfl rfl rfl (Nat.le_of_ble_eq_true rfl) dX7_compensates_18 rfl (fun k18 => ?_)
      refine b_istore_n (n := 22) (L' := [(3, .int k18), (0, .ref (ad 0)), (1, .int y1), (2, .int y2)]) dX7_compensates_21 rfl rfl (Nat.le_of_ble_eq_true rfl) rfl ?_
      refine b_iload_n (n := 23) 0 dX7_compensates_22 rfl rfl rfl ?_
      refine b_if_ge (n := 26) (tgt := 28) dX7_compensates_23 (by decide) rfl (fun h23 => ?_) (fun h23 => ?_)
      · refine b_iconst (n := 27) (v := 1) dX7_compensates_26 rfl (by decide) ?_
        exact b_zret (b := true) dX7_compensates_27 rfl rfl
      · refine b_aload_n (n := 29) 1 dX7_compensates_28 rfl rfl rfl ?_
        refine b_get (n := 32) (v := .ref (ad 5)) 0 f_X7_22 dX7_compensates_29 rfl hM_o0 rfl ?_
        refine b_iload_n (n := 33) 2 dX7_compensates_32 rfl rfl rfl ?_
        refine b_iload_n (n := 34) 3 dX7_compensates_33 rfl rfl rfl ?_
        refine b_bipush (n := 36) (v := 7) dX7_compensates_34 rfl (by decide) ?_
        refine bSi (n := 39) (As := [.int y1, .int y2, .int 7]) (rest := [.ref (ad 5)]) lk_X7_169 (c_md_at (Nat.le_refl _)) (by omega) rfl rfl (Nat.le_of_ble_eq_true rfl) dX7_compensates_36 rfl (fun k36 => ?_)
        refine b_iload_n (n := 40) 0 dX7_compensates_39 rfl rfl rfl ?_
        refine b_iast (n := 41) (ws' := hM E ad (up μ 5 k36.toNatClampNeg k18)) 5 dX7_compensates_40 rfl hM_a5 hM_s5 ?_
        refine b_aload_n (n := 42) 1 dX7_compensates_41 rfl rfl rfl ?_
        refine b_get (n := 45) (v := .ref (ad 5)) 0 f_X7_22 dX7_compensates_42 rfl hM_o0 rfl ?_
        refine b_iload_n (n := 46) 2 dX7_compensates_45 rfl rfl rfl ?_
        refine b_iload_n (n := 47) 3 dX7_compensates_46 rfl rfl rfl ?_
        refine b_bipush (n := 49) (v := 8) dX7_compensates_47 rfl (by decide) ?_
        refine bSi (n := 52) (As := [.int y1, .int y2, .int 8]) (rest := [.ref (ad 5)]) lk_X7_169 (c_md_at (Nat.le_refl _)) (by omega) rfl rfl (Nat.le_of_ble_eq_true rfl) dX7_compensates_49 rfl (fun k49 => ?_)
        refine b_iconst (n := 53) (v := 0) dX7_compensates_52 rfl (by decide) ?_
        refine b_iast (n := 54) (ws' := hM E ad (up (up μ 5 k36.toNatClampNeg k18) 5 k49.toNatClampNeg 0)) 5 dX7_compensates_53 rfl hM_a5 hM_s5 ?_
        refine b_aload_n (n := 55) 1 dX7_compensates_54 rfl rfl rfl ?_
        refine b_iload_n (n := 56) 2 dX7_compensates_55 rfl rfl rfl ?_
        refine b_iload_n (n := 57) 3 dX7_compensates_56 rfl rfl rfl ?_
        refine bV0wv (n := 60) (hh := (fun s : Mem => hM E ad s)) (As := [.int y1, .int y2]) (rest := []) 0 lk_X7_226 (c_md_triesToCompensate (Nat.le_refl _)) (by omega) (fun _ => rfl) rfl rfl rfl rfl (Nat.le_of_ble_eq_true rfl) dX7_compensates_57 rfl ?_
        rintro μ57
        try dsimp only
        refine Bd.sub (L' := [(0, .ref (ad 0)), (1, .int y1), (2, .int y2)]) [1, 2, 3] rfl ?_
        exact w_md_compensates_60 hd (fun a0 a1 a2 => ih a0 a1 a2) _ _ _
    · exact w_md_compensates_60 hd (fun a0 a1 a2 => ih a0 a1 a2) _ _ _
def md_compensates (N : Nat) (x1 : Int32) (x2 : Int32) (μ : Mem) : Option (Bool × Mem) :=
  md_compensates_0 N N x1 x2 μ
set_option maxHeartbeats 400000 in
set_option maxRecDepth 100000 in
theorem c_md_compensates {l : Launch} {E : Ev} {ad : Nat → Nat} {d : Nat} {N : Nat}   {x1 : Int32} {x2 : Int32} {μ : Mem} (hd : 6 ≤ d) : Ct l yX7_compensates cX7_compensates 4 (some .boolean) d E (hM E ad μ) [.ref (ad 0), .int x1, .int x2] (fun q : Bool × Mem => (some (.int (b2i q.1)), hM E ad q.2)) (md_compensates N x1 x2 μ) := by
  refine Ct.of2 (own := RX7) (L := [(0, .ref (ad 0)), (1, .int x1), (2, .int x2)]) rfl (by decide +kernel) (Nat.le_of_ble_eq_true rfl) rfl ?_
  unfold md_compensates
  exact w_md_compensates_0 hd _ _ _ _
