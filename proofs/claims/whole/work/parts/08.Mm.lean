/-! the reference: partial pure functions, and the walk of each method (12) -/
def md_due_15 (N : Nat) (μ : Mem)  : Nat → Int32 → Int32 → Int32 → Option (Int32)
  | 0, _, _, _ => none
  | n + 1, y1, y2, y3 =>
    (md_versionOf μ y1).bind fun k23 =>
    (rd 68 (μ 3) (4 * k23)).bind fun v27 =>
    if y3 < v27 then
      ((md_dueAt μ y1 y3).bind fun k34 =>
      (rd 7593 (μ 5) 0).bind fun v46 =>
      if v46 < k34 then
        (if y2 < 0 then
          (md_due_15 N μ n y1 k34 (y3 + 1))
        else
          (if k34 < y2 then
            (md_due_15 N μ n y1 k34 (y3 + 1))
          else
            (md_due_15 N μ n y1 y2 (y3 + 1))))
      else
        (md_due_15 N μ n y1 y2 (y3 + 1)))
    else
      (some y2)
set_option maxHeartbeats 400000 in
set_option maxRecDepth 100000 in
theorem w_md_due_15 {l : Launch} {E : Ev} {ad : Nat → Nat} {A : Nat → Prop} {d : Nat} {N : Nat}  {μ : Mem}  (hd : 6 ≤ d)  (n : Nat) : ∀ (y1 : Int32) (y2 : Int32) (y3 : Int32), Bd l E A RX7 cX7_due 5 (some .int) d (fun v : Int32 => (some (.int v), hM E ad μ)) 15 [(0, .ref (ad 0)), (1, .int y1), (2, .int y2), (3, .int y3)] [] (hM E ad μ) (md_due_15 N μ n y1 y2 y3) := by
  induction n with
  | zero => intro y1 y2 y3; exact b_none
  | succ n ih =>
    intro y1 y2 y3
    rw [md_due_15]
    refine b_iload_n (n := 16) 3 dX7_due_15 rfl rfl rfl ?_
    refine b_aload_n (n := 17) 0 dX7_due_16 rfl rfl rfl ?_
    refine b_get (n := 20) (v := .ref (ad 3)) 0 f_X7_16 dX7_due_17 rfl hM_o0 rfl ?_
    refine b_iconst (n := 21) (v := 4) dX7_due_20 rfl (by decide) ?_
    refine b_aload_n (n := 22) 0 dX7_due_21 rfl rfl rfl ?_
    refine b_iload_n (n := 23) 1 dX7_due_22 rfl rfl rfl ?_
    refine bV0i (n := 26) (As := [.int y1]) (rest := [.int 4, .ref (ad 3), .int y3]) 0 lk_X7_166 (c_md_versionOf (Nat.le_refl _)) (by omega) rfl rfl rfl rfl (Nat.le_of_ble_eq_true rfl) dX7_due_23 rfl (fun k23 => ?_)
    refine b_imul (n := 27) dX7_due_26 rfl ?_
    refine b_iald (n := 28) 3 dX7_due_27 rfl hM_a3 (fun v27 => ?_)
    refine b_cmp_ge (n := 31) (tgt := 69) dX7_due_28 (by decide) rfl (fun h28 => ?_) (fun h28 => ?_)
    · refine b_aload_n (n := 32) 0 dX7_due_31 rfl rfl rfl ?_
      refine b_iload_n (n := 33) 1 dX7_due_32 rfl rfl rfl ?_
      refine b_iload_n (n := 34) 3 dX7_due_33 rfl rfl rfl ?_
      refine bV0i (n := 37) (As := [.int y1, .int y3]) (rest := []) 0 lk_X7_259 (c_md_dueAt (Nat.le_refl _)) (by omega) rfl rfl rfl rfl (Nat.le_of_ble_eq_true rfl) dX7_due_34 rfl (fun k34 => ?_)
      refine b_istore (n := 39) (L' := [(4, .int k34), (0, .ref (ad 0)), (1, .int y1), (2, .int y2), (3, .int y3)]) dX7_due_37 rfl (Nat.le_of_ble_eq_true rfl) rfl ?_
      refine b_iload (n := 41) 0 dX7_due_39 rfl rfl ?_
      refine b_aload_n (n := 42) 1 dX7_due_41 rfl rfl rfl ?_
      refine b_get (n := 45) (v := .ref (ad 5)) 0 f_X7_22 dX7_due_42 rfl hM_o0 rfl ?_
      refine b_iconst (n := 46) (v := 0) dX7_due_45 rfl (by decide) ?_
      refine b_iald (n := 47) 5 dX7_due_46 rfl hM_a5 (fun v46 => ?_)
      refine b_cmp_le (n := 50) (tgt := 63) dX7_due_47 (by decide) rfl (fun h47 => ?_) (fun h47 => ?_)
      · refine b_iload_n (n := 51) 3 dX7_due_50 rfl rfl rfl ?_
        refine b_if_lt (n := 54) (tgt := 60) dX7_due_51 (by decide) rfl (fun h51 => ?_) (fun h51 => ?_)
        · refine b_iload (n := 62) 0 dX7_due_60 rfl rfl ?_
          refine b_istore_n (n := 63) (L' := [(2, .int k34), (4, .int k34), (0, .ref (ad 0)), (1, .int y1), (3, .int y3)]) dX7_due_62 rfl rfl (Nat.le_of_ble_eq_true rfl) rfl ?_
          refine b_iinc (n := 66) (L' := [(3, .int (y3 + 1)), (2, .int k34), (4, .int k34), (0, .ref (ad 0)), (1, .int y1)]) 4 1 dX7_due_63 rfl rfl (by decide) (Nat.le_of_ble_eq_true rfl) rfl ?_
          refine b_goto (n := 15) dX7_due_66 (by decide) ?_
          refine Bd.sub (L' := [(0, .ref (ad 0)), (1, .int y1), (2, .int k34), (3, .int (y3 + 1))]) [3, 4, 1, 0] rfl ?_
          exact ih _ _ _
        · refine b_iload (n := 56) 0 dX7_due_54 rfl rfl ?_
          refine b_iload_n (n := 57) 3 dX7_due_56 rfl rfl rfl ?_
          refine b_cmp_ge (n := 60) (tgt := 63) dX7_due_57 (by decide) rfl (fun h57 => ?_) (fun h57 => ?_)
          · refine b_iload (n := 62) 0 dX7_due_60 rfl rfl ?_
            refine b_istore_n (n := 63) (L' := [(2, .int k34), (4, .int k34), (0, .ref (ad 0)), (1, .int y1), (3, .int y3)]) dX7_due_62 rfl rfl (Nat.le_of_ble_eq_true rfl) rfl ?_
            refine b_iinc (n := 66) (L' := [(3, .int (y3 + 1)), (2, .int k34), (4, .int k34), (0, .ref (ad 0)), (1, .int y1)]) 4 1 dX7_due_63 rfl rfl (by decide) (Nat.le_of_ble_eq_true rfl) rfl ?_
            refine b_goto (n := 15) dX7_due_66 (by decide) ?_
            refine Bd.sub (L' := [(0, .ref (ad 0)), (1, .int y1), (2, .int k34), (3, .int (y3 + 1))]) [3, 4, 1, 0] rfl ?_
            exact ih _ _ _
          · refine b_iinc (n := 66) (L' := [(3, .int (y3 + 1)), (4, .int k34), (0, .ref (ad 0)), (1, .int y1), (2, .int y2)]) 4 1 dX7_due_63 rfl rfl (by decide) (Nat.le_of_ble_eq_true rfl) rfl ?_
            refine b_goto (n := 15) dX7_due_66 (by decide) ?_
            refine Bd.sub (L' := [(0, .ref (ad 0)), (1, .int y1), (2, .int y2), (3, .int (y3 + 1))]) [2, 3, 4, 0] rfl ?_
            exact ih _ _ _
      · refine b_iinc (n := 66) (L' := [(3, .int (y3 + 1)), (4, .int k34), (0, .ref (ad 0)), (1, .int y1), (2, .int y2)]) 4 1 dX7_due_63 rfl rfl (by decide) (Nat.le_of_ble_eq_true rfl) rfl ?_
        refine b_goto (n := 15) dX7_due_66 (by decide) ?_
        refine Bd.sub (L' := [(0, .ref (ad 0)), (1, .int y1), (2, .int y2), (3, .int (y3 + 1))]) [2, 3, 4, 0] rfl ?_
        exact ih _ _ _
    · refine b_iload_n (n := 70) 2 dX7_due_69 rfl rfl rfl ?_
      exact b_iret dX7_due_70 rfl rfl
def md_due (N : Nat) (μ : Mem) (x1 : Int32)  : Option (Int32) :=
  (md_isInstance μ x1).bind fun k2 =>
  if k2 = true then
    (md_due_15 N μ N x1 ((-5)) 0)
  else
    (some ((-1)))
set_option maxHeartbeats 400000 in
set_option maxRecDepth 100000 in
theorem c_md_due {l : Launch} {E : Ev} {ad : Nat → Nat} {d : Nat} {N : Nat}  {μ : Mem} {x1 : Int32}  (hd : 6 ≤ d) : Ct l yX7_due cX7_due 5 (some .int) d E (hM E ad μ) [.ref (ad 0), .int x1] (fun v : Int32 => (some (.int v), hM E ad μ)) (md_due N μ x1) := by
  refine Ct.of2 (own := RX7) (L := [(0, .ref (ad 0)), (1, .int x1)]) rfl (by decide +kernel) (Nat.le_of_ble_eq_true rfl) rfl ?_
  unfold md_due
  refine b_aload_n (n := 1) 0 dX7_due_0 rfl rfl rfl ?_
  refine b_iload_n (n := 2) 1 dX7_due_1 rfl rfl rfl ?_
  refine bV0b (n := 5) (As := [.int x1]) (rest := []) 0 lk_X7_243 (c_md_isInstance (Nat.le_refl _)) (by omega) rfl rfl rfl rfl (Nat.le_of_ble_eq_true rfl) dX7_due_2 rfl (fun k2 => ?_)
  refine b_bnz (n := 8) (tgt := 10) dX7_due_5 (by decide) rfl (fun h5 => ?_) (fun h5 => ?_)
  · refine b_bipush (n := 12) (v := -5) dX7_due_10 rfl (by decide) ?_
    refine b_istore_n (n := 13) (L' := [(2, .int ((-5))), (0, .ref (ad 0)), (1, .int x1)]) dX7_due_12 rfl rfl (Nat.le_of_ble_eq_true rfl) rfl ?_
    refine b_iconst (n := 14) (v := 0) dX7_due_13 rfl (by decide) ?_
    refine b_istore_n (n := 15) (L' := [(3, .int 0), (2, .int ((-5))), (0, .ref (ad 0)), (1, .int x1)]) dX7_due_14 rfl rfl (Nat.le_of_ble_eq_true rfl) rfl ?_
    refine Bd.sub (L' := [(0, .ref (ad 0)), (1, .int x1), (2, .int ((-5))), (3, .int 0)]) [2, 3, 1, 0] rfl ?_
    exact w_md_due_15 hd _ _ _ _
  · refine b_iconst (n := 9) (v := -1) dX7_due_8 rfl (by decide) ?_
    exact b_iret dX7_due_9 rfl rfl
def md_entriesOf_5 (N : Nat) (μ : Mem)  : Nat → Int32 → Int32 → Int32 → Int32 → Option (Int32)
  | 0, _, _, _, _ => none
  | n + 1, y1, y2, y3, y4 =>
    (md_keptEntries μ y1).bind fun k9 =>
    if y4 < k9 then
      ((md_of y1 ((22 + (3 * y4)) + 1)).bind fun k30 =>
      (rd 7593 (μ 5) k30).bind fun v33 =>
      if v33 = y2 then
        (md_entriesOf_5 N μ n y1 y2 (y3 + 1) (y4 + 1))
      else
        (md_entriesOf_5 N μ n y1 y2 (y3 + 0) (y4 + 1)))
    else
      (some y3)
set_option maxHeartbeats 400000 in
set_option maxRecDepth 100000 in
theorem w_md_entriesOf_5 {l : Launch} {E : Ev} {ad : Nat → Nat} {A : Nat → Prop} {d : Nat} {N : Nat}  {μ : Mem}  (hd : 3 ≤ d)  (n : Nat) : ∀ (y1 : Int32) (y2 : Int32) (y3 : Int32) (y4 : Int32), Bd l E A RX7 cX7_entriesOf 5 (some .int) d (fun v : Int32 => (some (.int v), hM E ad μ)) 5 [(0, .ref (ad 0)), (1, .int y1), (2, .int y2), (3, .int y3), (4, .int y4)] [] (hM E ad μ) (md_entriesOf_5 N μ n y1 y2 y3 y4) := by
  induction n with
  | zero => intro y1 y2 y3 y4; exact b_none
  | succ n ih =>
    intro y1 y2 y3 y4
    rw [md_entriesOf_5]
    refine b_iload (n := 7) 4 dX7_entriesOf_5 rfl rfl ?_
    refine b_aload_n (n := 8) 0 dX7_entriesOf_7 rfl rfl rfl ?_
    refine b_iload_n (n := 9) 1 dX7_entriesOf_8 rfl rfl rfl ?_
    refine bV0i (n := 12) (As := [.int y1]) (rest := [.int y4]) 0 lk_X7_253 (c_md_keptEntries (Nat.le_refl _)) (by omega) rfl rfl rfl rfl (Nat.le_of_ble_eq_true rfl) dX7_entriesOf_9 rfl (fun k9 => ?_)
    refine b_cmp_ge (n := 15) (tgt := 51) dX7_entriesOf_12 (by decide) rfl (fun h12 => ?_) (fun h12 => ?_)
    · refine b_iload_n (n := 16) 3 dX7_entriesOf_15 rfl rfl rfl ?_
      refine b_aload_n (n := 17) 0 dX7_entriesOf_16 rfl rfl rfl ?_
      refine b_get (n := 20) (v := .ref (ad 5)) 0 f_X7_22 dX7_entriesOf_17 rfl hM_o0 rfl ?_
      refine b_iload_n (n := 21) 1 dX7_entriesOf_20 rfl rfl rfl ?_
      refine b_bipush (n := 23) (v := 22) dX7_entriesOf_21 rfl (by decide) ?_
      refine b_iconst (n := 24) (v := 3) dX7_entriesOf_23 rfl (by decide) ?_
      refine b_iload (n := 26) 4 dX7_entriesOf_24 rfl rfl ?_
      refine b_imul (n := 27) dX7_entriesOf_26 rfl ?_
      refine b_iadd (n := 28) dX7_entriesOf_27 rfl ?_
      refine b_iconst (n := 29) (v := 1) dX7_entriesOf_28 rfl (by decide) ?_
      refine b_iadd (n := 30) dX7_entriesOf_29 rfl ?_
      refine bSi (n := 33) (As := [.int y1, .int ((22 + (3 * y4)) + 1)]) (rest := [.ref (ad 5), .int y3]) lk_X7_163 (c_md_of (Nat.le_refl _)) (by omega) rfl rfl (Nat.le_of_ble_eq_true rfl) dX7_entriesOf_30 rfl (fun k30 => ?_)
      refine b_iald (n := 34) 5 dX7_entriesOf_33 rfl hM_a5 (fun v33 => ?_)
      refine b_iload_n (n := 35) 2 dX7_entriesOf_34 rfl rfl rfl ?_
      refine b_cmp_ne (n := 38) (tgt := 42) dX7_entriesOf_35 (by decide) rfl (fun h35 => ?_) (fun h35 => ?_)
      · refine b_iconst (n := 39) (v := 1) dX7_entriesOf_38 rfl (by decide) ?_
        refine b_goto (n := 43) dX7_entriesOf_39 (by decide) ?_
        refine b_iadd (n := 44) dX7_entriesOf_43 rfl ?_
        refine b_istore_n (n := 45) (L' := [(3, .int (y3 + 1)), (0, .ref (ad 0)), (1, .int y1), (2, .int y2), (4, .int y4)]) dX7_entriesOf_44 rfl rfl (Nat.le_of_ble_eq_true rfl) rfl ?_
        refine b_iinc (n := 48) (L' := [(4, .int (y4 + 1)), (3, .int (y3 + 1)), (0, .ref (ad 0)), (1, .int y1), (2, .int y2)]) 4 1 dX7_entriesOf_45 rfl rfl (by decide) (Nat.le_of_ble_eq_true rfl) rfl ?_
        refine b_goto (n := 5) dX7_entriesOf_48 (by decide) ?_
        refine Bd.sub (L' := [(0, .ref (ad 0)), (1, .int y1), (2, .int y2), (3, .int (y3 + 1)), (4, .int (y4 + 1))]) [2, 3, 4, 1, 0] rfl ?_
        exact ih _ _ _ _
      · refine b_iconst (n := 43) (v := 0) dX7_entriesOf_42 rfl (by decide) ?_
        refine b_iadd (n := 44) dX7_entriesOf_43 rfl ?_
        refine b_istore_n (n := 45) (L' := [(3, .int (y3 + 0)), (0, .ref (ad 0)), (1, .int y1), (2, .int y2), (4, .int y4)]) dX7_entriesOf_44 rfl rfl (Nat.le_of_ble_eq_true rfl) rfl ?_
        refine b_iinc (n := 48) (L' := [(4, .int (y4 + 1)), (3, .int (y3 + 0)), (0, .ref (ad 0)), (1, .int y1), (2, .int y2)]) 4 1 dX7_entriesOf_45 rfl rfl (by decide) (Nat.le_of_ble_eq_true rfl) rfl ?_
        refine b_goto (n := 5) dX7_entriesOf_48 (by decide) ?_
        refine Bd.sub (L' := [(0, .ref (ad 0)), (1, .int y1), (2, .int y2), (3, .int (y3 + 0)), (4, .int (y4 + 1))]) [2, 3, 4, 1, 0] rfl ?_
        exact ih _ _ _ _
    · refine b_iload_n (n := 52) 3 dX7_entriesOf_51 rfl rfl rfl ?_
      exact b_iret dX7_entriesOf_52 rfl rfl
def md_entriesOf (N : Nat) (μ : Mem) (x1 : Int32) (x2 : Int32)  : Option (Int32) :=
  md_entriesOf_5 N μ N x1 x2 0 0
set_option maxHeartbeats 400000 in
set_option maxRecDepth 100000 in
theorem c_md_entriesOf {l : Launch} {E : Ev} {ad : Nat → Nat} {d : Nat} {N : Nat}  {μ : Mem} {x1 : Int32} {x2 : Int32}  (hd : 3 ≤ d) : Ct l yX7_entriesOf cX7_entriesOf 5 (some .int) d E (hM E ad μ) [.ref (ad 0), .int x1, .int x2] (fun v : Int32 => (some (.int v), hM E ad μ)) (md_entriesOf N μ x1 x2) := by
  refine Ct.of2 (own := RX7) (L := [(0, .ref (ad 0)), (1, .int x1), (2, .int x2)]) rfl (by decide +kernel) (Nat.le_of_ble_eq_true rfl) rfl ?_
  unfold md_entriesOf
  refine b_iconst (n := 1) (v := 0) dX7_entriesOf_0 rfl (by decide) ?_
  refine b_istore_n (n := 2) (L' := [(3, .int 0), (0, .ref (ad 0)), (1, .int x1), (2, .int x2)]) dX7_entriesOf_1 rfl rfl (Nat.le_of_ble_eq_true rfl) rfl ?_
  refine b_iconst (n := 3) (v := 0) dX7_entriesOf_2 rfl (by decide) ?_
  refine b_istore (n := 5) (L' := [(4, .int 0), (3, .int 0), (0, .ref (ad 0)), (1, .int x1), (2, .int x2)]) dX7_entriesOf_3 rfl (Nat.le_of_ble_eq_true rfl) rfl ?_
  refine Bd.sub (L' := [(0, .ref (ad 0)), (1, .int x1), (2, .int x2), (3, .int 0), (4, .int 0)]) [2, 3, 4, 1, 0] rfl ?_
  exact w_md_entriesOf_5 hd _ _ _ _ _
def md_replayed_24 (N : Nat) (μ : Mem)  : Nat → Int32 → Int32 → Int32 → Int32 → Option (Int32)
  | 0, _, _, _, _ => none
  | n + 1, y1, y2, y3, y4 =>
    (md_keptEntries μ y1).bind fun k28 =>
    if y4 < k28 then
      ((md_of y1 ((22 + (3 * y4)) + 1)).bind fun k48 =>
      (rd 7593 (μ 5) k48).bind fun v51 =>
      if v51 = 11 then
        ((md_of y1 ((22 + (3 * y4)) + 2)).bind fun k71 =>
        (rd 7593 (μ 5) k71).bind fun v74 =>
        md_replayed_24 N μ n y1 y2 v74 (y4 + 1))
      else
        (md_replayed_24 N μ n y1 y2 y3 (y4 + 1)))
    else
      (if y2 = 0 then
        (some y3)
      else if y2 = 1 then
        ((md_entriesOf N μ y1 2).bind fun k125 =>
        some k125)
      else if y2 = 2 then
        ((md_entriesOf N μ y1 6).bind fun k133 =>
        some k133)
      else if y2 = 3 then
        ((md_entriesOf N μ y1 7).bind fun k141 =>
        some k141)
      else if y2 = 4 then
        ((md_entriesOf N μ y1 0).bind fun k148 =>
        (md_entriesOf N μ y1 5).bind fun k154 =>
        some (k148 + k154))
      else 
        ((md_entriesOf N μ y1 1).bind fun k162 =>
        some k162))
set_option maxHeartbeats 400000 in
set_option maxRecDepth 100000 in
theorem w_md_replayed_24 {l : Launch} {E : Ev} {ad : Nat → Nat} {A : Nat → Prop} {d : Nat} {N : Nat}  {μ : Mem}  (hd : 4 ≤ d)  (n : Nat) : ∀ (y1 : Int32) (y2 : Int32) (y3 : Int32) (y4 : Int32), Bd l E A RX7 cX7_replayed 5 (some .int) d (fun v : Int32 => (some (.int v), hM E ad μ)) 24 [(0, .ref (ad 0)), (1, .int y1), (2, .int y2), (3, .int y3), (4, .int y4)] [] (hM E ad μ) (md_replayed_24 N μ n y1 y2 y3 y4) := by
  induction n with
  | zero => intro y1 y2 y3 y4; exact b_none
  | succ n ih =>
    intro y1 y2 y3 y4
    rw [md_replayed_24]
    refine b_iload (n := 26) 4 dX7_replayed_24 rfl rfl ?_
    refine b_aload_n (n := 27) 0 dX7_replayed_26 rfl rfl rfl ?_
    refine b_iload_n (n := 28) 1 dX7_replayed_27 rfl rfl rfl ?_
    refine bV0i (n := 31) (As := [.int y1]) (rest := [.int y4]) 0 lk_X7_253 (c_md_keptEntries (Nat.le_refl _)) (by omega) rfl rfl rfl rfl (Nat.le_of_ble_eq_true rfl) dX7_replayed_28 rfl (fun k28 => ?_)
    refine b_cmp_ge (n := 34) (tgt := 86) dX7_replayed_31 (by decide) rfl (fun h31 => ?_) (fun h31 => ?_)
    · refine b_aload_n (n := 35) 0 dX7_replayed_34 rfl rfl rfl ?_
      refine b_get (n := 38) (v := .ref (ad 5)) 0 f_X7_22 dX7_replayed_35 rfl hM_o0 rfl ?_
      refine b_iload_n (n := 39) 1 dX7_replayed_38 rfl rfl rfl ?_
      refine b_bipush (n := 41) (v := 22) dX7_replayed_39 rfl (by decide) ?_
      refine b_iconst (n := 42) (v := 3) dX7_replayed_41 rfl (by decide) ?_
      refine b_iload (n := 44) 4 dX7_replayed_42 rfl rfl ?_
      refine b_imul (n := 45) dX7_replayed_44 rfl ?_
      refine b_iadd (n := 46) dX7_replayed_45 rfl ?_
      refine b_iconst (n := 47) (v := 1) dX7_replayed_46 rfl (by decide) ?_
      refine b_iadd (n := 48) dX7_replayed_47 rfl ?_
      refine bSi (n := 51) (As := [.int y1, .int ((22 + (3 * y4)) + 1)]) (rest := [.ref (ad 5)]) lk_X7_163 (c_md_of (Nat.le_refl _)) (by omega) rfl rfl (Nat.le_of_ble_eq_true rfl) dX7_replayed_48 rfl (fun k48 => ?_)
      refine b_iald (n := 52) 5 dX7_replayed_51 rfl hM_a5 (fun v51 => ?_)
      refine b_bipush (n := 54) (v := 11) dX7_replayed_52 rfl (by decide) ?_
      refine b_cmp_ne (n := 57) (tgt := 78) dX7_replayed_54 (by decide) rfl (fun h54 => ?_) (fun h54 => ?_)
      · refine b_aload_n (n := 58) 0 dX7_replayed_57 rfl rfl rfl ?_
        refine b_get (n := 61) (v := .ref (ad 5)) 0 f_X7_22 dX7_replayed_58 rfl hM_o0 rfl ?_
        refine b_iload_n (n := 62) 1 dX7_replayed_61 rfl rfl rfl ?_
        refine b_bipush (n := 64) (v := 22) dX7_replayed_62 rfl (by decide) ?_
        refine b_iconst (n := 65) (v := 3) dX7_replayed_64 rfl (by decide) ?_
        refine b_iload (n := 67) 4 dX7_replayed_65 rfl rfl ?_
        refine b_imul (n := 68) dX7_replayed_67 rfl ?_
        refine b_iadd (n := 69) dX7_replayed_68 rfl ?_
        refine b_iconst (n := 70) (v := 2) dX7_replayed_69 rfl (by decide) ?_
        refine b_iadd (n := 71) dX7_replayed_70 rfl ?_
        refine bSi (n := 74) (As := [.int y1, .int ((22 + (3 * y4)) + 2)]) (rest := [.ref (ad 5)]) lk_X7_163 (c_md_of (Nat.le_refl _)) (by omega) rfl rfl (Nat.le_of_ble_eq_true rfl) dX7_replayed_71 rfl (fun k71 => ?_)
        refine b_iald (n := 75) 5 dX7_replayed_74 rfl hM_a5 (fun v74 => ?_)
        refine b_goto (n := 79) dX7_replayed_75 (by decide) ?_
        refine b_istore_n (n := 80) (L' := [(3, .int v74), (0, .ref (ad 0)), (1, .int y1), (2, .int y2), (4, .int y4)]) dX7_replayed_79 rfl rfl (Nat.le_of_ble_eq_true rfl) rfl ?_
        refine b_iinc (n := 83) (L' := [(4, .int (y4 + 1)), (3, .int v74), (0, .ref (ad 0)), (1, .int y1), (2, .int y2)]) 4 1 dX7_replayed_80 rfl rfl (by decide) (Nat.le_of_ble_eq_true rfl) rfl ?_
        refine b_goto (n := 24) dX7_replayed_83 (by decide) ?_
        refine Bd.sub (L' := [(0, .ref (ad 0)), (1, .int y1), (2, .int y2), (3, .int v74), (4, .int (y4 + 1))]) [2, 3, 4, 1, 0] rfl ?_
        exact ih _ _ _ _
      · refine b_iload_n (n := 79) 3 dX7_replayed_78 rfl rfl rfl ?_
        refine b_istore_n (n := 80) (L' := [(3, .int y3), (0, .ref (ad 0)), (1, .int y1), (2, .int y2), (4, .int y4)]) dX7_replayed_79 rfl rfl (Nat.le_of_ble_eq_true rfl) rfl ?_
        refine b_iinc (n := 83) (L' := [(4, .int (y4 + 1)), (3, .int y3), (0, .ref (ad 0)), (1, .int y1), (2, .int y2)]) 4 1 dX7_replayed_80 rfl rfl (by decide) (Nat.le_of_ble_eq_true rfl) rfl ?_
        refine b_goto (n := 24) dX7_replayed_83 (by decide) ?_
        refine Bd.sub (L' := [(0, .ref (ad 0)), (1, .int y1), (2, .int y2), (3, .int y3), (4, .int (y4 + 1))]) [2, 3, 4, 1, 0] rfl ?_
        exact ih _ _ _ _
    · refine b_iload_n (n := 87) 2 dX7_replayed_86 rfl rfl rfl ?_
      refine b_if (fun h87_0 => ?_) (fun h87_0 => ?_)
      · refine b_tsIn (n := 120) (w := 0) h87_0 dX7_replayed_87 (by decide) (by decide) rfl (by decide) ?_
        refine b_iload_n (n := 121) 3 dX7_replayed_120 rfl rfl rfl ?_
        exact b_iret dX7_replayed_121 rfl rfl
      refine b_if (fun h87_1 => ?_) (fun h87_1 => ?_)
      · refine b_tsIn (n := 122) (w := 1) h87_1 dX7_replayed_87 (by decide) (by decide) rfl (by decide) ?_
        refine b_aload_n (n := 123) 0 dX7_replayed_122 rfl rfl rfl ?_
        refine b_iload_n (n := 124) 1 dX7_replayed_123 rfl rfl rfl ?_
        refine b_iconst (n := 125) (v := 2) dX7_replayed_124 rfl (by decide) ?_
        refine bV0i (n := 128) (As := [.int y1, .int 2]) (rest := []) 0 lk_X7_266 (c_md_entriesOf (Nat.le_refl _)) (by omega) rfl rfl rfl rfl (Nat.le_of_ble_eq_true rfl) dX7_replayed_125 rfl (fun k125 => ?_)
        exact b_iret dX7_replayed_128 rfl rfl
      refine b_if (fun h87_2 => ?_) (fun h87_2 => ?_)
      · refine b_tsIn (n := 129) (w := 2) h87_2 dX7_replayed_87 (by decide) (by decide) rfl (by decide) ?_
        refine b_aload_n (n := 130) 0 dX7_replayed_129 rfl rfl rfl ?_
        refine b_iload_n (n := 131) 1 dX7_replayed_130 rfl rfl rfl ?_
        refine b_bipush (n := 133) (v := 6) dX7_replayed_131 rfl (by decide) ?_
        refine bV0i (n := 136) (As := [.int y1, .int 6]) (rest := []) 0 lk_X7_266 (c_md_entriesOf (Nat.le_refl _)) (by omega) rfl rfl rfl rfl (Nat.le_of_ble_eq_true rfl) dX7_replayed_133 rfl (fun k133 => ?_)
        exact b_iret dX7_replayed_136 rfl rfl
      refine b_if (fun h87_3 => ?_) (fun h87_3 => ?_)
      · refine b_tsIn (n := 137) (w := 3) h87_3 dX7_replayed_87 (by decide) (by decide) rfl (by decide) ?_
        refine b_aload_n (n := 138) 0 dX7_replayed_137 rfl rfl rfl ?_
        refine b_iload_n (n := 139) 1 dX7_replayed_138 rfl rfl rfl ?_
        refine b_bipush (n := 141) (v := 7) dX7_replayed_139 rfl (by decide) ?_
        refine bV0i (n := 144) (As := [.int y1, .int 7]) (rest := []) 0 lk_X7_266 (c_md_entriesOf (Nat.le_refl _)) (by omega) rfl rfl rfl rfl (Nat.le_of_ble_eq_true rfl) dX7_replayed_141 rfl (fun k141 => ?_)
        exact b_iret dX7_replayed_144 rfl rfl
      refine b_if (fun h87_4 => ?_) (fun h87_4 => ?_)
      · refine b_tsIn (n := 145) (w := 4) h87_4 dX7_replayed_87 (by decide) (by decide) rfl (by decide) ?_
        refine b_aload_n (n := 146) 0 dX7_replayed_145 rfl rfl rfl ?_
        refine b_iload_n (n := 147) 1 dX7_replayed_146 rfl rfl rfl ?_
        refine b_iconst (n := 148) (v := 0) dX7_replayed_147 rfl (by decide) ?_
        refine bV0i (n := 151) (As := [.int y1, .int 0]) (rest := []) 0 lk_X7_266 (c_md_entriesOf (Nat.le_refl _)) (by omega) rfl rfl rfl rfl (Nat.le_of_ble_eq_true rfl) dX7_replayed_148 rfl (fun k148 => ?_)
        refine b_aload_n (n := 152) 0 dX7_replayed_151 rfl rfl rfl ?_
        refine b_iload_n (n := 153) 1 dX7_replayed_152 rfl rfl rfl ?_
        refine b_iconst (n := 154) (v := 5) dX7_replayed_153 rfl (by decide) ?_
        refine bV0i (n := 157) (As := [.int y1, .int 5]) (rest := [.int k148]) 0 lk_X7_266 (c_md_entriesOf (Nat.le_refl _)) (by omega) rfl rfl rfl rfl (Nat.le_of_ble_eq_true rfl) dX7_replayed_154 rfl (fun k154 => ?_)
        refine b_iadd (n := 158) dX7_replayed_157 rfl ?_
        exact b_iret dX7_replayed_158 rfl rfl
      refine b_tsOut (n := 159) dX7_replayed_87 (by have nh87_0 := i32_ne (k := 0) h87_0 (by decide); have nh87_1 := i32_ne (k := 1) h87_1 (by decide); have nh87_2 := i32_ne (k := 2) h87_2 (by decide); have nh87_3 := i32_ne (k := 3) h87_3 (by decide); have nh87_4 := i32_ne (k := 4) h87_4 (by decide); omega) (by decide) ?_
      refine b_aload_n (n := 160) 0 dX7_replayed_159 rfl rfl rfl ?_
      refine b_iload_n (n := 161) 1 dX7_replayed_160 rfl rfl rfl ?_
      refine b_iconst (n := 162) (v := 1) dX7_replayed_161 rfl (by decide) ?_
      refine bV0i (n := 165) (As := [.int y1, .int 1]) (rest := []) 0 lk_X7_266 (c_md_entriesOf (Nat.le_refl _)) (by omega) rfl rfl rfl rfl (Nat.le_of_ble_eq_true rfl) dX7_replayed_162 rfl (fun k162 => ?_)
      exact b_iret dX7_replayed_165 rfl rfl
def md_replayed (N : Nat) (μ : Mem) (x1 : Int32) (x2 : Int32)  : Option (Int32) :=
  (md_isInstance μ x1).bind fun k2 =>
  if k2 = true then
    ((md_isIn x2 0 5).bind fun k11 =>
    if k11 = true then
      (md_replayed_24 N μ N x1 x2 0 0)
    else
      (some ((-1))))
  else
    (some ((-1)))
set_option maxHeartbeats 400000 in
set_option maxRecDepth 100000 in
theorem c_md_replayed {l : Launch} {E : Ev} {ad : Nat → Nat} {d : Nat} {N : Nat}  {μ : Mem} {x1 : Int32} {x2 : Int32}  (hd : 4 ≤ d) : Ct l yX7_replayed cX7_replayed 5 (some .int) d E (hM E ad μ) [.ref (ad 0), .int x1, .int x2] (fun v : Int32 => (some (.int v), hM E ad μ)) (md_replayed N μ x1 x2) := by
  refine Ct.of2 (own := RX7) (L := [(0, .ref (ad 0)), (1, .int x1), (2, .int x2)]) rfl (by decide +kernel) (Nat.le_of_ble_eq_true rfl) rfl ?_
  unfold md_replayed
  refine b_aload_n (n := 1) 0 dX7_replayed_0 rfl rfl rfl ?_
  refine b_iload_n (n := 2) 1 dX7_replayed_1 rfl rfl rfl ?_
  refine bV0b (n := 5) (As := [.int x1]) (rest := []) 0 lk_X7_243 (c_md_isInstance (Nat.le_refl _)) (by omega) rfl rfl rfl rfl (Nat.le_of_ble_eq_true rfl) dX7_replayed_2 rfl (fun k2 => ?_)
  refine b_bz (n := 8) (tgt := 17) dX7_replayed_5 (by decide) rfl (fun h5 => ?_) (fun h5 => ?_)
  · refine b_iload_n (n := 9) 2 dX7_replayed_8 rfl rfl rfl ?_
    refine b_iconst (n := 10) (v := 0) dX7_replayed_9 rfl (by decide) ?_
    refine b_iconst (n := 11) (v := 5) dX7_replayed_10 rfl (by decide) ?_
    refine bSb (n := 14) (As := [.int x2, .int 0, .int 5]) (rest := []) lk_X7_38 (c_md_isIn (Nat.le_refl _)) (by omega) rfl rfl (Nat.le_of_ble_eq_true rfl) dX7_replayed_11 rfl (fun k11 => ?_)
    refine b_bnz (n := 17) (tgt := 19) dX7_replayed_14 (by decide) rfl (fun h14 => ?_) (fun h14 => ?_)
    · refine b_iconst (n := 20) (v := 0) dX7_replayed_19 rfl (by decide) ?_
      refine b_istore_n (n := 21) (L' := [(3, .int 0), (0, .ref (ad 0)), (1, .int x1), (2, .int x2)]) dX7_replayed_20 rfl rfl (Nat.le_of_ble_eq_true rfl) rfl ?_
      refine b_iconst (n := 22) (v := 0) dX7_replayed_21 rfl (by decide) ?_
      refine b_istore (n := 24) (L' := [(4, .int 0), (3, .int 0), (0, .ref (ad 0)), (1, .int x1), (2, .int x2)]) dX7_replayed_22 rfl (Nat.le_of_ble_eq_true rfl) rfl ?_
      refine Bd.sub (L' := [(0, .ref (ad 0)), (1, .int x1), (2, .int x2), (3, .int 0), (4, .int 0)]) [2, 3, 4, 1, 0] rfl ?_
      exact w_md_replayed_24 hd _ _ _ _ _
    · refine b_iconst (n := 18) (v := -1) dX7_replayed_17 rfl (by decide) ?_
      exact b_iret dX7_replayed_18 rfl rfl
  · refine b_iconst (n := 18) (v := -1) dX7_replayed_17 rfl (by decide) ?_
    exact b_iret dX7_replayed_18 rfl rfl
def md_instancesOf_5 (N : Nat) (μ : Mem)  : Nat → Int32 → Int32 → Int32 → Int32 → Option (Int32)
  | 0, _, _, _, _ => none
  | n + 1, y1, y2, y3, y4 =>
    if y4 < 6 then
      ((md_isInstance μ y4).bind fun k16 =>
      if k16 = true then
        ((md_of y4 2).bind fun k29 =>
        (rd 7593 (μ 5) k29).bind fun v32 =>
        if v32 = y1 then
          (if y2 < 0 then
            (md_instancesOf_5 N μ n y1 y2 (y3 + 1) (y4 + 1))
          else
            ((md_of y4 1).bind fun k48 =>
            (rd 7593 (μ 5) k48).bind fun v51 =>
            if v51 = y2 then
              (md_instancesOf_5 N μ n y1 y2 (y3 + 1) (y4 + 1))
            else
              (md_instancesOf_5 N μ n y1 y2 (y3 + 0) (y4 + 1))))
        else
          (md_instancesOf_5 N μ n y1 y2 (y3 + 0) (y4 + 1)))
      else
        (md_instancesOf_5 N μ n y1 y2 (y3 + 0) (y4 + 1)))
    else
      (some y3)
set_option maxHeartbeats 400000 in
set_option maxRecDepth 100000 in
theorem w_md_instancesOf_5 {l : Launch} {E : Ev} {ad : Nat → Nat} {A : Nat → Prop} {d : Nat} {N : Nat}  {μ : Mem}  (hd : 3 ≤ d)  (n : Nat) : ∀ (y1 : Int32) (y2 : Int32) (y3 : Int32) (y4 : Int32), Bd l E A RX7 cX7_instancesOf 5 (some .int) d (fun v : Int32 => (some (.int v), hM E ad μ)) 5 [(0, .ref (ad 0)), (1, .int y1), (2, .int y2), (3, .int y3), (4, .int y4)] [] (hM E ad μ) (md_instancesOf_5 N μ n y1 y2 y3 y4) := by
  induction n with
  | zero => intro y1 y2 y3 y4; exact b_none
  | succ n ih =>
    intro y1 y2 y3 y4
    rw [md_instancesOf_5]
    refine b_iload (n := 7) 4 dX7_instancesOf_5 rfl rfl ?_
    refine b_bipush (n := 9) (v := 6) dX7_instancesOf_7 rfl (by decide) ?_
    refine b_cmp_ge (n := 12) (tgt := 69) dX7_instancesOf_9 (by decide) rfl (fun h9 => ?_) (fun h9 => ?_)
    · refine b_iload_n (n := 13) 3 dX7_instancesOf_12 rfl rfl rfl ?_
      refine b_aload_n (n := 14) 0 dX7_instancesOf_13 rfl rfl rfl ?_
      refine b_iload (n := 16) 4 dX7_instancesOf_14 rfl rfl ?_
      refine bV0b (n := 19) (As := [.int y4]) (rest := [.int y3]) 0 lk_X7_243 (c_md_isInstance (Nat.le_refl _)) (by omega) rfl rfl rfl rfl (Nat.le_of_ble_eq_true rfl) dX7_instancesOf_16 rfl (fun k16 => ?_)
      refine b_bz (n := 22) (tgt := 60) dX7_instancesOf_19 (by decide) rfl (fun h19 => ?_) (fun h19 => ?_)
      · refine b_aload_n (n := 23) 0 dX7_instancesOf_22 rfl rfl rfl ?_
        refine b_get (n := 26) (v := .ref (ad 5)) 0 f_X7_22 dX7_instancesOf_23 rfl hM_o0 rfl ?_
        refine b_iload (n := 28) 4 dX7_instancesOf_26 rfl rfl ?_
        refine b_iconst (n := 29) (v := 2) dX7_instancesOf_28 rfl (by decide) ?_
        refine bSi (n := 32) (As := [.int y4, .int 2]) (rest := [.ref (ad 5), .int y3]) lk_X7_163 (c_md_of (Nat.le_refl _)) (by omega) rfl rfl (Nat.le_of_ble_eq_true rfl) dX7_instancesOf_29 rfl (fun k29 => ?_)
        refine b_iald (n := 33) 5 dX7_instancesOf_32 rfl hM_a5 (fun v32 => ?_)
        refine b_iload_n (n := 34) 1 dX7_instancesOf_33 rfl rfl rfl ?_
        refine b_cmp_ne (n := 37) (tgt := 60) dX7_instancesOf_34 (by decide) rfl (fun h34 => ?_) (fun h34 => ?_)
        · refine b_iload_n (n := 38) 2 dX7_instancesOf_37 rfl rfl rfl ?_
          refine b_if_lt (n := 41) (tgt := 56) dX7_instancesOf_38 (by decide) rfl (fun h38 => ?_) (fun h38 => ?_)
          · refine b_iconst (n := 57) (v := 1) dX7_instancesOf_56 rfl (by decide) ?_
            refine b_goto (n := 61) dX7_instancesOf_57 (by decide) ?_
            refine b_iadd (n := 62) dX7_instancesOf_61 rfl ?_
            refine b_istore_n (n := 63) (L' := [(3, .int (y3 + 1)), (0, .ref (ad 0)), (1, .int y1), (2, .int y2), (4, .int y4)]) dX7_instancesOf_62 rfl rfl (Nat.le_of_ble_eq_true rfl) rfl ?_
            refine b_iinc (n := 66) (L' := [(4, .int (y4 + 1)), (3, .int (y3 + 1)), (0, .ref (ad 0)), (1, .int y1), (2, .int y2)]) 4 1 dX7_instancesOf_63 rfl rfl (by decide) (Nat.le_of_ble_eq_true rfl) rfl ?_
            refine b_goto (n := 5) dX7_instancesOf_66 (by decide) ?_
            refine Bd.sub (L' := [(0, .ref (ad 0)), (1, .int y1), (2, .int y2), (3, .int (y3 + 1)), (4, .int (y4 + 1))]) [2, 3, 4, 1, 0] rfl ?_
            exact ih _ _ _ _
          · refine b_aload_n (n := 42) 0 dX7_instancesOf_41 rfl rfl rfl ?_
            refine b_get (n := 45) (v := .ref (ad 5)) 0 f_X7_22 dX7_instancesOf_42 rfl hM_o0 rfl ?_
            refine b_iload (n := 47) 4 dX7_instancesOf_45 rfl rfl ?_
            refine b_iconst (n := 48) (v := 1) dX7_instancesOf_47 rfl (by decide) ?_
            refine bSi (n := 51) (As := [.int y4, .int 1]) (rest := [.ref (ad 5), .int y3]) lk_X7_163 (c_md_of (Nat.le_refl _)) (by omega) rfl rfl (Nat.le_of_ble_eq_true rfl) dX7_instancesOf_48 rfl (fun k48 => ?_)
            refine b_iald (n := 52) 5 dX7_instancesOf_51 rfl hM_a5 (fun v51 => ?_)
            refine b_iload_n (n := 53) 2 dX7_instancesOf_52 rfl rfl rfl ?_
            refine b_cmp_ne (n := 56) (tgt := 60) dX7_instancesOf_53 (by decide) rfl (fun h53 => ?_) (fun h53 => ?_)
            · refine b_iconst (n := 57) (v := 1) dX7_instancesOf_56 rfl (by decide) ?_
              refine b_goto (n := 61) dX7_instancesOf_57 (by decide) ?_
              refine b_iadd (n := 62) dX7_instancesOf_61 rfl ?_
              refine b_istore_n (n := 63) (L' := [(3, .int (y3 + 1)), (0, .ref (ad 0)), (1, .int y1), (2, .int y2), (4, .int y4)]) dX7_instancesOf_62 rfl rfl (Nat.le_of_ble_eq_true rfl) rfl ?_
              refine b_iinc (n := 66) (L' := [(4, .int (y4 + 1)), (3, .int (y3 + 1)), (0, .ref (ad 0)), (1, .int y1), (2, .int y2)]) 4 1 dX7_instancesOf_63 rfl rfl (by decide) (Nat.le_of_ble_eq_true rfl) rfl ?_
              refine b_goto (n := 5) dX7_instancesOf_66 (by decide) ?_
              refine Bd.sub (L' := [(0, .ref (ad 0)), (1, .int y1), (2, .int y2), (3, .int (y3 + 1)), (4, .int (y4 + 1))]) [2, 3, 4, 1, 0] rfl ?_
              exact ih _ _ _ _
            · refine b_iconst (n := 61) (v := 0) dX7_instancesOf_60 rfl (by decide) ?_
              refine b_iadd (n := 62) dX7_instancesOf_61 rfl ?_
              refine b_istore_n (n := 63) (L' := [(3, .int (y3 + 0)), (0, .ref (ad 0)), (1, .int y1), (2, .int y2), (4, .int y4)]) dX7_instancesOf_62 rfl rfl (Nat.le_of_ble_eq_true rfl) rfl ?_
              refine b_iinc (n := 66) (L' := [(4, .int (y4 + 1)), (3, .int (y3 + 0)), (0, .ref (ad 0)), (1, .int y1), (2, .int y2)]) 4 1 dX7_instancesOf_63 rfl rfl (by decide) (Nat.le_of_ble_eq_true rfl) rfl ?_
              refine b_goto (n := 5) dX7_instancesOf_66 (by decide) ?_
              refine Bd.sub (L' := [(0, .ref (ad 0)), (1, .int y1), (2, .int y2), (3, .int (y3 + 0)), (4, .int (y4 + 1))]) [2, 3, 4, 1, 0] rfl ?_
              exact ih _ _ _ _
        · refine b_iconst (n := 61) (v := 0) dX7_instancesOf_60 rfl (by decide) ?_
          refine b_iadd (n := 62) dX7_instancesOf_61 rfl ?_
          refine b_istore_n (n := 63) (L' := [(3, .int (y3 + 0)), (0, .ref (ad 0)), (1, .int y1), (2, .int y2), (4, .int y4)]) dX7_instancesOf_62 rfl rfl (Nat.le_of_ble_eq_true rfl) rfl ?_
          refine b_iinc (n := 66) (L' := [(4, .int (y4 + 1)), (3, .int (y3 + 0)), (0, .ref (ad 0)), (1, .int y1), (2, .int y2)]) 4 1 dX7_instancesOf_63 rfl rfl (by decide) (Nat.le_of_ble_eq_true rfl) rfl ?_
          refine b_goto (n := 5) dX7_instancesOf_66 (by decide) ?_
          refine Bd.sub (L' := [(0, .ref (ad 0)), (1, .int y1), (2, .int y2), (3, .int (y3 + 0)), (4, .int (y4 + 1))]) [2, 3, 4, 1, 0] rfl ?_
          exact ih _ _ _ _
      · refine b_iconst (n := 61) (v := 0) dX7_instancesOf_60 rfl (by decide) ?_
        refine b_iadd (n := 62) dX7_instancesOf_61 rfl ?_
        refine b_istore_n (n := 63) (L' := [(3, .int (y3 + 0)), (0, .ref (ad 0)), (1, .int y1), (2, .int y2), (4, .int y4)]) dX7_instancesOf_62 rfl rfl (Nat.le_of_ble_eq_true rfl) rfl ?_
        refine b_iinc (n := 66) (L' := [(4, .int (y4 + 1)), (3, .int (y3 + 0)), (0, .ref (ad 0)), (1, .int y1), (2, .int y2)]) 4 1 dX7_instancesOf_63 rfl rfl (by decide) (Nat.le_of_ble_eq_true rfl) rfl ?_
        refine b_goto (n := 5) dX7_instancesOf_66 (by decide) ?_
        refine Bd.sub (L' := [(0, .ref (ad 0)), (1, .int y1), (2, .int y2), (3, .int (y3 + 0)), (4, .int (y4 + 1))]) [2, 3, 4, 1, 0] rfl ?_
        exact ih _ _ _ _
    · refine b_iload_n (n := 70) 3 dX7_instancesOf_69 rfl rfl rfl ?_
      exact b_iret dX7_instancesOf_70 rfl rfl
def md_instancesOf (N : Nat) (μ : Mem) (x1 : Int32) (x2 : Int32)  : Option (Int32) :=
  md_instancesOf_5 N μ N x1 x2 0 0
set_option maxHeartbeats 400000 in
set_option maxRecDepth 100000 in
theorem c_md_instancesOf {l : Launch} {E : Ev} {ad : Nat → Nat} {d : Nat} {N : Nat}  {μ : Mem} {x1 : Int32} {x2 : Int32}  (hd : 3 ≤ d) : Ct l yX7_instancesOf cX7_instancesOf 5 (some .int) d E (hM E ad μ) [.ref (ad 0), .int x1, .int x2] (fun v : Int32 => (some (.int v), hM E ad μ)) (md_instancesOf N μ x1 x2) := by
  refine Ct.of2 (own := RX7) (L := [(0, .ref (ad 0)), (1, .int x1), (2, .int x2)]) rfl (by decide +kernel) (Nat.le_of_ble_eq_true rfl) rfl ?_
  unfold md_instancesOf
  refine b_iconst (n := 1) (v := 0) dX7_instancesOf_0 rfl (by decide) ?_
  refine b_istore_n (n := 2) (L' := [(3, .int 0), (0, .ref (ad 0)), (1, .int x1), (2, .int x2)]) dX7_instancesOf_1 rfl rfl (Nat.le_of_ble_eq_true rfl) rfl ?_
  refine b_iconst (n := 3) (v := 0) dX7_instancesOf_2 rfl (by decide) ?_
  refine b_istore (n := 5) (L' := [(4, .int 0), (3, .int 0), (0, .ref (ad 0)), (1, .int x1), (2, .int x2)]) dX7_instancesOf_3 rfl (Nat.le_of_ble_eq_true rfl) rfl ?_
  refine Bd.sub (L' := [(0, .ref (ad 0)), (1, .int x1), (2, .int x2), (3, .int 0), (4, .int 0)]) [2, 3, 4, 1, 0] rfl ?_
  exact w_md_instancesOf_5 hd _ _ _ _ _
def md_withStatus_4 (N : Nat) (μ : Mem)  : Nat → Int32 → Int32 → Int32 → Option (Int32)
  | 0, _, _, _ => none
  | n + 1, y1, y2, y3 =>
    if y3 < 4 then
      ((md_instancesOf N μ y3 y1).bind fun k13 =>
      md_withStatus_4 N μ n y1 (y2 + k13) (y3 + 1))
    else
      (some y2)
set_option maxHeartbeats 400000 in
set_option maxRecDepth 100000 in
theorem w_md_withStatus_4 {l : Launch} {E : Ev} {ad : Nat → Nat} {A : Nat → Prop} {d : Nat} {N : Nat}  {μ : Mem}  (hd : 4 ≤ d)  (n : Nat) : ∀ (y1 : Int32) (y2 : Int32) (y3 : Int32), Bd l E A RX7 cX7_withStatus 4 (some .int) d (fun v : Int32 => (some (.int v), hM E ad μ)) 4 [(0, .ref (ad 0)), (1, .int y1), (2, .int y2), (3, .int y3)] [] (hM E ad μ) (md_withStatus_4 N μ n y1 y2 y3) := by
  induction n with
  | zero => intro y1 y2 y3; exact b_none
  | succ n ih =>
    intro y1 y2 y3
    rw [md_withStatus_4]
    refine b_iload_n (n := 5) 3 dX7_withStatus_4 rfl rfl rfl ?_
    refine b_iconst (n := 6) (v := 4) dX7_withStatus_5 rfl (by decide) ?_
    refine b_cmp_ge (n := 9) (tgt := 24) dX7_withStatus_6 (by decide) rfl (fun h6 => ?_) (fun h6 => ?_)
    · refine b_iload_n (n := 10) 2 dX7_withStatus_9 rfl rfl rfl ?_
      refine b_aload_n (n := 11) 0 dX7_withStatus_10 rfl rfl rfl ?_
      refine b_iload_n (n := 12) 3 dX7_withStatus_11 rfl rfl rfl ?_
      refine b_iload_n (n := 13) 1 dX7_withStatus_12 rfl rfl rfl ?_
      refine bV0i (n := 16) (As := [.int y3, .int y1]) (rest := [.int y2]) 0 lk_X7_269 (c_md_instancesOf (Nat.le_refl _)) (by omega) rfl rfl rfl rfl (Nat.le_of_ble_eq_true rfl) dX7_withStatus_13 rfl (fun k13 => ?_)
      refine b_iadd (n := 17) dX7_withStatus_16 rfl ?_
      refine b_istore_n (n := 18) (L' := [(2, .int (y2 + k13)), (0, .ref (ad 0)), (1, .int y1), (3, .int y3)]) dX7_withStatus_17 rfl rfl (Nat.le_of_ble_eq_true rfl) rfl ?_
      refine b_iinc (n := 21) (L' := [(3, .int (y3 + 1)), (2, .int (y2 + k13)), (0, .ref (ad 0)), (1, .int y1)]) 3 1 dX7_withStatus_18 rfl rfl (by decide) (Nat.le_of_ble_eq_true rfl) rfl ?_
      refine b_goto (n := 4) dX7_withStatus_21 (by decide) ?_
      refine Bd.sub (L' := [(0, .ref (ad 0)), (1, .int y1), (2, .int (y2 + k13)), (3, .int (y3 + 1))]) [2, 3, 1, 0] rfl ?_
      exact ih _ _ _
    · refine b_iload_n (n := 25) 2 dX7_withStatus_24 rfl rfl rfl ?_
      exact b_iret dX7_withStatus_25 rfl rfl
def md_withStatus (N : Nat) (μ : Mem) (x1 : Int32)  : Option (Int32) :=
  md_withStatus_4 N μ N x1 0 0
set_option maxHeartbeats 400000 in
set_option maxRecDepth 100000 in
theorem c_md_withStatus {l : Launch} {E : Ev} {ad : Nat → Nat} {d : Nat} {N : Nat}  {μ : Mem} {x1 : Int32}  (hd : 4 ≤ d) : Ct l yX7_withStatus cX7_withStatus 4 (some .int) d E (hM E ad μ) [.ref (ad 0), .int x1] (fun v : Int32 => (some (.int v), hM E ad μ)) (md_withStatus N μ x1) := by
  refine Ct.of2 (own := RX7) (L := [(0, .ref (ad 0)), (1, .int x1)]) rfl (by decide +kernel) (Nat.le_of_ble_eq_true rfl) rfl ?_
  unfold md_withStatus
  refine b_iconst (n := 1) (v := 0) dX7_withStatus_0 rfl (by decide) ?_
  refine b_istore_n (n := 2) (L' := [(2, .int 0), (0, .ref (ad 0)), (1, .int x1)]) dX7_withStatus_1 rfl rfl (Nat.le_of_ble_eq_true rfl) rfl ?_
  refine b_iconst (n := 3) (v := 0) dX7_withStatus_2 rfl (by decide) ?_
  refine b_istore_n (n := 4) (L' := [(3, .int 0), (2, .int 0), (0, .ref (ad 0)), (1, .int x1)]) dX7_withStatus_3 rfl rfl (Nat.le_of_ble_eq_true rfl) rfl ?_
  refine Bd.sub (L' := [(0, .ref (ad 0)), (1, .int x1), (2, .int 0), (3, .int 0)]) [2, 3, 1, 0] rfl ?_
  exact w_md_withStatus_4 hd _ _ _ _
def md_versions_4 (N : Nat) (μ : Mem)  : Nat → Int32 → Int32 → Option (Int32)
  | 0, _, _ => none
  | n + 1, y1, y2 =>
    if y2 < 4 then
      ((rd 7593 (μ 5) (17 + y2)).bind fun v18 =>
      md_versions_4 N μ n (y1 + v18) (y2 + 1))
    else
      (some y1)
set_option maxHeartbeats 400000 in
set_option maxRecDepth 100000 in
theorem w_md_versions_4 {l : Launch} {E : Ev} {ad : Nat → Nat} {A : Nat → Prop} {d : Nat} {N : Nat}  {μ : Mem}  (hd : 1 ≤ d)  (n : Nat) : ∀ (y1 : Int32) (y2 : Int32), Bd l E A RX7 cX7_versions 3 (some .int) d (fun v : Int32 => (some (.int v), hM E ad μ)) 4 [(0, .ref (ad 0)), (1, .int y1), (2, .int y2)] [] (hM E ad μ) (md_versions_4 N μ n y1 y2) := by
  induction n with
  | zero => intro y1 y2; exact b_none
  | succ n ih =>
    intro y1 y2
    rw [md_versions_4]
    refine b_iload_n (n := 5) 2 dX7_versions_4 rfl rfl rfl ?_
    refine b_iconst (n := 6) (v := 4) dX7_versions_5 rfl (by decide) ?_
    refine b_cmp_ge (n := 9) (tgt := 27) dX7_versions_6 (by decide) rfl (fun h6 => ?_) (fun h6 => ?_)
    · refine b_iload_n (n := 10) 1 dX7_versions_9 rfl rfl rfl ?_
      refine b_aload_n (n := 11) 0 dX7_versions_10 rfl rfl rfl ?_
      refine b_get (n := 14) (v := .ref (ad 5)) 0 f_X7_22 dX7_versions_11 rfl hM_o0 rfl ?_
      refine b_bipush (n := 16) (v := 17) dX7_versions_14 rfl (by decide) ?_
      refine b_iload_n (n := 17) 2 dX7_versions_16 rfl rfl rfl ?_
      refine b_iadd (n := 18) dX7_versions_17 rfl ?_
      refine b_iald (n := 19) 5 dX7_versions_18 rfl hM_a5 (fun v18 => ?_)
      refine b_iadd (n := 20) dX7_versions_19 rfl ?_
      refine b_istore_n (n := 21) (L' := [(1, .int (y1 + v18)), (0, .ref (ad 0)), (2, .int y2)]) dX7_versions_20 rfl rfl (Nat.le_of_ble_eq_true rfl) rfl ?_
      refine b_iinc (n := 24) (L' := [(2, .int (y2 + 1)), (1, .int (y1 + v18)), (0, .ref (ad 0))]) 2 1 dX7_versions_21 rfl rfl (by decide) (Nat.le_of_ble_eq_true rfl) rfl ?_
      refine b_goto (n := 4) dX7_versions_24 (by decide) ?_
      refine Bd.sub (L' := [(0, .ref (ad 0)), (1, .int (y1 + v18)), (2, .int (y2 + 1))]) [2, 1, 0] rfl ?_
      exact ih _ _
    · refine b_iload_n (n := 28) 1 dX7_versions_27 rfl rfl rfl ?_
      exact b_iret dX7_versions_28 rfl rfl
def md_versions (N : Nat) (μ : Mem)   : Option (Int32) :=
  md_versions_4 N μ N 0 0
set_option maxHeartbeats 400000 in
set_option maxRecDepth 100000 in
theorem c_md_versions {l : Launch} {E : Ev} {ad : Nat → Nat} {d : Nat} {N : Nat}  {μ : Mem}   (hd : 1 ≤ d) : Ct l yX7_versions cX7_versions 3 (some .int) d E (hM E ad μ) [.ref (ad 0)] (fun v : Int32 => (some (.int v), hM E ad μ)) (md_versions N μ) := by
  refine Ct.of2 (own := RX7) (L := [(0, .ref (ad 0))]) rfl (by decide +kernel) (Nat.le_of_ble_eq_true rfl) rfl ?_
  unfold md_versions
  refine b_iconst (n := 1) (v := 0) dX7_versions_0 rfl (by decide) ?_
  refine b_istore_n (n := 2) (L' := [(1, .int 0), (0, .ref (ad 0))]) dX7_versions_1 rfl rfl (Nat.le_of_ble_eq_true rfl) rfl ?_
  refine b_iconst (n := 3) (v := 0) dX7_versions_2 rfl (by decide) ?_
  refine b_istore_n (n := 4) (L' := [(2, .int 0), (1, .int 0), (0, .ref (ad 0))]) dX7_versions_3 rfl rfl (Nat.le_of_ble_eq_true rfl) rfl ?_
  refine Bd.sub (L' := [(0, .ref (ad 0)), (1, .int 0), (2, .int 0)]) [2, 1, 0] rfl ?_
  exact w_md_versions_4 hd _ _ _
