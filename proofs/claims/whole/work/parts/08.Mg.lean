/-! the reference: partial pure functions, and the walk of each method (6) -/
def md_cancels_68 (N : Nat) (B : Int32 → Int32 → Mem → Option (Mem)) (K33 : Int32 → Int32 → Mem → Option (Mem)) (y1 : Int32) (y3 : Int32) (μ : Mem) : Option (Mem) :=
  (md_nodePart μ y1 y3 6).bind fun k73 =>
  K33 y1 k73 μ
set_option maxHeartbeats 400000 in
set_option maxRecDepth 100000 in
theorem w_md_cancels_68 {l : Launch} {E : Ev} {ad : Nat → Nat} {A : Nat → Prop} {d : Nat} {N : Nat}   {B : Int32 → Int32 → Mem → Option (Mem)} {dB : Nat} (hdB : 4 ≤ dB) (hB : ∀ (x1 : Int32) (x2 : Int32) (μ : Mem), Ct l yX7_cancels cX7_cancels 5 none dB E (hM E ad μ) [.ref (ad 0), .int x1, .int x2] (fun q : Mem => (none, hM E ad q)) (B x1 x2 μ)) {K33 : Int32 → Int32 → Mem → Option (Mem)} (hd : dB + 1 ≤ d) (hK33 : ∀ (y1 : Int32) (y3 : Int32) (μ : Mem), Bd l E A RX7 cX7_cancels 5 none d (fun q : Mem => (none, hM E ad q)) 33 [(0, .ref (ad 0)), (1, .int y1), (3, .int y3)] [] (hM E ad μ) (K33 y1 y3 μ)) (y1 : Int32) (y3 : Int32) (μ : Mem) : Bd l E A RX7 cX7_cancels 5 none d (fun q : Mem => (none, hM E ad q)) 68 [(0, .ref (ad 0)), (1, .int y1), (3, .int y3)] [] (hM E ad μ) (md_cancels_68 N B K33 y1 y3 μ) := by
  unfold md_cancels_68
  refine b_aload_n (n := 69) 0 dX7_cancels_68 rfl rfl rfl ?_
  refine b_iload_n (n := 70) 1 dX7_cancels_69 rfl rfl rfl ?_
  refine b_iload_n (n := 71) 2 dX7_cancels_70 rfl rfl rfl ?_
  refine b_bipush (n := 73) (v := 6) dX7_cancels_71 rfl (by decide) ?_
  refine bV0i (n := 76) (As := [.int y1, .int y3, .int 6]) (rest := []) 0 lk_X7_171 (c_md_nodePart (Nat.le_refl _)) (by omega) rfl rfl rfl rfl (Nat.le_of_ble_eq_true rfl) dX7_cancels_73 rfl (fun k73 => ?_)
  refine b_istore_n (n := 77) (L' := [(3, .int k73), (0, .ref (ad 0)), (1, .int y1)]) dX7_cancels_76 rfl rfl (Nat.le_of_ble_eq_true rfl) rfl ?_
  refine b_goto (n := 33) dX7_cancels_77 (by decide) ?_
  refine Bd.sub (L' := [(0, .ref (ad 0)), (1, .int y1), (3, .int k73)]) [1, 2, 0] rfl ?_
  exact hK33 _ _ _
def md_cancels_62 (N : Nat) (B : Int32 → Int32 → Mem → Option (Mem)) (K33 : Int32 → Int32 → Mem → Option (Mem)) (y1 : Int32) (y3 : Int32) (μ : Mem) : Option (Mem) :=
  (B y1 y3 μ).bind fun μ65 =>
  md_cancels_68 N B K33 y1 y3 μ65
set_option maxHeartbeats 400000 in
set_option maxRecDepth 100000 in
theorem w_md_cancels_62 {l : Launch} {E : Ev} {ad : Nat → Nat} {A : Nat → Prop} {d : Nat} {N : Nat}   {B : Int32 → Int32 → Mem → Option (Mem)} {dB : Nat} (hdB : 4 ≤ dB) (hB : ∀ (x1 : Int32) (x2 : Int32) (μ : Mem), Ct l yX7_cancels cX7_cancels 5 none dB E (hM E ad μ) [.ref (ad 0), .int x1, .int x2] (fun q : Mem => (none, hM E ad q)) (B x1 x2 μ)) {K33 : Int32 → Int32 → Mem → Option (Mem)} (hd : dB + 1 ≤ d) (hK33 : ∀ (y1 : Int32) (y3 : Int32) (μ : Mem), Bd l E A RX7 cX7_cancels 5 none d (fun q : Mem => (none, hM E ad q)) 33 [(0, .ref (ad 0)), (1, .int y1), (3, .int y3)] [] (hM E ad μ) (K33 y1 y3 μ)) (y1 : Int32) (y3 : Int32) (μ : Mem) : Bd l E A RX7 cX7_cancels 5 none d (fun q : Mem => (none, hM E ad q)) 62 [(0, .ref (ad 0)), (1, .int y1), (3, .int y3)] [] (hM E ad μ) (md_cancels_62 N B K33 y1 y3 μ) := by
  unfold md_cancels_62
  refine b_aload_n (n := 63) 0 dX7_cancels_62 rfl rfl rfl ?_
  refine b_iload_n (n := 64) 1 dX7_cancels_63 rfl rfl rfl ?_
  refine b_iload_n (n := 65) 2 dX7_cancels_64 rfl rfl rfl ?_
  refine bV0wv (n := 68) (hh := (fun s : Mem => hM E ad s)) (As := [.int y1, .int y3]) (rest := []) 0 lk_X7_208 (hB _ _ _) (by omega) (fun _ => rfl) rfl rfl rfl rfl (Nat.le_of_ble_eq_true rfl) dX7_cancels_65 rfl ?_
  rintro μ65
  try dsimp only
  exact w_md_cancels_68 hdB hB hd hK33 _ _ _
def md_cancels_33 (N : Nat) (B : Int32 → Int32 → Mem → Option (Mem))  : Nat → Int32 → Int32 → Mem → Option (Mem)
  | 0, _, _, _ => none
  | n + 1, y1, y3, μ =>
    if y3 < 0 then
      (some μ)
    else
      ((md_at y1 y3 0).bind fun k44 =>
      (rd 7593 (μ 5) k44).bind fun v47 =>
      if v47 = 1 then
        (md_cancels_62 N B (md_cancels_33 N B n) y1 y3 μ)
      else
        (if v47 = 5 then
          (md_cancels_62 N B (md_cancels_33 N B n) y1 y3 μ)
        else
          (md_cancels_68 N B (md_cancels_33 N B n) y1 y3 μ)))
set_option maxHeartbeats 400000 in
set_option maxRecDepth 100000 in
theorem w_md_cancels_33 {l : Launch} {E : Ev} {ad : Nat → Nat} {A : Nat → Prop} {d : Nat} {N : Nat}   {B : Int32 → Int32 → Mem → Option (Mem)} {dB : Nat} (hdB : 4 ≤ dB) (hB : ∀ (x1 : Int32) (x2 : Int32) (μ : Mem), Ct l yX7_cancels cX7_cancels 5 none dB E (hM E ad μ) [.ref (ad 0), .int x1, .int x2] (fun q : Mem => (none, hM E ad q)) (B x1 x2 μ))  (hd : dB + 1 ≤ d)  (n : Nat) : ∀ (y1 : Int32) (y3 : Int32) (μ : Mem), Bd l E A RX7 cX7_cancels 5 none d (fun q : Mem => (none, hM E ad q)) 33 [(0, .ref (ad 0)), (1, .int y1), (3, .int y3)] [] (hM E ad μ) (md_cancels_33 N B n y1 y3 μ) := by
  induction n with
  | zero => intro y1 y3 μ; exact b_none
  | succ n ih =>
    intro y1 y3 μ
    rw [md_cancels_33]
    refine b_iload_n (n := 34) 2 dX7_cancels_33 rfl rfl rfl ?_
    refine b_if_lt (n := 37) (tgt := 80) dX7_cancels_34 (by decide) rfl (fun h34 => ?_) (fun h34 => ?_)
    · exact b_vret dX7_cancels_80 rfl rfl
    · refine b_aload_n (n := 38) 0 dX7_cancels_37 rfl rfl rfl ?_
      refine b_get (n := 41) (v := .ref (ad 5)) 0 f_X7_22 dX7_cancels_38 rfl hM_o0 rfl ?_
      refine b_iload_n (n := 42) 1 dX7_cancels_41 rfl rfl rfl ?_
      refine b_iload_n (n := 43) 2 dX7_cancels_42 rfl rfl rfl ?_
      refine b_iconst (n := 44) (v := 0) dX7_cancels_43 rfl (by decide) ?_
      refine bSi (n := 47) (As := [.int y1, .int y3, .int 0]) (rest := [.ref (ad 5)]) lk_X7_169 (c_md_at (Nat.le_refl _)) (by omega) rfl rfl (Nat.le_of_ble_eq_true rfl) dX7_cancels_44 rfl (fun k44 => ?_)
      refine b_iald (n := 48) 5 dX7_cancels_47 rfl hM_a5 (fun v47 => ?_)
      refine b_istore (n := 50) (L' := [(4, .int v47), (0, .ref (ad 0)), (1, .int y1), (3, .int y3)]) dX7_cancels_48 rfl (Nat.le_of_ble_eq_true rfl) rfl ?_
      refine b_iload (n := 52) 0 dX7_cancels_50 rfl rfl ?_
      refine b_iconst (n := 53) (v := 1) dX7_cancels_52 rfl (by decide) ?_
      refine b_cmp_eq (n := 56) (tgt := 62) dX7_cancels_53 (by decide) rfl (fun h53 => ?_) (fun h53 => ?_)
      · refine Bd.sub (L' := [(0, .ref (ad 0)), (1, .int y1), (3, .int y3)]) [1, 2, 3] rfl ?_
        exact w_md_cancels_62 hdB hB hd (fun a0 a1 a2 => ih a0 a1 a2) _ _ _
      · refine b_iload (n := 58) 0 dX7_cancels_56 rfl rfl ?_
        refine b_iconst (n := 59) (v := 5) dX7_cancels_58 rfl (by decide) ?_
        refine b_cmp_ne (n := 62) (tgt := 68) dX7_cancels_59 (by decide) rfl (fun h59 => ?_) (fun h59 => ?_)
        · refine Bd.sub (L' := [(0, .ref (ad 0)), (1, .int y1), (3, .int y3)]) [1, 2, 3] rfl ?_
          exact w_md_cancels_62 hdB hB hd (fun a0 a1 a2 => ih a0 a1 a2) _ _ _
        · refine Bd.sub (L' := [(0, .ref (ad 0)), (1, .int y1), (3, .int y3)]) [1, 2, 3] rfl ?_
          exact w_md_cancels_68 hdB hB hd (fun a0 a1 a2 => ih a0 a1 a2) _ _ _
def md_cancels (N : Nat) (B : Int32 → Int32 → Mem → Option (Mem)) (x1 : Int32) (x2 : Int32) (μ : Mem) : Option (Mem) :=
  (md_at x1 x2 0).bind fun k7 =>
  ck 7593 k7 <|
  (md_at x1 x2 7).bind fun k20 =>
  ck 7593 k20 <|
  (md_nodePart (up (up μ 5 k7.toNatClampNeg 4) 5 k20.toNatClampNeg ((-1))) x1 x2 5).bind fun k29 =>
  md_cancels_33 N B N x1 k29 (up (up μ 5 k7.toNatClampNeg 4) 5 k20.toNatClampNeg ((-1)))
set_option maxHeartbeats 400000 in
set_option maxRecDepth 100000 in
theorem c_md_cancels {l : Launch} {E : Ev} {ad : Nat → Nat} {d : Nat} {N : Nat}   {B : Int32 → Int32 → Mem → Option (Mem)} {dB : Nat} {x1 : Int32} {x2 : Int32} {μ : Mem} (hd : dB + 1 ≤ d) (hdB : 4 ≤ dB) (hB : ∀ (x1 : Int32) (x2 : Int32) (μ : Mem), Ct l yX7_cancels cX7_cancels 5 none dB E (hM E ad μ) [.ref (ad 0), .int x1, .int x2] (fun q : Mem => (none, hM E ad q)) (B x1 x2 μ)) : Ct l yX7_cancels cX7_cancels 5 none d E (hM E ad μ) [.ref (ad 0), .int x1, .int x2] (fun q : Mem => (none, hM E ad q)) (md_cancels N B x1 x2 μ) := by
  refine Ct.of2 (own := RX7) (L := [(0, .ref (ad 0)), (1, .int x1), (2, .int x2)]) rfl (by decide +kernel) (Nat.le_of_ble_eq_true rfl) rfl ?_
  unfold md_cancels
  refine b_aload_n (n := 1) 0 dX7_cancels_0 rfl rfl rfl ?_
  refine b_get (n := 4) (v := .ref (ad 5)) 0 f_X7_22 dX7_cancels_1 rfl hM_o0 rfl ?_
  refine b_iload_n (n := 5) 1 dX7_cancels_4 rfl rfl rfl ?_
  refine b_iload_n (n := 6) 2 dX7_cancels_5 rfl rfl rfl ?_
  refine b_iconst (n := 7) (v := 0) dX7_cancels_6 rfl (by decide) ?_
  refine bSi (n := 10) (As := [.int x1, .int x2, .int 0]) (rest := [.ref (ad 5)]) lk_X7_169 (c_md_at (Nat.le_refl _)) (by omega) rfl rfl (Nat.le_of_ble_eq_true rfl) dX7_cancels_7 rfl (fun k7 => ?_)
  refine b_iconst (n := 11) (v := 4) dX7_cancels_10 rfl (by decide) ?_
  refine b_iast (n := 12) (ws' := hM E ad (up μ 5 k7.toNatClampNeg 4)) 5 dX7_cancels_11 rfl hM_a5 hM_s5 ?_
  refine b_aload_n (n := 13) 0 dX7_cancels_12 rfl rfl rfl ?_
  refine b_get (n := 16) (v := .ref (ad 5)) 0 f_X7_22 dX7_cancels_13 rfl hM_o0 rfl ?_
  refine b_iload_n (n := 17) 1 dX7_cancels_16 rfl rfl rfl ?_
  refine b_iload_n (n := 18) 2 dX7_cancels_17 rfl rfl rfl ?_
  refine b_bipush (n := 20) (v := 7) dX7_cancels_18 rfl (by decide) ?_
  refine bSi (n := 23) (As := [.int x1, .int x2, .int 7]) (rest := [.ref (ad 5)]) lk_X7_169 (c_md_at (Nat.le_refl _)) (by omega) rfl rfl (Nat.le_of_ble_eq_true rfl) dX7_cancels_20 rfl (fun k20 => ?_)
  refine b_iconst (n := 24) (v := -1) dX7_cancels_23 rfl (by decide) ?_
  refine b_iast (n := 25) (ws' := hM E ad (up (up μ 5 k7.toNatClampNeg 4) 5 k20.toNatClampNeg ((-1)))) 5 dX7_cancels_24 rfl hM_a5 hM_s5 ?_
  refine b_aload_n (n := 26) 0 dX7_cancels_25 rfl rfl rfl ?_
  refine b_iload_n (n := 27) 1 dX7_cancels_26 rfl rfl rfl ?_
  refine b_iload_n (n := 28) 2 dX7_cancels_27 rfl rfl rfl ?_
  refine b_iconst (n := 29) (v := 5) dX7_cancels_28 rfl (by decide) ?_
  refine bV0i (n := 32) (As := [.int x1, .int x2, .int 5]) (rest := []) 0 lk_X7_171 (c_md_nodePart (Nat.le_refl _)) (by omega) rfl rfl rfl rfl (Nat.le_of_ble_eq_true rfl) dX7_cancels_29 rfl (fun k29 => ?_)
  refine b_istore_n (n := 33) (L' := [(3, .int k29), (0, .ref (ad 0)), (1, .int x1), (2, .int x2)]) dX7_cancels_32 rfl rfl (Nat.le_of_ble_eq_true rfl) rfl ?_
  refine Bd.sub (L' := [(0, .ref (ad 0)), (1, .int x1), (3, .int k29)]) [1, 2, 0] rfl ?_
  exact w_md_cancels_33 hdB hB hd _ _ _ _
def kn_mcancel (N : Nat) : Nat → Int32 → Int32 → Mem → Option (Mem)
  | 0, _, _, _ => none
  | n + 1, x1, x2, μ => md_cancels N (kn_mcancel N n) x1 x2 μ
set_option maxHeartbeats 400000 in
set_option maxRecDepth 100000 in
theorem cka_mcancel {l : Launch} {E : Ev} {ad : Nat → Nat} {N : Nat}   (n : Nat) : (∀ (x1 : Int32) (x2 : Int32) (μ : Mem), Ct l yX7_cancels cX7_cancels 5 none (4 + 1 * n) E (hM E ad μ) [.ref (ad 0), .int x1, .int x2] (fun q : Mem => (none, hM E ad q)) (kn_mcancel N n x1 x2 μ)) := by
  induction n with
  | zero => exact fun _ _ _ => fun h => by cases h
  | succ n ih => exact fun _ _ _ => c_md_cancels (by omega) (Nat.le_add_right _ _) ih
theorem ck_mcancel {l : Launch} {E : Ev} {ad : Nat → Nat} {N : Nat}   (n : Nat) : ∀ (x1 : Int32) (x2 : Int32) (μ : Mem), Ct l yX7_cancels cX7_cancels 5 none (4 + 1 * n) E (hM E ad μ) [.ref (ad 0), .int x1, .int x2] (fun q : Mem => (none, hM E ad q)) (kn_mcancel N n x1 x2 μ) := cka_mcancel n
def md_cancelsBodies_47 (N : Nat) (D : Nat) (K11 : Int32 → Int32 → Int32 → Mem → Option (Mem)) (y1 : Int32) (y3 : Int32) (y4 : Int32) (μ : Mem) : Option (Mem) :=
  (md_nodePart μ y1 y4 6).bind fun k56 =>
  K11 y1 (y3 + 1) k56 μ
set_option maxHeartbeats 400000 in
set_option maxRecDepth 100000 in
theorem w_md_cancelsBodies_47 {l : Launch} {E : Ev} {ad : Nat → Nat} {A : Nat → Prop} {d : Nat} {N : Nat} {D : Nat}   {K11 : Int32 → Int32 → Int32 → Mem → Option (Mem)} (hd : D + 6 ≤ d) (hK11 : ∀ (y1 : Int32) (y3 : Int32) (y4 : Int32) (μ : Mem), Bd l E A RX7 cX7_cancelsBodies 5 none d (fun q : Mem => (none, hM E ad q)) 11 [(0, .ref (ad 0)), (1, .int y1), (3, .int y3), (4, .int y4)] [] (hM E ad μ) (K11 y1 y3 y4 μ)) (y1 : Int32) (y3 : Int32) (y4 : Int32) (μ : Mem) : Bd l E A RX7 cX7_cancelsBodies 5 none d (fun q : Mem => (none, hM E ad q)) 47 [(0, .ref (ad 0)), (1, .int y1), (3, .int y3), (4, .int y4)] [] (hM E ad μ) (md_cancelsBodies_47 N D K11 y1 y3 y4 μ) := by
  unfold md_cancelsBodies_47
  refine b_iinc (n := 50) (L' := [(3, .int (y3 + 1)), (0, .ref (ad 0)), (1, .int y1), (4, .int y4)]) 2 1 dX7_cancelsBodies_47 rfl rfl (by decide) (Nat.le_of_ble_eq_true rfl) rfl ?_
  refine b_aload_n (n := 51) 1 dX7_cancelsBodies_50 rfl rfl rfl ?_
  refine b_iload_n (n := 52) 2 dX7_cancelsBodies_51 rfl rfl rfl ?_
  refine b_iload (n := 54) 3 dX7_cancelsBodies_52 rfl rfl ?_
  refine b_bipush (n := 56) (v := 6) dX7_cancelsBodies_54 rfl (by decide) ?_
  refine bV0i (n := 59) (As := [.int y1, .int y4, .int 6]) (rest := []) 0 lk_X7_171 (c_md_nodePart (Nat.le_refl _)) (by omega) rfl rfl rfl rfl (Nat.le_of_ble_eq_true rfl) dX7_cancelsBodies_56 rfl (fun k56 => ?_)
  refine b_istore (n := 61) (L' := [(4, .int k56), (3, .int (y3 + 1)), (0, .ref (ad 0)), (1, .int y1)]) dX7_cancelsBodies_59 rfl (Nat.le_of_ble_eq_true rfl) rfl ?_
  refine b_goto (n := 11) dX7_cancelsBodies_61 (by decide) ?_
  refine Bd.sub (L' := [(0, .ref (ad 0)), (1, .int y1), (3, .int (y3 + 1)), (4, .int k56)]) [2, 3, 1, 0] rfl ?_
  exact hK11 _ _ _ _
def md_cancelsBodies_11 (N : Nat) (D : Nat)  : Nat → Int32 → Int32 → Int32 → Mem → Option (Mem)
  | 0, _, _, _, _ => none
  | n + 1, y1, y3, y4, μ =>
    if y4 < 0 then
      (some μ)
    else
      ((md_at y1 y4 0).bind fun k24 =>
      (rd 7593 (μ 5) k24).bind fun v27 =>
      if v27 = 1 then
        ((md_cancels N (kn_mcancel N D) y1 y4 μ).bind fun μ36 =>
        (md_notes y1 10 y3 μ36).bind fun μ44 =>
        md_cancelsBodies_47 N D (md_cancelsBodies_11 N D n) y1 y3 y4 μ44)
      else
        (md_cancelsBodies_47 N D (md_cancelsBodies_11 N D n) y1 y3 y4 μ))
set_option maxHeartbeats 400000 in
set_option maxRecDepth 100000 in
theorem w_md_cancelsBodies_11 {l : Launch} {E : Ev} {ad : Nat → Nat} {A : Nat → Prop} {d : Nat} {N : Nat} {D : Nat}    (hd : D + 6 ≤ d)  (n : Nat) : ∀ (y1 : Int32) (y3 : Int32) (y4 : Int32) (μ : Mem), Bd l E A RX7 cX7_cancelsBodies 5 none d (fun q : Mem => (none, hM E ad q)) 11 [(0, .ref (ad 0)), (1, .int y1), (3, .int y3), (4, .int y4)] [] (hM E ad μ) (md_cancelsBodies_11 N D n y1 y3 y4 μ) := by
  induction n with
  | zero => intro y1 y3 y4 μ; exact b_none
  | succ n ih =>
    intro y1 y3 y4 μ
    rw [md_cancelsBodies_11]
    refine b_iload (n := 13) 3 dX7_cancelsBodies_11 rfl rfl ?_
    refine b_if_lt (n := 16) (tgt := 64) dX7_cancelsBodies_13 (by decide) rfl (fun h13 => ?_) (fun h13 => ?_)
    · exact b_vret dX7_cancelsBodies_64 rfl rfl
    · refine b_aload_n (n := 17) 0 dX7_cancelsBodies_16 rfl rfl rfl ?_
      refine b_get (n := 20) (v := .ref (ad 5)) 0 f_X7_22 dX7_cancelsBodies_17 rfl hM_o0 rfl ?_
      refine b_iload_n (n := 21) 1 dX7_cancelsBodies_20 rfl rfl rfl ?_
      refine b_iload (n := 23) 3 dX7_cancelsBodies_21 rfl rfl ?_
      refine b_iconst (n := 24) (v := 0) dX7_cancelsBodies_23 rfl (by decide) ?_
      refine bSi (n := 27) (As := [.int y1, .int y4, .int 0]) (rest := [.ref (ad 5)]) lk_X7_169 (c_md_at (Nat.le_refl _)) (by omega) rfl rfl (Nat.le_of_ble_eq_true rfl) dX7_cancelsBodies_24 rfl (fun k24 => ?_)
      refine b_iald (n := 28) 5 dX7_cancelsBodies_27 rfl hM_a5 (fun v27 => ?_)
      refine b_iconst (n := 29) (v := 1) dX7_cancelsBodies_28 rfl (by decide) ?_
      refine b_cmp_ne (n := 32) (tgt := 47) dX7_cancelsBodies_29 (by decide) rfl (fun h29 => ?_) (fun h29 => ?_)
      · refine b_aload_n (n := 33) 0 dX7_cancelsBodies_32 rfl rfl rfl ?_
        refine b_iload_n (n := 34) 1 dX7_cancelsBodies_33 rfl rfl rfl ?_
        refine b_iload (n := 36) 3 dX7_cancelsBodies_34 rfl rfl ?_
        refine bV0wv (n := 39) (hh := (fun s : Mem => hM E ad s)) (As := [.int y1, .int y4]) (rest := []) 0 lk_X7_208 (c_md_cancels (Nat.le_refl _) (Nat.le_add_right _ _) (ck_mcancel D)) (by omega) (fun _ => rfl) rfl rfl rfl rfl (Nat.le_of_ble_eq_true rfl) dX7_cancelsBodies_36 rfl ?_
        rintro μ36
        try dsimp only
        refine b_aload_n (n := 40) 0 dX7_cancelsBodies_39 rfl rfl rfl ?_
        refine b_iload_n (n := 41) 1 dX7_cancelsBodies_40 rfl rfl rfl ?_
        refine b_bipush (n := 43) (v := 10) dX7_cancelsBodies_41 rfl (by decide) ?_
        refine b_iload_n (n := 44) 2 dX7_cancelsBodies_43 rfl rfl rfl ?_
        refine bV0wv (n := 47) (hh := (fun s : Mem => hM E ad s)) (As := [.int y1, .int 10, .int y3]) (rest := []) 0 lk_X7_174 (c_md_notes (Nat.le_refl _)) (by omega) (fun _ => rfl) rfl rfl rfl rfl (Nat.le_of_ble_eq_true rfl) dX7_cancelsBodies_44 rfl ?_
        rintro μ44
        try dsimp only
        exact w_md_cancelsBodies_47 hd (fun a0 a1 a2 a3 => ih a0 a1 a2 a3) _ _ _ _
      · exact w_md_cancelsBodies_47 hd (fun a0 a1 a2 a3 => ih a0 a1 a2 a3) _ _ _ _
def md_cancelsBodies (N : Nat) (D : Nat) (x1 : Int32) (x2 : Int32) (μ : Mem) : Option (Mem) :=
  (md_nodePart μ x1 x2 5).bind fun k6 =>
  md_cancelsBodies_11 N D N x1 0 k6 μ
set_option maxHeartbeats 400000 in
set_option maxRecDepth 100000 in
theorem c_md_cancelsBodies {l : Launch} {E : Ev} {ad : Nat → Nat} {d : Nat} {N : Nat} {D : Nat}   {x1 : Int32} {x2 : Int32} {μ : Mem} (hd : D + 6 ≤ d) : Ct l yX7_cancelsBodies cX7_cancelsBodies 5 none d E (hM E ad μ) [.ref (ad 0), .int x1, .int x2] (fun q : Mem => (none, hM E ad q)) (md_cancelsBodies N D x1 x2 μ) := by
  refine Ct.of2 (own := RX7) (L := [(0, .ref (ad 0)), (1, .int x1), (2, .int x2)]) rfl (by decide +kernel) (Nat.le_of_ble_eq_true rfl) rfl ?_
  unfold md_cancelsBodies
  refine b_iconst (n := 1) (v := 0) dX7_cancelsBodies_0 rfl (by decide) ?_
  refine b_istore_n (n := 2) (L' := [(3, .int 0), (0, .ref (ad 0)), (1, .int x1), (2, .int x2)]) dX7_cancelsBodies_1 rfl rfl (Nat.le_of_ble_eq_true rfl) rfl ?_
  refine b_aload_n (n := 3) 1 dX7_cancelsBodies_2 rfl rfl rfl ?_
  refine b_iload_n (n := 4) 2 dX7_cancelsBodies_3 rfl rfl rfl ?_
  refine b_iload_n (n := 5) 3 dX7_cancelsBodies_4 rfl rfl rfl ?_
  refine b_iconst (n := 6) (v := 5) dX7_cancelsBodies_5 rfl (by decide) ?_
  refine bV0i (n := 9) (As := [.int x1, .int x2, .int 5]) (rest := []) 0 lk_X7_171 (c_md_nodePart (Nat.le_refl _)) (by omega) rfl rfl rfl rfl (Nat.le_of_ble_eq_true rfl) dX7_cancelsBodies_6 rfl (fun k6 => ?_)
  refine b_istore (n := 11) (L' := [(4, .int k6), (3, .int 0), (0, .ref (ad 0)), (1, .int x1), (2, .int x2)]) dX7_cancelsBodies_9 rfl (Nat.le_of_ble_eq_true rfl) rfl ?_
  refine Bd.sub (L' := [(0, .ref (ad 0)), (1, .int x1), (3, .int 0), (4, .int k6)]) [2, 3, 1, 0] rfl ?_
  exact w_md_cancelsBodies_11 hd _ _ _ _ _
def md_handles  (x1 : Int32) (x2 : Int32) (x3 : Int32) (x4 : Int32) (μ : Mem) : Option (Mem) :=
  (md_at x1 x2 7).bind fun k8 =>
  (rd 7593 (μ 5) k8).bind fun v11 =>
  (md_nodePart μ x1 v11 1).bind fun k22 =>
  (md_notes x1 x3 k22 μ).bind fun μ25 =>
  (md_at x1 v11 6).bind fun k37 =>
  ck 7593 k37 <|
  (md_of x1 x4).bind fun k49 =>
  (rd 7593 ((up μ25 5 k37.toNatClampNeg x3) 5) k49).bind fun v53 =>
  ck 7593 k49 <|
  (md_at x1 x2 7).bind fun k65 =>
  ck 7593 k65 <|
  some (up (up (up μ25 5 k37.toNatClampNeg x3) 5 k49.toNatClampNeg (v53 + 1)) 5 k65.toNatClampNeg ((-1)))
set_option maxHeartbeats 400000 in
set_option maxRecDepth 100000 in
theorem c_md_handles {l : Launch} {E : Ev} {ad : Nat → Nat} {d : Nat}    {x1 : Int32} {x2 : Int32} {x3 : Int32} {x4 : Int32} {μ : Mem} (hd : 4 ≤ d) : Ct l yX7_handles cX7_handles 6 none d E (hM E ad μ) [.ref (ad 0), .int x1, .int x2, .int x3, .int x4] (fun q : Mem => (none, hM E ad q)) (md_handles x1 x2 x3 x4 μ) := by
  refine Ct.of2 (own := RX7) (L := [(0, .ref (ad 0)), (1, .int x1), (2, .int x2), (3, .int x3), (4, .int x4)]) rfl (by decide +kernel) (Nat.le_of_ble_eq_true rfl) rfl ?_
  unfold md_handles
  refine b_aload_n (n := 1) 0 dX7_handles_0 rfl rfl rfl ?_
  refine b_get (n := 4) (v := .ref (ad 5)) 0 f_X7_22 dX7_handles_1 rfl hM_o0 rfl ?_
  refine b_iload_n (n := 5) 1 dX7_handles_4 rfl rfl rfl ?_
  refine b_iload_n (n := 6) 2 dX7_handles_5 rfl rfl rfl ?_
  refine b_bipush (n := 8) (v := 7) dX7_handles_6 rfl (by decide) ?_
  refine bSi (n := 11) (As := [.int x1, .int x2, .int 7]) (rest := [.ref (ad 5)]) lk_X7_169 (c_md_at (Nat.le_refl _)) (by omega) rfl rfl (Nat.le_of_ble_eq_true rfl) dX7_handles_8 rfl (fun k8 => ?_)
  refine b_iald (n := 12) 5 dX7_handles_11 rfl hM_a5 (fun v11 => ?_)
  refine b_istore (n := 14) (L' := [(5, .int v11), (0, .ref (ad 0)), (1, .int x1), (2, .int x2), (3, .int x3), (4, .int x4)]) dX7_handles_12 rfl (Nat.le_of_ble_eq_true rfl) rfl ?_
  refine b_aload_n (n := 15) 1 dX7_handles_14 rfl rfl rfl ?_
  refine b_iload_n (n := 16) 2 dX7_handles_15 rfl rfl rfl ?_
  refine b_iload_n (n := 17) 4 dX7_handles_16 rfl rfl rfl ?_
  refine b_aload_n (n := 18) 1 dX7_handles_17 rfl rfl rfl ?_
  refine b_iload_n (n := 19) 2 dX7_handles_18 rfl rfl rfl ?_
  refine b_iload (n := 21) 0 dX7_handles_19 rfl rfl ?_
  refine b_iconst (n := 22) (v := 1) dX7_handles_21 rfl (by decide) ?_
  refine bV0i (n := 25) (As := [.int x1, .int v11, .int 1]) (rest := [.int x3, .int x1, .ref (ad 0)]) 0 lk_X7_171 (c_md_nodePart (Nat.le_refl _)) (by omega) rfl rfl rfl rfl (Nat.le_of_ble_eq_true rfl) dX7_handles_22 rfl (fun k22 => ?_)
  refine bV0wv (n := 28) (hh := (fun s : Mem => hM E ad s)) (As := [.int x1, .int x3, .int k22]) (rest := []) 0 lk_X7_174 (c_md_notes (Nat.le_refl _)) (by omega) (fun _ => rfl) rfl rfl rfl rfl (Nat.le_of_ble_eq_true rfl) dX7_handles_25 rfl ?_
  rintro μ25
  try dsimp only
  refine b_aload_n (n := 29) 1 dX7_handles_28 rfl rfl rfl ?_
  refine b_get (n := 32) (v := .ref (ad 5)) 0 f_X7_22 dX7_handles_29 rfl hM_o0 rfl ?_
  refine b_iload_n (n := 33) 2 dX7_handles_32 rfl rfl rfl ?_
  refine b_iload (n := 35) 0 dX7_handles_33 rfl rfl ?_
  refine b_bipush (n := 37) (v := 6) dX7_handles_35 rfl (by decide) ?_
  refine bSi (n := 40) (As := [.int x1, .int v11, .int 6]) (rest := [.ref (ad 5)]) lk_X7_169 (c_md_at (Nat.le_refl _)) (by omega) rfl rfl (Nat.le_of_ble_eq_true rfl) dX7_handles_37 rfl (fun k37 => ?_)
  refine b_iload_n (n := 41) 4 dX7_handles_40 rfl rfl rfl ?_
  refine b_iast (n := 42) (ws' := hM E ad (up μ25 5 k37.toNatClampNeg x3)) 5 dX7_handles_41 rfl hM_a5 hM_s5 ?_
  refine b_aload_n (n := 43) 1 dX7_handles_42 rfl rfl rfl ?_
  refine b_get (n := 46) (v := .ref (ad 5)) 0 f_X7_22 dX7_handles_43 rfl hM_o0 rfl ?_
  refine b_iload_n (n := 47) 2 dX7_handles_46 rfl rfl rfl ?_
  refine b_iload (n := 49) 5 dX7_handles_47 rfl rfl ?_
  refine bSi (n := 52) (As := [.int x1, .int x4]) (rest := [.ref (ad 5)]) lk_X7_163 (c_md_of (Nat.le_refl _)) (by omega) rfl rfl (Nat.le_of_ble_eq_true rfl) dX7_handles_49 rfl (fun k49 => ?_)
  refine b_dup2 (n := 53) dX7_handles_52 rfl rfl rfl ?_
  refine b_iald (n := 54) 5 dX7_handles_53 rfl hM_a5 (fun v53 => ?_)
  refine b_iconst (n := 55) (v := 1) dX7_handles_54 rfl (by decide) ?_
  refine b_iadd (n := 56) dX7_handles_55 rfl ?_
  refine b_iast (n := 57) (ws' := hM E ad (up (up μ25 5 k37.toNatClampNeg x3) 5 k49.toNatClampNeg (v53 + 1))) 5 dX7_handles_56 rfl hM_a5 hM_s5 ?_
  refine b_aload_n (n := 58) 1 dX7_handles_57 rfl rfl rfl ?_
  refine b_get (n := 61) (v := .ref (ad 5)) 0 f_X7_22 dX7_handles_58 rfl hM_o0 rfl ?_
  refine b_iload_n (n := 62) 2 dX7_handles_61 rfl rfl rfl ?_
  refine b_iload_n (n := 63) 3 dX7_handles_62 rfl rfl rfl ?_
  refine b_bipush (n := 65) (v := 7) dX7_handles_63 rfl (by decide) ?_
  refine bSi (n := 68) (As := [.int x1, .int x2, .int 7]) (rest := [.ref (ad 5)]) lk_X7_169 (c_md_at (Nat.le_refl _)) (by omega) rfl rfl (Nat.le_of_ble_eq_true rfl) dX7_handles_65 rfl (fun k65 => ?_)
  refine b_iconst (n := 69) (v := -1) dX7_handles_68 rfl (by decide) ?_
  refine b_iast (n := 70) (ws' := hM E ad (up (up (up μ25 5 k37.toNatClampNeg x3) 5 k49.toNatClampNeg (v53 + 1)) 5 k65.toNatClampNeg ((-1)))) 5 dX7_handles_69 rfl hM_a5 hM_s5 ?_
  exact b_vret dX7_handles_70 rfl rfl
def md_isFor_62 (N : Nat) (μ : Mem)  (z0 : Int32)  : Option (Bool) :=
  if z0 = 3 then
    (some true)
  else
    (if z0 = 4 then
      (some true)
    else
      (some false))
set_option maxHeartbeats 400000 in
set_option maxRecDepth 100000 in
theorem w_md_isFor_62 {l : Launch} {E : Ev} {ad : Nat → Nat} {A : Nat → Prop} {d : Nat} {N : Nat}  {μ : Mem}  (hd : 4 ≤ d)  (z0 : Int32) : Bd l E A RX7 cX7_isFor 6 (some .boolean) d (fun v : Bool => (some (.int (b2i v)), hM E ad μ)) 62 [] [.int z0] (hM E ad μ) (md_isFor_62 N μ z0) := by
  unfold md_isFor_62
  refine b_istore (n := 64) (L' := [(5, .int z0)]) dX7_isFor_62 rfl (Nat.le_of_ble_eq_true rfl) rfl ?_
  refine b_iload (n := 66) 0 dX7_isFor_64 rfl rfl ?_
  refine b_iconst (n := 67) (v := 3) dX7_isFor_66 rfl (by decide) ?_
  refine b_cmp_eq (n := 70) (tgt := 76) dX7_isFor_67 (by decide) rfl (fun h67 => ?_) (fun h67 => ?_)
  · refine b_iconst (n := 77) (v := 1) dX7_isFor_76 rfl (by decide) ?_
    refine b_goto (n := 81) dX7_isFor_77 (by decide) ?_
    exact b_zret (b := true) dX7_isFor_81 rfl rfl
  · refine b_iload (n := 72) 0 dX7_isFor_70 rfl rfl ?_
    refine b_iconst (n := 73) (v := 4) dX7_isFor_72 rfl (by decide) ?_
    refine b_cmp_ne (n := 76) (tgt := 80) dX7_isFor_73 (by decide) rfl (fun h73 => ?_) (fun h73 => ?_)
    · refine b_iconst (n := 77) (v := 1) dX7_isFor_76 rfl (by decide) ?_
      refine b_goto (n := 81) dX7_isFor_77 (by decide) ?_
      exact b_zret (b := true) dX7_isFor_81 rfl rfl
    · refine b_iconst (n := 81) (v := 0) dX7_isFor_80 rfl (by decide) ?_
      exact b_zret (b := false) dX7_isFor_81 rfl rfl
def md_isFor_41 (N : Nat) (μ : Mem)  (y1 : Int32) (y4 : Int32)  : Option (Bool) :=
  if y4 < 0 then
    (md_isFor_62 N μ 2)
  else
    ((md_at y1 y4 0).bind fun k58 =>
    (rd 7593 (μ 5) k58).bind fun v61 =>
    md_isFor_62 N μ v61)
set_option maxHeartbeats 400000 in
set_option maxRecDepth 100000 in
theorem w_md_isFor_41 {l : Launch} {E : Ev} {ad : Nat → Nat} {A : Nat → Prop} {d : Nat} {N : Nat}  {μ : Mem}  (hd : 4 ≤ d)  (y1 : Int32) (y4 : Int32) : Bd l E A RX7 cX7_isFor 6 (some .boolean) d (fun v : Bool => (some (.int (b2i v)), hM E ad μ)) 41 [(0, .ref (ad 0)), (1, .int y1), (4, .int y4)] [] (hM E ad μ) (md_isFor_41 N μ y1 y4) := by
  unfold md_isFor_41
  refine b_iload (n := 43) 2 dX7_isFor_41 rfl rfl ?_
  refine b_if_ge (n := 46) (tgt := 50) dX7_isFor_43 (by decide) rfl (fun h43 => ?_) (fun h43 => ?_)
  · refine b_iconst (n := 47) (v := 2) dX7_isFor_46 rfl (by decide) ?_
    refine b_goto (n := 62) dX7_isFor_47 (by decide) ?_
    refine Bd.sub (L' := []) [] rfl ?_
    exact w_md_isFor_62 hd _
  · refine b_aload_n (n := 51) 0 dX7_isFor_50 rfl rfl rfl ?_
    refine b_get (n := 54) (v := .ref (ad 5)) 0 f_X7_22 dX7_isFor_51 rfl hM_o0 rfl ?_
    refine b_iload_n (n := 55) 1 dX7_isFor_54 rfl rfl rfl ?_
    refine b_iload (n := 57) 2 dX7_isFor_55 rfl rfl ?_
    refine b_iconst (n := 58) (v := 0) dX7_isFor_57 rfl (by decide) ?_
    refine bSi (n := 61) (As := [.int y1, .int y4, .int 0]) (rest := [.ref (ad 5)]) lk_X7_169 (c_md_at (Nat.le_refl _)) (by omega) rfl rfl (Nat.le_of_ble_eq_true rfl) dX7_isFor_58 rfl (fun k58 => ?_)
    refine b_iald (n := 62) 5 dX7_isFor_61 rfl hM_a5 (fun v61 => ?_)
    refine Bd.sub (L' := []) [] rfl ?_
    exact w_md_isFor_62 hd _
def md_isFor_9 (N : Nat) (μ : Mem)  : Nat → Int32 → Int32 → Int32 → Option (Bool)
  | 0, _, _, _ => none
  | n + 1, y1, y3, y4 =>
    if y4 < 0 then
      (md_isFor_41 N μ y1 y4)
    else
      ((md_nodePart μ y1 y4 8).bind fun k20 =>
      if k20 = y3 then
        (md_isFor_41 N μ y1 y4)
      else
        ((md_nodePart μ y1 y4 8).bind fun k33 =>
        md_isFor_9 N μ n y1 y3 k33))
set_option maxHeartbeats 400000 in
set_option maxRecDepth 100000 in
theorem w_md_isFor_9 {l : Launch} {E : Ev} {ad : Nat → Nat} {A : Nat → Prop} {d : Nat} {N : Nat}  {μ : Mem}  (hd : 4 ≤ d)  (n : Nat) : ∀ (y1 : Int32) (y3 : Int32) (y4 : Int32), Bd l E A RX7 cX7_isFor 6 (some .boolean) d (fun v : Bool => (some (.int (b2i v)), hM E ad μ)) 9 [(0, .ref (ad 0)), (1, .int y1), (3, .int y3), (4, .int y4)] [] (hM E ad μ) (md_isFor_9 N μ n y1 y3 y4) := by
  induction n with
  | zero => intro y1 y3 y4; exact b_none
  | succ n ih =>
    intro y1 y3 y4
    rw [md_isFor_9]
    refine b_iload (n := 11) 3 dX7_isFor_9 rfl rfl ?_
    refine b_if_lt (n := 14) (tgt := 41) dX7_isFor_11 (by decide) rfl (fun h11 => ?_) (fun h11 => ?_)
    · refine Bd.sub (L' := [(0, .ref (ad 0)), (1, .int y1), (4, .int y4)]) [0, 1, 3] rfl ?_
      exact w_md_isFor_41 hd _ _
    · refine b_aload_n (n := 15) 0 dX7_isFor_14 rfl rfl rfl ?_
      refine b_iload_n (n := 16) 1 dX7_isFor_15 rfl rfl rfl ?_
      refine b_iload (n := 18) 3 dX7_isFor_16 rfl rfl ?_
      refine b_bipush (n := 20) (v := 8) dX7_isFor_18 rfl (by decide) ?_
      refine bV0i (n := 23) (As := [.int y1, .int y4, .int 8]) (rest := []) 0 lk_X7_171 (c_md_nodePart (Nat.le_refl _)) (by omega) rfl rfl rfl rfl (Nat.le_of_ble_eq_true rfl) dX7_isFor_20 rfl (fun k20 => ?_)
      refine b_iload_n (n := 24) 2 dX7_isFor_23 rfl rfl rfl ?_
      refine b_cmp_eq (n := 27) (tgt := 41) dX7_isFor_24 (by decide) rfl (fun h24 => ?_) (fun h24 => ?_)
      · refine Bd.sub (L' := [(0, .ref (ad 0)), (1, .int y1), (4, .int y4)]) [0, 1, 3] rfl ?_
        exact w_md_isFor_41 hd _ _
      · refine b_aload_n (n := 28) 0 dX7_isFor_27 rfl rfl rfl ?_
        refine b_iload_n (n := 29) 1 dX7_isFor_28 rfl rfl rfl ?_
        refine b_iload (n := 31) 3 dX7_isFor_29 rfl rfl ?_
        refine b_bipush (n := 33) (v := 8) dX7_isFor_31 rfl (by decide) ?_
        refine bV0i (n := 36) (As := [.int y1, .int y4, .int 8]) (rest := []) 0 lk_X7_171 (c_md_nodePart (Nat.le_refl _)) (by omega) rfl rfl rfl rfl (Nat.le_of_ble_eq_true rfl) dX7_isFor_33 rfl (fun k33 => ?_)
        refine b_istore (n := 38) (L' := [(4, .int k33), (0, .ref (ad 0)), (1, .int y1), (3, .int y3)]) dX7_isFor_36 rfl (Nat.le_of_ble_eq_true rfl) rfl ?_
        refine b_goto (n := 9) dX7_isFor_38 (by decide) ?_
        refine Bd.sub (L' := [(0, .ref (ad 0)), (1, .int y1), (3, .int y3), (4, .int k33)]) [1, 2, 3, 0] rfl ?_
        exact ih _ _ _
def md_isFor (N : Nat) (μ : Mem) (x1 : Int32) (x2 : Int32) (x3 : Int32)  : Option (Bool) :=
  if x3 = 0 then
    (some true)
  else
    (md_isFor_9 N μ N x1 x3 x2)
set_option maxHeartbeats 400000 in
set_option maxRecDepth 100000 in
theorem c_md_isFor {l : Launch} {E : Ev} {ad : Nat → Nat} {d : Nat} {N : Nat}  {μ : Mem} {x1 : Int32} {x2 : Int32} {x3 : Int32}  (hd : 4 ≤ d) : Ct l yX7_isFor cX7_isFor 6 (some .boolean) d E (hM E ad μ) [.ref (ad 0), .int x1, .int x2, .int x3] (fun v : Bool => (some (.int (b2i v)), hM E ad μ)) (md_isFor N μ x1 x2 x3) := by
  refine Ct.of2 (own := RX7) (L := [(0, .ref (ad 0)), (1, .int x1), (2, .int x2), (3, .int x3)]) rfl (by decide +kernel) (Nat.le_of_ble_eq_true rfl) rfl ?_
  unfold md_isFor
  refine b_iload_n (n := 1) 3 dX7_isFor_0 rfl rfl rfl ?_
  refine b_if_ne (n := 4) (tgt := 6) dX7_isFor_1 (by decide) rfl (fun h1 => ?_) (fun h1 => ?_)
  · refine b_iconst (n := 5) (v := 1) dX7_isFor_4 rfl (by decide) ?_
    exact b_zret (b := true) dX7_isFor_5 rfl rfl
  · refine b_iload_n (n := 7) 2 dX7_isFor_6 rfl rfl rfl ?_
    refine b_istore (n := 9) (L' := [(4, .int x2), (0, .ref (ad 0)), (1, .int x1), (2, .int x2), (3, .int x3)]) dX7_isFor_7 rfl (Nat.le_of_ble_eq_true rfl) rfl ?_
    refine Bd.sub (L' := [(0, .ref (ad 0)), (1, .int x1), (3, .int x3), (4, .int x2)]) [1, 2, 4, 0] rfl ?_
    exact w_md_isFor_9 hd _ _ _ _
