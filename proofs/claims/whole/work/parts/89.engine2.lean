/-! the engine's constructor: its worlds, and its end -/
section PX2
variable {l : Launch} {E : Ev} {A : Nat → Prop} {sz : Nat} {P : va_W → Prop} {k j : Nat} {q p7 q13 wd tx p26 no : Nat} {R : va_W} {f : Nat → Option Nat}
set_option maxHeartbeats 4000000 in
theorem x6_v16 (hk : k + 10 ≤ 500) (hj : j + 304 ≤ 20000) (kk : ∀ a : Nat → Nat, Ba l E A sz RX6 cX6_init 2 6 500 20000 P (k + 1 + 9) (j + 16 + 288) 75 [(1, .ref (a 6)), (0, .ref q)] [] ((eH E q p7 q13 wd tx p26 .null .null .null f ++ R) ++ hV E a (vM 0 0))) : Ba l E A sz RX6 cX6_init 2 6 500 20000 P k j 34 [(1, .int (nI 16)), (0, .ref q)] [] (eH E q p7 q13 wd tx p26 .null .null .null f ++ R) := by
  refine a_iload_n (n := 35) 0 dX6_init_34 rfl rfl rfl ?_
  refine a_bipush (n := 37) (v := 16) dX6_init_35 rfl (by decide) ?_
  refine a_geT (n := 65) (by decide) dX6_init_37 (by decide) ?_
  refine a_new (n := 68) (ci := 4) (fs := [.int 0, .int 0, .null, .null, .null, .null, .null, .null, .null, .null, .null, .int 0, .int 0, .int 0, .int 0, .int 0]) nw_X6_20 wsin_X4 tyX4_ok rfl (dv_X4) (by omega) (by omega) dX6_init_65 rfl (fun q65 => ?_)
  refine a_dup (n := 69) dX6_init_68 rfl rfl ?_
  refine a_iconst (n := 70) (v := 0) dX6_init_69 rfl (by decide) ?_
  refine a_iconst (n := 71) (v := 0) dX6_init_70 rfl (by decide) ?_
  refine a_init (n := 74) (As := [.int 0, .int 0]) (rest := [.ref q65]) (pre := eH E q p7 q13 wd tx p26 .null .null .null f ++ R) li_X6_26 ca_X4 (by omega) ⟨by omega, by omega⟩ rfl rfl (Nat.le_of_ble_eq_true rfl) dX6_init_71 rfl rfl ?_
  rintro _ ⟨a, rfl, rfl⟩
  exact a_astore_n (n := 75) (L' := [(1, .ref (a 6)), (0, .ref q)]) dX6_init_74 rfl rfl (Nat.le_of_ble_eq_true rfl) rfl (kk a)
set_option maxHeartbeats 4000000 in
theorem x6_worlds (hk : k + 250 ≤ 500) (hj : j + 7000 ≤ 20000) (kk : ∀ (q0 q1 q2 : Nat) (e0 e1 e2 : Nat → Nat) (i0 f0 i1 f1 i2 f2 : Nat) (a0 a1 a2 : Nat → Nat → Nat), (∀ j, j < 6 → a0 j 1 = e0 1) → (∀ j, j < 6 → a1 j 1 = e1 1) → (∀ j, j < 6 → a2 j 1 = e2 1) → ∀ k j, k ≤ 500 → j ≤ 20000 → Ba l E A sz RX6 cX6_init 2 6 500 20000 P k j 139 [(1, .ref no), (0, .ref q)] [] (((((((eH E q p7 q13 wd tx p26 (.ref q0) (.ref q1) (.ref q2) f ++ R) ++ hE E e0 eN) ++ hWn E q0 (e0 1) i0 f0 a0 no 200) ++ hE E e1 eN) ++ hWn E q1 (e1 1) i1 f1 a1 no 200) ++ hE E e2 eN) ++ hWn E q2 (e2 1) i2 f2 a2 no 0)) : Ba l E A sz RX6 cX6_init 2 6 500 20000 P k j 75 [(1, .ref no), (0, .ref q)] [] (eH E q p7 q13 wd tx p26 .null .null .null f ++ R) := by
  refine a_aload_n (n := 76) 1 dX6_init_75 rfl rfl rfl ?_
  refine a_new (n := 79) (ci := 5) (fs := [.null, .null, .null, .int 0, .int 0]) nw_X6_29 wsin_X5 tyX5_ok rfl (dv_X5) (by omega) (by omega) dX6_init_76 rfl (fun q0 => ?_)
  refine a_dup (n := 80) dX6_init_79 rfl rfl ?_
  refine a_new (n := 83) (ci := 0) (fs := [.null, .null, .int 0]) nw_X6_31 wsin_X0 tyX0_ok rfl (dv_X0) (by omega) (by omega) dX6_init_80 rfl (fun q80 => ?_)
  refine a_dup (n := 84) dX6_init_83 rfl rfl ?_
  refine a_init (n := 87) (As := []) (rest := [.ref q80, .ref q0, .ref q0, .ref q]) (pre := (eH E q p7 q13 wd tx p26 .null .null .null f ++ R) ++ [(q0, .inr (5, [.null, .null, .null, .int 0, .int 0]))]) li_X6_33 ca_X0 (by omega) ⟨by omega, by omega⟩ rfl rfl (Nat.le_of_ble_eq_true rfl) dX6_init_84 rfl rfl ?_
  rintro _ ⟨e0, rfl, rfl⟩
  refine a_aload_n (n := 88) 0 dX6_init_87 rfl rfl rfl ?_
  refine a_sipush (n := 91) (v := 200) dX6_init_88 rfl (by decide) ?_
  refine a_rot ?_
  refine a_init (n := 94) (As := [.ref (e0 1), .ref no, .int 200]) (rest := [.ref q0, .ref q]) (pre := (eH E q p7 q13 wd tx p26 .null .null .null f ++ R) ++ hE E e0 eN) li_X6_34 (ca_X5 (rl := 200) (by decide) (by decide)) (by omega) ⟨by omega, by omega⟩ rfl rfl (Nat.le_of_ble_eq_true rfl) dX6_init_91 rfl rfl ?_
  rintro _ ⟨i0, f0, a0, h0, rfl⟩
  refine a_putF (n := 97) (ws' := ((eH E q p7 q13 wd tx p26 (.ref q0) .null .null f ++ R) ++ hE E e0 eN) ++ hWn E q0 (e0 1) i0 f0 a0 no 200) 0 ff_X6_37 dX6_init_94 rfl (gL (gL (gL rfl))) rfl rfl (Nat.le_of_ble_eq_true rfl) (sL (sL (sL ⟨Nat.le_of_ble_eq_true rfl, rfl⟩))).2 ?_
  refine a_aload_n (n := 98) 1 dX6_init_97 rfl rfl rfl ?_
  refine a_new (n := 101) (ci := 5) (fs := [.null, .null, .null, .int 0, .int 0]) nw_X6_29 wsin_X5 tyX5_ok rfl (dv_X5) (by omega) (by omega) dX6_init_98 rfl (fun q1 => ?_)
  refine a_dup (n := 102) dX6_init_101 rfl rfl ?_
  refine a_new (n := 105) (ci := 0) (fs := [.null, .null, .int 0]) nw_X6_31 wsin_X0 tyX0_ok rfl (dv_X0) (by omega) (by omega) dX6_init_102 rfl (fun q102 => ?_)
  refine a_dup (n := 106) dX6_init_105 rfl rfl ?_
  refine a_init (n := 109) (As := []) (rest := [.ref q102, .ref q1, .ref q1, .ref q]) (pre := (((eH E q p7 q13 wd tx p26 (.ref q0) .null .null f ++ R) ++ hE E e0 eN) ++ hWn E q0 (e0 1) i0 f0 a0 no 200) ++ [(q1, .inr (5, [.null, .null, .null, .int 0, .int 0]))]) li_X6_33 ca_X0 (by omega) ⟨by omega, by omega⟩ rfl rfl (Nat.le_of_ble_eq_true rfl) dX6_init_106 rfl rfl ?_
  rintro _ ⟨e1, rfl, rfl⟩
  refine a_aload_n (n := 110) 0 dX6_init_109 rfl rfl rfl ?_
  refine a_sipush (n := 113) (v := 200) dX6_init_110 rfl (by decide) ?_
  refine a_rot ?_
  refine a_init (n := 116) (As := [.ref (e1 1), .ref no, .int 200]) (rest := [.ref q1, .ref q]) (pre := (((eH E q p7 q13 wd tx p26 (.ref q0) .null .null f ++ R) ++ hE E e0 eN) ++ hWn E q0 (e0 1) i0 f0 a0 no 200) ++ hE E e1 eN) li_X6_34 (ca_X5 (rl := 200) (by decide) (by decide)) (by omega) ⟨by omega, by omega⟩ rfl rfl (Nat.le_of_ble_eq_true rfl) dX6_init_113 rfl rfl ?_
  rintro _ ⟨i1, f1, a1, h1, rfl⟩
  refine a_putF (n := 119) (ws' := ((((eH E q p7 q13 wd tx p26 (.ref q0) (.ref q1) .null f ++ R) ++ hE E e0 eN) ++ hWn E q0 (e0 1) i0 f0 a0 no 200) ++ hE E e1 eN) ++ hWn E q1 (e1 1) i1 f1 a1 no 200) 0 ff_X6_41 dX6_init_116 rfl (gL (gL (gL (gL (gL rfl))))) rfl rfl (Nat.le_of_ble_eq_true rfl) (sL (sL (sL (sL (sL ⟨Nat.le_of_ble_eq_true rfl, rfl⟩))))).2 ?_
  refine a_aload_n (n := 120) 1 dX6_init_119 rfl rfl rfl ?_
  refine a_new (n := 123) (ci := 5) (fs := [.null, .null, .null, .int 0, .int 0]) nw_X6_29 wsin_X5 tyX5_ok rfl (dv_X5) (by omega) (by omega) dX6_init_120 rfl (fun q2 => ?_)
  refine a_dup (n := 124) dX6_init_123 rfl rfl ?_
  refine a_new (n := 127) (ci := 0) (fs := [.null, .null, .int 0]) nw_X6_31 wsin_X0 tyX0_ok rfl (dv_X0) (by omega) (by omega) dX6_init_124 rfl (fun q124 => ?_)
  refine a_dup (n := 128) dX6_init_127 rfl rfl ?_
  refine a_init (n := 131) (As := []) (rest := [.ref q124, .ref q2, .ref q2, .ref q]) (pre := (((((eH E q p7 q13 wd tx p26 (.ref q0) (.ref q1) .null f ++ R) ++ hE E e0 eN) ++ hWn E q0 (e0 1) i0 f0 a0 no 200) ++ hE E e1 eN) ++ hWn E q1 (e1 1) i1 f1 a1 no 200) ++ [(q2, .inr (5, [.null, .null, .null, .int 0, .int 0]))]) li_X6_33 ca_X0 (by omega) ⟨by omega, by omega⟩ rfl rfl (Nat.le_of_ble_eq_true rfl) dX6_init_128 rfl rfl ?_
  rintro _ ⟨e2, rfl, rfl⟩
  refine a_aload_n (n := 132) 0 dX6_init_131 rfl rfl rfl ?_
  refine a_iconst (n := 133) (v := 0) dX6_init_132 rfl (by decide) ?_
  refine a_rot ?_
  refine a_init (n := 136) (As := [.ref (e2 1), .ref no, .int 0]) (rest := [.ref q2, .ref q]) (pre := (((((eH E q p7 q13 wd tx p26 (.ref q0) (.ref q1) .null f ++ R) ++ hE E e0 eN) ++ hWn E q0 (e0 1) i0 f0 a0 no 200) ++ hE E e1 eN) ++ hWn E q1 (e1 1) i1 f1 a1 no 200) ++ hE E e2 eN) li_X6_34 (ca_X5 (rl := 0) (by decide) (by decide)) (by omega) ⟨by omega, by omega⟩ rfl rfl (Nat.le_of_ble_eq_true rfl) dX6_init_133 rfl rfl ?_
  rintro _ ⟨i2, f2, a2, h2, rfl⟩
  refine a_putF (n := 139) (ws' := ((((((eH E q p7 q13 wd tx p26 (.ref q0) (.ref q1) (.ref q2) f ++ R) ++ hE E e0 eN) ++ hWn E q0 (e0 1) i0 f0 a0 no 200) ++ hE E e1 eN) ++ hWn E q1 (e1 1) i1 f1 a1 no 200) ++ hE E e2 eN) ++ hWn E q2 (e2 1) i2 f2 a2 no 0) 0 ff_X6_44 dX6_init_136 rfl (gL (gL (gL (gL (gL (gL (gL rfl))))))) rfl rfl (Nat.le_of_ble_eq_true rfl) (sL (sL (sL (sL (sL (sL (sL ⟨Nat.le_of_ble_eq_true rfl, rfl⟩))))))).2 ?_
  exact kk q0 q1 q2 e0 e1 e2 i0 f0 i1 f1 i2 f2 a0 a1 a2 h0 h1 h2 _ _ (by omega) (by omega)
theorem eH_perm {E : Ev} {q p7 q13 wd tx p26 q0 q1 q2 : Nat} {g : Nat → Nat → Nat} {n : Nat → Nat} {qf ia df : Nat → Nat} {ae : Nat → Nat → Nat} {aj : Nat → Nat → Nat → Nat} (h0 : n 0 = q) (h1 : n 1 = p7) (h2 : n 2 = q13) (h3 : n 3 = wd) (h4 : n 4 = p26) (h5 : n 5 = tx) (g0 : qf 0 = q0) (g1 : qf 1 = q1) (g2 : qf 2 = q2) : (eH E q p7 q13 wd tx p26 (.ref q0) (.ref q1) (.ref q2) (fun v => some (g v 6)) ++ VVp E g 17).Perm (hN E (adN n qf ia df ae aj) (fun v t => g v (t + 6)) zN 0 0 zN ++ (hVV E (fun v t => g v (t + 6)) vsN ++ [(tx, .inl (E.2.1, 0, .inl (fun _ => 0)))])) := by
  rw [VVp_eq]
  subst h0 h1 h2 h3 h4 h5 g0 g1 g2
  exact six_perm (VV := hVV E (fun v t => g v (t + 6)) vsN)
set_option maxHeartbeats 4000000 in
theorem ca_X6 {l : Launch} {E : Ev} {q : Nat} : Ca l yX6_init cX6_init 2 6 500 20000 E [(q, .inr (6, [.null, .null, .null, .null, .null, .null, .int 0, .int 0]))] [.ref q] (fun w1 => ∃ (ad : Ad3) (va : Nat → Nat → Nat), ad 30 0 0 = q ∧ w1 = hX E ad va 200 zN 0 0 zN zN eN (fun _ => oN) (fun _ => zN) (fun _ => 16) vsN zN eN (fun _ => oN) (fun _ => zN) (fun _ => 16) zN eN (fun _ => oN) (fun _ => zN) (fun _ => 16)) := by
  refine Ca.of (own := RX6) (L := [(0, .ref q)]) rfl (by decide +kernel) (by decide +kernel) (Nat.le_of_ble_eq_true rfl) rfl (fun sz => ?_)
  refine a_aload_n (n := 1) 0 dX6_init_0 rfl rfl rfl ?_
  refine a_obj (n := 4) ob_X6_1 (by omega) (Nat.le_of_ble_eq_true rfl) dX6_init_1 rfl ?_
  refine a_aload_n (n := 5) 0 dX6_init_4 rfl rfl rfl ?_
  refine a_bipush (n := 7) (v := 80) dX6_init_5 rfl (by decide) ?_
  refine a_newi (n := 9) (N := 80) ac_int (by decide) (by decide) (by decide) (by omega) (by omega) dX6_init_7 rfl (fun p7 => ?_)
  refine a_putF (n := 12) (ws' := [(q, .inr (6, [.ref p7, .null, .null, .null, .null, .null, .int 0, .int 0])), (p7, .inl (E.2.1, 80, .inl (fun _ => 0)))]) 0 ff_X6_9 dX6_init_9 rfl rfl rfl rfl (Nat.le_of_ble_eq_true rfl) rfl ?_
  refine a_aload_n (n := 13) 0 dX6_init_12 rfl rfl rfl ?_
  refine a_new (n := 16) (ci := 3) (fs := [.null, .null, .int 0, .null, .int 0, .int 0]) nw_X6_13 wsin_X3 tyX3_ok rfl (dv_X3) (by omega) (by omega) dX6_init_13 rfl (fun q13 => ?_)
  refine a_dup (n := 17) dX6_init_16 rfl rfl ?_
  refine a_initN (n := 20) (As := []) (rest := [.ref q13, .ref q]) (pre := [(q, .inr (6, [.ref p7, .null, .null, .null, .null, .null, .int 0, .int 0])), (p7, .inl (E.2.1, 80, .inl (fun _ => 0)))]) li_X6_15 ca_X3 (by omega) ⟨by omega, by omega⟩ rfl rfl (Nat.le_of_ble_eq_true rfl) dX6_init_17 rfl rfl ?_
  rintro _ ⟨wd, tx, rfl⟩
  refine a_putF (n := 23) (ws' := [(q, .inr (6, [.ref p7, .ref q13, .null, .null, .null, .null, .int 0, .int 0])), (p7, .inl (E.2.1, 80, .inl (fun _ => 0)))] ++ [(q13, .inr (3, [.ref wd, .ref tx, .int 0, .null, .int 0, .int 0])), (wd, .inl (E.2.1, 24, .inl (fun _ => 0))), (tx, .inl (E.2.1, 0, .inl (fun _ => 0)))]) 0 ff_X6_16 dX6_init_20 rfl rfl rfl rfl (Nat.le_of_ble_eq_true rfl) rfl ?_
  refine a_aload_n (n := 24) 0 dX6_init_23 rfl rfl rfl ?_
  refine a_bipush (n := 26) (v := 16) dX6_init_24 rfl (by decide) ?_
  refine a_newq (n := 29) (N := 16) (t0 := 1) cl_X6_20 (fun _ h => h.2.1) rfl (by decide) (by decide) (by decide) (by omega) (by omega) dX6_init_26 rfl (fun p26 => ?_)
  refine a_putF (n := 32) (ws' := eH E q p7 q13 wd tx p26 .null .null .null (fun _ => none) ++ []) 0 ff_X6_22 dX6_init_29 rfl rfl rfl rfl (Nat.le_of_ble_eq_true rfl) rfl ?_
  refine a_iconst (n := 33) (v := 0) dX6_init_32 rfl (by decide) ?_
  refine a_istore_n (n := 34) (L' := [(1, .int (nI 0)), (0, .ref q)]) dX6_init_33 rfl rfl (Nat.le_of_ble_eq_true rfl) rfl ?_
  refine x6_loop (fun g => ?_) 16 0 (fun _ _ => 0) rfl
  refine x6_v16 (by omega) (by omega) (fun a => ?_)
  obtain ⟨g', hg'⟩ : ∃ g' : Nat → Nat → Nat, g' = fun k => if k = 16 then a else g k := ⟨_, rfl⟩
  have g16 : g' 16 = a := by rw [hg']; rfl
  have glt : ∀ k, k < 16 → g' k = g k := fun k hk => by
    rw [hg']
    exact if_neg (by omega)
  have e3 : VVp E g 16 ++ hV E a (vM 0 0) = VVp E g' 17 := by
    show VVp E g 16 ++ hV E a (vM 0 0) = VVp E g' 16 ++ hV E (g' 16) (vsN 16)
    rw [VVp_same 16 glt, g16]
    rfl
  have e4 : vaC (fun k => g k 6) 16 = vaC (fun k => g' k 6) 16 := (vaC_same 16 (fun k hk => by show g' k 6 = g k 6; rw [glt k hk])).symm
  rw [List.append_assoc, e3, e4, ← g16]
  refine x6_worlds (by omega) (by omega) (fun q0 q1 q2 e0 e1 e2 i0 f0 i1 f1 i2 f2 a0 a1 a2 h0 h1 h2 k j hk hj => ?_)
  refine a_arr (ws' := ((((((eH E q p7 q13 wd tx p26 (.ref q0) (.ref q1) (.ref q2) (fun v => some (g' v 6)) ++ VVp E g' 17) ++ hE E e0 eN) ++ hWn E q0 (e0 1) i0 f0 a0 (g' 16 6) 200) ++ hE E e1 eN) ++ hWn E q1 (e1 1) i1 f1 a1 (g' 16 6) 200) ++ hE E e2 eN) ++ hWn E q2 (e2 1) i2 f2 a2 (g' 16 6) 0) 5 (gL (gL (gL (gL (gL (gL (gL rfl))))))) (vaC_at (fun k => g' k 6) 16) (sL (sL (sL (sL (sL (sL (sL ⟨Nat.le_of_ble_eq_true rfl, rfl⟩))))))).2 ?_
  refine eng_conv (X := eH E q p7 q13 wd tx p26 (.ref q0) (.ref q1) (.ref q2) (fun v => some (g' v 6)) ++ VVp E g' 17) (hWn_conv h0) (hWn_conv h1) (hWn_conv h2) ?_
  obtain ⟨n, hn⟩ : ∃ n : Nat → Nat, n = fun t => cond (Nat.beq t 0) q (cond (Nat.beq t 1) p7 (cond (Nat.beq t 2) q13 (cond (Nat.beq t 3) wd (cond (Nat.beq t 4) p26 tx)))) := ⟨_, rfl⟩
  obtain ⟨qf, hqf⟩ : ∃ n : Nat → Nat, n = fun w => cond (Nat.beq w 0) q0 (cond (Nat.beq w 1) q1 q2) := ⟨_, rfl⟩
  obtain ⟨ia, hia⟩ : ∃ n : Nat → Nat, n = fun w => cond (Nat.beq w 0) i0 (cond (Nat.beq w 1) i1 i2) := ⟨_, rfl⟩
  obtain ⟨df, hdf⟩ : ∃ n : Nat → Nat, n = fun w => cond (Nat.beq w 0) f0 (cond (Nat.beq w 1) f1 f2) := ⟨_, rfl⟩
  obtain ⟨ae, hae⟩ : ∃ n : Nat → Nat → Nat, n = fun w => cond (Nat.beq w 0) e0 (cond (Nat.beq w 1) e1 e2) := ⟨_, rfl⟩
  obtain ⟨aj, haj⟩ : ∃ n : Nat → Nat → Nat → Nat, n = fun w => cond (Nat.beq w 0) a0 (cond (Nat.beq w 1) a1 a2) := ⟨_, rfl⟩
  have w0 := hWe_perm (E := E) (n := n) (q := qf) (ia := ia) (df := df) (ae := ae) (aj := aj) (va := fun v t => g' v (t + 6)) (rl := 200) (no := g' 16 6) 0 (.inl rfl) rfl
  have w1 := hWe_perm (E := E) (n := n) (q := qf) (ia := ia) (df := df) (ae := ae) (aj := aj) (va := fun v t => g' v (t + 6)) (rl := 200) (no := g' 16 6) 1 (.inr (.inl rfl)) rfl
  have w2 := hWe_perm (E := E) (n := n) (q := qf) (ia := ia) (df := df) (ae := ae) (aj := aj) (va := fun v t => g' v (t + 6)) (rl := 0) (no := g' 16 6) 2 (.inr (.inr rfl)) rfl
  rw [show ae 0 = e0 by rw [hae]; rfl, show qf 0 = q0 by rw [hqf]; rfl, show ia 0 = i0 by rw [hia]; rfl, show df 0 = f0 by rw [hdf]; rfl, show aj 0 = a0 by rw [haj]; rfl] at w0
  rw [show ae 1 = e1 by rw [hae]; rfl, show qf 1 = q1 by rw [hqf]; rfl, show ia 1 = i1 by rw [hia]; rfl, show df 1 = f1 by rw [hdf]; rfl, show aj 1 = a1 by rw [haj]; rfl] at w1
  rw [show ae 2 = e2 by rw [hae]; rfl, show qf 2 = q2 by rw [hqf]; rfl, show ia 2 = i2 by rw [hia]; rfl, show df 2 = f2 by rw [hdf]; rfl, show aj 2 = a2 by rw [haj]; rfl] at w2
  refine a_perm (eng_perm (eH_perm (n := n) (qf := qf) (ia := ia) (df := df) (ae := ae) (aj := aj) (by rw [hn]; rfl) (by rw [hn]; rfl) (by rw [hn]; rfl) (by rw [hn]; rfl) (by rw [hn]; rfl) (by rw [hn]; rfl) (by rw [hqf]; rfl) (by rw [hqf]; rfl) (by rw [hqf]; rfl)) w0 w1 w2) ?_
  exact a_ret hk hj ⟨adN n qf ia df ae aj, fun v t => g' v (t + 6), by rw [hn]; rfl, rfl⟩ dX6_init_139
end PX2
