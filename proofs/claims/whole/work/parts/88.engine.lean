/-! the engine's constructor -/
section PX1
variable {l : Launch} {E : Ev} {A : Nat → Prop} {sz : Nat} {P : va_W → Prop} {k j : Nat} {q p7 q13 wd tx p26 : Nat} {R : va_W}
def eH (E : Ev) (q p7 q13 wd tx p26 : Nat) (w0 w1 w2 : Value) (f : Nat → Option Nat) : va_W := [(q, .inr (6, [.ref p7, .ref q13, .ref p26, w0, w1, w2, .int 0, .int 0])), (p7, .inl (E.2.1, 80, .inl (fun _ => 0))), (q13, .inr (3, [.ref wd, .ref tx, .int 0, .null, .int 0, .int 0])), (wd, .inl (E.2.1, 24, .inl (fun _ => 0))), (tx, .inl (E.2.1, 0, .inl (fun _ => 0))), (p26, .inl (E.2.2.1, 16, .inr (.inr (.inr (.inr f)))))]
set_option maxHeartbeats 4000000 in
theorem x6_step {i r : Nat} {f : Nat → Option Nat} (hi : i < 16) (hr : R.length = r) (hk : k + 10 ≤ 500) (hj : j + 304 ≤ 20000) (kk : ∀ a : Nat → Nat, Ba l E A sz RX6 cX6_init 2 6 500 20000 P (k + 1 + 9) (j + 16 + 288) 34 [(1, .int (nI (i + 1))), (0, .ref q)] [] ((eH E q p7 q13 wd tx p26 .null .null .null (va_up f i (some (a 6))) ++ R) ++ hV E a (vM (nI (i / 4)) (nI (i % 4))))) : Ba l E A sz RX6 cX6_init 2 6 500 20000 P k j 34 [(1, .int (nI i)), (0, .ref q)] [] (eH E q p7 q13 wd tx p26 .null .null .null f ++ R) := by
  refine a_iload_n (n := 35) 0 dX6_init_34 rfl rfl rfl ?_
  refine a_bipush (n := 37) (v := 16) dX6_init_35 rfl (by decide) ?_
  refine a_geF (n := 40) (tgt := 65) (show nI i < 16 from nI_lt (b := 16) hi (by decide)) dX6_init_37 (by decide) rfl ?_
  refine a_aload_n (n := 41) 1 dX6_init_40 rfl rfl rfl ?_
  refine a_get (n := 44) (v := .ref p26) 0 fg_X6_22 dX6_init_41 rfl (gL rfl) rfl ?_
  refine a_iload_n (n := 45) 0 dX6_init_44 rfl rfl rfl ?_
  refine a_new (n := 48) (ci := 4) (fs := [.int 0, .int 0, .null, .null, .null, .null, .null, .null, .null, .null, .null, .int 0, .int 0, .int 0, .int 0, .int 0]) nw_X6_20 wsin_X4 tyX4_ok rfl (dv_X4) (by omega) (by omega) dX6_init_45 rfl (fun q45 => ?_)
  refine a_dup (n := 49) dX6_init_48 rfl rfl ?_
  refine a_iload_n (n := 50) 0 dX6_init_49 rfl rfl rfl ?_
  refine a_iconst (n := 51) (v := 4) dX6_init_50 rfl (by decide) ?_
  refine a_idiv (n := 52) (z := nI (i / 4)) dX6_init_51 rfl (by decide) (show nI i / nI 4 = nI (i / 4) from pk_div (by omega) (by decide) (by decide)) ?_
  refine a_iload_n (n := 53) 0 dX6_init_52 rfl rfl rfl ?_
  refine a_iconst (n := 54) (v := 4) dX6_init_53 rfl (by decide) ?_
  refine a_irem (n := 55) (z := nI (i % 4)) dX6_init_54 rfl (by decide) (show nI i - nI i / nI 4 * nI 4 = nI (i % 4) from pk_rem (by omega) (by decide) (by decide)) ?_
  refine a_init (n := 58) (As := [.int (nI (i / 4)), .int (nI (i % 4))]) (rest := [.ref q45, .int (nI i), .ref p26]) (pre := eH E q p7 q13 wd tx p26 .null .null .null f ++ R) li_X6_26 ca_X4 (by omega) ⟨by omega, by omega⟩ rfl rfl (Nat.le_of_ble_eq_true rfl) dX6_init_55 rfl rfl ?_
  rintro _ ⟨a, rfl, rfl⟩
  refine a_aast (n := 59) (t0 := 1) (ci := 4) (qk := 6 + r) (ws' := (eH E q p7 q13 wd tx p26 .null .null .null (va_up f i (some (a 6))) ++ R) ++ hV E a (vM (nI (i / 4)) (nI (i % 4)))) 5 (inb_nI hi (by decide)) rfl rfl (gR (by rw [List.length_append, hr]; rfl) rfl) dX6_init_58 rfl (gL (gL rfl)) (by rw [nI_clamp (by omega)]; exact (sL (sL ⟨Nat.le_of_ble_eq_true rfl, rfl⟩)).2) ?_
  refine a_iinc (n := 62) (y := nI (i + 1)) (L' := [(1, .int (nI (i + 1))), (0, .ref q)]) 0 dX6_init_59 rfl rfl (show nI i + Int32.ofInt 1 = nI (i + 1) from nI_1 i) (Nat.le_of_ble_eq_true rfl) rfl ?_
  exact a_goto (n := 34) dX6_init_62 (by decide) (kk a)
/-- the versions, one behind the other -/
def VVp (E : Ev) (g : Nat → Nat → Nat) : Nat → va_W
  | 0 => []
  | n + 1 => VVp E g n ++ hV E (g n) (vsN n)
theorem VVp_len (g : Nat → Nat → Nat) : ∀ n, (VVp E g n).length = 10 * n
  | 0 => rfl
  | n + 1 => by
    show (VVp E g n ++ hV E (g n) (vsN n)).length = _
    rw [List.length_append, VVp_len g n, hV_len]
    omega
theorem VVp_same {g g' : Nat → Nat → Nat} : ∀ n, (∀ k, k < n → g' k = g k) → VVp E g' n = VVp E g n
  | 0, _ => rfl
  | n + 1, h => by
    show VVp E g' n ++ hV E (g' n) (vsN n) = VVp E g n ++ hV E (g n) (vsN n)
    rw [VVp_same n (fun k hk => h k (by omega)), h n (by omega)]
theorem vaC_same {g g' : Nat → Nat} : ∀ n, (∀ k, k < n → g' k = g k) → vaC g' n = vaC g n
  | 0, _ => rfl
  | n + 1, h => by
    show va_up (vaC g' n) n (some (g' n)) = va_up (vaC g n) n (some (g n))
    rw [vaC_same n (fun k hk => h k (by omega)), h n (by omega)]
theorem vsN_lt {i : Nat} (hi : i < 17) : vsN i = vM (nI (i / 4 % 4)) (nI (i % 4)) := rfl
theorem x6_loop (kk : ∀ g : Nat → Nat → Nat, Ba l E A sz RX6 cX6_init 2 6 500 20000 P 165 4990 34 [(1, .int (nI 16)), (0, .ref q)] [] (eH E q p7 q13 wd tx p26 .null .null .null (vaC (fun k => g k 6) 16) ++ VVp E g 16)) : ∀ (s i : Nat) (g : Nat → Nat → Nat), i + s = 16 → Ba l E A sz RX6 cX6_init 2 6 500 20000 P (5 + 10 * i) (126 + 304 * i) 34 [(1, .int (nI i)), (0, .ref q)] [] (eH E q p7 q13 wd tx p26 .null .null .null (vaC (fun k => g k 6) i) ++ VVp E g i)
  | 0, i, g, h => by
    have hi : i = 16 := by omega
    subst hi
    exact kk g
  | s + 1, i, g, h => by
    refine x6_step (by omega) (VVp_len g i) (by omega) (by omega) (fun a => ?_)
    have ih := x6_loop kk s (i + 1) (fun k => if k = i then a else g k) (by omega)
    have e1 : 5 + 10 * (i + 1) = 5 + 10 * i + 1 + 9 := by omega
    have e2 : 126 + 304 * (i + 1) = 126 + 304 * i + 16 + 288 := by omega
    have e3 : VVp E (fun k => if k = i then a else g k) (i + 1) = VVp E g i ++ hV E a (vM (nI (i / 4)) (nI (i % 4))) := by
      show VVp E (fun k => if k = i then a else g k) i ++ hV E (if i = i then a else g i) (vsN i) = _
      rw [VVp_same i (fun k hk => if_neg (by omega)), if_pos rfl, vsN_lt (by omega), show i / 4 % 4 = i / 4 by omega]
    have e4 : vaC (fun k => (if k = i then a else g k) 6) (i + 1) = va_up (vaC (fun k => g k 6) i) i (some (a 6)) := by
      show va_up (vaC (fun k => (if k = i then a else g k) 6) i) i (some ((if i = i then a else g i) 6)) = _
      rw [vaC_same i (fun k hk => by show (if k = i then a else g k) 6 = g k 6; rw [if_neg (by omega)]), if_pos rfl]
    rw [e1, e2, e3, e4, ← List.append_assoc] at ih
    exact ih
theorem VVp_eq (g : Nat → Nat → Nat) : VVp E g 17 = hVV E (fun v t => g v (t + 6)) vsN := by
  simp only [VVp, List.nil_append, List.append_assoc]
  rfl
end PX1
