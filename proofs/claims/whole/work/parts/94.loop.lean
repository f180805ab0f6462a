/-! the law: its entry, its loop -/
theorem nw_L_7 : Cond.classLink RL 7 RX6 ∈ WS ∧ Cond.instantiable RX6 8 ∈ WS ∧ Cond.initialized RX6 ∈ WS := ⟨ws_in (List.mem_of_getElem? (i := 114) (by decide +kernel)) rfl, ws_in (List.mem_of_getElem? (i := 115) (by decide +kernel)) rfl, ws_in (List.mem_of_getElem? (i := 101) (by decide +kernel)) rfl⟩
theorem nw_L_10 : Cond.classLink RL 10 RX7 ∈ WS ∧ Cond.instantiable RX7 21 ∈ WS ∧ Cond.initialized RX7 ∈ WS := ⟨ws_in (List.mem_of_getElem? (i := 849) (by decide +kernel)) rfl, ws_in (List.mem_of_getElem? (i := 850) (by decide +kernel)) rfl, ws_in (List.mem_of_getElem? (i := 110) (by decide +kernel)) rfl⟩
theorem dv_X6 : ∀ i, i < 8 → defaultValue (tyX6 i) = vp_V [.null, .null, .null, .null, .null, .null, .int 0, .int 0] i := by decide +kernel
theorem dv_X7 : ∀ i, i < 21 → defaultValue (tyX7 i) = vp_V [.null, .null, .null, .null, .null, .null, .null, .int 0, .null, .int 0, .int 0, .int 0, .int 0, .int 0, .int 0, .int 0, .int 0, .int 0, .int 0, .int 0, .int 0] i := by decide +kernel
theorem li_L_9 : LkI RL 9 yX6_init cX6_init 2 0 := ⟨ws_in (List.mem_of_getElem? (i := 116) (by decide +kernel)) rfl, ws_in (List.mem_of_getElem? (i := 117) (by decide +kernel)) rfl, ws_in (List.mem_of_getElem? (i := 101) (by decide +kernel)) rfl, ws_in (List.mem_of_getElem? (i := 118) (by decide +kernel)) rfl, rfl, ⟨by decide +kernel, by decide +kernel⟩, by decide +kernel, by decide⟩
theorem li_L_12 : LkI RL 12 yX7_init cX7_init 2 0 := ⟨ws_in (List.mem_of_getElem? (i := 851) (by decide +kernel)) rfl, ws_in (List.mem_of_getElem? (i := 852) (by decide +kernel)) rfl, ws_in (List.mem_of_getElem? (i := 110) (by decide +kernel)) rfl, ws_in (List.mem_of_getElem? (i := 853) (by decide +kernel)) rfl, rfl, ⟨by decide +kernel, by decide +kernel⟩, by decide +kernel, by decide⟩
section LN1
/-- the classes and the array classes, as the tables have them -/
theorem arr_int {A : Array Value} {s : State} (h : (Cond.arrayClass .int).before A s = true) : ∃ cA : ClassId, ArrOfT s cA .int ∧ va_RA s cA .int := by
  obtain ⟨c, k, comp, h1, h2, h3⟩ := Cond.arrayClass_spec h
  exact ⟨c, fun n z => ⟨(fun k h => by cases h), k, h2, comp, h3⟩, h1⟩
theorem arr_obj {C : String} {s : State} (h : va_AO C s) : ∃ cA : ClassId, ArrOfT s cA (.object C) ∧ va_RA s cA (.object C) := by
  obtain ⟨comp, c, k, h1, h2, h3, h4, h5⟩ := Cond.arrayOver_spec h
  exact ⟨c, fun n z => ⟨(fun k h => by cases h), k, h3, comp, h4⟩, k, comp, h3, h4, h1, h5⟩
theorem known_E {A : Array Value} {s : State} (hts : ∀ w ∈ WS, w.before A s = true) (hN : Nst s) : ∃ E : Ev, va_K E.1 vwCl (tysE E) s := by
  obtain ⟨c0, i0, k0⟩ := u_known (C := RX0) (T := TX0) (N := 3) (n := 3) hts wsin_X0 (hts _ nw_X6_31.2.1)
  obtain ⟨c1, i1, k1⟩ := u_known (C := RX1) (T := TX1) (N := 3) (n := 3) hts wsin_X1 (hts _ nw_X2_51.2.1)
  obtain ⟨c2, i2, k2⟩ := u_known (C := RX2) (T := TX2) (N := 18) (n := 18) hts wsin_X2 (hts _ nw_X5_9.2.1)
  obtain ⟨c3, i3, k3⟩ := u_known (C := RX3) (T := TX3) (N := 6) (n := 6) hts wsin_X3 (hts _ nw_X6_13.2.1)
  obtain ⟨c4, i4, k4⟩ := u_known (C := RX4) (T := TX4) (N := 16) (n := 16) hts wsin_X4 (hts _ nw_X6_20.2.1)
  obtain ⟨c5, i5, k5⟩ := u_known (C := RX5) (T := TX5) (N := 5) (n := 5) hts wsin_X5 (hts _ nw_X6_29.2.1)
  obtain ⟨c6, i6, k6⟩ := u_known (C := RX6) (T := TX6) (N := 8) (n := 8) hts wsin_X6 (hts _ nw_L_7.2.1)
  obtain ⟨c7, i7, k7⟩ := u_known (C := RX7) (T := TX7) (N := 21) (n := 21) hts wsin_X7 (hts _ nw_L_10.2.1)
  obtain ⟨a0, p0, q0⟩ := arr_int (hts _ ac_int)
  obtain ⟨a1, p1, q1⟩ := arr_obj hN.2.1
  obtain ⟨a2, p2, q2⟩ := arr_obj hN.2.2
  refine ⟨((fun k => cond (Nat.beq k 0) c0 (cond (Nat.beq k 1) c1 (cond (Nat.beq k 2) c2 (cond (Nat.beq k 3) c3 (cond (Nat.beq k 4) c4 (cond (Nat.beq k 5) c5 (cond (Nat.beq k 6) c6 c7)))))), fun k => cond (Nat.beq k 0) i0 (cond (Nat.beq k 1) i1 (cond (Nat.beq k 2) i2 (cond (Nat.beq k 3) i3 (cond (Nat.beq k 4) i4 (cond (Nat.beq k 5) i5 (cond (Nat.beq k 6) i6 i7))))))), (a0, a1, a2)), fun k q hq => ?_, fun k q hq => ?_⟩
  · match k, hq with
    | 0, hq => cases hq; exact k0
    | 1, hq => cases hq; exact k1
    | 2, hq => cases hq; exact k2
    | 3, hq => cases hq; exact k3
    | 4, hq => cases hq; exact k4
    | 5, hq => cases hq; exact k5
    | 6, hq => cases hq; exact k6
    | 7, hq => cases hq; exact k7
    | k + 8, hq => cases hq
  · match k, hq with
    | 0, hq => cases hq; exact ⟨p0, q0⟩
    | 1, hq => cases hq; exact ⟨p1, q1⟩
    | 2, hq => cases hq; exact ⟨p2, q2⟩
    | k + 3, hq => cases hq
variable {p : Program} {l : Launch} {e : Env} {s : State} {m : MethodId} {below : List Frame} {meth : Method} {c : Code} {b : Nat} {E : Ev} {ad : Ad3} {va : Nat → Nat → Nat} {am : Nat → Nat} {L N : Nat} {xs : Nat → Int32}
set_option maxHeartbeats 4000000 in
/-- the law's loop -/
theorem law_loop (C : Fx E RL code 4 p s m #[Value.ref b] c) (hX : va_X b L xs s s.heap) (hbl : b < s.heap.size) (hr : meth.sig.returnType = ret) (hlocks : meth.locks = false) (hL : L ≤ 2048) (hN : 10000 ≤ N) : ∀ (n i : Nat) (H : Heap) (locs : List Loc) (ls : Array Slot), L + 4 - i < n → i ≤ L → lv_has ls 4 [(3, .int (nI i)), (2, .ref (am 0)), (1, .ref (ad 30 0 0)), (0, .ref b)] → va_S (SA s) s.heap H locs → LwS E ad va am s H → W p l e room_1 s m #[Value.ref b] below meth c H locs 600000 7302250 (lw_Z below #[Value.ref b] s) (F0 m 18 ls []) := by
  intro n
  induction n with
  | zero => intro i H locs ls h; exact absurd h (Nat.not_lt_zero _)
  | succ n ih =>
    intro i H locs ls hn hiL hl hS hLS
    have hx := C.1
    have hb := C.2.1
    have hbA : ¬ SA s b := Nat.not_le.mpr hbl
    refine lv_iload_n hx hb dL_18 rfl (lv_at hl 0 rfl) ?_
    refine lv_aload_n hx hb dL_19 rfl (lv_at hl 3 rfl) ?_
    refine va_slen hx hb hX hbl hbA hS dL_20 ?_
    refine lv_iconst (v := 4) hx hb dL_21 (by decide) ?_
    refine lv_isub hx hb dL_22 ?_
    refine lv_icmp_gt (tgt := 721) hx hb dL_23 (by decide) (fun _ => ?_) (fun hgt => ?_)
    · refine lv_iconst (v := 1) hx hb dL_721 (by decide) ?_
      refine va_forget (fun q hq => hS.2.2 q hq) ?_
      exact W.base (lw_ret (d0 := s.drawn) (Drawn.sameBut.refl s.drawn lw_cs) hx hb hr hlocks dL_722)
    · have hi4 : i + 4 ≤ L := by
        have h1 : ¬ nI L - nI 4 < nI i := hgt
        rw [Int32.lt_iff_toInt_lt, pk_sub_toInt (by omega) (by omega), nI_toInt (by omega)] at h1
        omega
      refine lv_aload_n hx hb dL_26 rfl (lv_at hl 3 rfl) ?_
      refine lv_iload_n hx hb dL_27 rfl (lv_at hl 0 rfl) ?_
      refine va_sld hx hb hX hbl hbA hS (vp_in_nI (show i < L by omega) (by omega)) dL_28 ?_
      refine lv_bipush (v := 31) hx hb dL_29 (by decide) ?_
      refine lv_iand hx hb dL_31 ?_
      have back : ∀ (H1 : Heap) (locs1 : List Loc), LwS E ad va am s H1 → va_S (SA s) s.heap H1 locs1 → W p l e room_1 s m #[Value.ref b] below meth c H1 locs1 600000 7302250 (lw_Z below #[Value.ref b] s) (F0 m 715 ls []) := fun H1 locs1 g1 g2 => by
        refine lv_iinc (v := nI (i + 4)) (k := 0) (lv' := [(3, .int (nI (i + 4))), (2, .ref (am 0)), (1, .ref (ad 30 0 0)), (0, .ref b)]) hx hb dL_715 hl rfl (show nI i + nI 4 = nI (i + 4) from nI_add i 4) (by decide) rfl (fun ls' hl' => ?_)
        refine lv_goto (tgt := 18) hx hb dL_718 (by decide) ?_
        exact ih (i + 4) H1 locs1 ls' (by omega) hi4 hl' g2 g1
      obtain ⟨j, hj, ej⟩ := pk_andE (xs (nI i).toNatClampNeg) (m := 31) 5 (by decide)
      rw [ej]
      have h32 : j < 32 := hj
      by_cases hjs : 20 < j
      · exact lv_tableOut (tgt := 715) hx hb dL_32 (Or.inr (by rw [nI_toInt (by omega)]; omega)) (by decide) (back H locs hLS hS)
      · have hcases : j = 0 ∨ j = 1 ∨ j = 2 ∨ j = 3 ∨ j = 4 ∨ j = 5 ∨ j = 6 ∨ j = 7 ∨ j = 8 ∨ j = 9 ∨ j = 10 ∨ j = 11 ∨ j = 12 ∨ j = 13 ∨ j = 14 ∨ j = 15 ∨ j = 16 ∨ j = 17 ∨ j = 18 ∨ j = 19 ∨ j = 20 := by omega
        have hi3 : i + 3 < L := by omega
        rcases hcases with z | z | z | z | z | z | z | z | z | z | z | z | z | z | z | z | z | z | z | z | z <;> subst z
        · exact lv_tableIn (off := 100) (tgt := 132) hx hb dL_32 (by decide) (by decide) rfl (by decide) (lc_feed (N := N) C hX hbl hL hi3 hN hl hS hLS back)
        · exact lv_tableIn (off := 123) (tgt := 155) hx hb dL_32 (by decide) (by decide) rfl (by decide) (lc_define (N := N) C hX hbl hL hi3 hN hl hS hLS back)
        · exact lv_tableIn (off := 146) (tgt := 178) hx hb dL_32 (by decide) (by decide) rfl (by decide) (lc_wrong (N := N) C hX hbl hL hi3 hN hl hS hLS back)
        · exact lv_tableIn (off := 169) (tgt := 201) hx hb dL_32 (by decide) (by decide) rfl (by decide) (lc_version (N := N) C hX hbl hL hi3 hN hl hS hLS back)
        · exact lv_tableIn (off := 212) (tgt := 244) hx hb dL_32 (by decide) (by decide) rfl (by decide) (lc_duration (N := N) C hX hbl hL hi3 hN hl hS hLS back)
        · exact lv_tableIn (off := 245) (tgt := 277) hx hb dL_32 (by decide) (by decide) rfl (by decide) (lc_failures (N := N) C hX hbl hL hi3 hN hl hS hLS back)
        · exact lv_tableIn (off := 278) (tgt := 310) hx hb dL_32 (by decide) (by decide) rfl (by decide) (lc_start (N := N) C hX hbl hL hi3 hN hl hS hLS back)
        · exact lv_tableIn (off := 301) (tgt := 333) hx hb dL_32 (by decide) (by decide) rfl (by decide) (lc_signal (N := N) C hX hbl hL hi3 hN hl hS hLS back)
        · exact lv_tableIn (off := 334) (tgt := 366) hx hb dL_32 (by decide) (by decide) rfl (by decide) (lc_abort (N := N) C hX hbl hL hi3 hN hl hS hLS back)
        · exact lv_tableIn (off := 357) (tgt := 389) hx hb dL_32 (by decide) (by decide) rfl (by decide) (lc_remove (N := N) C hX hbl hL hi3 hN hl hS hLS back)
        · exact lv_tableIn (off := 380) (tgt := 412) hx hb dL_32 (by decide) (by decide) rfl (by decide) (lc_pass (N := N) C hX hbl hL hi3 hN hl hS hLS back)
        · exact lv_tableIn (off := 403) (tgt := 435) hx hb dL_32 (by decide) (by decide) rfl (by decide) (lc_instance (N := N) C hX hbl hL hi3 hN hl hS hLS back)
        · exact lv_tableIn (off := 436) (tgt := 468) hx hb dL_32 (by decide) (by decide) rfl (by decide) (lc_entry (N := N) C hX hbl hL hi3 hN hl hS hLS back)
        · exact lv_tableIn (off := 479) (tgt := 511) hx hb dL_32 (by decide) (by decide) rfl (by decide) (lc_running (N := N) C hX hbl hL hi3 hN hl hS hLS back)
        · exact lv_tableIn (off := 512) (tgt := 544) hx hb dL_32 (by decide) (by decide) rfl (by decide) (lc_due (N := N) C hX hbl hL hi3 hN hl hS hLS back)
        · exact lv_tableIn (off := 535) (tgt := 567) hx hb dL_32 (by decide) (by decide) rfl (by decide) (lc_ahead (N := N) C hX hbl hL hi3 hN hl hS hLS back)
        · exact lv_tableIn (off := 568) (tgt := 600) hx hb dL_32 (by decide) (by decide) rfl (by decide) (lc_replayed (N := N) C hX hbl hL hi3 hN hl hS hLS back)
        · exact lv_tableIn (off := 601) (tgt := 633) hx hb dL_32 (by decide) (by decide) rfl (by decide) (lc_statistic (N := N) C hX hbl hL hi3 hN hl hS hLS back)
        · exact lv_tableIn (off := 634) (tgt := 666) hx hb dL_32 (by decide) (by decide) rfl (by decide) (lc_image (N := N) C hX hbl hL hi3 hN hl hS hLS back)
        · exact lv_tableIn (off := 647) (tgt := 679) hx hb dL_32 (by decide) (by decide) rfl (by decide) (lc_undo (N := N) C hX hbl hL hi3 hN hl hS hLS back)
        · exact lv_tableIn (off := 660) (tgt := 692) hx hb dL_32 (by decide) (by decide) rfl (by decide) (lc_count (N := N) C hX hbl hL hi3 hN hl hS hLS back)
set_option maxHeartbeats 4000000 in
/-- from the entry -/
theorem whole_start {p : Program} {e : Env} {s : State} {m : MethodId} {below : List Frame} {meth : Method} {c : Code} (l : Launch) (hflags : l.flags = flags0) {b L : Nat} {xs : Nat → Int32} (hL : L ≤ 2048) (C0 : lw_At p s m meth c b L xs) : W p l e room_1 s m #[Value.ref b] below meth c s.heap [] 0 0 (lw_Z below #[Value.ref b] s) (entryFrame m ([Value.ref b] : List Value).toArray 4) := by
  obtain ⟨hx, hb, hr, hml, hown, hts, hX, hbl, hlocks, hgv⟩ := id C0
  have hW : ∀ w ∈ WS, w.before #[Value.ref b] s = true := fun w hw => hts w (List.mem_filter.mp hw).1
  have hNs : Nst s := Nst.of hts
  obtain ⟨E, hK⟩ := known_E hW hNs
  have C : Fx E RL code 4 p s m #[Value.ref b] c := ⟨hx, hb, hml, hown, hW, hK, hNs⟩
  have hA : ∀ q : Nat, s.heap.size ≤ q → SA s q := fun _ h => h
  have hS : va_S (SA s) s.heap s.heap [] := va_S.rf
  have hP : va_P E.1 vwCl [] s.heap := fun k q h => by simp at h
  have hD : va_D (SA s) [] := ⟨fun i j p q h => by simp at h, fun k q h => by simp at h⟩
  have hl := lv_entry ([.ref b]) (n := 4) (Nat.le_of_ble_eq_true rfl)
  rw [lg_entry_eq]
  generalize (lg_sl ([.ref b]) ++ List.replicate (4 - (lg_sl ([.ref b])).length) Slot.unset).toArray = ls at hl ⊢
  have hl : lv_has ls 4 [(0, .ref b)] := hl
  refine va_new hx hb hW wsin_X6 tyX6 tyX6_ok hown (hW _ nw_L_7.1) (hW _ nw_L_7.2.1) (hW _ nw_L_7.2.2) hK hP hD hS hA (ci := 6) rfl (fs := [.null, .null, .null, .null, .null, .null, .int 0, .int 0]) dv_X6 (Nat.le_of_ble_eq_true rfl) (Nat.le_of_ble_eq_true rfl) dL_0 (fun qx Ha hPa hDa hSa => ?_)
  refine lv_dup hx hb dL_3 rfl ?_
  refine g_init (pre := []) (As := []) (rest := [.ref qx]) C hPa hDa hSa hA hl.1 li_L_9 ca_X6 ⟨by decide, by decide⟩ ⟨Nat.le_of_ble_eq_true rfl, Nat.le_of_ble_eq_true rfl⟩ rfl (Nat.le_of_ble_eq_true rfl) dL_4 (fun w1 Hb locsb hw hPb hDb hSb => ?_)
  obtain ⟨ad, va, hq, rfl⟩ := hw
  subst hq
  refine lv_astore_n (lv' := [(1, .ref (ad 30 0 0)), (0, .ref b)]) hx hb dL_7 rfl hl (by decide) rfl (fun ls hl => ?_)
  refine va_new hx hb hW wsin_X7 tyX7 tyX7_ok hown (hW _ nw_L_10.1) (hW _ nw_L_10.2.1) (hW _ nw_L_10.2.2) hK hPb hDb hSb hA (ci := 7) rfl (fs := [.null, .null, .null, .null, .null, .null, .null, .int 0, .null, .int 0, .int 0, .int 0, .int 0, .int 0, .int 0, .int 0, .int 0, .int 0, .int 0, .int 0, .int 0]) dv_X7 (Nat.le_of_ble_eq_true rfl) (Nat.le_of_ble_eq_true rfl) dL_8 (fun qm Hc hPc hDc hSc => ?_)
  refine lv_dup hx hb dL_11 rfl ?_
  refine g_init (As := []) (rest := [.ref qm]) C hPc hDc hSc hA hl.1 li_L_12 ca_X7 ⟨by decide, by decide⟩ ⟨Nat.le_of_ble_eq_true rfl, Nat.le_of_ble_eq_true rfl⟩ rfl (Nat.le_of_ble_eq_true rfl) dL_12 (fun w1 Hd locsd hw hPd hDd hSd => ?_)
  obtain ⟨am, hq, rfl⟩ := hw
  subst hq
  refine lv_astore_n (lv' := [(2, .ref (am 0)), (1, .ref (ad 30 0 0)), (0, .ref b)]) hx hb dL_15 rfl hl (by decide) rfl (fun ls hl => ?_)
  refine lv_iconst (v := 0) hx hb dL_16 (by decide) ?_
  refine lv_istore_n (lv' := [(3, .int (nI 0)), (2, .ref (am 0)), (1, .ref (ad 30 0 0)), (0, .ref b)]) hx hb dL_17 rfl hl (by decide) rfl (fun ls hl => ?_)
  refine W.widen (k := 600000) (n := 7302250) (Nat.le_of_ble_eq_true rfl) (Nat.le_of_ble_eq_true rfl) ?_
  exact law_loop (N := 10000) C hX hbl hr hlocks hL (Nat.le_refl _) (L + 5) 0 Hd locsd ls (by omega) (Nat.zero_le _) hl hSd ⟨(zN, 0, 0, zN, zN, eN, (fun _ => oN), (fun _ => zN), (fun _ => 16), vsN), (zN, eN, (fun _ => oN), (fun _ => zN), (fun _ => 16), zN, eN, (fun _ => oN), (fun _ => zN), (fun _ => 16)), mN, SR_0, hPd, hDd⟩
end LN1
