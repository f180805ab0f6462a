/-! the whole engine: present, versions, saved, forecast; image, undo, ahead -/
theorem mm_X5_copy : Cond.instanceMethod yX5_copy ∈ WS ∧ Cond.selects (yX5_copy).cls yX5_copy yX5_copy ∈ WS ∧ Cond.initialized (yX5_copy).cls ∈ WS ∧ Cond.code yX5_copy cX5_copy 3 none ∈ WS ∧ ((yX5_copy).cls ≠ "java/lang/invoke/MethodHandle" ∧ (yX5_copy).cls ≠ "java/lang/invoke/VarHandle") ∧ (parseMethodDescriptor (yX5_copy).desc).map (fun d => d.parameters.length) = some 1 ∧ 3 ≤ 20 := ⟨ws_in (List.mem_of_getElem? (i := 752) (by decide +kernel)) rfl, ws_in (List.mem_of_getElem? (i := 753) (by decide +kernel)) rfl, ws_in (List.mem_of_getElem? (i := 104) (by decide +kernel)) rfl, ws_in (List.mem_of_getElem? (i := 754) (by decide +kernel)) rfl, ⟨by decide +kernel, by decide +kernel⟩, by decide +kernel, by decide⟩
theorem lk_X6_198 : LkV RX6 198 yX5_copy cX5_copy 3 none 1 := ⟨ws_in (List.mem_of_getElem? (i := 751) (by decide +kernel)) rfl, mm_X5_copy⟩
theorem f_X6_227 : FL RX6 227 6 7 := ⟨RX6, TX6, 8, rfl, by decide, wsin_X6, ws_in (List.mem_of_getElem? (i := 386) (by decide +kernel)) rfl⟩
theorem f_X6_41 : FL RX6 41 6 4 := ⟨RX6, TX6, 8, rfl, by decide, wsin_X6, ws_in (List.mem_of_getElem? (i := 383) (by decide +kernel)) rfl⟩
theorem f_X6_44 : FL RX6 44 6 5 := ⟨RX6, TX6, 8, rfl, by decide, wsin_X6, ws_in (List.mem_of_getElem? (i := 384) (by decide +kernel)) rfl⟩
theorem fp_X6_227 : FLp RX6 227 6 7 .boolean := ⟨RX6, TX6, 8, tyX6, rfl, by decide, wsin_X6, ws_in (List.mem_of_getElem? (i := 386) (by decide +kernel)) rfl, tyX6_ok, nmX6, rfl, rfl⟩
abbrev bl (n k : Nat) : List Nat := (List.range k).map (n + ·)
theorem bl_at (A B C : va_W) (n k : Nat) (hn : A.length = n) (hk : B.length = k) : (bl n k).map (fun i => (A ++ (B ++ C))[i]?) = B.map some := by
  subst hn; subst hk
  rw [List.map_map]
  rw [← range_at B]
  apply List.map_congr_left
  intro i hi
  have hi : i < B.length := List.mem_range.mp hi
  show (A ++ (B ++ C))[A.length + i]? = _
  rw [List.getElem?_append_right (Nat.le_add_right _ _), Nat.add_sub_cancel_left, List.getElem?_append_left hi]
theorem bl_patch (A B C B' : va_W) (n k : Nat) (hn : A.length = n) (hk : B.length = k) (h : B'.length = B.length) : patch (A ++ (B ++ C)) (bl n k) B' = A ++ (B' ++ C) := by
  subst hn; subst hk
  rw [patch_off, patch_left _ _ _ _ (fun i hi => List.mem_range.mp hi)]
  have := patch_all B [] B' h
  simp only [List.length_nil, List.nil_append, ← List.range_eq_range'] at this
  rw [this]
def hX (E : Ev) (ad : Ad3) (va : Nat → Nat → Nat) (rl : Nat) (x : Mem) (tx tg : Nat) (r w e : Mem) (I H : Fam) (pl : Nat → Nat) (vs : Fam) (w1 e1 : Mem) (I1 H1 : Fam) (pl1 : Nat → Nat) (w2 e2 : Mem) (I2 H2 : Fam) (pl2 : Nat → Nat) : va_W := hN E ad va x tx tg r ++ (hB E ad va rl w e I H pl ++ (hVV E va vs ++ (hB E (adW ad 1) va rl w1 e1 I1 H1 pl1 ++ hB E (adW ad 2) va 0 w2 e2 I2 H2 pl2)))
section XL
variable {E : Ev} {ad : Ad3} {va : Nat → Nat → Nat} {rl : Nat} {x : Mem} {tx tg : Nat} {r w e : Mem} {I H : Fam} {pl : Nat → Nat} {vs : Fam} {w1 e1 : Mem} {I1 H1 : Fam} {pl1 : Nat → Nat} {w2 e2 : Mem} {I2 H2 : Fam} {pl2 : Nat → Nat}
theorem hN_len : (hN E ad va x tx tg r).length = 5 := rfl
theorem hB_len : (hB E ad va rl w e I H pl).length = 78 := rfl
theorem hV_len {a : Nat → Nat} {p : Mem} : (hV E a p).length = 10 := rfl
theorem hVV_len : (hVV E va vs).length = 170 := by unfold hVV; simp only [List.length_append, hV_len]
theorem hP_len : (hP E ad va rl x tx tg r w e I H pl vs).length = 253 := by unfold hP hWV; rw [List.length_append, List.length_append, hN_len, hB_len, hVV_len]
theorem hX_0 : (bl 5 78).map (fun i => (hX E ad va rl x tx tg r w e I H pl vs w1 e1 I1 H1 pl1 w2 e2 I2 H2 pl2)[i]?) = (hB E ad va rl w e I H pl).map some := bl_at (hN E ad va x tx tg r) _ _ 5 78 rfl hB_len
theorem hX_v : (bl 83 170).map (fun i => (hX E ad va rl x tx tg r w e I H pl vs w1 e1 I1 H1 pl1 w2 e2 I2 H2 pl2)[i]?) = (hVV E va vs).map some := by
  have := bl_at (hN E ad va x tx tg r ++ hB E ad va rl w e I H pl) (hVV E va vs) (hB E (adW ad 1) va rl w1 e1 I1 H1 pl1 ++ hB E (adW ad 2) va 0 w2 e2 I2 H2 pl2) 83 170 (by simp only [List.length_append, hN_len, hB_len, hVV_len]) hVV_len
  rw [List.append_assoc] at this; exact this
theorem hX_1 : (bl 253 78).map (fun i => (hX E ad va rl x tx tg r w e I H pl vs w1 e1 I1 H1 pl1 w2 e2 I2 H2 pl2)[i]?) = (hB E (adW ad 1) va rl w1 e1 I1 H1 pl1).map some := by
  have := bl_at (hN E ad va x tx tg r ++ (hB E ad va rl w e I H pl ++ hVV E va vs)) (hB E (adW ad 1) va rl w1 e1 I1 H1 pl1) (hB E (adW ad 2) va 0 w2 e2 I2 H2 pl2) 253 78 (by simp only [List.length_append, hN_len, hB_len, hVV_len]) hB_len
  simp only [List.append_assoc] at this; exact this
theorem hX_2 : (bl 331 78).map (fun i => (hX E ad va rl x tx tg r w e I H pl vs w1 e1 I1 H1 pl1 w2 e2 I2 H2 pl2)[i]?) = (hB E (adW ad 2) va 0 w2 e2 I2 H2 pl2).map some := by
  have := bl_at (hN E ad va x tx tg r ++ (hB E ad va rl w e I H pl ++ (hVV E va vs ++ hB E (adW ad 1) va rl w1 e1 I1 H1 pl1))) (hB E (adW ad 2) va 0 w2 e2 I2 H2 pl2) [] 331 78 (by simp only [List.length_append, hN_len, hB_len, hVV_len]) hB_len
  simp only [List.append_assoc, List.append_nil] at this; exact this
variable {w' e' : Mem} {I' H' : Fam} {pl' : Nat → Nat}
theorem hX_p0 : patch (hX E ad va rl x tx tg r w e I H pl vs w1 e1 I1 H1 pl1 w2 e2 I2 H2 pl2) (bl 5 78) (hB E ad va rl w' e' I' H' pl') = hX E ad va rl x tx tg r w' e' I' H' pl' vs w1 e1 I1 H1 pl1 w2 e2 I2 H2 pl2 := bl_patch (hN E ad va x tx tg r) _ _ _ 5 78 rfl hB_len (by rw [hB_len, hB_len])
theorem hX_p1 : patch (hX E ad va rl x tx tg r w e I H pl vs w1 e1 I1 H1 pl1 w2 e2 I2 H2 pl2) (bl 253 78) (hB E (adW ad 1) va rl w' e' I' H' pl') = hX E ad va rl x tx tg r w e I H pl vs w' e' I' H' pl' w2 e2 I2 H2 pl2 := by
  have := bl_patch (hN E ad va x tx tg r ++ (hB E ad va rl w e I H pl ++ hVV E va vs)) (hB E (adW ad 1) va rl w1 e1 I1 H1 pl1) (hB E (adW ad 2) va 0 w2 e2 I2 H2 pl2) (hB E (adW ad 1) va rl w' e' I' H' pl') 253 78 (by simp only [List.length_append, hN_len, hB_len, hVV_len]) hB_len (by rw [hB_len, hB_len])
  simp only [List.append_assoc] at this; exact this
theorem hX_p2 : patch (hX E ad va rl x tx tg r w e I H pl vs w1 e1 I1 H1 pl1 w2 e2 I2 H2 pl2) (bl 331 78) (hB E (adW ad 2) va 0 w' e' I' H' pl') = hX E ad va rl x tx tg r w e I H pl vs w1 e1 I1 H1 pl1 w' e' I' H' pl' := by
  have := bl_patch (hN E ad va x tx tg r ++ (hB E ad va rl w e I H pl ++ (hVV E va vs ++ hB E (adW ad 1) va rl w1 e1 I1 H1 pl1))) (hB E (adW ad 2) va 0 w2 e2 I2 H2 pl2) [] (hB E (adW ad 2) va 0 w' e' I' H' pl') 331 78 (by simp only [List.length_append, hN_len, hB_len, hVV_len]) hB_len (by rw [hB_len, hB_len])
  simp only [List.append_assoc, List.append_nil] at this; exact this
theorem blN (n k m j : Nat) (h : n + k ≤ m ∨ m + j ≤ n) : (bl n k ++ bl m j).Nodup := by
  rw [List.nodup_append]
  refine ⟨?_, ?_, ?_⟩
  · unfold List.Nodup; rw [List.pairwise_map]; exact (List.nodup_range (n := k)).imp (fun h1 h2 => h1 (by omega))
  · unfold List.Nodup; rw [List.pairwise_map]; exact (List.nodup_range (n := j)).imp (fun h1 h2 => h1 (by omega))
  · intro a ha b hb
    obtain ⟨i, hi, rfl⟩ := List.mem_map.mp ha
    obtain ⟨q, hq, rfl⟩ := List.mem_map.mp hb
    have := List.mem_range.mp hi
    have := List.mem_range.mp hq
    omega
/-- saved ← present -/
theorem hX_c1 : (bl 253 78 ++ bl 5 78).map (fun i => (hX E ad va rl x tx tg r w e I H pl vs w1 e1 I1 H1 pl1 w2 e2 I2 H2 pl2)[i]?) = (hWW E (adW ad 1) ad va rl rl w1 e1 I1 H1 pl1 w e I H pl).map some := by rw [List.map_append, hX_1, hX_0, ← List.map_append]; rfl
theorem hX_q1 : patch (hX E ad va rl x tx tg r w e I H pl vs w1 e1 I1 H1 pl1 w2 e2 I2 H2 pl2) (bl 253 78 ++ bl 5 78) (hWW E (adW ad 1) ad va rl rl w' e' I' H' pl' w e I H pl) = hX E ad va rl x tx tg r w e I H pl vs w' e' I' H' pl' w2 e2 I2 H2 pl2 := by
  unfold hWW
  rw [patch_app _ _ _ _ _ rfl, hX_p1]
  exact patch_self _ _ _ hX_0
/-- present ← saved -/
theorem hX_c0 : (bl 5 78 ++ bl 253 78).map (fun i => (hX E ad va rl x tx tg r w e I H pl vs w1 e1 I1 H1 pl1 w2 e2 I2 H2 pl2)[i]?) = (hWW E ad (adW ad 1) va rl rl w e I H pl w1 e1 I1 H1 pl1).map some := by rw [List.map_append, hX_1, hX_0, ← List.map_append]; rfl
theorem hX_q0 : patch (hX E ad va rl x tx tg r w e I H pl vs w1 e1 I1 H1 pl1 w2 e2 I2 H2 pl2) (bl 5 78 ++ bl 253 78) (hWW E ad (adW ad 1) va rl rl w' e' I' H' pl' w1 e1 I1 H1 pl1) = hX E ad va rl x tx tg r w' e' I' H' pl' vs w1 e1 I1 H1 pl1 w2 e2 I2 H2 pl2 := by
  unfold hWW
  rw [patch_app _ _ _ _ _ rfl, hX_p0]
  exact patch_self _ _ _ hX_1
/-- forecast ← present -/
theorem hX_c2 : (bl 331 78 ++ bl 5 78).map (fun i => (hX E ad va rl x tx tg r w e I H pl vs w1 e1 I1 H1 pl1 w2 e2 I2 H2 pl2)[i]?) = (hWW E (adW ad 2) ad va 0 rl w2 e2 I2 H2 pl2 w e I H pl).map some := by rw [List.map_append, hX_2, hX_0, ← List.map_append]; rfl
theorem hX_q2 : patch (hX E ad va rl x tx tg r w e I H pl vs w1 e1 I1 H1 pl1 w2 e2 I2 H2 pl2) (bl 331 78 ++ bl 5 78) (hWW E (adW ad 2) ad va 0 rl w' e' I' H' pl' w e I H pl) = hX E ad va rl x tx tg r w e I H pl vs w1 e1 I1 H1 pl1 w' e' I' H' pl' := by
  unfold hWW
  rw [patch_app _ _ _ _ _ rfl, hX_p2]
  exact patch_self _ _ _ hX_0
/-- the worlds with the versions -/
theorem hX_w0 : (bl 5 78 ++ bl 83 170).map (fun i => (hX E ad va rl x tx tg r w e I H pl vs w1 e1 I1 H1 pl1 w2 e2 I2 H2 pl2)[i]?) = (hWV E ad va rl w e I H pl vs).map some := by rw [List.map_append, hX_0, hX_v, ← List.map_append]; rfl
theorem hX_w2 : (bl 331 78 ++ bl 83 170).map (fun i => (hX E ad va rl x tx tg r w e I H pl vs w1 e1 I1 H1 pl1 w2 e2 I2 H2 pl2)[i]?) = (hWV E (adW ad 2) va 0 w2 e2 I2 H2 pl2 vs).map some := by rw [List.map_append, hX_2, hX_v, ← List.map_append]; rfl
theorem hX_l2 : patch (hX E ad va rl x tx tg r w e I H pl vs w1 e1 I1 H1 pl1 w2 e2 I2 H2 pl2) (bl 331 78 ++ bl 83 170) (hWV E (adW ad 2) va 0 w' e' I' H' pl' vs) = hX E ad va rl x tx tg r w e I H pl vs w1 e1 I1 H1 pl1 w' e' I' H' pl' := by
  unfold hWV
  rw [patch_app _ _ _ _ _ rfl, hX_p2]
  exact patch_self _ _ _ hX_v
/-- all but saved and forecast -/
theorem hX_eq : hX E ad va rl x tx tg r w e I H pl vs w1 e1 I1 H1 pl1 w2 e2 I2 H2 pl2 = hP E ad va rl x tx tg r w e I H pl vs ++ (hB E (adW ad 1) va rl w1 e1 I1 H1 pl1 ++ hB E (adW ad 2) va 0 w2 e2 I2 H2 pl2) := by
  unfold hX hP hWV
  simp only [List.append_assoc]
theorem hX_P : (bl 0 253).map (fun i => (hX E ad va rl x tx tg r w e I H pl vs w1 e1 I1 H1 pl1 w2 e2 I2 H2 pl2)[i]?) = (hP E ad va rl x tx tg r w e I H pl vs).map some := by
  rw [hX_eq]
  have := bl_at [] (hP E ad va rl x tx tg r w e I H pl vs) (hB E (adW ad 1) va rl w1 e1 I1 H1 pl1 ++ hB E (adW ad 2) va 0 w2 e2 I2 H2 pl2) 0 253 rfl hP_len
  simp only [List.nil_append] at this; exact this
theorem hX_pP {x' : Mem} {tx' tg' : Nat} {r' : Mem} {vs' : Fam} : patch (hX E ad va rl x tx tg r w e I H pl vs w1 e1 I1 H1 pl1 w2 e2 I2 H2 pl2) (bl 0 253) (hP E ad va rl x' tx' tg' r' w' e' I' H' pl' vs') = hX E ad va rl x' tx' tg' r' w' e' I' H' pl' vs' w1 e1 I1 H1 pl1 w2 e2 I2 H2 pl2 := by
  rw [hX_eq, hX_eq]
  have := bl_patch [] (hP E ad va rl x tx tg r w e I H pl vs) (hB E (adW ad 1) va rl w1 e1 I1 H1 pl1 ++ hB E (adW ad 2) va 0 w2 e2 I2 H2 pl2) (hP E ad va rl x' tx' tg' r' w' e' I' H' pl' vs') 0 253 rfl hP_len (by rw [hP_len, hP_len])
  simp only [List.nil_append] at this; exact this
theorem blP : (bl 0 253).Nodup := by
  unfold List.Nodup; rw [List.pairwise_map]; exact (List.nodup_range (n := 253)).imp (fun h1 h2 => h1 (by omega))
theorem hX_o300 : (hX E ad va rl x tx tg r w e I H pl vs w1 e1 I1 H1 pl1 w2 e2 I2 H2 pl2)[0]? = some (ad 30 0 0, .inr (6, hP_f300 ad x)) := rfl
theorem hX_p300_7 {v : Int32} : (hX E ad va rl x tx tg r w e I H pl vs w1 e1 I1 H1 pl1 w2 e2 I2 H2 pl2).set 0 (ad 30 0 0, .inr (6, (hP_f300 ad x).set 7 (.int v))) = hX E ad va rl (up x 0 7 v) tx tg r w e I H pl vs w1 e1 I1 H1 pl1 w2 e2 I2 H2 pl2 := rfl
theorem hX_at (pos : Nat) (c : Nat × va_E) (k : Nat) (hk : (bl 331 78)[k]? = some pos) (hc : (hB E (adW ad 2) va 0 w2 e2 I2 H2 pl2)[k]? = some c) : (hX E ad va rl x tx tg r w e I H pl vs w1 e1 I1 H1 pl1 w2 e2 I2 H2 pl2)[pos]? = some c := by
  have h := congrArg (fun z => z[k]?) (hX_2 (E := E) (ad := ad) (va := va) (rl := rl) (x := x) (tx := tx) (tg := tg) (r := r) (w := w) (e := e) (I := I) (H := H) (pl := pl) (vs := vs) (w1 := w1) (e1 := e1) (I1 := I1) (H1 := H1) (pl1 := pl1) (w2 := w2) (e2 := e2) (I2 := I2) (H2 := H2) (pl2 := pl2))
  simp only [List.getElem?_map] at h hk
  rw [hc] at h
  cases hr : (List.range 78)[k]? with
  | none => rw [hr] at hk; cases hk
  | some i =>
    rw [hr] at hk h
    simp only [Option.map_some, Option.some.injEq] at hk h
    rw [← hk]; exact h
theorem hX_o1 : (hX E ad va rl x tx tg r w e I H pl vs w1 e1 I1 H1 pl1 w2 e2 I2 H2 pl2)[253]? = some (adW ad 1 0 0 0, .inr (5, hW_f0 (adW ad 1) w1)) := by
  have h := congrArg (fun z => z[0]?) (hX_1 (E := E) (ad := ad) (va := va) (rl := rl) (x := x) (tx := tx) (tg := tg) (r := r) (w := w) (e := e) (I := I) (H := H) (pl := pl) (vs := vs) (w1 := w1) (e1 := e1) (I1 := I1) (H1 := H1) (pl1 := pl1) (w2 := w2) (e2 := e2) (I2 := I2) (H2 := H2) (pl2 := pl2))
  exact Option.some.inj h
theorem hX_o0 : (hX E ad va rl x tx tg r w e I H pl vs w1 e1 I1 H1 pl1 w2 e2 I2 H2 pl2)[5]? = some (ad 0 0 0, .inr (5, hW_f0 ad w)) := rfl
theorem hX_o2 : (hX E ad va rl x tx tg r w e I H pl vs w1 e1 I1 H1 pl1 w2 e2 I2 H2 pl2)[331]? = some (adW ad 2 0 0 0, .inr (5, hW_f0 (adW ad 2) w2)) := hX_at 331 _ 0 rfl rfl
theorem hX_r2 : (hX E ad va rl x tx tg r w e I H pl vs w1 e1 I1 H1 pl1 w2 e2 I2 H2 pl2)[335]? = some (adW ad 2 0 0 4, .inl (E.2.2.2, 6, .inr (.inr (.inr (.inr (fun j => some (adW ad 2 10 j 0))))))) := hX_at 335 _ 4 rfl rfl
theorem hX_i2 : ∀ j, j < 6 → (hX E ad va rl x tx tg r w e I H pl vs w1 e1 I1 H1 pl1 w2 e2 I2 H2 pl2)[337 + 12 * j]? = some (adW ad 2 10 j 0, .inr (2, hI_f0 (adI (adW ad 2) va j (pl2 j)) (I2 j))) := six (hX_at _ _ 6 rfl rfl) (hX_at _ _ 18 rfl rfl) (hX_at _ _ 30 rfl rfl) (hX_at _ _ 42 rfl rfl) (hX_at _ _ 54 rfl rfl) (hX_at _ _ 66 rfl rfl)
end XL
def xe_image (N rl : Nat) (x w e : Mem) (I H : Fam) (pl : Nat → Nat) (vs : Fam) (w1 e1 : Mem) (I1 H1 : Fam) (pl1 : Nat → Nat) : Option (Int32 × Mem × Mem × Mem × Fam × Fam × (Nat → Nat)) :=
  (wo_copy N rl rl w e I H pl w1 e1 I1 H1 pl1).bind fun (w8, e8, I8, H8, pl8) =>
  (wo_started N pl vs I).bind fun k20 =>
  some (k20, up x 0 7 1, w8, e8, I8, H8, pl8)
def xe_undo (N rl : Nat) (x w e : Mem) (I H : Fam) (pl : Nat → Nat) (vs : Fam) (w1 e1 : Mem) (I1 H1 : Fam) (pl1 : Nat → Nat) : Option (Int32 × Mem × Mem × Fam × Fam × (Nat → Nat)) :=
  if x 0 7 = 0 then
    (some (-3, w, e, I, H, pl))
  else
    ((wo_copy N rl rl w1 e1 I1 H1 pl1 w e I H pl).bind fun (w18, e18, I18, H18, pl18) =>
    (wo_started N pl18 vs I18).bind fun k25 =>
    some (k25, w18, e18, I18, H18, pl18))
def xe_ahead (N D rl : Nat) (x1 x2 : Int32) (w e : Mem) (I H : Fam) (pl : Nat → Nat) (vs : Fam) (w2 e2 : Mem) (I2 H2 : Fam) (pl2 : Nat → Nat) : Option (Int32 × Mem × Mem × Fam × Fam × (Nat → Nat)) :=
  (xe_find I x1).bind fun r2 => match r2 with
  | none => some (-1, w2, e2, I2, H2, pl2)
  | some j2 =>
    (xs_isInside x1 6).bind fun k11 =>
    if k11 = true then
      (if x2 < 1 then
        (some (-2, w2, e2, I2, H2, pl2))
      else
        (if 200 < x2 then
          (some (-2, w2, e2, I2, H2, pl2))
        else
          ((wo_copy N 0 rl w e I H pl w2 e2 I2 H2 pl2).bind fun (w42, e42, I42, H42, pl42) =>
          (wo_letPass N D 0 pl42 vs x2 e42 I42 H42).bind fun (e50, I50, H50) =>
          (rx 6 x1).bind fun j61 =>
          some (I50 j61 0 3, w42, e50, I50, H50, pl42))))
    else
      (some (-1, w2, e2, I2, H2, pl2))
set_option maxHeartbeats 400000 in
set_option maxRecDepth 100000 in
theorem c_xe_image {l : Launch} {E : Ev} {ad : Ad3} {va : Nat → Nat → Nat} {d N rl : Nat} {x : Mem} {tx tg : Nat} {r w e : Mem} {I H : Fam} {pl : Nat → Nat} {vs : Fam} {w1 e1 : Mem} {I1 H1 : Fam} {pl1 : Nat → Nat} {w2 e2 : Mem} {I2 H2 : Fam} {pl2 : Nat → Nat} (hd : 7 ≤ d) : Ct l yX6_image cX6_image 1 (some .int) d E (hX E ad va rl x tx tg r w e I H pl vs w1 e1 I1 H1 pl1 w2 e2 I2 H2 pl2) [.ref (ad 30 0 0)] (fun q : Int32 × Mem × Mem × Mem × Fam × Fam × (Nat → Nat) => (some (.int q.1), hX E ad va rl q.2.1 tx tg r w e I H pl vs q.2.2.1 q.2.2.2.1 q.2.2.2.2.1 q.2.2.2.2.2.1 q.2.2.2.2.2.2 w2 e2 I2 H2 pl2)) (xe_image N rl x w e I H pl vs w1 e1 I1 H1 pl1) := by
  refine Ct.of2 (own := RX6) (L := [(0, .ref (ad 30 0 0))]) rfl (by decide +kernel) (Nat.le_of_ble_eq_true rfl) rfl ?_
  unfold xe_image
  refine b_aload_n (n := 1) 0 dX6_image_0 rfl rfl rfl ?_
  refine b_get (n := 4) (v := .ref (adW ad 1 0 0 0)) 0 f_X6_41 dX6_image_1 rfl hX_o300 rfl ?_
  refine b_aload_n (n := 5) 0 dX6_image_4 rfl rfl rfl ?_
  refine b_get (n := 8) (v := .ref (ad 0 0 0)) 0 f_X6_37 dX6_image_5 rfl hX_o300 rfl ?_
  refine bVwv (n := 11) (hh := (fun s : Mem × Mem × Fam × Fam × (Nat → Nat) => hWW E (adW ad 1) ad va rl rl s.1 s.2.1 s.2.2.1 s.2.2.2.1 s.2.2.2.2 w e I H pl)) (As := [.ref (ad 0 0 0)]) (rest := []) (fun s : Mem × Mem × Fam × Fam × (Nat → Nat) => hX E ad va rl x tx tg r w e I H pl vs s.1 s.2.1 s.2.2.1 s.2.2.2.1 s.2.2.2.2 w2 e2 I2 H2 pl2) 253 (bl 253 78 ++ bl 5 78) lk_X6_198 (c_wo_copy (Nat.le_refl _)) (by omega) hX_c1 (blN _ _ _ _ (by omega)) (fun _ => rfl) (fun _ => hX_q1) hX_o1 rfl rfl rfl (Nat.le_of_ble_eq_true rfl) dX6_image_8 rfl ?_
  rintro ⟨w8, e8, I8, H8, pl8⟩
  try dsimp only
  refine b_aload_n (n := 12) 0 dX6_image_11 rfl rfl rfl ?_
  refine b_iconst (n := 13) (v := 1) dX6_image_12 rfl (by decide) ?_
  refine b_put (n := 16) 0 fp_X6_227 dX6_image_13 rfl hX_o300 rfl rfl (Nat.le_of_ble_eq_true rfl) hX_p300_7 ?_
  refine b_aload_n (n := 17) 0 dX6_image_16 rfl rfl rfl ?_
  refine b_get (n := 20) (v := .ref (ad 0 0 0)) 0 f_X6_37 dX6_image_17 rfl hX_o300 rfl ?_
  refine bVi (n := 23) (As := []) (rest := []) 5 (bl 5 78 ++ bl 83 170) lk_X6_231 (c_wo_started (Nat.le_refl _)) (by omega) hX_w0 (blN _ _ _ _ (by omega)) hX_o0 rfl rfl rfl (Nat.le_of_ble_eq_true rfl) dX6_image_20 rfl (fun k20 => ?_)
  exact b_iret dX6_image_23 rfl rfl
set_option maxHeartbeats 400000 in
set_option maxRecDepth 100000 in
theorem c_xe_undo {l : Launch} {E : Ev} {ad : Ad3} {va : Nat → Nat → Nat} {d N rl : Nat} {x : Mem} {tx tg : Nat} {r w e : Mem} {I H : Fam} {pl : Nat → Nat} {vs : Fam} {w1 e1 : Mem} {I1 H1 : Fam} {pl1 : Nat → Nat} {w2 e2 : Mem} {I2 H2 : Fam} {pl2 : Nat → Nat} (hd : 7 ≤ d) : Ct l yX6_undo cX6_undo 1 (some .int) d E (hX E ad va rl x tx tg r w e I H pl vs w1 e1 I1 H1 pl1 w2 e2 I2 H2 pl2) [.ref (ad 30 0 0)] (fun q : Int32 × Mem × Mem × Fam × Fam × (Nat → Nat) => (some (.int q.1), hX E ad va rl x tx tg r q.2.1 q.2.2.1 q.2.2.2.1 q.2.2.2.2.1 q.2.2.2.2.2 vs w1 e1 I1 H1 pl1 w2 e2 I2 H2 pl2)) (xe_undo N rl x w e I H pl vs w1 e1 I1 H1 pl1) := by
  refine Ct.of2 (own := RX6) (L := [(0, .ref (ad 30 0 0))]) rfl (by decide +kernel) (Nat.le_of_ble_eq_true rfl) rfl ?_
  unfold xe_undo
  refine b_aload_n (n := 1) 0 dX6_undo_0 rfl rfl rfl ?_
  refine b_get (n := 4) (v := .int (x 0 7)) 0 f_X6_227 dX6_undo_1 rfl hX_o300 rfl ?_
  refine b_if_ne (n := 7) (tgt := 10) dX6_undo_4 (by decide) rfl (fun h4 => ?_) (fun h4 => ?_)
  · refine b_bipush (n := 9) (v := -3) dX6_undo_7 rfl (by decide) ?_
    exact b_iret dX6_undo_9 rfl rfl
  · refine b_aload_n (n := 11) 0 dX6_undo_10 rfl rfl rfl ?_
    refine b_get (n := 14) (v := .ref (ad 0 0 0)) 0 f_X6_37 dX6_undo_11 rfl hX_o300 rfl ?_
    refine b_aload_n (n := 15) 0 dX6_undo_14 rfl rfl rfl ?_
    refine b_get (n := 18) (v := .ref (adW ad 1 0 0 0)) 0 f_X6_41 dX6_undo_15 rfl hX_o300 rfl ?_
    refine bVwv (n := 21) (hh := (fun s : Mem × Mem × Fam × Fam × (Nat → Nat) => hWW E ad (adW ad 1) va rl rl s.1 s.2.1 s.2.2.1 s.2.2.2.1 s.2.2.2.2 w1 e1 I1 H1 pl1)) (As := [.ref (adW ad 1 0 0 0)]) (rest := []) (fun s : Mem × Mem × Fam × Fam × (Nat → Nat) => hX E ad va rl x tx tg r s.1 s.2.1 s.2.2.1 s.2.2.2.1 s.2.2.2.2 vs w1 e1 I1 H1 pl1 w2 e2 I2 H2 pl2) 5 (bl 5 78 ++ bl 253 78) lk_X6_198 (c_wo_copy (Nat.le_refl _)) (by omega) hX_c0 (blN _ _ _ _ (by omega)) (fun _ => rfl) (fun _ => hX_q0) hX_o0 rfl rfl rfl (Nat.le_of_ble_eq_true rfl) dX6_undo_18 rfl ?_
    rintro ⟨w18, e18, I18, H18, pl18⟩
    try dsimp only
    refine b_aload_n (n := 22) 0 dX6_undo_21 rfl rfl rfl ?_
    refine b_get (n := 25) (v := .ref (ad 0 0 0)) 0 f_X6_37 dX6_undo_22 rfl hX_o300 rfl ?_
    refine bVi (n := 28) (As := []) (rest := []) 5 (bl 5 78 ++ bl 83 170) lk_X6_231 (c_wo_started (Nat.le_refl _)) (by omega) hX_w0 (blN _ _ _ _ (by omega)) hX_o0 rfl rfl rfl (Nat.le_of_ble_eq_true rfl) dX6_undo_25 rfl (fun k25 => ?_)
    exact b_iret dX6_undo_28 rfl rfl
section PF
variable {α : Type} {l : Launch} {E : Ev} {A : Nat → Prop} {own : String} {cc : ByteArray} {nL : Nat} {ret : Option FieldType} {d : Nat} {φ : α → Rs} {pc n : Nat} {L : List (Nat × Value)} {st rest As : List Value} {ws wc : va_W} {idx na d' nL' : Nat} {y : MethodName} {cc' : ByteArray} {ret' : Option FieldType} {a ci : Nat} {fs : List Value}
theorem bVf2 {F : Option (Option Nat)} {g : Nat → Nat} {K : Option Nat → Option α} (q0 : Nat) (is : List Nat) (hlk : LkV own idx y cc' nL' ret' na) (hct : Ct l y cc' nL' ret' d' E wc (.ref a :: As) (fun r : Option Nat => (some (va_rf (r.map g)), wc)) F) (hd : d' + 1 ≤ d) (hC : is.map (fun i => ws[i]?) = wc.map some) (hnd : is.Nodup)
    (he : ws[q0]? = some (a, .inr (ci, fs))) (hci : (vwCl[ci]?).map (·.1) = some y.cls) (hna : As.length = na) (hst : As.reverse ++ .ref a :: rest = st) (hrest : (rest.map fun v => v.category).sum ≤ 8) (hdg : decode cc pc = .ok (.invokevirtual idx, 3)) (hn : pc + 3 = n)
    (k0 : Bd l E A own cc nL ret d φ n L (.null :: rest) ws (K none)) (k1 : ∀ j, Bd l E A own cc nL ret d φ n L (.ref (g j) :: rest) ws (K (some j))) : Bd l E A own cc nL ret d φ pc L st ws (F.bind K) :=
  b_callV q0 is hlk hct hd hC hnd (fun _ => rfl) he hci hna hst hrest hdg hn (fun r _ => by
    show Bd l E A own cc nL ret d φ n L ((some (va_rf (r.map g))).toList ++ rest) (patch ws is wc) (K r)
    rw [patch_self _ _ _ hC]
    cases r with
    | none => exact k0
    | some j => exact k1 j)
end PF
set_option maxHeartbeats 400000 in
set_option maxRecDepth 100000 in
theorem c_xe_ahead {l : Launch} {E : Ev} {ad : Ad3} {va : Nat → Nat → Nat} {d N D rl : Nat} {x1 x2 : Int32} {x : Mem} {tx tg : Nat} {r w e : Mem} {I H : Fam} {pl : Nat → Nat} {vs : Fam} {w1 e1 : Mem} {I1 H1 : Fam} {pl1 : Nat → Nat} {w2 e2 : Mem} {I2 H2 : Fam} {pl2 : Nat → Nat} (hd : 3 * D + 11 ≤ d) : Ct l yX6_ahead cX6_ahead 3 (some .int) d E (hX E ad va rl x tx tg r w e I H pl vs w1 e1 I1 H1 pl1 w2 e2 I2 H2 pl2) [.ref (ad 30 0 0), .int x1, .int x2] (fun q : Int32 × Mem × Mem × Fam × Fam × (Nat → Nat) => (some (.int q.1), hX E ad va rl x tx tg r w e I H pl vs w1 e1 I1 H1 pl1 q.2.1 q.2.2.1 q.2.2.2.1 q.2.2.2.2.1 q.2.2.2.2.2)) (xe_ahead N D rl x1 x2 w e I H pl vs w2 e2 I2 H2 pl2) := by
  refine Ct.of2 (own := RX6) (L := [(0, .ref (ad 30 0 0)), (1, .int x1), (2, .int x2)]) rfl (by decide +kernel) (Nat.le_of_ble_eq_true rfl) rfl ?_
  unfold xe_ahead
  refine b_aload_n (n := 1) 0 dX6_ahead_0 rfl rfl rfl ?_
  refine b_iload_n (n := 2) 1 dX6_ahead_1 rfl rfl rfl ?_
  refine bVf2 (n := 5) (As := [.int x1]) (rest := []) 0 (bl 0 253) lk_X6_114 (c_xe_find (Nat.le_refl _)) (by omega) hX_P blP hX_o300 rfl rfl rfl (Nat.le_of_ble_eq_true rfl) dX6_ahead_2 rfl ?_ (fun j2 => ?_)
  · dsimp only
    refine b_ifnullN (n := 17) dX6_ahead_5 (by decide) ?_
    refine b_iconst (n := 18) (v := -1) dX6_ahead_17 rfl (by decide) ?_
    exact b_iret dX6_ahead_18 rfl rfl
  · dsimp only
    refine b_ifnull (n := 8) dX6_ahead_5 rfl ?_
    refine b_iload_n (n := 9) 1 dX6_ahead_8 rfl rfl rfl ?_
    refine b_bipush (n := 11) (v := 6) dX6_ahead_9 rfl (by decide) ?_
    refine bSb (n := 14) (As := [.int x1, .int 6]) (rest := []) lk_X6_51 (c_xs_isInside (Nat.le_refl _)) (by omega) rfl rfl (Nat.le_of_ble_eq_true rfl) dX6_ahead_11 rfl (fun k11 => ?_)
    refine b_bnz (n := 17) (tgt := 19) dX6_ahead_14 (by decide) rfl (fun h14 => ?_) (fun h14 => ?_)
    · refine b_iload_n (n := 20) 2 dX6_ahead_19 rfl rfl rfl ?_
      refine b_iconst (n := 21) (v := 1) dX6_ahead_20 rfl (by decide) ?_
      refine b_cmp_lt (n := 24) (tgt := 31) dX6_ahead_21 (by decide) rfl (fun h21 => ?_) (fun h21 => ?_)
      · refine b_bipush (n := 33) (v := -2) dX6_ahead_31 rfl (by decide) ?_
        exact b_iret dX6_ahead_33 rfl rfl
      · refine b_iload_n (n := 25) 2 dX6_ahead_24 rfl rfl rfl ?_
        refine b_sipush (n := 28) (v := 200) dX6_ahead_25 rfl (by decide) ?_
        refine b_cmp_le (n := 31) (tgt := 34) dX6_ahead_28 (by decide) rfl (fun h28 => ?_) (fun h28 => ?_)
        · refine b_bipush (n := 33) (v := -2) dX6_ahead_31 rfl (by decide) ?_
          exact b_iret dX6_ahead_33 rfl rfl
        · refine b_aload_n (n := 35) 0 dX6_ahead_34 rfl rfl rfl ?_
          refine b_get (n := 38) (v := .ref (adW ad 2 0 0 0)) 0 f_X6_44 dX6_ahead_35 rfl hX_o300 rfl ?_
          refine b_aload_n (n := 39) 0 dX6_ahead_38 rfl rfl rfl ?_
          refine b_get (n := 42) (v := .ref (ad 0 0 0)) 0 f_X6_37 dX6_ahead_39 rfl hX_o300 rfl ?_
          refine bVwv (n := 45) (hh := (fun s : Mem × Mem × Fam × Fam × (Nat → Nat) => hWW E (adW ad 2) ad va 0 rl s.1 s.2.1 s.2.2.1 s.2.2.2.1 s.2.2.2.2 w e I H pl)) (As := [.ref (ad 0 0 0)]) (rest := []) (fun s : Mem × Mem × Fam × Fam × (Nat → Nat) => hX E ad va rl x tx tg r w e I H pl vs w1 e1 I1 H1 pl1 s.1 s.2.1 s.2.2.1 s.2.2.2.1 s.2.2.2.2) 331 (bl 331 78 ++ bl 5 78) lk_X6_198 (c_wo_copy (Nat.le_refl _)) (by omega) hX_c2 (blN _ _ _ _ (by omega)) (fun _ => rfl) (fun _ => hX_q2) hX_o2 rfl rfl rfl (Nat.le_of_ble_eq_true rfl) dX6_ahead_42 rfl ?_
          rintro ⟨w42, e42, I42, H42, pl42⟩
          try dsimp only
          refine b_aload_n (n := 46) 0 dX6_ahead_45 rfl rfl rfl ?_
          refine b_get (n := 49) (v := .ref (adW ad 2 0 0 0)) 0 f_X6_44 dX6_ahead_46 rfl hX_o300 rfl ?_
          refine b_iload_n (n := 50) 2 dX6_ahead_49 rfl rfl rfl ?_
          refine bVwv (n := 53) (hh := (fun s : Mem × Fam × Fam => hWV E (adW ad 2) va 0 w42 s.1 s.2.1 s.2.2 pl42 vs)) (As := [.int x2]) (rest := []) (fun s : Mem × Fam × Fam => hX E ad va rl x tx tg r w e I H pl vs w1 e1 I1 H1 pl1 w42 s.1 s.2.1 s.2.2 pl42) 331 (bl 331 78 ++ bl 83 170) lk_X6_135 (c_wo_letPass (Nat.le_refl _)) (by omega) hX_w2 (blN _ _ _ _ (by omega)) (fun _ => rfl) (fun _ => hX_l2) hX_o2 rfl rfl rfl (Nat.le_of_ble_eq_true rfl) dX6_ahead_50 rfl ?_
          rintro ⟨e50, I50, H50⟩
          try dsimp only
          refine b_aload_n (n := 54) 0 dX6_ahead_53 rfl rfl rfl ?_
          refine b_get (n := 57) (v := .ref (adW ad 2 0 0 0)) 0 f_X6_44 dX6_ahead_54 rfl hX_o300 rfl ?_
          refine b_get (n := 60) (v := .ref (adW ad 2 0 0 4)) 331 f_X6_104 dX6_ahead_57 rfl hX_o2 rfl ?_
          refine b_iload_n (n := 61) 1 dX6_ahead_60 rfl rfl rfl ?_
          refine b_aald (n := 62) 335 2 dX6_ahead_61 rfl rfl hX_r2 (fun _ => rfl) (fun j61 hj61 => ?_)
          refine b_get (n := 65) (v := .int (I50 j61 0 3)) (337 + 12 * j61) f_X6_118 dX6_ahead_62 rfl (hX_i2 _ hj61) rfl ?_
          exact b_iret dX6_ahead_65 rfl rfl
    · refine b_iconst (n := 18) (v := -1) dX6_ahead_17 rfl (by decide) ?_
      exact b_iret dX6_ahead_18 rfl rfl
