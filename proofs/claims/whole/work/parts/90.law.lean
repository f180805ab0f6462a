/-! the law: what it begins with, what it calls -/
section LA1
theorem SR_0 : SR zN zN eN (fun _ => oN) (fun _ => zN) (fun _ => 16) vsN zN eN (fun _ => oN) (fun _ => zN) (fun _ => 16) mN := by
  refine ⟨⟨0, by decide, rfl, rfl, fun k hk => ⟨rfl, 0, by decide, rfl⟩⟩, ⟨⟨rfl, ⟨0, rfl, by decide⟩, fun c hc => ?_⟩, ⟨0, by decide, rfl⟩, Or.inl ⟨rfl, rfl⟩, fun wf hwf => ⟨0, by decide, rfl, ?_, fun k hk => absurd hk (Nat.not_lt_zero k)⟩, fun k hk => ⟨k / 4 % 4, k % 4, by omega, by omega, rfl, rfl, fun h => by omega⟩, fun j hj => ⟨(show 16 < 17 by decide), Or.inl ⟨rfl, ?_, 0, by decide, rfl⟩⟩⟩, Or.inl ⟨rfl, rfl⟩⟩
  · have h : c = 0 ∨ c = 1 ∨ c = 2 ∨ c = 3 ∨ c = 4 ∨ c = 5 ∨ c = 6 ∨ c = 7 := by omega
    rcases h with z | z | z | z | z | z | z | z <;> subst z <;> exact ⟨rfl, rfl, ⟨1, rfl, by decide⟩, 0, rfl, by decide⟩
  · have h : wf = 0 ∨ wf = 1 ∨ wf = 2 ∨ wf = 3 := by omega
    rcases h with z | z | z | z <;> subst z <;> rfl
  · have h : j = 0 ∨ j = 1 ∨ j = 2 ∨ j = 3 ∨ j = 4 ∨ j = 5 := by omega
    rcases h with z | z | z | z | z | z <;> subst z <;> rfl
abbrev T10 : Type := Mem × Nat × Nat × Mem × Mem × Mem × Fam × Fam × (Nat → Nat) × Fam
abbrev K10 : Type := Mem × Mem × Fam × Fam × (Nat → Nat) × Mem × Mem × Fam × Fam × (Nat → Nat)
variable {p : Program} {l : Launch} {e : Env} {s : State} {m : MethodId} {below : List Frame} {meth : Method} {c : Code} {H : Heap} {locs : List Loc} {ls : Array Slot} {Q : State → Prop} {b pc n : Nat} {E : Ev} {ad : Ad3} {va : Nat → Nat → Nat} {am : Nat → Nat} {t t' : T10} {k k' : K10} {μ μ' : Mem}
def hPs (E : Ev) (ad : Ad3) (va : Nat → Nat → Nat) (t : T10) : va_W := hP E ad va 200 t.1 t.2.1 t.2.2.1 t.2.2.2.1 t.2.2.2.2.1 t.2.2.2.2.2.1 t.2.2.2.2.2.2.1 t.2.2.2.2.2.2.2.1 t.2.2.2.2.2.2.2.2.1 t.2.2.2.2.2.2.2.2.2
def hXs (E : Ev) (ad : Ad3) (va : Nat → Nat → Nat) (t : T10) (k : K10) : va_W := hX E ad va 200 t.1 t.2.1 t.2.2.1 t.2.2.2.1 t.2.2.2.2.1 t.2.2.2.2.2.1 t.2.2.2.2.2.2.1 t.2.2.2.2.2.2.2.1 t.2.2.2.2.2.2.2.2.1 t.2.2.2.2.2.2.2.2.2 k.1 k.2.1 k.2.2.1 k.2.2.2.1 k.2.2.2.2.1 k.2.2.2.2.2.1 k.2.2.2.2.2.2.1 k.2.2.2.2.2.2.2.1 k.2.2.2.2.2.2.2.2.1 k.2.2.2.2.2.2.2.2.2
def hK2 (E : Ev) (ad : Ad3) (va : Nat → Nat → Nat) (k : K10) : va_W := hB E (adW ad 1) va 200 k.1 k.2.1 k.2.2.1 k.2.2.2.1 k.2.2.2.2.1 ++ hB E (adW ad 2) va 0 k.2.2.2.2.2.1 k.2.2.2.2.2.2.1 k.2.2.2.2.2.2.2.1 k.2.2.2.2.2.2.2.2.1 k.2.2.2.2.2.2.2.2.2
theorem hXs_eq : hXs E ad va t k = hPs E ad va t ++ hK2 E ad va k := by
  unfold hXs hX hPs hP hWV hK2
  simp only [List.append_assoc]
theorem hPs_len : (hPs E ad va t).length = 253 := hP_len
theorem hXs_len : (hXs E ad va t k).length = 409 := by
  unfold hXs hX
  simp only [List.length_append, hN_len, hB_len, hVV_len]
theorem hM_len : (hM E am μ).length = 9 := rfl
theorem hVV_fst {vs vs' : Fam} : (hVV E va vs).map Prod.fst = (hVV E va vs').map Prod.fst := by
  unfold hVV
  simp only [List.map_append]
  rfl
theorem hPs_fst : (hPs E ad va t').map Prod.fst = (hPs E ad va t).map Prod.fst := by
  unfold hPs hP hWV
  simp only [List.map_append]
  rw [hVV_fst (vs := t'.2.2.2.2.2.2.2.2.2) (vs' := t.2.2.2.2.2.2.2.2.2)]
  rfl
theorem hXs_fst : (hXs E ad va t' k').map Prod.fst = (hXs E ad va t k).map Prod.fst := by
  rw [hXs_eq, hXs_eq, List.map_append, List.map_append, hPs_fst (t' := t') (t := t)]
  rfl
theorem hM_fst : (hM E am μ').map Prod.fst = (hM E am μ).map Prod.fst := rfl
theorem bl_nodup (n k : Nat) : (bl n k).Nodup := by
  unfold List.Nodup
  rw [List.pairwise_map]
  exact (List.nodup_range (n := k)).imp (fun h1 h2 => h1 (by omega))
abbrev SA (s : State) : Nat → Prop := fun q => s.heap.size ≤ q
variable {β : Type} {F : Option β} {v : β → Int32} {y : MethodName} {cc' : ByteArray} {nL' idx na : Nat} {As st rest : List Value}
theorem e0_at : (hXs E ad va t k ++ hM E am μ)[0]? = some (ad 30 0 0, .inr (6, hP_f300 ad t.1)) := gL rfl
theorem m0_at : (hXs E ad va t k ++ hM E am μ)[409]? = some (am 0, .inr (7, hM_f0 am μ)) := gR hXs_len rfl
/-- a call of the engine that sees the present -/
theorem lawP {g : β → T10} (C : Fx E RL code 4 p s m #[Value.ref b] c) (hP : va_P E.1 vwCl (hXs E ad va t k ++ hM E am μ) H) (hD : va_D (SA s) (hXs E ad va t k ++ hM E am μ)) (hS : va_S (SA s) s.heap H locs) (hls : ls.size = 4) (hlk : LkV RL idx y cc' nL' (some .int) na) (hF : F.isSome = true) (hct : Ct l y cc' nL' (some .int) 200 E (hPs E ad va t) (.ref (ad 30 0 0) :: As) (fun q => (some (.int (v q)), hPs E ad va (g q))) F) (hy : RX6 = y.cls) (hna : As.length = na) (hst : As.reverse ++ .ref (ad 30 0 0) :: rest = st) (hrest : (rest.map fun v => v.category).sum ≤ 8) (hdg : decode code pc = .ok (.invokevirtual idx, 3)) (hn : pc + 3 = n)
    (kk : ∀ (q : β) (H1 : Heap) (locs1 : List Loc), F = some q → va_P E.1 vwCl (hXs E ad va (g q) k ++ hM E am μ) H1 → va_D (SA s) (hXs E ad va (g q) k ++ hM E am μ) → va_S (SA s) s.heap H1 locs1 → W p l e room_1 s m #[Value.ref b] below meth c H1 locs1 600000 7302250 Q (F0 m n ls (.int (v q) :: rest))) : W p l e room_1 s m #[Value.ref b] below meth c H locs 600000 7302250 Q (F0 m pc ls st) := by
  have h20 : nL' ≤ 20 := hlk.2.2.2.2.2.2.2
  have eq : ∀ t' : T10, hXs E ad va t' k ++ hM E am μ = [] ++ (hPs E ad va t' ++ (hK2 E ad va k ++ hM E am μ)) := fun t' => by rw [hXs_eq, List.append_assoc]; rfl
  refine g_callV 0 (bl 0 253) C hP hD hS hls hlk hF hct ⟨by show 200 + 1 ≤ 2048; decide, by show 8 + (nL' + 11) + 40 * 200 ≤ 84000; omega⟩ ⟨Nat.le_refl _, Nat.le_refl _⟩ (by rw [eq]; exact bl_at _ _ _ 0 253 rfl hPs_len) (bl_nodup 0 253) (fun q => hPs_fst) e0_at (by rw [← hy]; rfl) hna hst hrest hdg hn (fun q H1 locs1 h1 h2 h3 h4 => ?_)
  have e1 : patch (hXs E ad va t k ++ hM E am μ) (bl 0 253) (hPs E ad va (g q)) = hXs E ad va (g q) k ++ hM E am μ := by
    rw [eq, eq]
    exact bl_patch _ _ _ _ 0 253 rfl hPs_len (by rw [hPs_len, hPs_len])
  rw [e1] at h2 h3
  exact kk q H1 locs1 h1 h2 h3 h4
/-- a call of the engine that sees all of it -/
theorem lawX {g : β → T10 × K10} (C : Fx E RL code 4 p s m #[Value.ref b] c) (hP : va_P E.1 vwCl (hXs E ad va t k ++ hM E am μ) H) (hD : va_D (SA s) (hXs E ad va t k ++ hM E am μ)) (hS : va_S (SA s) s.heap H locs) (hls : ls.size = 4) (hlk : LkV RL idx y cc' nL' (some .int) na) (hF : F.isSome = true) (hct : Ct l y cc' nL' (some .int) 200 E (hXs E ad va t k) (.ref (ad 30 0 0) :: As) (fun q => (some (.int (v q)), hXs E ad va (g q).1 (g q).2)) F) (hy : RX6 = y.cls) (hna : As.length = na) (hst : As.reverse ++ .ref (ad 30 0 0) :: rest = st) (hrest : (rest.map fun v => v.category).sum ≤ 8) (hdg : decode code pc = .ok (.invokevirtual idx, 3)) (hn : pc + 3 = n)
    (kk : ∀ (q : β) (H1 : Heap) (locs1 : List Loc), F = some q → va_P E.1 vwCl (hXs E ad va (g q).1 (g q).2 ++ hM E am μ) H1 → va_D (SA s) (hXs E ad va (g q).1 (g q).2 ++ hM E am μ) → va_S (SA s) s.heap H1 locs1 → W p l e room_1 s m #[Value.ref b] below meth c H1 locs1 600000 7302250 Q (F0 m n ls (.int (v q) :: rest))) : W p l e room_1 s m #[Value.ref b] below meth c H locs 600000 7302250 Q (F0 m pc ls st) := by
  have h20 : nL' ≤ 20 := hlk.2.2.2.2.2.2.2
  have eq : ∀ (t' : T10) (k' : K10), hXs E ad va t' k' ++ hM E am μ = [] ++ (hXs E ad va t' k' ++ hM E am μ) := fun _ _ => (List.nil_append _).symm
  have hC1 : (bl 0 409).map (fun i => (hXs E ad va t k ++ hM E am μ)[i]?) = (hXs E ad va t k).map some := by
    rw [eq t k]
    exact bl_at _ _ _ 0 409 rfl hXs_len
  have e1 : ∀ q : β, patch (hXs E ad va t k ++ hM E am μ) (bl 0 409) (hXs E ad va (g q).1 (g q).2) = hXs E ad va (g q).1 (g q).2 ++ hM E am μ := fun q => by
    rw [eq t k, eq (g q).1 (g q).2]
    exact bl_patch _ _ _ _ 0 409 rfl hXs_len (by rw [hXs_len, hXs_len])
  refine g_callV 0 (bl 0 409) C hP hD hS hls hlk hF hct ⟨by show 200 + 1 ≤ 2048; decide, by show 8 + (nL' + 11) + 40 * 200 ≤ 84000; omega⟩ ⟨Nat.le_refl _, Nat.le_refl _⟩ hC1 (bl_nodup 0 409) (fun q => hXs_fst) e0_at (by rw [← hy]; rfl) hna hst hrest hdg hn (fun q H1 locs1 h1 h2 h3 h4 => ?_)
  have e2 : patch (hXs E ad va t k ++ hM E am μ) (bl 0 409) ((fun q => ((some (.int (v q)) : Option Value), hXs E ad va (g q).1 (g q).2)) q).2 = hXs E ad va (g q).1 (g q).2 ++ hM E am μ := e1 q
  rw [e2] at h2 h3
  exact kk q H1 locs1 h1 h2 h3 h4
/-- a call of the reference -/
theorem lawM {g : β → Mem} (C : Fx E RL code 4 p s m #[Value.ref b] c) (hP : va_P E.1 vwCl (hXs E ad va t k ++ hM E am μ) H) (hD : va_D (SA s) (hXs E ad va t k ++ hM E am μ)) (hS : va_S (SA s) s.heap H locs) (hls : ls.size = 4) (hlk : LkV RL idx y cc' nL' (some .int) na) (hF : F.isSome = true) (hct : Ct l y cc' nL' (some .int) 200 E (hM E am μ) (.ref (am 0) :: As) (fun q => (some (.int (v q)), hM E am (g q))) F) (hy : RX7 = y.cls) (hna : As.length = na) (hst : As.reverse ++ .ref (am 0) :: rest = st) (hrest : (rest.map fun v => v.category).sum ≤ 8) (hdg : decode code pc = .ok (.invokevirtual idx, 3)) (hn : pc + 3 = n)
    (kk : ∀ (q : β) (H1 : Heap) (locs1 : List Loc), F = some q → va_P E.1 vwCl (hXs E ad va t k ++ hM E am (g q)) H1 → va_D (SA s) (hXs E ad va t k ++ hM E am (g q)) → va_S (SA s) s.heap H1 locs1 → W p l e room_1 s m #[Value.ref b] below meth c H1 locs1 600000 7302250 Q (F0 m n ls (.int (v q) :: rest))) : W p l e room_1 s m #[Value.ref b] below meth c H locs 600000 7302250 Q (F0 m pc ls st) := by
  have h20 : nL' ≤ 20 := hlk.2.2.2.2.2.2.2
  have eq : ∀ μ' : Mem, hXs E ad va t k ++ hM E am μ' = hXs E ad va t k ++ (hM E am μ' ++ []) := fun μ' => by rw [List.append_nil]
  refine g_callV 409 (bl 409 9) C hP hD hS hls hlk hF hct ⟨by show 200 + 1 ≤ 2048; decide, by show 8 + (nL' + 11) + 40 * 200 ≤ 84000; omega⟩ ⟨Nat.le_refl _, Nat.le_refl _⟩ (by rw [eq]; exact bl_at _ _ _ 409 9 hXs_len hM_len) (bl_nodup 409 9) (fun q => hM_fst) m0_at (by rw [← hy]; rfl) hna hst hrest hdg hn (fun q H1 locs1 h1 h2 h3 h4 => ?_)
  have e1 : patch (hXs E ad va t k ++ hM E am μ) (bl 409 9) (hM E am (g q)) = hXs E ad va t k ++ hM E am (g q) := by
    rw [eq, eq]
    exact bl_patch _ _ _ _ 409 9 hXs_len hM_len (by rw [hM_len, hM_len])
  rw [e1] at h2 h3
  exact kk q H1 locs1 h1 h2 h3 h4
/-- a number of the script comes onto the stack -/
theorem law_arg {i j L qx qm : Nat} {xs : Nat → Int32} {jz : Int} {R : Room} {cells slots : Nat} (hx : p.tables.exec = Jvm.exec) (hb : c.code = code) (hX : va_X b L xs s s.heap) (hbl : b < s.heap.size) (hS : va_S (SA s) s.heap H locs) (hl : lv_has ls 4 [(3, .int (nI i)), (2, .ref qm), (1, .ref qx), (0, .ref b)]) (hi : i + j < L) (hL : L ≤ 2048) (hj : Int32.ofInt jz = nI j) (d0 : decode code pc = .ok (.aload_n 0, 1)) (d1 : decode code (pc + 1) = .ok (.iload_n 3, 1)) (d2 : decode code (pc + 2) = .ok (.iconst jz, 1)) (d3 : decode code (pc + 3) = .ok (.iadd, 1)) (d4 : decode code (pc + 4) = .ok (.iaload, 1))
    (kk : W p l e R s m #[Value.ref b] below meth c H locs cells slots Q (F0 m (pc + 5) ls (.int (xs (i + j)) :: rest))) : W p l e R s m #[Value.ref b] below meth c H locs cells slots Q (F0 m pc ls rest) := by
  have hbA : ¬ SA s b := Nat.not_le.mpr hbl
  refine lv_aload_n hx hb d0 rfl (lv_at hl 3 rfl) ?_
  refine lv_iload_n hx hb d1 rfl (lv_at hl 0 rfl) ?_
  refine lv_iconst hx hb d2 hj ?_
  refine lv_iadd hx hb d3 ?_
  rw [nI_add]
  refine va_sld hx hb hX hbl hbA hS (vp_in_nI hi (by omega)) d4 ?_
  rw [nI_clamp (by omega)]
  exact kk
end LA1
