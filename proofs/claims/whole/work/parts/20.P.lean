/-! the class: the engine -/
def adR (ad : Ad3) (va : Nat → Nat → Nat) (v : Nat) : Nat → Nat := fun k => cond (Nat.beq k 0) (ad 30 0 2) (cond (Nat.beq k 1) (ad 30 0 3) (cond (Nat.beq k 2) (ad 30 0 1) (va v (k - 6))))
theorem patch_blk (B0 pre J S J' : va_W) (v : Nat) (hB : B0.length = 78) (hp : pre.length = 10 * v) (hJ : J.length = 10) (hJ' : J'.length = 10) : patch (B0 ++ (pre ++ (J ++ S))) (plB v) J' = B0 ++ (pre ++ (J' ++ S)) := by
  have h1 := patch_off (B0 ++ pre) (List.range' 0 10) J' (J ++ S)
  have h2 := patch_left S (List.range' 0 10) J' J (by intro i hi; rw [hJ]; have := List.mem_range'.mp hi; omega)
  have h3 := patch_all J [] J' (by rw [hJ, hJ'])
  rw [hJ] at h3
  simp only [List.length_nil, List.nil_append] at h3
  rw [h2, h3] at h1
  simp only [List.length_append, hB, hp, List.append_assoc] at h1
  exact h1
abbrev plR (v : Nat) : List Nat := [2, 3, 1] ++ (plB v).map (5 + ·)
section RL
variable {E : Ev} {ad : Ad3} {va : Nat → Nat → Nat} {rl : Nat} {x : Mem} {tx tg : Nat} {r w e : Mem} {I H : Fam} {pl : Nat → Nat} {vs : Fam}
theorem hR0_split {a : Nat → Nat} {r t p : Mem} {vt vu : Value} : hR0 E a r t p vt vu = (hR0 E a r t (fun _ _ => 0) vt vu).take 3 ++ hV E a p := rfl
theorem hV_adR : ∀ v, v < 17 → (plB v).map (fun i => (hWV E ad va rl w e I H pl vs)[i]?) = (hV E (adR ad va v) (vs v)).map some := seventeen rfl rfl rfl rfl rfl rfl rfl rfl rfl rfl rfl rfl rfl rfl rfl rfl rfl
theorem hP_subR (v : Nat) (hv : v < 17) : (plR v).map (fun i => (hP E ad va rl x tx tg r w e I H pl vs)[i]?) = (hR0 E (adR ad va v) r (fun _ => x 1) (vs v) (txv ad tx) (tgv va tg)).map some := by
  rw [hR0_split, List.map_append, List.map_append, off_map, hV_adR v hv]
  rfl
theorem plRN {v : Nat} (hv : v < 17) : (plR v).Nodup := by
  simp [plR, plB]
  omega
theorem hV_pR : ∀ v, v < 17 → ∀ p : Mem, patch (hWV E ad va rl w e I H pl vs) (plB v) (hV E (adR ad va v) p) = hWV E ad va rl w e I H pl (upF vs v p) := by
  have key : ∀ (v : Nat) (a : Nat → Nat) (p : Mem) (is : List Nat), is = List.range' (10 * v) 10 → True := fun _ _ _ _ _ => trivial
  refine seventeen ?_ ?_ ?_ ?_ ?_ ?_ ?_ ?_ ?_ ?_ ?_ ?_ ?_ ?_ ?_ ?_ ?_
  · intro p
    have := patch_blk (hB E ad va rl w e I H pl) ([]) (hV E (fun k => va 0 (k - 6)) (vs 0)) (hV E (fun k => va 1 (k - 6)) (vs 1) ++ (hV E (fun k => va 2 (k - 6)) (vs 2) ++ (hV E (fun k => va 3 (k - 6)) (vs 3) ++ (hV E (fun k => va 4 (k - 6)) (vs 4) ++ (hV E (fun k => va 5 (k - 6)) (vs 5) ++ (hV E (fun k => va 6 (k - 6)) (vs 6) ++ (hV E (fun k => va 7 (k - 6)) (vs 7) ++ (hV E (fun k => va 8 (k - 6)) (vs 8) ++ (hV E (fun k => va 9 (k - 6)) (vs 9) ++ (hV E (fun k => va 10 (k - 6)) (vs 10) ++ (hV E (fun k => va 11 (k - 6)) (vs 11) ++ (hV E (fun k => va 12 (k - 6)) (vs 12) ++ (hV E (fun k => va 13 (k - 6)) (vs 13) ++ (hV E (fun k => va 14 (k - 6)) (vs 14) ++ (hV E (fun k => va 15 (k - 6)) (vs 15) ++ (hV E (fun k => va 16 (k - 6)) (vs 16))))))))))))))))) (hV E (adR ad va 0) p) 0 rfl rfl rfl rfl
    simp only [hWV, hVV, List.append_assoc, List.nil_append, List.append_nil] at this ⊢
    exact this
  · intro p
    have := patch_blk (hB E ad va rl w e I H pl) (hV E (fun k => va 0 (k - 6)) (vs 0)) (hV E (fun k => va 1 (k - 6)) (vs 1)) (hV E (fun k => va 2 (k - 6)) (vs 2) ++ (hV E (fun k => va 3 (k - 6)) (vs 3) ++ (hV E (fun k => va 4 (k - 6)) (vs 4) ++ (hV E (fun k => va 5 (k - 6)) (vs 5) ++ (hV E (fun k => va 6 (k - 6)) (vs 6) ++ (hV E (fun k => va 7 (k - 6)) (vs 7) ++ (hV E (fun k => va 8 (k - 6)) (vs 8) ++ (hV E (fun k => va 9 (k - 6)) (vs 9) ++ (hV E (fun k => va 10 (k - 6)) (vs 10) ++ (hV E (fun k => va 11 (k - 6)) (vs 11) ++ (hV E (fun k => va 12 (k - 6)) (vs 12) ++ (hV E (fun k => va 13 (k - 6)) (vs 13) ++ (hV E (fun k => va 14 (k - 6)) (vs 14) ++ (hV E (fun k => va 15 (k - 6)) (vs 15) ++ (hV E (fun k => va 16 (k - 6)) (vs 16)))))))))))))))) (hV E (adR ad va 1) p) 1 rfl rfl rfl rfl
    simp only [hWV, hVV, List.append_assoc, List.nil_append, List.append_nil] at this ⊢
    exact this
  · intro p
    have := patch_blk (hB E ad va rl w e I H pl) (hV E (fun k => va 0 (k - 6)) (vs 0) ++ (hV E (fun k => va 1 (k - 6)) (vs 1))) (hV E (fun k => va 2 (k - 6)) (vs 2)) (hV E (fun k => va 3 (k - 6)) (vs 3) ++ (hV E (fun k => va 4 (k - 6)) (vs 4) ++ (hV E (fun k => va 5 (k - 6)) (vs 5) ++ (hV E (fun k => va 6 (k - 6)) (vs 6) ++ (hV E (fun k => va 7 (k - 6)) (vs 7) ++ (hV E (fun k => va 8 (k - 6)) (vs 8) ++ (hV E (fun k => va 9 (k - 6)) (vs 9) ++ (hV E (fun k => va 10 (k - 6)) (vs 10) ++ (hV E (fun k => va 11 (k - 6)) (vs 11) ++ (hV E (fun k => va 12 (k - 6)) (vs 12) ++ (hV E (fun k => va 13 (k - 6)) (vs 13) ++ (hV E (fun k => va 14 (k - 6)) (vs 14) ++ (hV E (fun k => va 15 (k - 6)) (vs 15) ++ (hV E (fun k => va 16 (k - 6)) (vs 16))))))))))))))) (hV E (adR ad va 2) p) 2 rfl rfl rfl rfl
    simp only [hWV, hVV, List.append_assoc, List.nil_append, List.append_nil] at this ⊢
    exact this
  · intro p
    have := patch_blk (hB E ad va rl w e I H pl) (hV E (fun k => va 0 (k - 6)) (vs 0) ++ (hV E (fun k => va 1 (k - 6)) (vs 1) ++ (hV E (fun k => va 2 (k - 6)) (vs 2)))) (hV E (fun k => va 3 (k - 6)) (vs 3)) (hV E (fun k => va 4 (k - 6)) (vs 4) ++ (hV E (fun k => va 5 (k - 6)) (vs 5) ++ (hV E (fun k => va 6 (k - 6)) (vs 6) ++ (hV E (fun k => va 7 (k - 6)) (vs 7) ++ (hV E (fun k => va 8 (k - 6)) (vs 8) ++ (hV E (fun k => va 9 (k - 6)) (vs 9) ++ (hV E (fun k => va 10 (k - 6)) (vs 10) ++ (hV E (fun k => va 11 (k - 6)) (vs 11) ++ (hV E (fun k => va 12 (k - 6)) (vs 12) ++ (hV E (fun k => va 13 (k - 6)) (vs 13) ++ (hV E (fun k => va 14 (k - 6)) (vs 14) ++ (hV E (fun k => va 15 (k - 6)) (vs 15) ++ (hV E (fun k => va 16 (k - 6)) (vs 16)))))))))))))) (hV E (adR ad va 3) p) 3 rfl rfl rfl rfl
    simp only [hWV, hVV, List.append_assoc, List.nil_append, List.append_nil] at this ⊢
    exact this
  · intro p
    have := patch_blk (hB E ad va rl w e I H pl) (hV E (fun k => va 0 (k - 6)) (vs 0) ++ (hV E (fun k => va 1 (k - 6)) (vs 1) ++ (hV E (fun k => va 2 (k - 6)) (vs 2) ++ (hV E (fun k => va 3 (k - 6)) (vs 3))))) (hV E (fun k => va 4 (k - 6)) (vs 4)) (hV E (fun k => va 5 (k - 6)) (vs 5) ++ (hV E (fun k => va 6 (k - 6)) (vs 6) ++ (hV E (fun k => va 7 (k - 6)) (vs 7) ++ (hV E (fun k => va 8 (k - 6)) (vs 8) ++ (hV E (fun k => va 9 (k - 6)) (vs 9) ++ (hV E (fun k => va 10 (k - 6)) (vs 10) ++ (hV E (fun k => va 11 (k - 6)) (vs 11) ++ (hV E (fun k => va 12 (k - 6)) (vs 12) ++ (hV E (fun k => va 13 (k - 6)) (vs 13) ++ (hV E (fun k => va 14 (k - 6)) (vs 14) ++ (hV E (fun k => va 15 (k - 6)) (vs 15) ++ (hV E (fun k => va 16 (k - 6)) (vs 16))))))))))))) (hV E (adR ad va 4) p) 4 rfl rfl rfl rfl
    simp only [hWV, hVV, List.append_assoc, List.nil_append, List.append_nil] at this ⊢
    exact this
  · intro p
    have := patch_blk (hB E ad va rl w e I H pl) (hV E (fun k => va 0 (k - 6)) (vs 0) ++ (hV E (fun k => va 1 (k - 6)) (vs 1) ++ (hV E (fun k => va 2 (k - 6)) (vs 2) ++ (hV E (fun k => va 3 (k - 6)) (vs 3) ++ (hV E (fun k => va 4 (k - 6)) (vs 4)))))) (hV E (fun k => va 5 (k - 6)) (vs 5)) (hV E (fun k => va 6 (k - 6)) (vs 6) ++ (hV E (fun k => va 7 (k - 6)) (vs 7) ++ (hV E (fun k => va 8 (k - 6)) (vs 8) ++ (hV E (fun k => va 9 (k - 6)) (vs 9) ++ (hV E (fun k => va 10 (k - 6)) (vs 10) ++ (hV E (fun k => va 11 (k - 6)) (vs 11) ++ (hV E (fun k => va 12 (k - 6)) (vs 12) ++ (hV E (fun k => va 13 (k - 6)) (vs 13) ++ (hV E (fun k => va 14 (k - 6)) (vs 14) ++ (hV E (fun k => va 15 (k - 6)) (vs 15) ++ (hV E (fun k => va 16 (k - 6)) (vs 16)))))))))))) (hV E (adR ad va 5) p) 5 rfl rfl rfl rfl
    simp only [hWV, hVV, List.append_assoc, List.nil_append, List.append_nil] at this ⊢
    exact this
  · intro p
    have := patch_blk (hB E ad va rl w e I H pl) (hV E (fun k => va 0 (k - 6)) (vs 0) ++ (hV E (fun k => va 1 (k - 6)) (vs 1) ++ (hV E (fun k => va 2 (k - 6)) (vs 2) ++ (hV E (fun k => va 3 (k - 6)) (vs 3) ++ (hV E (fun k => va 4 (k - 6)) (vs 4) ++ (hV E (fun k => va 5 (k - 6)) (vs 5))))))) (hV E (fun k => va 6 (k - 6)) (vs 6)) (hV E (fun k => va 7 (k - 6)) (vs 7) ++ (hV E (fun k => va 8 (k - 6)) (vs 8) ++ (hV E (fun k => va 9 (k - 6)) (vs 9) ++ (hV E (fun k => va 10 (k - 6)) (vs 10) ++ (hV E (fun k => va 11 (k - 6)) (vs 11) ++ (hV E (fun k => va 12 (k - 6)) (vs 12) ++ (hV E (fun k => va 13 (k - 6)) (vs 13) ++ (hV E (fun k => va 14 (k - 6)) (vs 14) ++ (hV E (fun k => va 15 (k - 6)) (vs 15) ++ (hV E (fun k => va 16 (k - 6)) (vs 16))))))))))) (hV E (adR ad va 6) p) 6 rfl rfl rfl rfl
    simp only [hWV, hVV, List.append_assoc, List.nil_append, List.append_nil] at this ⊢
    exact this
  · intro p
    have := patch_blk (hB E ad va rl w e I H pl) (hV E (fun k => va 0 (k - 6)) (vs 0) ++ (hV E (fun k => va 1 (k - 6)) (vs 1) ++ (hV E (fun k => va 2 (k - 6)) (vs 2) ++ (hV E (fun k => va 3 (k - 6)) (vs 3) ++ (hV E (fun k => va 4 (k - 6)) (vs 4) ++ (hV E (fun k => va 5 (k - 6)) (vs 5) ++ (hV E (fun k => va 6 (k - 6)) (vs 6)))))))) (hV E (fun k => va 7 (k - 6)) (vs 7)) (hV E (fun k => va 8 (k - 6)) (vs 8) ++ (hV E (fun k => va 9 (k - 6)) (vs 9) ++ (hV E (fun k => va 10 (k - 6)) (vs 10) ++ (hV E (fun k => va 11 (k - 6)) (vs 11) ++ (hV E (fun k => va 12 (k - 6)) (vs 12) ++ (hV E (fun k => va 13 (k - 6)) (vs 13) ++ (hV E (fun k => va 14 (k - 6)) (vs 14) ++ (hV E (fun k => va 15 (k - 6)) (vs 15) ++ (hV E (fun k => va 16 (k - 6)) (vs 16)))))))))) (hV E (adR ad va 7) p) 7 rfl rfl rfl rfl
    simp only [hWV, hVV, List.append_assoc, List.nil_append, List.append_nil] at this ⊢
    exact this
  · intro p
    have := patch_blk (hB E ad va rl w e I H pl) (hV E (fun k => va 0 (k - 6)) (vs 0) ++ (hV E (fun k => va 1 (k - 6)) (vs 1) ++ (hV E (fun k => va 2 (k - 6)) (vs 2) ++ (hV E (fun k => va 3 (k - 6)) (vs 3) ++ (hV E (fun k => va 4 (k - 6)) (vs 4) ++ (hV E (fun k => va 5 (k - 6)) (vs 5) ++ (hV E (fun k => va 6 (k - 6)) (vs 6) ++ (hV E (fun k => va 7 (k - 6)) (vs 7))))))))) (hV E (fun k => va 8 (k - 6)) (vs 8)) (hV E (fun k => va 9 (k - 6)) (vs 9) ++ (hV E (fun k => va 10 (k - 6)) (vs 10) ++ (hV E (fun k => va 11 (k - 6)) (vs 11) ++ (hV E (fun k => va 12 (k - 6)) (vs 12) ++ (hV E (fun k => va 13 (k - 6)) (vs 13) ++ (hV E (fun k => va 14 (k - 6)) (vs 14) ++ (hV E (fun k => va 15 (k - 6)) (vs 15) ++ (hV E (fun k => va 16 (k - 6)) (vs 16))))))))) (hV E (adR ad va 8) p) 8 rfl rfl rfl rfl
    simp only [hWV, hVV, List.append_assoc, List.nil_append, List.append_nil] at this ⊢
    exact this
  · intro p
    have := patch_blk (hB E ad va rl w e I H pl) (hV E (fun k => va 0 (k - 6)) (vs 0) ++ (hV E (fun k => va 1 (k - 6)) (vs 1) ++ (hV E (fun k => va 2 (k - 6)) (vs 2) ++ (hV E (fun k => va 3 (k - 6)) (vs 3) ++ (hV E (fun k => va 4 (k - 6)) (vs 4) ++ (hV E (fun k => va 5 (k - 6)) (vs 5) ++ (hV E (fun k => va 6 (k - 6)) (vs 6) ++ (hV E (fun k => va 7 (k - 6)) (vs 7) ++ (hV E (fun k => va 8 (k - 6)) (vs 8)))))))))) (hV E (fun k => va 9 (k - 6)) (vs 9)) (hV E (fun k => va 10 (k - 6)) (vs 10) ++ (hV E (fun k => va 11 (k - 6)) (vs 11) ++ (hV E (fun k => va 12 (k - 6)) (vs 12) ++ (hV E (fun k => va 13 (k - 6)) (vs 13) ++ (hV E (fun k => va 14 (k - 6)) (vs 14) ++ (hV E (fun k => va 15 (k - 6)) (vs 15) ++ (hV E (fun k => va 16 (k - 6)) (vs 16)))))))) (hV E (adR ad va 9) p) 9 rfl rfl rfl rfl
    simp only [hWV, hVV, List.append_assoc, List.nil_append, List.append_nil] at this ⊢
    exact this
  · intro p
    have := patch_blk (hB E ad va rl w e I H pl) (hV E (fun k => va 0 (k - 6)) (vs 0) ++ (hV E (fun k => va 1 (k - 6)) (vs 1) ++ (hV E (fun k => va 2 (k - 6)) (vs 2) ++ (hV E (fun k => va 3 (k - 6)) (vs 3) ++ (hV E (fun k => va 4 (k - 6)) (vs 4) ++ (hV E (fun k => va 5 (k - 6)) (vs 5) ++ (hV E (fun k => va 6 (k - 6)) (vs 6) ++ (hV E (fun k => va 7 (k - 6)) (vs 7) ++ (hV E (fun k => va 8 (k - 6)) (vs 8) ++ (hV E (fun k => va 9 (k - 6)) (vs 9))))))))))) (hV E (fun k => va 10 (k - 6)) (vs 10)) (hV E (fun k => va 11 (k - 6)) (vs 11) ++ (hV E (fun k => va 12 (k - 6)) (vs 12) ++ (hV E (fun k => va 13 (k - 6)) (vs 13) ++ (hV E (fun k => va 14 (k - 6)) (vs 14) ++ (hV E (fun k => va 15 (k - 6)) (vs 15) ++ (hV E (fun k => va 16 (k - 6)) (vs 16))))))) (hV E (adR ad va 10) p) 10 rfl rfl rfl rfl
    simp only [hWV, hVV, List.append_assoc, List.nil_append, List.append_nil] at this ⊢
    exact this
  · intro p
    have := patch_blk (hB E ad va rl w e I H pl) (hV E (fun k => va 0 (k - 6)) (vs 0) ++ (hV E (fun k => va 1 (k - 6)) (vs 1) ++ (hV E (fun k => va 2 (k - 6)) (vs 2) ++ (hV E (fun k => va 3 (k - 6)) (vs 3) ++ (hV E (fun k => va 4 (k - 6)) (vs 4) ++ (hV E (fun k => va 5 (k - 6)) (vs 5) ++ (hV E (fun k => va 6 (k - 6)) (vs 6) ++ (hV E (fun k => va 7 (k - 6)) (vs 7) ++ (hV E (fun k => va 8 (k - 6)) (vs 8) ++ (hV E (fun k => va 9 (k - 6)) (vs 9) ++ (hV E (fun k => va 10 (k - 6)) (vs 10)))))))))))) (hV E (fun k => va 11 (k - 6)) (vs 11)) (hV E (fun k => va 12 (k - 6)) (vs 12) ++ (hV E (fun k => va 13 (k - 6)) (vs 13) ++ (hV E (fun k => va 14 (k - 6)) (vs 14) ++ (hV E (fun k => va 15 (k - 6)) (vs 15) ++ (hV E (fun k => va 16 (k - 6)) (vs 16)))))) (hV E (adR ad va 11) p) 11 rfl rfl rfl rfl
    simp only [hWV, hVV, List.append_assoc, List.nil_append, List.append_nil] at this ⊢
    exact this
  · intro p
    have := patch_blk (hB E ad va rl w e I H pl) (hV E (fun k => va 0 (k - 6)) (vs 0) ++ (hV E (fun k => va 1 (k - 6)) (vs 1) ++ (hV E (fun k => va 2 (k - 6)) (vs 2) ++ (hV E (fun k => va 3 (k - 6)) (vs 3) ++ (hV E (fun k => va 4 (k - 6)) (vs 4) ++ (hV E (fun k => va 5 (k - 6)) (vs 5) ++ (hV E (fun k => va 6 (k - 6)) (vs 6) ++ (hV E (fun k => va 7 (k - 6)) (vs 7) ++ (hV E (fun k => va 8 (k - 6)) (vs 8) ++ (hV E (fun k => va 9 (k - 6)) (vs 9) ++ (hV E (fun k => va 10 (k - 6)) (vs 10) ++ (hV E (fun k => va 11 (k - 6)) (vs 11))))))))))))) (hV E (fun k => va 12 (k - 6)) (vs 12)) (hV E (fun k => va 13 (k - 6)) (vs 13) ++ (hV E (fun k => va 14 (k - 6)) (vs 14) ++ (hV E (fun k => va 15 (k - 6)) (vs 15) ++ (hV E (fun k => va 16 (k - 6)) (vs 16))))) (hV E (adR ad va 12) p) 12 rfl rfl rfl rfl
    simp only [hWV, hVV, List.append_assoc, List.nil_append, List.append_nil] at this ⊢
    exact this
  · intro p
    have := patch_blk (hB E ad va rl w e I H pl) (hV E (fun k => va 0 (k - 6)) (vs 0) ++ (hV E (fun k => va 1 (k - 6)) (vs 1) ++ (hV E (fun k => va 2 (k - 6)) (vs 2) ++ (hV E (fun k => va 3 (k - 6)) (vs 3) ++ (hV E (fun k => va 4 (k - 6)) (vs 4) ++ (hV E (fun k => va 5 (k - 6)) (vs 5) ++ (hV E (fun k => va 6 (k - 6)) (vs 6) ++ (hV E (fun k => va 7 (k - 6)) (vs 7) ++ (hV E (fun k => va 8 (k - 6)) (vs 8) ++ (hV E (fun k => va 9 (k - 6)) (vs 9) ++ (hV E (fun k => va 10 (k - 6)) (vs 10) ++ (hV E (fun k => va 11 (k - 6)) (vs 11) ++ (hV E (fun k => va 12 (k - 6)) (vs 12)))))))))))))) (hV E (fun k => va 13 (k - 6)) (vs 13)) (hV E (fun k => va 14 (k - 6)) (vs 14) ++ (hV E (fun k => va 15 (k - 6)) (vs 15) ++ (hV E (fun k => va 16 (k - 6)) (vs 16)))) (hV E (adR ad va 13) p) 13 rfl rfl rfl rfl
    simp only [hWV, hVV, List.append_assoc, List.nil_append, List.append_nil] at this ⊢
    exact this
  · intro p
    have := patch_blk (hB E ad va rl w e I H pl) (hV E (fun k => va 0 (k - 6)) (vs 0) ++ (hV E (fun k => va 1 (k - 6)) (vs 1) ++ (hV E (fun k => va 2 (k - 6)) (vs 2) ++ (hV E (fun k => va 3 (k - 6)) (vs 3) ++ (hV E (fun k => va 4 (k - 6)) (vs 4) ++ (hV E (fun k => va 5 (k - 6)) (vs 5) ++ (hV E (fun k => va 6 (k - 6)) (vs 6) ++ (hV E (fun k => va 7 (k - 6)) (vs 7) ++ (hV E (fun k => va 8 (k - 6)) (vs 8) ++ (hV E (fun k => va 9 (k - 6)) (vs 9) ++ (hV E (fun k => va 10 (k - 6)) (vs 10) ++ (hV E (fun k => va 11 (k - 6)) (vs 11) ++ (hV E (fun k => va 12 (k - 6)) (vs 12) ++ (hV E (fun k => va 13 (k - 6)) (vs 13))))))))))))))) (hV E (fun k => va 14 (k - 6)) (vs 14)) (hV E (fun k => va 15 (k - 6)) (vs 15) ++ (hV E (fun k => va 16 (k - 6)) (vs 16))) (hV E (adR ad va 14) p) 14 rfl rfl rfl rfl
    simp only [hWV, hVV, List.append_assoc, List.nil_append, List.append_nil] at this ⊢
    exact this
  · intro p
    have := patch_blk (hB E ad va rl w e I H pl) (hV E (fun k => va 0 (k - 6)) (vs 0) ++ (hV E (fun k => va 1 (k - 6)) (vs 1) ++ (hV E (fun k => va 2 (k - 6)) (vs 2) ++ (hV E (fun k => va 3 (k - 6)) (vs 3) ++ (hV E (fun k => va 4 (k - 6)) (vs 4) ++ (hV E (fun k => va 5 (k - 6)) (vs 5) ++ (hV E (fun k => va 6 (k - 6)) (vs 6) ++ (hV E (fun k => va 7 (k - 6)) (vs 7) ++ (hV E (fun k => va 8 (k - 6)) (vs 8) ++ (hV E (fun k => va 9 (k - 6)) (vs 9) ++ (hV E (fun k => va 10 (k - 6)) (vs 10) ++ (hV E (fun k => va 11 (k - 6)) (vs 11) ++ (hV E (fun k => va 12 (k - 6)) (vs 12) ++ (hV E (fun k => va 13 (k - 6)) (vs 13) ++ (hV E (fun k => va 14 (k - 6)) (vs 14)))))))))))))))) (hV E (fun k => va 15 (k - 6)) (vs 15)) (hV E (fun k => va 16 (k - 6)) (vs 16)) (hV E (adR ad va 15) p) 15 rfl rfl rfl rfl
    simp only [hWV, hVV, List.append_assoc, List.nil_append, List.append_nil] at this ⊢
    exact this
  · intro p
    have := patch_blk (hB E ad va rl w e I H pl) (hV E (fun k => va 0 (k - 6)) (vs 0) ++ (hV E (fun k => va 1 (k - 6)) (vs 1) ++ (hV E (fun k => va 2 (k - 6)) (vs 2) ++ (hV E (fun k => va 3 (k - 6)) (vs 3) ++ (hV E (fun k => va 4 (k - 6)) (vs 4) ++ (hV E (fun k => va 5 (k - 6)) (vs 5) ++ (hV E (fun k => va 6 (k - 6)) (vs 6) ++ (hV E (fun k => va 7 (k - 6)) (vs 7) ++ (hV E (fun k => va 8 (k - 6)) (vs 8) ++ (hV E (fun k => va 9 (k - 6)) (vs 9) ++ (hV E (fun k => va 10 (k - 6)) (vs 10) ++ (hV E (fun k => va 11 (k - 6)) (vs 11) ++ (hV E (fun k => va 12 (k - 6)) (vs 12) ++ (hV E (fun k => va 13 (k - 6)) (vs 13) ++ (hV E (fun k => va 14 (k - 6)) (vs 14) ++ (hV E (fun k => va 15 (k - 6)) (vs 15))))))))))))))))) (hV E (fun k => va 16 (k - 6)) (vs 16)) ([]) (hV E (adR ad va 16) p) 16 rfl rfl rfl rfl
    simp only [hWV, hVV, List.append_assoc, List.nil_append, List.append_nil] at this ⊢
    exact this
theorem hP_patchR (v : Nat) (hv : v < 17) {r' p : Mem} : patch (hP E ad va rl x tx tg r w e I H pl vs) (plR v) (hR0 E (adR ad va v) r' (fun _ => x 1) p (.ref (ad 30 0 1)) (.ref (va v 0))) = hP E ad va rl x 1 (v + 1) r' w e I H pl (upF vs v p) := by
  rw [hR0_split, patch_app _ _ _ _ _ rfl]
  have e1 : patch (hP E ad va rl x tx tg r w e I H pl vs) [2, 3, 1] ((hR0 E (adR ad va v) r' (fun _ => x 1) (fun _ _ => 0) (.ref (ad 30 0 1)) (.ref (va v 0))).take 3) = hP E ad va rl x 1 (v + 1) r' w e I H pl vs := by
    unfold hP
    rw [patch_left _ _ _ _ (by intro i hi; show i < 5; simp at hi; omega)]
    rfl
  rw [e1, off_patch, hV_pR v hv]
  rfl
end RL
def hA1 (E : Ev) (ad : Nat → Nat) (n0 : Nat) (c : Mem) : va_W := [(ad 0, .inl (E.2.1, n0, .inl (c 0)))]
theorem hA1_a0 {E : Ev} {ad : Nat → Nat} {n0 : Nat} {c : Mem} : (hA1 E ad n0 c)[0]? = some (ad 0, .inl (E.2.1, n0, .inl (c 0))) := rfl
theorem hA1_A0 {E : Ev} {ad : Nat → Nat} {n0 : Nat} {c : Mem} {f : Nat → Int32} : (hA1 E ad n0 c).set 0 (ad 0, .inl (E.2.1, n0, .inl f)) = hA1 E ad n0 (upA c 0 f) := rfl
theorem hA1_s0 {E : Ev} {ad : Nat → Nat} {n0 : Nat} {c : Mem} {i : Nat} {v : Int32} : (hA1 E ad n0 c).set 0 (ad 0, .inl (E.2.1, n0, .inl (upd (c 0) i v))) = hA1 E ad n0 (up c 0 i v) := rfl
theorem mm_X5_lowestFree : Cond.instanceMethod yX5_lowestFree ∈ WS ∧ Cond.selects (yX5_lowestFree).cls yX5_lowestFree yX5_lowestFree ∈ WS ∧ Cond.initialized (yX5_lowestFree).cls ∈ WS ∧ Cond.code yX5_lowestFree cX5_lowestFree 2 (some .int) ∈ WS ∧ ((yX5_lowestFree).cls ≠ "java/lang/invoke/MethodHandle" ∧ (yX5_lowestFree).cls ≠ "java/lang/invoke/VarHandle") ∧ (parseMethodDescriptor (yX5_lowestFree).desc).map (fun d => d.parameters.length) = some 0 ∧ 2 ≤ 20 := ⟨ws_in (List.mem_of_getElem? (i := 526) (by decide +kernel)) rfl, ws_in (List.mem_of_getElem? (i := 527) (by decide +kernel)) rfl, ws_in (List.mem_of_getElem? (i := 104) (by decide +kernel)) rfl, ws_in (List.mem_of_getElem? (i := 528) (by decide +kernel)) rfl, ⟨by decide +kernel, by decide +kernel⟩, by decide +kernel, by decide⟩
theorem lk_X6_100 : LkV RX6 100 yX5_lowestFree cX5_lowestFree 2 (some .int) 0 := ⟨ws_in (List.mem_of_getElem? (i := 525) (by decide +kernel)) rfl, mm_X5_lowestFree⟩
theorem mm_X2_begin : Cond.instanceMethod yX2_begin ∈ WS ∧ Cond.selects (yX2_begin).cls yX2_begin yX2_begin ∈ WS ∧ Cond.initialized (yX2_begin).cls ∈ WS ∧ Cond.code yX2_begin cX2_begin 2 none ∈ WS ∧ ((yX2_begin).cls ≠ "java/lang/invoke/MethodHandle" ∧ (yX2_begin).cls ≠ "java/lang/invoke/VarHandle") ∧ (parseMethodDescriptor (yX2_begin).desc).map (fun d => d.parameters.length) = some 1 ∧ 2 ≤ 20 := ⟨ws_in (List.mem_of_getElem? (i := 530) (by decide +kernel)) rfl, ws_in (List.mem_of_getElem? (i := 531) (by decide +kernel)) rfl, ws_in (List.mem_of_getElem? (i := 107) (by decide +kernel)) rfl, ws_in (List.mem_of_getElem? (i := 532) (by decide +kernel)) rfl, ⟨by decide +kernel, by decide +kernel⟩, by decide +kernel, by decide⟩
theorem lk_X6_108 : LkV RX6 108 yX2_begin cX2_begin 2 none 1 := ⟨ws_in (List.mem_of_getElem? (i := 529) (by decide +kernel)) rfl, mm_X2_begin⟩
theorem mm_X6_find : Cond.instanceMethod yX6_find ∈ WS ∧ Cond.selects (yX6_find).cls yX6_find yX6_find ∈ WS ∧ Cond.initialized (yX6_find).cls ∈ WS ∧ Cond.code yX6_find cX6_find 3 (some (.object "WorkflowEngine$Instance")) ∈ WS ∧ ((yX6_find).cls ≠ "java/lang/invoke/MethodHandle" ∧ (yX6_find).cls ≠ "java/lang/invoke/VarHandle") ∧ (parseMethodDescriptor (yX6_find).desc).map (fun d => d.parameters.length) = some 1 ∧ 3 ≤ 20 := ⟨ws_in (List.mem_of_getElem? (i := 672) (by decide +kernel)) rfl, ws_in (List.mem_of_getElem? (i := 42) (by decide +kernel)) rfl, ws_in (List.mem_of_getElem? (i := 101) (by decide +kernel)) rfl, ws_in (List.mem_of_getElem? (i := 673) (by decide +kernel)) rfl, ⟨by decide +kernel, by decide +kernel⟩, by decide +kernel, by decide⟩
theorem lk_X6_114 : LkV RX6 114 yX6_find cX6_find 3 (some (.object "WorkflowEngine$Instance")) 1 := ⟨ws_in (List.mem_of_getElem? (i := 670) (by decide +kernel)) rfl, mm_X6_find⟩
theorem mm_X2_giveUp : Cond.instanceMethod yX2_giveUp ∈ WS ∧ Cond.selects (yX2_giveUp).cls yX2_giveUp yX2_giveUp ∈ WS ∧ Cond.initialized (yX2_giveUp).cls ∈ WS ∧ Cond.code yX2_giveUp cX2_giveUp 1 none ∈ WS ∧ ((yX2_giveUp).cls ≠ "java/lang/invoke/MethodHandle" ∧ (yX2_giveUp).cls ≠ "java/lang/invoke/VarHandle") ∧ (parseMethodDescriptor (yX2_giveUp).desc).map (fun d => d.parameters.length) = some 0 ∧ 1 ≤ 20 := ⟨ws_in (List.mem_of_getElem? (i := 679) (by decide +kernel)) rfl, ws_in (List.mem_of_getElem? (i := 680) (by decide +kernel)) rfl, ws_in (List.mem_of_getElem? (i := 107) (by decide +kernel)) rfl, ws_in (List.mem_of_getElem? (i := 681) (by decide +kernel)) rfl, ⟨by decide +kernel, by decide +kernel⟩, by decide +kernel, by decide⟩
theorem lk_X6_124 : LkV RX6 124 yX2_giveUp cX2_giveUp 1 none 0 := ⟨ws_in (List.mem_of_getElem? (i := 678) (by decide +kernel)) rfl, mm_X2_giveUp⟩
theorem lk_X6_127 : LkV RX6 127 yX2_hasEnded cX2_hasEnded 1 (some .boolean) 0 := ⟨ws_in (List.mem_of_getElem? (i := 686) (by decide +kernel)) rfl, mm_X2_hasEnded⟩
theorem mm_X5_letPass : Cond.instanceMethod yX5_letPass ∈ WS ∧ Cond.selects (yX5_letPass).cls yX5_letPass yX5_letPass ∈ WS ∧ Cond.initialized (yX5_letPass).cls ∈ WS ∧ Cond.code yX5_letPass cX5_letPass 4 none ∈ WS ∧ ((yX5_letPass).cls ≠ "java/lang/invoke/MethodHandle" ∧ (yX5_letPass).cls ≠ "java/lang/invoke/VarHandle") ∧ (parseMethodDescriptor (yX5_letPass).desc).map (fun d => d.parameters.length) = some 1 ∧ 4 ≤ 20 := ⟨ws_in (List.mem_of_getElem? (i := 693) (by decide +kernel)) rfl, ws_in (List.mem_of_getElem? (i := 694) (by decide +kernel)) rfl, ws_in (List.mem_of_getElem? (i := 104) (by decide +kernel)) rfl, ws_in (List.mem_of_getElem? (i := 695) (by decide +kernel)) rfl, ⟨by decide +kernel, by decide +kernel⟩, by decide +kernel, by decide⟩
theorem lk_X6_135 : LkV RX6 135 yX5_letPass cX5_letPass 4 none 1 := ⟨ws_in (List.mem_of_getElem? (i := 692) (by decide +kernel)) rfl, mm_X5_letPass⟩
theorem lk_X6_176 : LkV RX6 176 yX1_kept cX1_kept 1 (some .int) 0 := ⟨ws_in (List.mem_of_getElem? (i := 705) (by decide +kernel)) rfl, mm_X1_kept⟩
theorem mm_X1_minuteOf : Cond.instanceMethod yX1_minuteOf ∈ WS ∧ Cond.selects (yX1_minuteOf).cls yX1_minuteOf yX1_minuteOf ∈ WS ∧ Cond.initialized (yX1_minuteOf).cls ∈ WS ∧ Cond.code yX1_minuteOf cX1_minuteOf 2 (some .int) ∈ WS ∧ ((yX1_minuteOf).cls ≠ "java/lang/invoke/MethodHandle" ∧ (yX1_minuteOf).cls ≠ "java/lang/invoke/VarHandle") ∧ (parseMethodDescriptor (yX1_minuteOf).desc).map (fun d => d.parameters.length) = some 1 ∧ 2 ≤ 20 := ⟨ws_in (List.mem_of_getElem? (i := 711) (by decide +kernel)) rfl, ws_in (List.mem_of_getElem? (i := 712) (by decide +kernel)) rfl, ws_in (List.mem_of_getElem? (i := 108) (by decide +kernel)) rfl, ws_in (List.mem_of_getElem? (i := 713) (by decide +kernel)) rfl, ⟨by decide +kernel, by decide +kernel⟩, by decide +kernel, by decide⟩
theorem lk_X6_179 : LkV RX6 179 yX1_minuteOf cX1_minuteOf 2 (some .int) 1 := ⟨ws_in (List.mem_of_getElem? (i := 710) (by decide +kernel)) rfl, mm_X1_minuteOf⟩
theorem lk_X6_183 : LkV RX6 183 yX1_kindOf cX1_kindOf 2 (some .int) 1 := ⟨ws_in (List.mem_of_getElem? (i := 715) (by decide +kernel)) rfl, mm_X1_kindOf⟩
theorem lk_X6_186 : LkV RX6 186 yX1_valueOf cX1_valueOf 2 (some .int) 1 := ⟨ws_in (List.mem_of_getElem? (i := 719) (by decide +kernel)) rfl, mm_X1_valueOf⟩
theorem mm_X2_runningItems : Cond.instanceMethod yX2_runningItems ∈ WS ∧ Cond.selects (yX2_runningItems).cls yX2_runningItems yX2_runningItems ∈ WS ∧ Cond.initialized (yX2_runningItems).cls ∈ WS ∧ Cond.code yX2_runningItems cX2_runningItems 3 (some .int) ∈ WS ∧ ((yX2_runningItems).cls ≠ "java/lang/invoke/MethodHandle" ∧ (yX2_runningItems).cls ≠ "java/lang/invoke/VarHandle") ∧ (parseMethodDescriptor (yX2_runningItems).desc).map (fun d => d.parameters.length) = some 0 ∧ 3 ≤ 20 := ⟨ws_in (List.mem_of_getElem? (i := 728) (by decide +kernel)) rfl, ws_in (List.mem_of_getElem? (i := 729) (by decide +kernel)) rfl, ws_in (List.mem_of_getElem? (i := 107) (by decide +kernel)) rfl, ws_in (List.mem_of_getElem? (i := 730) (by decide +kernel)) rfl, ⟨by decide +kernel, by decide +kernel⟩, by decide +kernel, by decide⟩
theorem lk_X6_189 : LkV RX6 189 yX2_runningItems cX2_runningItems 3 (some .int) 0 := ⟨ws_in (List.mem_of_getElem? (i := 727) (by decide +kernel)) rfl, mm_X2_runningItems⟩
theorem mm_X2_placeOfRunning : Cond.instanceMethod yX2_placeOfRunning ∈ WS ∧ Cond.selects (yX2_placeOfRunning).cls yX2_placeOfRunning yX2_placeOfRunning ∈ WS ∧ Cond.initialized (yX2_placeOfRunning).cls ∈ WS ∧ Cond.code yX2_placeOfRunning cX2_placeOfRunning 4 (some .int) ∈ WS ∧ ((yX2_placeOfRunning).cls ≠ "java/lang/invoke/MethodHandle" ∧ (yX2_placeOfRunning).cls ≠ "java/lang/invoke/VarHandle") ∧ (parseMethodDescriptor (yX2_placeOfRunning).desc).map (fun d => d.parameters.length) = some 1 ∧ 4 ≤ 20 := ⟨ws_in (List.mem_of_getElem? (i := 736) (by decide +kernel)) rfl, ws_in (List.mem_of_getElem? (i := 737) (by decide +kernel)) rfl, ws_in (List.mem_of_getElem? (i := 107) (by decide +kernel)) rfl, ws_in (List.mem_of_getElem? (i := 738) (by decide +kernel)) rfl, ⟨by decide +kernel, by decide +kernel⟩, by decide +kernel, by decide⟩
theorem lk_X6_192 : LkV RX6 192 yX2_placeOfRunning cX2_placeOfRunning 4 (some .int) 1 := ⟨ws_in (List.mem_of_getElem? (i := 735) (by decide +kernel)) rfl, mm_X2_placeOfRunning⟩
theorem mm_X2_nextMinute : Cond.instanceMethod yX2_nextMinute ∈ WS ∧ Cond.selects (yX2_nextMinute).cls yX2_nextMinute yX2_nextMinute ∈ WS ∧ Cond.initialized (yX2_nextMinute).cls ∈ WS ∧ Cond.code yX2_nextMinute cX2_nextMinute 3 (some .int) ∈ WS ∧ ((yX2_nextMinute).cls ≠ "java/lang/invoke/MethodHandle" ∧ (yX2_nextMinute).cls ≠ "java/lang/invoke/VarHandle") ∧ (parseMethodDescriptor (yX2_nextMinute).desc).map (fun d => d.parameters.length) = some 0 ∧ 3 ≤ 20 := ⟨ws_in (List.mem_of_getElem? (i := 744) (by decide +kernel)) rfl, ws_in (List.mem_of_getElem? (i := 745) (by decide +kernel)) rfl, ws_in (List.mem_of_getElem? (i := 107) (by decide +kernel)) rfl, ws_in (List.mem_of_getElem? (i := 746) (by decide +kernel)) rfl, ⟨by decide +kernel, by decide +kernel⟩, by decide +kernel, by decide⟩
theorem lk_X6_195 : LkV RX6 195 yX2_nextMinute cX2_nextMinute 3 (some .int) 0 := ⟨ws_in (List.mem_of_getElem? (i := 743) (by decide +kernel)) rfl, mm_X2_nextMinute⟩
theorem mm_X1_lastStatus : Cond.instanceMethod yX1_lastStatus ∈ WS ∧ Cond.selects (yX1_lastStatus).cls yX1_lastStatus yX1_lastStatus ∈ WS ∧ Cond.initialized (yX1_lastStatus).cls ∈ WS ∧ Cond.code yX1_lastStatus cX1_lastStatus 3 (some .int) ∈ WS ∧ ((yX1_lastStatus).cls ≠ "java/lang/invoke/MethodHandle" ∧ (yX1_lastStatus).cls ≠ "java/lang/invoke/VarHandle") ∧ (parseMethodDescriptor (yX1_lastStatus).desc).map (fun d => d.parameters.length) = some 0 ∧ 3 ≤ 20 := ⟨ws_in (List.mem_of_getElem? (i := 783) (by decide +kernel)) rfl, ws_in (List.mem_of_getElem? (i := 784) (by decide +kernel)) rfl, ws_in (List.mem_of_getElem? (i := 108) (by decide +kernel)) rfl, ws_in (List.mem_of_getElem? (i := 785) (by decide +kernel)) rfl, ⟨by decide +kernel, by decide +kernel⟩, by decide +kernel, by decide⟩
theorem lk_X6_202 : LkV RX6 202 yX1_lastStatus cX1_lastStatus 3 (some .int) 0 := ⟨ws_in (List.mem_of_getElem? (i := 782) (by decide +kernel)) rfl, mm_X1_lastStatus⟩
theorem lk_X6_205 : LkV RX6 205 yX1_entriesOf cX1_entriesOf 4 (some .int) 1 := ⟨ws_in (List.mem_of_getElem? (i := 788) (by decide +kernel)) rfl, mm_X1_entriesOf⟩
theorem mm_X1_attempts : Cond.instanceMethod yX1_attempts ∈ WS ∧ Cond.selects (yX1_attempts).cls yX1_attempts yX1_attempts ∈ WS ∧ Cond.initialized (yX1_attempts).cls ∈ WS ∧ Cond.code yX1_attempts cX1_attempts 1 (some .int) ∈ WS ∧ ((yX1_attempts).cls ≠ "java/lang/invoke/MethodHandle" ∧ (yX1_attempts).cls ≠ "java/lang/invoke/VarHandle") ∧ (parseMethodDescriptor (yX1_attempts).desc).map (fun d => d.parameters.length) = some 0 ∧ 1 ≤ 20 := ⟨ws_in (List.mem_of_getElem? (i := 793) (by decide +kernel)) rfl, ws_in (List.mem_of_getElem? (i := 794) (by decide +kernel)) rfl, ws_in (List.mem_of_getElem? (i := 108) (by decide +kernel)) rfl, ws_in (List.mem_of_getElem? (i := 795) (by decide +kernel)) rfl, ⟨by decide +kernel, by decide +kernel⟩, by decide +kernel, by decide⟩
theorem lk_X6_208 : LkV RX6 208 yX1_attempts cX1_attempts 1 (some .int) 0 := ⟨ws_in (List.mem_of_getElem? (i := 792) (by decide +kernel)) rfl, mm_X1_attempts⟩
theorem lk_X6_211 : LkV RX6 211 yX5_instancesOf cX5_instancesOf 5 (some .int) 2 := ⟨ws_in (List.mem_of_getElem? (i := 801) (by decide +kernel)) rfl, mm_X5_instancesOf⟩
theorem mm_X5_startedOf : Cond.instanceMethod yX5_startedOf ∈ WS ∧ Cond.selects (yX5_startedOf).cls yX5_startedOf yX5_startedOf ∈ WS ∧ Cond.initialized (yX5_startedOf).cls ∈ WS ∧ Cond.code yX5_startedOf cX5_startedOf 2 (some .int) ∈ WS ∧ ((yX5_startedOf).cls ≠ "java/lang/invoke/MethodHandle" ∧ (yX5_startedOf).cls ≠ "java/lang/invoke/VarHandle") ∧ (parseMethodDescriptor (yX5_startedOf).desc).map (fun d => d.parameters.length) = some 1 ∧ 2 ≤ 20 := ⟨ws_in (List.mem_of_getElem? (i := 806) (by decide +kernel)) rfl, ws_in (List.mem_of_getElem? (i := 807) (by decide +kernel)) rfl, ws_in (List.mem_of_getElem? (i := 104) (by decide +kernel)) rfl, ws_in (List.mem_of_getElem? (i := 808) (by decide +kernel)) rfl, ⟨by decide +kernel, by decide +kernel⟩, by decide +kernel, by decide⟩
theorem lk_X6_215 : LkV RX6 215 yX5_startedOf cX5_startedOf 2 (some .int) 1 := ⟨ws_in (List.mem_of_getElem? (i := 805) (by decide +kernel)) rfl, mm_X5_startedOf⟩
theorem lk_X6_218 : LkV RX6 218 yX5_endedOf cX5_endedOf 3 (some .int) 1 := ⟨ws_in (List.mem_of_getElem? (i := 814) (by decide +kernel)) rfl, mm_X5_endedOf⟩
theorem mm_X5_minutesOf : Cond.instanceMethod yX5_minutesOf ∈ WS ∧ Cond.selects (yX5_minutesOf).cls yX5_minutesOf yX5_minutesOf ∈ WS ∧ Cond.initialized (yX5_minutesOf).cls ∈ WS ∧ Cond.code yX5_minutesOf cX5_minutesOf 4 (some .int) ∈ WS ∧ ((yX5_minutesOf).cls ≠ "java/lang/invoke/MethodHandle" ∧ (yX5_minutesOf).cls ≠ "java/lang/invoke/VarHandle") ∧ (parseMethodDescriptor (yX5_minutesOf).desc).map (fun d => d.parameters.length) = some 1 ∧ 4 ≤ 20 := ⟨ws_in (List.mem_of_getElem? (i := 816) (by decide +kernel)) rfl, ws_in (List.mem_of_getElem? (i := 817) (by decide +kernel)) rfl, ws_in (List.mem_of_getElem? (i := 104) (by decide +kernel)) rfl, ws_in (List.mem_of_getElem? (i := 818) (by decide +kernel)) rfl, ⟨by decide +kernel, by decide +kernel⟩, by decide +kernel, by decide⟩
theorem lk_X6_221 : LkV RX6 221 yX5_minutesOf cX5_minutesOf 4 (some .int) 1 := ⟨ws_in (List.mem_of_getElem? (i := 815) (by decide +kernel)) rfl, mm_X5_minutesOf⟩
theorem mm_X6_floatBits : Cond.static yX6_floatBits ∈ WS ∧ Cond.initialized (yX6_floatBits).cls ∈ WS ∧ Cond.code yX6_floatBits cX6_floatBits 7 (some .int) ∈ WS ∧ ((yX6_floatBits).cls ≠ "java/lang/invoke/MethodHandle" ∧ (yX6_floatBits).cls ≠ "java/lang/invoke/VarHandle") ∧ (parseMethodDescriptor (yX6_floatBits).desc).map (fun d => d.parameters.length) = some 2 ∧ 7 ≤ 20 := ⟨ws_in (List.mem_of_getElem? (i := 821) (by decide +kernel)) rfl, ws_in (List.mem_of_getElem? (i := 101) (by decide +kernel)) rfl, ws_in (List.mem_of_getElem? (i := 822) (by decide +kernel)) rfl, ⟨by decide +kernel, by decide +kernel⟩, by decide +kernel, by decide⟩
theorem lk_X6_224 : LkS RX6 224 yX6_floatBits cX6_floatBits 7 (some .int) 2 := ⟨ws_in (List.mem_of_getElem? (i := 820) (by decide +kernel)) rfl, mm_X6_floatBits⟩
theorem mm_X5_started : Cond.instanceMethod yX5_started ∈ WS ∧ Cond.selects (yX5_started).cls yX5_started yX5_started ∈ WS ∧ Cond.initialized (yX5_started).cls ∈ WS ∧ Cond.code yX5_started cX5_started 1 (some .int) ∈ WS ∧ ((yX5_started).cls ≠ "java/lang/invoke/MethodHandle" ∧ (yX5_started).cls ≠ "java/lang/invoke/VarHandle") ∧ (parseMethodDescriptor (yX5_started).desc).map (fun d => d.parameters.length) = some 0 ∧ 1 ≤ 20 := ⟨ws_in (List.mem_of_getElem? (i := 829) (by decide +kernel)) rfl, ws_in (List.mem_of_getElem? (i := 830) (by decide +kernel)) rfl, ws_in (List.mem_of_getElem? (i := 104) (by decide +kernel)) rfl, ws_in (List.mem_of_getElem? (i := 831) (by decide +kernel)) rfl, ⟨by decide +kernel, by decide +kernel⟩, by decide +kernel, by decide⟩
theorem lk_X6_231 : LkV RX6 231 yX5_started cX5_started 1 (some .int) 0 := ⟨ws_in (List.mem_of_getElem? (i := 828) (by decide +kernel)) rfl, mm_X5_started⟩
theorem lk_X6_233 : LkV RX6 233 yX5_instancesWith cX5_instancesWith 4 (some .int) 1 := ⟨ws_in (List.mem_of_getElem? (i := 844) (by decide +kernel)) rfl, mm_X5_instancesWith⟩
theorem mm_X5_allDefined : Cond.instanceMethod yX5_allDefined ∈ WS ∧ Cond.selects (yX5_allDefined).cls yX5_allDefined yX5_allDefined ∈ WS ∧ Cond.initialized (yX5_allDefined).cls ∈ WS ∧ Cond.code yX5_allDefined cX5_allDefined 3 (some .int) ∈ WS ∧ ((yX5_allDefined).cls ≠ "java/lang/invoke/MethodHandle" ∧ (yX5_allDefined).cls ≠ "java/lang/invoke/VarHandle") ∧ (parseMethodDescriptor (yX5_allDefined).desc).map (fun d => d.parameters.length) = some 0 ∧ 3 ≤ 20 := ⟨ws_in (List.mem_of_getElem? (i := 846) (by decide +kernel)) rfl, ws_in (List.mem_of_getElem? (i := 847) (by decide +kernel)) rfl, ws_in (List.mem_of_getElem? (i := 104) (by decide +kernel)) rfl, ws_in (List.mem_of_getElem? (i := 848) (by decide +kernel)) rfl, ⟨by decide +kernel, by decide +kernel⟩, by decide +kernel, by decide⟩
theorem lk_X6_236 : LkV RX6 236 yX5_allDefined cX5_allDefined 3 (some .int) 0 := ⟨ws_in (List.mem_of_getElem? (i := 845) (by decide +kernel)) rfl, mm_X5_allDefined⟩
theorem lk_X6_51 : LkS RX6 51 yX6_isInside cX6_isInside 2 (some .boolean) 2 := ⟨ws_in (List.mem_of_getElem? (i := 412) (by decide +kernel)) rfl, mm_X6_isInside⟩
theorem mm_X3_read : Cond.instanceMethod yX3_read ∈ WS ∧ Cond.selects (yX3_read).cls yX3_read yX3_read ∈ WS ∧ Cond.initialized (yX3_read).cls ∈ WS ∧ Cond.code yX3_read cX3_read 4 (some .int) ∈ WS ∧ ((yX3_read).cls ≠ "java/lang/invoke/MethodHandle" ∧ (yX3_read).cls ≠ "java/lang/invoke/VarHandle") ∧ (parseMethodDescriptor (yX3_read).desc).map (fun d => d.parameters.length) = some 3 ∧ 4 ≤ 20 := ⟨ws_in (List.mem_of_getElem? (i := 416) (by decide +kernel)) rfl, ws_in (List.mem_of_getElem? (i := 417) (by decide +kernel)) rfl, ws_in (List.mem_of_getElem? (i := 102) (by decide +kernel)) rfl, ws_in (List.mem_of_getElem? (i := 418) (by decide +kernel)) rfl, ⟨by decide +kernel, by decide +kernel⟩, by decide +kernel, by decide⟩
theorem lk_X6_58 : LkV RX6 58 yX3_read cX3_read 4 (some .int) 3 := ⟨ws_in (List.mem_of_getElem? (i := 415) (by decide +kernel)) rfl, mm_X3_read⟩
theorem mm_X6_replaced : Cond.static yX6_replaced ∈ WS ∧ Cond.initialized (yX6_replaced).cls ∈ WS ∧ Cond.code yX6_replaced cX6_replaced 4 (some .int) ∈ WS ∧ ((yX6_replaced).cls ≠ "java/lang/invoke/MethodHandle" ∧ (yX6_replaced).cls ≠ "java/lang/invoke/VarHandle") ∧ (parseMethodDescriptor (yX6_replaced).desc).map (fun d => d.parameters.length) = some 3 ∧ 4 ≤ 20 := ⟨ws_in (List.mem_of_getElem? (i := 515) (by decide +kernel)) rfl, ws_in (List.mem_of_getElem? (i := 101) (by decide +kernel)) rfl, ws_in (List.mem_of_getElem? (i := 516) (by decide +kernel)) rfl, ⟨by decide +kernel, by decide +kernel⟩, by decide +kernel, by decide⟩
theorem lk_X6_93 : LkS RX6 93 yX6_replaced cX6_replaced 4 (some .int) 3 := ⟨ws_in (List.mem_of_getElem? (i := 514) (by decide +kernel)) rfl, mm_X6_replaced⟩
theorem k_X6_134 : Cond.constant RX6 134 99999 ∈ WS := ws_in (List.mem_of_getElem? (i := 691) (by decide +kernel)) rfl
theorem kl_X6_250 : Cond.constantLong RX6 250 2 ∈ WS := ws_in (List.mem_of_getElem? (i := 823) (by decide +kernel)) rfl
theorem f_X6_104 : FL RX6 104 5 1 := ⟨RX5, TX5, 5, rfl, by decide, wsin_X5, ws_in (List.mem_of_getElem? (i := 361) (by decide +kernel)) rfl⟩
theorem f_X6_118 : FL RX6 118 2 3 := ⟨RX2, TX2, 18, rfl, by decide, wsin_X2, ws_in (List.mem_of_getElem? (i := 297) (by decide +kernel)) rfl⟩
theorem f_X6_121 : FL RX6 121 2 10 := ⟨RX2, TX2, 18, rfl, by decide, wsin_X2, ws_in (List.mem_of_getElem? (i := 313) (by decide +kernel)) rfl⟩
theorem f_X6_131 : FL RX6 131 0 2 := ⟨RX0, TX0, 3, rfl, by decide, wsin_X0, ws_in (List.mem_of_getElem? (i := 249) (by decide +kernel)) rfl⟩
theorem f_X6_139 : FL RX6 139 2 9 := ⟨RX2, TX2, 18, rfl, by decide, wsin_X2, ws_in (List.mem_of_getElem? (i := 311) (by decide +kernel)) rfl⟩
theorem f_X6_142 : FL RX6 142 2 2 := ⟨RX2, TX2, 18, rfl, by decide, wsin_X2, ws_in (List.mem_of_getElem? (i := 294) (by decide +kernel)) rfl⟩
theorem f_X6_146 : FL RX6 146 4 0 := ⟨RX4, TX4, 16, rfl, by decide, wsin_X4, ws_in (List.mem_of_getElem? (i := 158) (by decide +kernel)) rfl⟩
theorem f_X6_149 : FL RX6 149 4 1 := ⟨RX4, TX4, 16, rfl, by decide, wsin_X4, ws_in (List.mem_of_getElem? (i := 160) (by decide +kernel)) rfl⟩
theorem f_X6_152 : FL RX6 152 2 4 := ⟨RX2, TX2, 18, rfl, by decide, wsin_X2, ws_in (List.mem_of_getElem? (i := 300) (by decide +kernel)) rfl⟩
theorem f_X6_155 : FL RX6 155 2 5 := ⟨RX2, TX2, 18, rfl, by decide, wsin_X2, ws_in (List.mem_of_getElem? (i := 303) (by decide +kernel)) rfl⟩
theorem f_X6_158 : FL RX6 158 2 6 := ⟨RX2, TX2, 18, rfl, by decide, wsin_X2, ws_in (List.mem_of_getElem? (i := 305) (by decide +kernel)) rfl⟩
set_option maxRecDepth 100000 in
theorem wsin_X6 : ∀ w ∈ u_ws RX6 TX6 8, w ∈ WS := fun w hw => have h := goodIn_of (big := lw_tbl) (u_ws RX6 TX6 8) (by decide +kernel); ws_in (h w hw).1 (List.all_eq_true.mp (by decide +kernel : (u_ws RX6 TX6 8).all goodWord = true) w hw)
theorem f_X6_16 : FL RX6 16 6 1 := ⟨RX6, TX6, 8, rfl, by decide, wsin_X6, ws_in (List.mem_of_getElem? (i := 380) (by decide +kernel)) rfl⟩
theorem f_X6_161 : FL RX6 161 2 7 := ⟨RX2, TX2, 18, rfl, by decide, wsin_X2, ws_in (List.mem_of_getElem? (i := 307) (by decide +kernel)) rfl⟩
theorem f_X6_164 : FL RX6 164 2 8 := ⟨RX2, TX2, 18, rfl, by decide, wsin_X2, ws_in (List.mem_of_getElem? (i := 309) (by decide +kernel)) rfl⟩
theorem f_X6_167 : FL RX6 167 2 1 := ⟨RX2, TX2, 18, rfl, by decide, wsin_X2, ws_in (List.mem_of_getElem? (i := 291) (by decide +kernel)) rfl⟩
theorem f_X6_171 : FL RX6 171 1 2 := ⟨RX1, TX1, 3, rfl, by decide, wsin_X1, ws_in (List.mem_of_getElem? (i := 281) (by decide +kernel)) rfl⟩
theorem f_X6_22 : FL RX6 22 6 2 := ⟨RX6, TX6, 8, rfl, by decide, wsin_X6, ws_in (List.mem_of_getElem? (i := 381) (by decide +kernel)) rfl⟩
theorem f_X6_37 : FL RX6 37 6 3 := ⟨RX6, TX6, 8, rfl, by decide, wsin_X6, ws_in (List.mem_of_getElem? (i := 382) (by decide +kernel)) rfl⟩
theorem f_X6_47 : FL RX6 47 6 6 := ⟨RX6, TX6, 8, rfl, by decide, wsin_X6, ws_in (List.mem_of_getElem? (i := 385) (by decide +kernel)) rfl⟩
theorem f_X6_55 : FL RX6 55 5 2 := ⟨RX5, TX5, 5, rfl, by decide, wsin_X5, ws_in (List.mem_of_getElem? (i := 363) (by decide +kernel)) rfl⟩
theorem f_X6_62 : FL RX6 62 5 3 := ⟨RX5, TX5, 5, rfl, by decide, wsin_X5, ws_in (List.mem_of_getElem? (i := 365) (by decide +kernel)) rfl⟩
theorem f_X6_65 : FL RX6 65 3 5 := ⟨RX3, TX3, 6, rfl, by decide, wsin_X3, ws_in (List.mem_of_getElem? (i := 134) (by decide +kernel)) rfl⟩
theorem f_X6_68 : FL RX6 68 5 4 := ⟨RX5, TX5, 5, rfl, by decide, wsin_X5, ws_in (List.mem_of_getElem? (i := 367) (by decide +kernel)) rfl⟩
theorem f_X6_71 : FL RX6 71 4 11 := ⟨RX4, TX4, 16, rfl, by decide, wsin_X4, ws_in (List.mem_of_getElem? (i := 187) (by decide +kernel)) rfl⟩
theorem f_X6_74 : FL RX6 74 4 12 := ⟨RX4, TX4, 16, rfl, by decide, wsin_X4, ws_in (List.mem_of_getElem? (i := 189) (by decide +kernel)) rfl⟩
theorem f_X6_77 : FL RX6 77 4 13 := ⟨RX4, TX4, 16, rfl, by decide, wsin_X4, ws_in (List.mem_of_getElem? (i := 192) (by decide +kernel)) rfl⟩
theorem f_X6_80 : FL RX6 80 4 14 := ⟨RX4, TX4, 16, rfl, by decide, wsin_X4, ws_in (List.mem_of_getElem? (i := 194) (by decide +kernel)) rfl⟩
theorem f_X6_83 : FL RX6 83 4 15 := ⟨RX4, TX4, 16, rfl, by decide, wsin_X4, ws_in (List.mem_of_getElem? (i := 196) (by decide +kernel)) rfl⟩
theorem f_X6_86 : FL RX6 86 5 0 := ⟨RX5, TX5, 5, rfl, by decide, wsin_X5, ws_in (List.mem_of_getElem? (i := 359) (by decide +kernel)) rfl⟩
theorem f_X6_9 : FL RX6 9 6 0 := ⟨RX6, TX6, 8, rfl, by decide, wsin_X6, ws_in (List.mem_of_getElem? (i := 379) (by decide +kernel)) rfl⟩
theorem f_X6_90 : FL RX6 90 0 0 := ⟨RX0, TX0, 3, rfl, by decide, wsin_X0, ws_in (List.mem_of_getElem? (i := 242) (by decide +kernel)) rfl⟩
theorem f_X6_97 : FL RX6 97 0 1 := ⟨RX0, TX0, 3, rfl, by decide, wsin_X0, ws_in (List.mem_of_getElem? (i := 244) (by decide +kernel)) rfl⟩
theorem fp_X6_118 : FLp RX6 118 2 3 .int := ⟨RX2, TX2, 18, tyX2, rfl, by decide, wsin_X2, ws_in (List.mem_of_getElem? (i := 297) (by decide +kernel)) rfl, tyX2_ok, nmX2, rfl, rfl⟩
theorem fp_X6_47 : FLp RX6 47 6 6 .int := ⟨RX6, TX6, 8, tyX6, rfl, by decide, wsin_X6, ws_in (List.mem_of_getElem? (i := 385) (by decide +kernel)) rfl, tyX6_ok, nmX6, rfl, rfl⟩
theorem fp_X6_62 : FLp RX6 62 5 3 .int := ⟨RX5, TX5, 5, tyX5, rfl, by decide, wsin_X5, ws_in (List.mem_of_getElem? (i := 365) (by decide +kernel)) rfl, tyX5_ok, nmX5, rfl, rfl⟩
theorem fp_X6_68 : FLp RX6 68 5 4 .int := ⟨RX5, TX5, 5, tyX5, rfl, by decide, wsin_X5, ws_in (List.mem_of_getElem? (i := 367) (by decide +kernel)) rfl, tyX5_ok, nmX5, rfl, rfl⟩
def xe_feed  (x1 : Int32) (x : Mem) : Option (Int32 × Mem) :=
  if x1 < 0 then
    (some ((-2), x))
  else
    (if 127 < x1 then
      (some ((-2), x))
    else
      (if x 0 6 < 80 then
        (ck 80 (x 0 6) <|
        some ((x 0 6) + 1, up (up x 1 (x 0 6).toNatClampNeg x1) 0 6 ((x 0 6) + 1)))
      else
        (some ((-4), x))))
set_option maxHeartbeats 400000 in
set_option maxRecDepth 100000 in
theorem c_xe_feed {l : Launch} {E : Ev} {ad : Ad3} {va : Nat → Nat → Nat} {d : Nat}  {rl : Nat} {tx : Nat} {tg : Nat} {r : Mem} {w : Mem} {e : Mem} {I : Fam} {H : Fam} {pl : Nat → Nat} {vs : Fam} {x1 : Int32} {x : Mem} (hd : 1 ≤ d) : Ct l yX6_feed cX6_feed 2 (some .int) d E (hP E ad va rl x tx tg r w e I H pl vs) [.ref (ad 30 0 0), .int x1] (fun q : Int32 × Mem => (some (.int q.1), hP E ad va rl q.2 tx tg r w e I H pl vs)) (xe_feed x1 x) := by
  refine Ct.of2 (own := RX6) (L := [(0, .ref (ad 30 0 0)), (1, .int x1)]) rfl (by decide +kernel) (Nat.le_of_ble_eq_true rfl) rfl ?_
  unfold xe_feed
  refine b_iload_n (n := 1) 1 dX6_feed_0 rfl rfl rfl ?_
  refine b_if_lt (n := 4) (tgt := 10) dX6_feed_1 (by decide) rfl (fun h1 => ?_) (fun h1 => ?_)
  · refine b_bipush (n := 12) (v := -2) dX6_feed_10 rfl (by decide) ?_
    exact b_iret dX6_feed_12 rfl rfl
  · refine b_iload_n (n := 5) 1 dX6_feed_4 rfl rfl rfl ?_
    refine b_bipush (n := 7) (v := 127) dX6_feed_5 rfl (by decide) ?_
    refine b_cmp_le (n := 10) (tgt := 13) dX6_feed_7 (by decide) rfl (fun h7 => ?_) (fun h7 => ?_)
    · refine b_bipush (n := 12) (v := -2) dX6_feed_10 rfl (by decide) ?_
      exact b_iret dX6_feed_12 rfl rfl
    · refine b_aload_n (n := 14) 0 dX6_feed_13 rfl rfl rfl ?_
      refine b_get (n := 17) (v := .int (x 0 6)) 0 f_X6_47 dX6_feed_14 rfl hP_o300 rfl ?_
      refine b_bipush (n := 19) (v := 80) dX6_feed_17 rfl (by decide) ?_
      refine b_cmp_lt (n := 22) (tgt := 25) dX6_feed_19 (by decide) rfl (fun h19 => ?_) (fun h19 => ?_)
      · refine b_aload_n (n := 26) 0 dX6_feed_25 rfl rfl rfl ?_
        refine b_get (n := 29) (v := .ref (ad 30 0 1)) 0 f_X6_9 dX6_feed_26 rfl hP_o300 rfl ?_
        refine b_aload_n (n := 30) 0 dX6_feed_29 rfl rfl rfl ?_
        refine b_get (n := 33) (v := .int (x 0 6)) 0 f_X6_47 dX6_feed_30 rfl hP_o300 rfl ?_
        refine b_iload_n (n := 34) 1 dX6_feed_33 rfl rfl rfl ?_
        refine b_iast (n := 35) (ws' := hP E ad va rl (up x 1 (x 0 6).toNatClampNeg x1) tx tg r w e I H pl vs) 1 dX6_feed_34 rfl hP_a301 hP_s301 ?_
        refine b_aload_n (n := 36) 0 dX6_feed_35 rfl rfl rfl ?_
        refine b_dup (n := 37) dX6_feed_36 rfl rfl ?_
        refine b_get (n := 40) (v := .int (x 0 6)) 0 f_X6_47 dX6_feed_37 rfl hP_o300 rfl ?_
        refine b_iconst (n := 41) (v := 1) dX6_feed_40 rfl (by decide) ?_
        refine b_iadd (n := 42) dX6_feed_41 rfl ?_
        refine b_put (n := 45) (ws' := hP E ad va rl (up (up x 1 (x 0 6).toNatClampNeg x1) 0 6 ((x 0 6) + 1)) tx tg r w e I H pl vs) 0 fp_X6_47 dX6_feed_42 rfl hP_o300 rfl rfl (Nat.le_of_ble_eq_true rfl) hP_p300_6 ?_
        refine b_aload_n (n := 46) 0 dX6_feed_45 rfl rfl rfl ?_
        refine b_get (n := 49) (v := .int ((x 0 6) + 1)) 0 f_X6_47 dX6_feed_46 rfl hP_o300 rfl ?_
        exact b_iret dX6_feed_49 rfl rfl
      · refine b_bipush (n := 24) (v := -4) dX6_feed_22 rfl (by decide) ?_
        exact b_iret dX6_feed_24 rfl rfl
def xe_define (N : Nat) (D : Nat) (x1 : Int32) (x : Mem) (tx : Nat) (tg : Nat) (r : Mem) (w : Mem) (vs : Fam) : Option (Int32 × Mem × Nat × Nat × Mem × Mem × Fam) :=
  (xs_isInside x1 4).bind fun k2 =>
  if k2 = true then
    ((rd 4 (w 5) x1).bind fun v18 =>
    (xs_isInside v18 4).bind fun k22 =>
    if k22 = true then
      ((rx 16 ((x1 * 4) + v18)).bind fun j56 =>
      (re_read N D (fun _ => x 1) (x 0 6) r (vs j56)).bind fun (k57, r57, p57) =>
      if k57 = 0 then
        (ck 4 x1 <|
        some (v18, up x 0 6 0, 1, (j56 + 1), r57, up (up (up w 0 3 k57) 0 4 (r57 0 5)) 5 x1.toNatClampNeg (v18 + 1), upF vs j56 p57))
      else
        (some (((-100)) - (r57 0 5), up x 0 6 0, 1, (j56 + 1), r57, up (up w 0 3 k57) 0 4 (r57 0 5), upF vs j56 p57)))
    else
      (some ((-4), x, tx, tg, r, w, vs)))
  else
    (some ((-1), x, tx, tg, r, w, vs))
set_option maxHeartbeats 400000 in
set_option maxRecDepth 100000 in
theorem c_xe_define {l : Launch} {E : Ev} {ad : Ad3} {va : Nat → Nat → Nat} {d : Nat} {N : Nat} {D : Nat} {rl : Nat} {e : Mem} {I : Fam} {H : Fam} {pl : Nat → Nat} {x1 : Int32} {x : Mem} {tx : Nat} {tg : Nat} {r : Mem} {w : Mem} {vs : Fam} (hd : 4 * D + 11 ≤ d) : Ct l yX6_define cX6_define 3 (some .int) d E (hP E ad va rl x tx tg r w e I H pl vs) [.ref (ad 30 0 0), .int x1] (fun q : Int32 × Mem × Nat × Nat × Mem × Mem × Fam => (some (.int q.1), hP E ad va rl q.2.1 q.2.2.1 q.2.2.2.1 q.2.2.2.2.1 q.2.2.2.2.2.1 e I H pl q.2.2.2.2.2.2)) (xe_define N D x1 x tx tg r w vs) := by
  refine Ct.of2 (own := RX6) (L := [(0, .ref (ad 30 0 0)), (1, .int x1)]) rfl (by decide +kernel) (Nat.le_of_ble_eq_true rfl) rfl ?_
  unfold xe_define
  refine b_iload_n (n := 1) 1 dX6_define_0 rfl rfl rfl ?_
  refine b_iconst (n := 2) (v := 4) dX6_define_1 rfl (by decide) ?_
  refine bSb (n := 5) (As := [.int x1, .int 4]) (rest := []) lk_X6_51 (c_xs_isInside (Nat.le_refl _)) (by omega) rfl rfl (Nat.le_of_ble_eq_true rfl) dX6_define_2 rfl (fun k2 => ?_)
  refine b_bnz (n := 8) (tgt := 10) dX6_define_5 (by decide) rfl (fun h5 => ?_) (fun h5 => ?_)
  · refine b_aload_n (n := 11) 0 dX6_define_10 rfl rfl rfl ?_
    refine b_get (n := 14) (v := .ref (ad 0 0 0)) 0 f_X6_37 dX6_define_11 rfl hP_o300 rfl ?_
    refine b_get (n := 17) (v := .ref (ad 0 0 5)) 5 f_X6_55 dX6_define_14 rfl hP_o0 rfl ?_
    refine b_iload_n (n := 18) 1 dX6_define_17 rfl rfl rfl ?_
    refine b_iald (n := 19) 10 dX6_define_18 rfl hP_a5 (fun v18 => ?_)
    refine b_istore_n (n := 20) (L' := [(2, .int v18), (0, .ref (ad 30 0 0)), (1, .int x1)]) dX6_define_19 rfl rfl (Nat.le_of_ble_eq_true rfl) rfl ?_
    refine b_iload_n (n := 21) 0 dX6_define_20 rfl rfl rfl ?_
    refine b_iconst (n := 22) (v := 4) dX6_define_21 rfl (by decide) ?_
    refine bSb (n := 25) (As := [.int v18, .int 4]) (rest := []) lk_X6_51 (c_xs_isInside (Nat.le_refl _)) (by omega) rfl rfl (Nat.le_of_ble_eq_true rfl) dX6_define_22 rfl (fun k22 => ?_)
    refine b_bnz (n := 28) (tgt := 31) dX6_define_25 (by decide) rfl (fun h25 => ?_) (fun h25 => ?_)
    · refine b_aload_n (n := 32) 1 dX6_define_31 rfl rfl rfl ?_
      refine b_get (n := 35) (v := .ref (ad 0 0 0)) 0 f_X6_37 dX6_define_32 rfl hP_o300 rfl ?_
      refine b_aload_n (n := 36) 1 dX6_define_35 rfl rfl rfl ?_
      refine b_get (n := 39) (v := .ref (ad 30 0 2)) 0 f_X6_16 dX6_define_36 rfl hP_o300 rfl ?_
      refine b_aload_n (n := 40) 1 dX6_define_39 rfl rfl rfl ?_
      refine b_get (n := 43) (v := .ref (ad 30 0 1)) 0 f_X6_9 dX6_define_40 rfl hP_o300 rfl ?_
      refine b_aload_n (n := 44) 1 dX6_define_43 rfl rfl rfl ?_
      refine b_get (n := 47) (v := .int (x 0 6)) 0 f_X6_47 dX6_define_44 rfl hP_o300 rfl ?_
      refine b_aload_n (n := 48) 1 dX6_define_47 rfl rfl rfl ?_
      refine b_get (n := 51) (v := .ref (ad 30 0 4)) 0 f_X6_22 dX6_define_48 rfl hP_o300 rfl ?_
      refine b_iload_n (n := 52) 2 dX6_define_51 rfl rfl rfl ?_
      refine b_iconst (n := 53) (v := 4) dX6_define_52 rfl (by decide) ?_
      refine b_imul (n := 54) dX6_define_53 rfl ?_
      refine b_iload_n (n := 55) 0 dX6_define_54 rfl rfl rfl ?_
      refine b_iadd (n := 56) dX6_define_55 rfl ?_
      refine b_aald (n := 57) 4 1 dX6_define_56 rfl rfl hP_r500 (fun _ => rfl) (fun j56 hj56 => ?_)
      have hj56v : j56 < 17 := by omega
      refine bVwi (n := 60) (hh := (fun s : Mem × Mem => hR0 E (adR ad va j56) s.1 (fun _ => x 1) s.2 (.ref (ad 30 0 1)) (.ref (va j56 0)))) (As := [.ref (ad 30 0 1), .int (x 0 6), .ref (va j56 0)]) (rest := [.ref (ad 0 0 0)]) (fun s : Mem × Mem => hP E ad va rl x 1 ((j56 + 1)) s.1 w e I H pl (upF vs j56 s.2)) 2 (plR j56) lk_X6_58 (c_re_read (ad := adR ad va j56) (Nat.le_refl _)) (by omega) (hP_subR _ hj56v) (plRN hj56v) (fun _ => rfl) (fun _ => hP_patchR _ hj56v) hP_o400 rfl rfl rfl (Nat.le_of_ble_eq_true rfl) dX6_define_57 rfl ?_
      rintro k57 ⟨r57, p57⟩
      try dsimp only
      refine b_put (n := 63) (ws' := hP E ad va rl x 1 ((j56 + 1)) r57 (up w 0 3 k57) e I H pl (upF vs j56 p57)) 5 fp_X6_62 dX6_define_60 rfl hP_o0 rfl rfl (Nat.le_of_ble_eq_true rfl) hP_p0_3 ?_
      refine b_aload_n (n := 64) 1 dX6_define_63 rfl rfl rfl ?_
      refine b_get (n := 67) (v := .ref (ad 0 0 0)) 0 f_X6_37 dX6_define_64 rfl hP_o300 rfl ?_
      refine b_aload_n (n := 68) 1 dX6_define_67 rfl rfl rfl ?_
      refine b_get (n := 71) (v := .ref (ad 30 0 2)) 0 f_X6_16 dX6_define_68 rfl hP_o300 rfl ?_
      refine b_get (n := 74) (v := .int (r57 0 5)) 2 f_X6_65 dX6_define_71 rfl hP_o400 rfl ?_
      refine b_put (n := 77) (ws' := hP E ad va rl x 1 ((j56 + 1)) r57 (up (up w 0 3 k57) 0 4 (r57 0 5)) e I H pl (upF vs j56 p57)) 5 fp_X6_68 dX6_define_74 rfl hP_o0 rfl rfl (Nat.le_of_ble_eq_true rfl) hP_p0_4 ?_
      refine b_aload_n (n := 78) 1 dX6_define_77 rfl rfl rfl ?_
      refine b_iconst (n := 79) (v := 0) dX6_define_78 rfl (by decide) ?_
      refine b_put (n := 82) (ws' := hP E ad va rl (up x 0 6 0) 1 ((j56 + 1)) r57 (up (up w 0 3 k57) 0 4 (r57 0 5)) e I H pl (upF vs j56 p57)) 0 fp_X6_47 dX6_define_79 rfl hP_o300 rfl rfl (Nat.le_of_ble_eq_true rfl) hP_p300_6 ?_
      refine b_aload_n (n := 83) 1 dX6_define_82 rfl rfl rfl ?_
      refine b_get (n := 86) (v := .ref (ad 0 0 0)) 0 f_X6_37 dX6_define_83 rfl hP_o300 rfl ?_
      refine b_get (n := 89) (v := .int k57) 5 f_X6_62 dX6_define_86 rfl hP_o0 rfl ?_
      refine b_if_eq (n := 92) (tgt := 103) dX6_define_89 (by decide) rfl (fun h89 => ?_) (fun h89 => ?_)
      · refine b_aload_n (n := 104) 1 dX6_define_103 rfl rfl rfl ?_
        refine b_get (n := 107) (v := .ref (ad 0 0 0)) 0 f_X6_37 dX6_define_104 rfl hP_o300 rfl ?_
        refine b_get (n := 110) (v := .ref (ad 0 0 5)) 5 f_X6_55 dX6_define_107 rfl hP_o0 rfl ?_
        refine b_iload_n (n := 111) 2 dX6_define_110 rfl rfl rfl ?_
        refine b_iload_n (n := 112) 0 dX6_define_111 rfl rfl rfl ?_
        refine b_iconst (n := 113) (v := 1) dX6_define_112 rfl (by decide) ?_
        refine b_iadd (n := 114) dX6_define_113 rfl ?_
        refine b_iast (n := 115) (ws' := hP E ad va rl (up x 0 6 0) 1 ((j56 + 1)) r57 (up (up (up w 0 3 k57) 0 4 (r57 0 5)) 5 x1.toNatClampNeg (v18 + 1)) e I H pl (upF vs j56 p57)) 10 dX6_define_114 rfl hP_a5 hP_s5 ?_
        refine b_iload_n (n := 116) 0 dX6_define_115 rfl rfl rfl ?_
        exact b_iret dX6_define_116 rfl rfl
      · refine b_bipush (n := 94) (v := -100) dX6_define_92 rfl (by decide) ?_
        refine b_aload_n (n := 95) 1 dX6_define_94 rfl rfl rfl ?_
        refine b_get (n := 98) (v := .ref (ad 0 0 0)) 0 f_X6_37 dX6_define_95 rfl hP_o300 rfl ?_
        refine b_get (n := 101) (v := .int (r57 0 5)) 5 f_X6_68 dX6_define_98 rfl hP_o0 rfl ?_
        refine b_isub (n := 102) dX6_define_101 rfl ?_
        exact b_iret dX6_define_102 rfl rfl
    · refine b_bipush (n := 30) (v := -4) dX6_define_28 rfl (by decide) ?_
      exact b_iret dX6_define_30 rfl rfl
  · refine b_iconst (n := 9) (v := -1) dX6_define_8 rfl (by decide) ?_
    exact b_iret dX6_define_9 rfl rfl
def xe_wrong (w : Mem) (x1 : Int32)  : Option (Int32) :=
  if x1 = 0 then
    (if w 0 3 = 0 then
      (some ((-5)))
    else
      (if x1 = 0 then
        (some (w 0 4))
      else
        (some (w 0 3))))
  else
    (if x1 = 1 then
      (if w 0 3 = 0 then
        (some ((-5)))
      else
        (if x1 = 0 then
          (some (w 0 4))
        else
          (some (w 0 3))))
    else
      (some ((-1))))
set_option maxHeartbeats 400000 in
set_option maxRecDepth 100000 in
theorem c_xe_wrong {l : Launch} {E : Ev} {ad : Ad3} {va : Nat → Nat → Nat} {d : Nat}  {rl : Nat} {x : Mem} {tx : Nat} {tg : Nat} {r : Mem} {w : Mem} {e : Mem} {I : Fam} {H : Fam} {pl : Nat → Nat} {vs : Fam} {x1 : Int32}  (hd : 1 ≤ d) : Ct l yX6_wrong cX6_wrong 2 (some .int) d E (hP E ad va rl x tx tg r w e I H pl vs) [.ref (ad 30 0 0), .int x1] (fun v : Int32 => (some (.int v), hP E ad va rl x tx tg r w e I H pl vs)) (xe_wrong w x1) := by
  refine Ct.of2 (own := RX6) (L := [(0, .ref (ad 30 0 0)), (1, .int x1)]) rfl (by decide +kernel) (Nat.le_of_ble_eq_true rfl) rfl ?_
  unfold xe_wrong
  refine b_iload_n (n := 1) 1 dX6_wrong_0 rfl rfl rfl ?_
  refine b_if_eq (n := 4) (tgt := 11) dX6_wrong_1 (by decide) rfl (fun h1 => ?_) (fun h1 => ?_)
  · refine b_aload_n (n := 12) 0 dX6_wrong_11 rfl rfl rfl ?_
    refine b_get (n := 15) (v := .ref (ad 0 0 0)) 0 f_X6_37 dX6_wrong_12 rfl hP_o300 rfl ?_
    refine b_get (n := 18) (v := .int (w 0 3)) 5 f_X6_62 dX6_wrong_15 rfl hP_o0 rfl ?_
    refine b_if_ne (n := 21) (tgt := 24) dX6_wrong_18 (by decide) rfl (fun h18 => ?_) (fun h18 => ?_)
    · refine b_bipush (n := 23) (v := -5) dX6_wrong_21 rfl (by decide) ?_
      exact b_iret dX6_wrong_23 rfl rfl
    · refine b_iload_n (n := 25) 1 dX6_wrong_24 rfl rfl rfl ?_
      refine b_if_ne (n := 28) (tgt := 38) dX6_wrong_25 (by decide) rfl (fun h25 => ?_) (fun h25 => ?_)
      · refine b_aload_n (n := 29) 0 dX6_wrong_28 rfl rfl rfl ?_
        refine b_get (n := 32) (v := .ref (ad 0 0 0)) 0 f_X6_37 dX6_wrong_29 rfl hP_o300 rfl ?_
        refine b_get (n := 35) (v := .int (w 0 4)) 5 f_X6_68 dX6_wrong_32 rfl hP_o0 rfl ?_
        refine b_goto (n := 45) dX6_wrong_35 (by decide) ?_
        exact b_iret dX6_wrong_45 rfl rfl
      · refine b_aload_n (n := 39) 0 dX6_wrong_38 rfl rfl rfl ?_
        refine b_get (n := 42) (v := .ref (ad 0 0 0)) 0 f_X6_37 dX6_wrong_39 rfl hP_o300 rfl ?_
        refine b_get (n := 45) (v := .int (w 0 3)) 5 f_X6_62 dX6_wrong_42 rfl hP_o0 rfl ?_
        exact b_iret dX6_wrong_45 rfl rfl
  · refine b_iload_n (n := 5) 1 dX6_wrong_4 rfl rfl rfl ?_
    refine b_iconst (n := 6) (v := 1) dX6_wrong_5 rfl (by decide) ?_
    refine b_cmp_eq (n := 9) (tgt := 11) dX6_wrong_6 (by decide) rfl (fun h6 => ?_) (fun h6 => ?_)
    · refine b_aload_n (n := 12) 0 dX6_wrong_11 rfl rfl rfl ?_
      refine b_get (n := 15) (v := .ref (ad 0 0 0)) 0 f_X6_37 dX6_wrong_12 rfl hP_o300 rfl ?_
      refine b_get (n := 18) (v := .int (w 0 3)) 5 f_X6_62 dX6_wrong_15 rfl hP_o0 rfl ?_
      refine b_if_ne (n := 21) (tgt := 24) dX6_wrong_18 (by decide) rfl (fun h18 => ?_) (fun h18 => ?_)
      · refine b_bipush (n := 23) (v := -5) dX6_wrong_21 rfl (by decide) ?_
        exact b_iret dX6_wrong_23 rfl rfl
      · refine b_iload_n (n := 25) 1 dX6_wrong_24 rfl rfl rfl ?_
        refine b_if_ne (n := 28) (tgt := 38) dX6_wrong_25 (by decide) rfl (fun h25 => ?_) (fun h25 => ?_)
        · refine b_aload_n (n := 29) 0 dX6_wrong_28 rfl rfl rfl ?_
          refine b_get (n := 32) (v := .ref (ad 0 0 0)) 0 f_X6_37 dX6_wrong_29 rfl hP_o300 rfl ?_
          refine b_get (n := 35) (v := .int (w 0 4)) 5 f_X6_68 dX6_wrong_32 rfl hP_o0 rfl ?_
          refine b_goto (n := 45) dX6_wrong_35 (by decide) ?_
          exact b_iret dX6_wrong_45 rfl rfl
        · refine b_aload_n (n := 39) 0 dX6_wrong_38 rfl rfl rfl ?_
          refine b_get (n := 42) (v := .ref (ad 0 0 0)) 0 f_X6_37 dX6_wrong_39 rfl hP_o300 rfl ?_
          refine b_get (n := 45) (v := .int (w 0 3)) 5 f_X6_62 dX6_wrong_42 rfl hP_o0 rfl ?_
          exact b_iret dX6_wrong_45 rfl rfl
    · refine b_iconst (n := 10) (v := -1) dX6_wrong_9 rfl (by decide) ?_
      exact b_iret dX6_wrong_10 rfl rfl
def xe_version (vs : Fam) (w : Mem) (x1 : Int32) (x2 : Int32) (x3 : Int32)  : Option (Int32) :=
  (xs_isInside x1 4).bind fun k2 =>
  if k2 = true then
    (if x2 = (-1) then
      ((rd 4 (w 5) x1).bind fun v23 =>
      (rd 4 (w 5) x1).bind fun v42 =>
      (xs_isInside (v23 - 1) v42).bind fun k43 =>
      if k43 = true then
        ((xs_isInside (v23 - 1) 4).bind fun k52 =>
        if k52 = true then
          ((rx 16 ((x1 * 4) + (v23 - 1))).bind fun j70 =>
          if x3 = 0 then
            (some (vs j70 6 11))
          else if x3 = 1 then
            (some (vs j70 6 12))
          else if x3 = 2 then
            (some (vs j70 6 13))
          else if x3 = 3 then
            (some (vs j70 6 14))
          else if x3 = 4 then
            (some (vs j70 6 15))
          else 
            (some ((-1))))
        else
          (some ((-1))))
      else
        (some ((-1))))
    else
      ((rd 4 (w 5) x1).bind fun v42 =>
      (xs_isInside x2 v42).bind fun k43 =>
      if k43 = true then
        ((xs_isInside x2 4).bind fun k52 =>
        if k52 = true then
          ((rx 16 ((x1 * 4) + x2)).bind fun j70 =>
          if x3 = 0 then
            (some (vs j70 6 11))
          else if x3 = 1 then
            (some (vs j70 6 12))
          else if x3 = 2 then
            (some (vs j70 6 13))
          else if x3 = 3 then
            (some (vs j70 6 14))
          else if x3 = 4 then
            (some (vs j70 6 15))
          else 
            (some ((-1))))
        else
          (some ((-1))))
      else
        (some ((-1)))))
  else
    (some ((-1)))
set_option maxHeartbeats 400000 in
set_option maxRecDepth 100000 in
theorem c_xe_version {l : Launch} {E : Ev} {ad : Ad3} {va : Nat → Nat → Nat} {d : Nat}  {rl : Nat} {x : Mem} {tx : Nat} {tg : Nat} {r : Mem} {w : Mem} {e : Mem} {I : Fam} {H : Fam} {pl : Nat → Nat} {vs : Fam} {x1 : Int32} {x2 : Int32} {x3 : Int32}  (hd : 2 ≤ d) : Ct l yX6_version cX6_version 6 (some .int) d E (hP E ad va rl x tx tg r w e I H pl vs) [.ref (ad 30 0 0), .int x1, .int x2, .int x3] (fun v : Int32 => (some (.int v), hP E ad va rl x tx tg r w e I H pl vs)) (xe_version vs w x1 x2 x3) := by
  refine Ct.of2 (own := RX6) (L := [(0, .ref (ad 30 0 0)), (1, .int x1), (2, .int x2), (3, .int x3)]) rfl (by decide +kernel) (Nat.le_of_ble_eq_true rfl) rfl ?_
  unfold xe_version
  refine b_iload_n (n := 1) 1 dX6_version_0 rfl rfl rfl ?_
  refine b_iconst (n := 2) (v := 4) dX6_version_1 rfl (by decide) ?_
  refine bSb (n := 5) (As := [.int x1, .int 4]) (rest := []) lk_X6_51 (c_xs_isInside (Nat.le_refl _)) (by omega) rfl rfl (Nat.le_of_ble_eq_true rfl) dX6_version_2 rfl (fun k2 => ?_)
  refine b_bnz (n := 8) (tgt := 10) dX6_version_5 (by decide) rfl (fun h5 => ?_) (fun h5 => ?_)
  · refine b_iload_n (n := 11) 2 dX6_version_10 rfl rfl rfl ?_
    refine b_iconst (n := 12) (v := -1) dX6_version_11 rfl (by decide) ?_
    refine b_cmp_ne (n := 15) (tgt := 29) dX6_version_12 (by decide) rfl (fun h12 => ?_) (fun h12 => ?_)
    · refine b_aload_n (n := 16) 0 dX6_version_15 rfl rfl rfl ?_
      refine b_get (n := 19) (v := .ref (ad 0 0 0)) 0 f_X6_37 dX6_version_16 rfl hP_o300 rfl ?_
      refine b_get (n := 22) (v := .ref (ad 0 0 5)) 5 f_X6_55 dX6_version_19 rfl hP_o0 rfl ?_
      refine b_iload_n (n := 23) 1 dX6_version_22 rfl rfl rfl ?_
      refine b_iald (n := 24) 10 dX6_version_23 rfl hP_a5 (fun v23 => ?_)
      refine b_iconst (n := 25) (v := 1) dX6_version_24 rfl (by decide) ?_
      refine b_isub (n := 26) dX6_version_25 rfl ?_
      refine b_goto (n := 30) dX6_version_26 (by decide) ?_
      refine b_istore (n := 32) (L' := [(4, .int (v23 - 1)), (0, .ref (ad 30 0 0)), (1, .int x1), (2, .int x2), (3, .int x3)]) dX6_version_30 rfl (Nat.le_of_ble_eq_true rfl) rfl ?_
      refine b_iload (n := 34) 0 dX6_version_32 rfl rfl ?_
      refine b_aload_n (n := 35) 1 dX6_version_34 rfl rfl rfl ?_
      refine b_get (n := 38) (v := .ref (ad 0 0 0)) 0 f_X6_37 dX6_version_35 rfl hP_o300 rfl ?_
      refine b_get (n := 41) (v := .ref (ad 0 0 5)) 5 f_X6_55 dX6_version_38 rfl hP_o0 rfl ?_
      refine b_iload_n (n := 42) 2 dX6_version_41 rfl rfl rfl ?_
      refine b_iald (n := 43) 10 dX6_version_42 rfl hP_a5 (fun v42 => ?_)
      refine bSb (n := 46) (As := [.int (v23 - 1), .int v42]) (rest := []) lk_X6_51 (c_xs_isInside (Nat.le_refl _)) (by omega) rfl rfl (Nat.le_of_ble_eq_true rfl) dX6_version_43 rfl (fun k43 => ?_)
      refine b_bz (n := 49) (tgt := 58) dX6_version_46 (by decide) rfl (fun h46 => ?_) (fun h46 => ?_)
      · refine b_iload (n := 51) 0 dX6_version_49 rfl rfl ?_
        refine b_iconst (n := 52) (v := 4) dX6_version_51 rfl (by decide) ?_
        refine bSb (n := 55) (As := [.int (v23 - 1), .int 4]) (rest := []) lk_X6_51 (c_xs_isInside (Nat.le_refl _)) (by omega) rfl rfl (Nat.le_of_ble_eq_true rfl) dX6_version_52 rfl (fun k52 => ?_)
        refine b_bnz (n := 58) (tgt := 60) dX6_version_55 (by decide) rfl (fun h55 => ?_) (fun h55 => ?_)
        · refine b_aload_n (n := 61) 1 dX6_version_60 rfl rfl rfl ?_
          refine b_get (n := 64) (v := .ref (ad 30 0 4)) 0 f_X6_22 dX6_version_61 rfl hP_o300 rfl ?_
          refine b_iload_n (n := 65) 2 dX6_version_64 rfl rfl rfl ?_
          refine b_iconst (n := 66) (v := 4) dX6_version_65 rfl (by decide) ?_
          refine b_imul (n := 67) dX6_version_66 rfl ?_
          refine b_iload (n := 69) 0 dX6_version_67 rfl rfl ?_
          refine b_iadd (n := 70) dX6_version_69 rfl ?_
          refine b_aald (n := 71) 4 1 dX6_version_70 rfl rfl hP_r500 (fun _ => rfl) (fun j70 hj70 => ?_)
          have hj70v : j70 < 17 := by omega
          refine b_astore (n := 73) (L' := [(5, .ref (va j70 0)), (4, .int (v23 - 1)), (0, .ref (ad 30 0 0)), (1, .int x1), (2, .int x2), (3, .int x3)]) dX6_version_71 rfl (Nat.le_of_ble_eq_true rfl) rfl ?_
          refine b_iload_n (n := 74) 5 dX6_version_73 rfl rfl rfl ?_
          refine b_if (fun h74_0 => ?_) (fun h74_0 => ?_)
          · refine b_tsIn (n := 108) (w := 0) h74_0 dX6_version_74 (by decide) (by decide) rfl (by decide) ?_
            refine b_aload (n := 110) 0 dX6_version_108 rfl rfl ?_
            refine b_get (n := 113) (v := .int (vs j70 6 11)) (83 + 10 * j70) f_X6_71 dX6_version_110 rfl (hP_vo _ hj70v) rfl ?_
            exact b_iret dX6_version_113 rfl rfl
          refine b_if (fun h74_1 => ?_) (fun h74_1 => ?_)
          · refine b_tsIn (n := 114) (w := 1) h74_1 dX6_version_74 (by decide) (by decide) rfl (by decide) ?_
            refine b_aload (n := 116) 0 dX6_version_114 rfl rfl ?_
            refine b_get (n := 119) (v := .int (vs j70 6 12)) (83 + 10 * j70) f_X6_74 dX6_version_116 rfl (hP_vo _ hj70v) rfl ?_
            exact b_iret dX6_version_119 rfl rfl
          refine b_if (fun h74_2 => ?_) (fun h74_2 => ?_)
          · refine b_tsIn (n := 120) (w := 2) h74_2 dX6_version_74 (by decide) (by decide) rfl (by decide) ?_
            refine b_aload (n := 122) 0 dX6_version_120 rfl rfl ?_
            refine b_get (n := 125) (v := .int (vs j70 6 13)) (83 + 10 * j70) f_X6_77 dX6_version_122 rfl (hP_vo _ hj70v) rfl ?_
            exact b_iret dX6_version_125 rfl rfl
          refine b_if (fun h74_3 => ?_) (fun h74_3 => ?_)
          · refine b_tsIn (n := 126) (w := 3) h74_3 dX6_version_74 (by decide) (by decide) rfl (by decide) ?_
            refine b_aload (n := 128) 0 dX6_version_126 rfl rfl ?_
            refine b_get (n := 131) (v := .int (vs j70 6 14)) (83 + 10 * j70) f_X6_80 dX6_version_128 rfl (hP_vo _ hj70v) rfl ?_
            exact b_iret dX6_version_131 rfl rfl
          refine b_if (fun h74_4 => ?_) (fun h74_4 => ?_)
          · refine b_tsIn (n := 132) (w := 4) h74_4 dX6_version_74 (by decide) (by decide) rfl (by decide) ?_
            refine b_aload (n := 134) 0 dX6_version_132 rfl rfl ?_
            refine b_get (n := 137) (v := .int (vs j70 6 15)) (83 + 10 * j70) f_X6_83 dX6_version_134 rfl (hP_vo _ hj70v) rfl ?_
            exact b_iret dX6_version_137 rfl rfl
          refine b_tsOut (n := 138) dX6_version_74 (by have nh74_0 := i32_ne (k := 0) h74_0 (by decide); have nh74_1 := i32_ne (k := 1) h74_1 (by decide); have nh74_2 := i32_ne (k := 2) h74_2 (by decide); have nh74_3 := i32_ne (k := 3) h74_3 (by decide); have nh74_4 := i32_ne (k := 4) h74_4 (by decide); omega) (by decide) ?_
          refine b_iconst (n := 139) (v := -1) dX6_version_138 rfl (by decide) ?_
          exact b_iret dX6_version_139 rfl rfl
        · refine b_iconst (n := 59) (v := -1) dX6_version_58 rfl (by decide) ?_
          exact b_iret dX6_version_59 rfl rfl
      · refine b_iconst (n := 59) (v := -1) dX6_version_58 rfl (by decide) ?_
        exact b_iret dX6_version_59 rfl rfl
    · refine b_iload_n (n := 30) 2 dX6_version_29 rfl rfl rfl ?_
      refine b_istore (n := 32) (L' := [(4, .int x2), (0, .ref (ad 30 0 0)), (1, .int x1), (2, .int x2), (3, .int x3)]) dX6_version_30 rfl (Nat.le_of_ble_eq_true rfl) rfl ?_
      refine b_iload (n := 34) 0 dX6_version_32 rfl rfl ?_
      refine b_aload_n (n := 35) 1 dX6_version_34 rfl rfl rfl ?_
      refine b_get (n := 38) (v := .ref (ad 0 0 0)) 0 f_X6_37 dX6_version_35 rfl hP_o300 rfl ?_
      refine b_get (n := 41) (v := .ref (ad 0 0 5)) 5 f_X6_55 dX6_version_38 rfl hP_o0 rfl ?_
      refine b_iload_n (n := 42) 2 dX6_version_41 rfl rfl rfl ?_
      refine b_iald (n := 43) 10 dX6_version_42 rfl hP_a5 (fun v42 => ?_)
      refine bSb (n := 46) (As := [.int x2, .int v42]) (rest := []) lk_X6_51 (c_xs_isInside (Nat.le_refl _)) (by omega) rfl rfl (Nat.le_of_ble_eq_true rfl) dX6_version_43 rfl (fun k43 => ?_)
      refine b_bz (n := 49) (tgt := 58) dX6_version_46 (by decide) rfl (fun h46 => ?_) (fun h46 => ?_)
      · refine b_iload (n := 51) 0 dX6_version_49 rfl rfl ?_
        refine b_iconst (n := 52) (v := 4) dX6_version_51 rfl (by decide) ?_
        refine bSb (n := 55) (As := [.int x2, .int 4]) (rest := []) lk_X6_51 (c_xs_isInside (Nat.le_refl _)) (by omega) rfl rfl (Nat.le_of_ble_eq_true rfl) dX6_version_52 rfl (fun k52 => ?_)
        refine b_bnz (n := 58) (tgt := 60) dX6_version_55 (by decide) rfl (fun h55 => ?_) (fun h55 => ?_)
        · refine b_aload_n (n := 61) 1 dX6_version_60 rfl rfl rfl ?_
          refine b_get (n := 64) (v := .ref (ad 30 0 4)) 0 f_X6_22 dX6_version_61 rfl hP_o300 rfl ?_
          refine b_iload_n (n := 65) 2 dX6_version_64 rfl rfl rfl ?_
          refine b_iconst (n := 66) (v := 4) dX6_version_65 rfl (by decide) ?_
          refine b_imul (n := 67) dX6_version_66 rfl ?_
          refine b_iload (n := 69) 0 dX6_version_67 rfl rfl ?_
          refine b_iadd (n := 70) dX6_version_69 rfl ?_
          refine b_aald (n := 71) 4 1 dX6_version_70 rfl rfl hP_r500 (fun _ => rfl) (fun j70 hj70 => ?_)
          have hj70v : j70 < 17 := by omega
          refine b_astore (n := 73) (L' := [(5, .ref (va j70 0)), (4, .int x2), (0, .ref (ad 30 0 0)), (1, .int x1), (2, .int x2), (3, .int x3)]) dX6_version_71 rfl (Nat.le_of_ble_eq_true rfl) rfl ?_
          refine b_iload_n (n := 74) 5 dX6_version_73 rfl rfl rfl ?_
          refine b_if (fun h74_0 => ?_) (fun h74_0 => ?_)
          · refine b_tsIn (n := 108) (w := 0) h74_0 dX6_version_74 (by decide) (by decide) rfl (by decide) ?_
            refine b_aload (n := 110) 0 dX6_version_108 rfl rfl ?_
            refine b_get (n := 113) (v := .int (vs j70 6 11)) (83 + 10 * j70) f_X6_71 dX6_version_110 rfl (hP_vo _ hj70v) rfl ?_
            exact b_iret dX6_version_113 rfl rfl
          refine b_if (fun h74_1 => ?_) (fun h74_1 => ?_)
          · refine b_tsIn (n := 114) (w := 1) h74_1 dX6_version_74 (by decide) (by decide) rfl (by decide) ?_
            refine b_aload (n := 116) 0 dX6_version_114 rfl rfl ?_
            refine b_get (n := 119) (v := .int (vs j70 6 12)) (83 + 10 * j70) f_X6_74 dX6_version_116 rfl (hP_vo _ hj70v) rfl ?_
            exact b_iret dX6_version_119 rfl rfl
          refine b_if (fun h74_2 => ?_) (fun h74_2 => ?_)
          · refine b_tsIn (n := 120) (w := 2) h74_2 dX6_version_74 (by decide) (by decide) rfl (by decide) ?_
            refine b_aload (n := 122) 0 dX6_version_120 rfl rfl ?_
            refine b_get (n := 125) (v := .int (vs j70 6 13)) (83 + 10 * j70) f_X6_77 dX6_version_122 rfl (hP_vo _ hj70v) rfl ?_
            exact b_iret dX6_version_125 rfl rfl
          refine b_if (fun h74_3 => ?_) (fun h74_3 => ?_)
          · refine b_tsIn (n := 126) (w := 3) h74_3 dX6_version_74 (by decide) (by decide) rfl (by decide) ?_
            refine b_aload (n := 128) 0 dX6_version_126 rfl rfl ?_
            refine b_get (n := 131) (v := .int (vs j70 6 14)) (83 + 10 * j70) f_X6_80 dX6_version_128 rfl (hP_vo _ hj70v) rfl ?_
            exact b_iret dX6_version_131 rfl rfl
          refine b_if (fun h74_4 => ?_) (fun h74_4 => ?_)
          · refine b_tsIn (n := 132) (w := 4) h74_4 dX6_version_74 (by decide) (by decide) rfl (by decide) ?_
            refine b_aload (n := 134) 0 dX6_version_132 rfl rfl ?_
            refine b_get (n := 137) (v := .int (vs j70 6 15)) (83 + 10 * j70) f_X6_83 dX6_version_134 rfl (hP_vo _ hj70v) rfl ?_
            exact b_iret dX6_version_137 rfl rfl
          refine b_tsOut (n := 138) dX6_version_74 (by have nh74_0 := i32_ne (k := 0) h74_0 (by decide); have nh74_1 := i32_ne (k := 1) h74_1 (by decide); have nh74_2 := i32_ne (k := 2) h74_2 (by decide); have nh74_3 := i32_ne (k := 3) h74_3 (by decide); have nh74_4 := i32_ne (k := 4) h74_4 (by decide); omega) (by decide) ?_
          refine b_iconst (n := 139) (v := -1) dX6_version_138 rfl (by decide) ?_
          exact b_iret dX6_version_139 rfl rfl
        · refine b_iconst (n := 59) (v := -1) dX6_version_58 rfl (by decide) ?_
          exact b_iret dX6_version_59 rfl rfl
      · refine b_iconst (n := 59) (v := -1) dX6_version_58 rfl (by decide) ?_
        exact b_iret dX6_version_59 rfl rfl
  · refine b_iconst (n := 9) (v := -1) dX6_version_8 rfl (by decide) ?_
    exact b_iret dX6_version_9 rfl rfl
def xs_replaced (n0 : Nat) (x1 : Int32) (x2 : Int32) (c : Mem) : Option (Int32 × Mem) :=
  (xs_isInside x1 8).bind fun k3 =>
  if k3 = true then
    ((xs_isInside x1 (Int32.ofNat n0)).bind fun k12 =>
    if k12 = true then
      (if x2 < 0 then
        (some ((-2), c))
      else
        (if 99 < x2 then
          (some ((-2), c))
        else
          ((rd n0 (c 0) x1).bind fun v35 =>
          ck n0 x1 <|
          some (v35, up c 0 x1.toNatClampNeg x2))))
    else
      (some ((-1), c)))
  else
    (some ((-1), c))
set_option maxHeartbeats 400000 in
set_option maxRecDepth 100000 in
theorem c_xs_replaced {l : Launch} {E : Ev} {ad : Nat → Nat} {d : Nat}  {n0 : Nat}  {x1 : Int32} {x2 : Int32} {c : Mem} (hd : 2 ≤ d) : Ct l yX6_replaced cX6_replaced 4 (some .int) d E (hA1 E ad n0 c) [.ref (ad 0), .int x1, .int x2] (fun q : Int32 × Mem => (some (.int q.1), hA1 E ad n0 q.2)) (xs_replaced n0 x1 x2 c) := by
  refine Ct.of2 (own := RX6) (L := [(0, .ref (ad 0)), (1, .int x1), (2, .int x2)]) rfl (by decide +kernel) (Nat.le_of_ble_eq_true rfl) rfl ?_
  unfold xs_replaced
  refine b_iload_n (n := 1) 1 dX6_replaced_0 rfl rfl rfl ?_
  refine b_bipush (n := 3) (v := 8) dX6_replaced_1 rfl (by decide) ?_
  refine bSb (n := 6) (As := [.int x1, .int 8]) (rest := []) lk_X6_51 (c_xs_isInside (Nat.le_refl _)) (by omega) rfl rfl (Nat.le_of_ble_eq_true rfl) dX6_replaced_3 rfl (fun k3 => ?_)
  refine b_bz (n := 9) (tgt := 18) dX6_replaced_6 (by decide) rfl (fun h6 => ?_) (fun h6 => ?_)
  · refine b_iload_n (n := 10) 1 dX6_replaced_9 rfl rfl rfl ?_
    refine b_aload_n (n := 11) 0 dX6_replaced_10 rfl rfl rfl ?_
    refine b_alen (n := 12) (v := Int32.ofNat n0) 0 dX6_replaced_11 rfl hA1_a0 rfl ?_
    refine bSb (n := 15) (As := [.int x1, .int (Int32.ofNat n0)]) (rest := []) lk_X6_51 (c_xs_isInside (Nat.le_refl _)) (by omega) rfl rfl (Nat.le_of_ble_eq_true rfl) dX6_replaced_12 rfl (fun k12 => ?_)
    refine b_bnz (n := 18) (tgt := 20) dX6_replaced_15 (by decide) rfl (fun h15 => ?_) (fun h15 => ?_)
    · refine b_iload_n (n := 21) 2 dX6_replaced_20 rfl rfl rfl ?_
      refine b_if_lt (n := 24) (tgt := 30) dX6_replaced_21 (by decide) rfl (fun h21 => ?_) (fun h21 => ?_)
      · refine b_bipush (n := 32) (v := -2) dX6_replaced_30 rfl (by decide) ?_
        exact b_iret dX6_replaced_32 rfl rfl
      · refine b_iload_n (n := 25) 2 dX6_replaced_24 rfl rfl rfl ?_
        refine b_bipush (n := 27) (v := 99) dX6_replaced_25 rfl (by decide) ?_
        refine b_cmp_le (n := 30) (tgt := 33) dX6_replaced_27 (by decide) rfl (fun h27 => ?_) (fun h27 => ?_)
        · refine b_bipush (n := 32) (v := -2) dX6_replaced_30 rfl (by decide) ?_
          exact b_iret dX6_replaced_32 rfl rfl
        · refine b_aload_n (n := 34) 0 dX6_replaced_33 rfl rfl rfl ?_
          refine b_iload_n (n := 35) 1 dX6_replaced_34 rfl rfl rfl ?_
          refine b_iald (n := 36) 0 dX6_replaced_35 rfl hA1_a0 (fun v35 => ?_)
          refine b_istore_n (n := 37) (L' := [(3, .int v35), (0, .ref (ad 0)), (1, .int x1), (2, .int x2)]) dX6_replaced_36 rfl rfl (Nat.le_of_ble_eq_true rfl) rfl ?_
          refine b_aload_n (n := 38) 1 dX6_replaced_37 rfl rfl rfl ?_
          refine b_iload_n (n := 39) 2 dX6_replaced_38 rfl rfl rfl ?_
          refine b_iload_n (n := 40) 3 dX6_replaced_39 rfl rfl rfl ?_
          refine b_iast (n := 41) (ws' := hA1 E ad n0 (up c 0 x1.toNatClampNeg x2)) 0 dX6_replaced_40 rfl hA1_a0 hA1_s0 ?_
          refine b_iload_n (n := 42) 0 dX6_replaced_41 rfl rfl rfl ?_
          exact b_iret dX6_replaced_42 rfl rfl
    · refine b_iconst (n := 19) (v := -1) dX6_replaced_18 rfl (by decide) ?_
      exact b_iret dX6_replaced_19 rfl rfl
  · refine b_iconst (n := 19) (v := -1) dX6_replaced_18 rfl (by decide) ?_
    exact b_iret dX6_replaced_19 rfl rfl
def xe_duration  (x1 : Int32) (x2 : Int32) (e : Mem) : Option (Int32 × Mem) :=
  (xs_replaced 8 x1 x2 (fun _ => e 2)).bind fun (k12, c12) =>
  some (k12, upA e 2 (c12 0))
set_option maxHeartbeats 400000 in
set_option maxRecDepth 100000 in
theorem c_xe_duration {l : Launch} {E : Ev} {ad : Ad3} {va : Nat → Nat → Nat} {d : Nat}  {rl : Nat} {x : Mem} {tx : Nat} {tg : Nat} {r : Mem} {w : Mem} {I : Fam} {H : Fam} {pl : Nat → Nat} {vs : Fam} {x1 : Int32} {x2 : Int32} {e : Mem} (hd : 3 ≤ d) : Ct l yX6_duration cX6_duration 3 (some .int) d E (hP E ad va rl x tx tg r w e I H pl vs) [.ref (ad 30 0 0), .int x1, .int x2] (fun q : Int32 × Mem => (some (.int q.1), hP E ad va rl x tx tg r w q.2 I H pl vs)) (xe_duration x1 x2 e) := by
  refine Ct.of2 (own := RX6) (L := [(0, .ref (ad 30 0 0)), (1, .int x1), (2, .int x2)]) rfl (by decide +kernel) (Nat.le_of_ble_eq_true rfl) rfl ?_
  unfold xe_duration
  refine b_aload_n (n := 1) 0 dX6_duration_0 rfl rfl rfl ?_
  refine b_get (n := 4) (v := .ref (ad 0 0 0)) 0 f_X6_37 dX6_duration_1 rfl hP_o300 rfl ?_
  refine b_get (n := 7) (v := .ref (ad 0 0 1)) 5 f_X6_86 dX6_duration_4 rfl hP_o0 rfl ?_
  refine b_get (n := 10) (v := .ref (ad 0 0 2)) 6 f_X6_90 dX6_duration_7 rfl hP_o1 rfl ?_
  refine b_iload_n (n := 11) 1 dX6_duration_10 rfl rfl rfl ?_
  refine b_iload_n (n := 12) 2 dX6_duration_11 rfl rfl rfl ?_
  refine bSwi (n := 15) (hh := (fun s : Mem => hA1 E (fun _ => ad 0 0 2) 8 s)) (As := [.ref (ad 0 0 2), .int x1, .int x2]) (rest := []) (fun s : Mem => hP E ad va rl x tx tg r w (upA e 2 (s 0)) I H pl vs) [7] lk_X6_93 (c_xs_replaced (ad := fun _ => ad 0 0 2) (Nat.le_refl _)) (by omega) rfl (by decide) (fun _ => rfl) (fun _ => hP_A2) rfl rfl (Nat.le_of_ble_eq_true rfl) dX6_duration_12 rfl ?_
  rintro k12 c12
  try dsimp only
  exact b_iret dX6_duration_15 rfl rfl
def xe_failures  (x1 : Int32) (x2 : Int32) (e : Mem) : Option (Int32 × Mem) :=
  (xs_replaced 8 x1 x2 (fun _ => e 3)).bind fun (k12, c12) =>
  some (k12, upA e 3 (c12 0))
set_option maxHeartbeats 400000 in
set_option maxRecDepth 100000 in
theorem c_xe_failures {l : Launch} {E : Ev} {ad : Ad3} {va : Nat → Nat → Nat} {d : Nat}  {rl : Nat} {x : Mem} {tx : Nat} {tg : Nat} {r : Mem} {w : Mem} {I : Fam} {H : Fam} {pl : Nat → Nat} {vs : Fam} {x1 : Int32} {x2 : Int32} {e : Mem} (hd : 3 ≤ d) : Ct l yX6_failures cX6_failures 3 (some .int) d E (hP E ad va rl x tx tg r w e I H pl vs) [.ref (ad 30 0 0), .int x1, .int x2] (fun q : Int32 × Mem => (some (.int q.1), hP E ad va rl x tx tg r w q.2 I H pl vs)) (xe_failures x1 x2 e) := by
  refine Ct.of2 (own := RX6) (L := [(0, .ref (ad 30 0 0)), (1, .int x1), (2, .int x2)]) rfl (by decide +kernel) (Nat.le_of_ble_eq_true rfl) rfl ?_
  unfold xe_failures
  refine b_aload_n (n := 1) 0 dX6_failures_0 rfl rfl rfl ?_
  refine b_get (n := 4) (v := .ref (ad 0 0 0)) 0 f_X6_37 dX6_failures_1 rfl hP_o300 rfl ?_
  refine b_get (n := 7) (v := .ref (ad 0 0 1)) 5 f_X6_86 dX6_failures_4 rfl hP_o0 rfl ?_
  refine b_get (n := 10) (v := .ref (ad 0 0 3)) 6 f_X6_97 dX6_failures_7 rfl hP_o1 rfl ?_
  refine b_iload_n (n := 11) 1 dX6_failures_10 rfl rfl rfl ?_
  refine b_iload_n (n := 12) 2 dX6_failures_11 rfl rfl rfl ?_
  refine bSwi (n := 15) (hh := (fun s : Mem => hA1 E (fun _ => ad 0 0 3) 8 s)) (As := [.ref (ad 0 0 3), .int x1, .int x2]) (rest := []) (fun s : Mem => hP E ad va rl x tx tg r w (upA e 3 (s 0)) I H pl vs) [8] lk_X6_93 (c_xs_replaced (ad := fun _ => ad 0 0 3) (Nat.le_refl _)) (by omega) rfl (by decide) (fun _ => rfl) (fun _ => hP_A3) rfl rfl (Nat.le_of_ble_eq_true rfl) dX6_failures_12 rfl ?_
  rintro k12 c12
  try dsimp only
  exact b_iret dX6_failures_15 rfl rfl
def xe_start (N : Nat) (D : Nat) (rl : Nat) (vs : Fam) (w : Mem) (x1 : Int32) (e : Mem) (I : Fam) (H : Fam) (pl : Nat → Nat) : Option (Int32 × Mem × Fam × Fam × (Nat → Nat)) :=
  (xs_isInside x1 4).bind fun k2 =>
  if k2 = true then
    ((rd 4 (w 5) x1).bind fun v18 =>
    (xs_isInside (v18 - 1) 4).bind fun k24 =>
    if k24 = true then
      ((wo_lowestFree N I).bind fun k37 =>
      (xs_isInside k37 6).bind fun k44 =>
      if k44 = true then
        ((rx 6 k37).bind fun j61 =>
        (rx 16 ((x1 * 4) + (v18 - 1))).bind fun j71 =>
        (in_begin N D rl (vs j71) (I j61) (H j61) e).bind fun (o72, h72, e72) =>
        some (k37, e72, upF I j61 o72, upF H j61 h72, upN pl j61 j71))
      else
        (some ((-4), e, I, H, pl)))
    else
      (some ((-3), e, I, H, pl)))
  else
    (some ((-1), e, I, H, pl))
set_option maxHeartbeats 400000 in
set_option maxRecDepth 100000 in
theorem c_xe_start {l : Launch} {E : Ev} {ad : Ad3} {va : Nat → Nat → Nat} {d : Nat} {N : Nat} {D : Nat} {rl : Nat} {x : Mem} {tx : Nat} {tg : Nat} {r : Mem} {w : Mem} {vs : Fam} {x1 : Int32} {e : Mem} {I : Fam} {H : Fam} {pl : Nat → Nat} (hd : 3 * D + 11 ≤ d) : Ct l yX6_start cX6_start 4 (some .int) d E (hP E ad va rl x tx tg r w e I H pl vs) [.ref (ad 30 0 0), .int x1] (fun q : Int32 × Mem × Fam × Fam × (Nat → Nat) => (some (.int q.1), hP E ad va rl x tx tg r w q.2.1 q.2.2.1 q.2.2.2.1 q.2.2.2.2 vs)) (xe_start N D rl vs w x1 e I H pl) := by
  refine Ct.of2 (own := RX6) (L := [(0, .ref (ad 30 0 0)), (1, .int x1)]) rfl (by decide +kernel) (Nat.le_of_ble_eq_true rfl) rfl ?_
  unfold xe_start
  refine b_iload_n (n := 1) 1 dX6_start_0 rfl rfl rfl ?_
  refine b_iconst (n := 2) (v := 4) dX6_start_1 rfl (by decide) ?_
  refine bSb (n := 5) (As := [.int x1, .int 4]) (rest := []) lk_X6_51 (c_xs_isInside (Nat.le_refl _)) (by omega) rfl rfl (Nat.le_of_ble_eq_true rfl) dX6_start_2 rfl (fun k2 => ?_)
  refine b_bnz (n := 8) (tgt := 10) dX6_start_5 (by decide) rfl (fun h5 => ?_) (fun h5 => ?_)
  · refine b_aload_n (n := 11) 0 dX6_start_10 rfl rfl rfl ?_
    refine b_get (n := 14) (v := .ref (ad 0 0 0)) 0 f_X6_37 dX6_start_11 rfl hP_o300 rfl ?_
    refine b_get (n := 17) (v := .ref (ad 0 0 5)) 5 f_X6_55 dX6_start_14 rfl hP_o0 rfl ?_
    refine b_iload_n (n := 18) 1 dX6_start_17 rfl rfl rfl ?_
    refine b_iald (n := 19) 10 dX6_start_18 rfl hP_a5 (fun v18 => ?_)
    refine b_iconst (n := 20) (v := 1) dX6_start_19 rfl (by decide) ?_
    refine b_isub (n := 21) dX6_start_20 rfl ?_
    refine b_istore_n (n := 22) (L' := [(2, .int (v18 - 1)), (0, .ref (ad 30 0 0)), (1, .int x1)]) dX6_start_21 rfl rfl (Nat.le_of_ble_eq_true rfl) rfl ?_
    refine b_iload_n (n := 23) 0 dX6_start_22 rfl rfl rfl ?_
    refine b_iconst (n := 24) (v := 4) dX6_start_23 rfl (by decide) ?_
    refine bSb (n := 27) (As := [.int (v18 - 1), .int 4]) (rest := []) lk_X6_51 (c_xs_isInside (Nat.le_refl _)) (by omega) rfl rfl (Nat.le_of_ble_eq_true rfl) dX6_start_24 rfl (fun k24 => ?_)
    refine b_bnz (n := 30) (tgt := 33) dX6_start_27 (by decide) rfl (fun h27 => ?_) (fun h27 => ?_)
    · refine b_aload_n (n := 34) 1 dX6_start_33 rfl rfl rfl ?_
      refine b_get (n := 37) (v := .ref (ad 0 0 0)) 0 f_X6_37 dX6_start_34 rfl hP_o300 rfl ?_
      refine bVi (n := 40) (As := []) (rest := []) 5 ((List.range (hWV E ad va rl w e I H pl vs).length).map (5 + ·)) lk_X6_100 (c_wo_lowestFree (Nat.le_refl _)) (by omega) hP_tail tailN hP_o0 rfl rfl rfl (Nat.le_of_ble_eq_true rfl) dX6_start_37 rfl (fun k37 => ?_)
      refine b_istore_n (n := 41) (L' := [(3, .int k37), (2, .int (v18 - 1)), (0, .ref (ad 30 0 0)), (1, .int x1)]) dX6_start_40 rfl rfl (Nat.le_of_ble_eq_true rfl) rfl ?_
      refine b_iload_n (n := 42) 0 dX6_start_41 rfl rfl rfl ?_
      refine b_bipush (n := 44) (v := 6) dX6_start_42 rfl (by decide) ?_
      refine bSb (n := 47) (As := [.int k37, .int 6]) (rest := []) lk_X6_51 (c_xs_isInside (Nat.le_refl _)) (by omega) rfl rfl (Nat.le_of_ble_eq_true rfl) dX6_start_44 rfl (fun k44 => ?_)
      refine b_bnz (n := 50) (tgt := 53) dX6_start_47 (by decide) rfl (fun h47 => ?_) (fun h47 => ?_)
      · refine b_aload_n (n := 54) 2 dX6_start_53 rfl rfl rfl ?_
        refine b_get (n := 57) (v := .ref (ad 0 0 0)) 0 f_X6_37 dX6_start_54 rfl hP_o300 rfl ?_
        refine b_get (n := 60) (v := .ref (ad 0 0 4)) 5 f_X6_104 dX6_start_57 rfl hP_o0 rfl ?_
        refine b_iload_n (n := 61) 0 dX6_start_60 rfl rfl rfl ?_
        refine b_aald (n := 62) 9 2 dX6_start_61 rfl rfl hP_r4 (fun _ => rfl) (fun j61 hj61 => ?_)
        refine b_aload_n (n := 63) 2 dX6_start_62 rfl rfl rfl ?_
        refine b_get (n := 66) (v := .ref (ad 30 0 4)) 0 f_X6_22 dX6_start_63 rfl hP_o300 rfl ?_
        refine b_iload_n (n := 67) 3 dX6_start_66 rfl rfl rfl ?_
        refine b_iconst (n := 68) (v := 4) dX6_start_67 rfl (by decide) ?_
        refine b_imul (n := 69) dX6_start_68 rfl ?_
        refine b_iload_n (n := 70) 1 dX6_start_69 rfl rfl rfl ?_
        refine b_iadd (n := 71) dX6_start_70 rfl ?_
        refine b_aald (n := 72) 4 1 dX6_start_71 rfl rfl hP_r500 (fun _ => rfl) (fun j71 hj71 => ?_)
        have hj71v : j71 < 17 := by omega
        refine bVwv (n := 75) (hh := (fun s : Mem × Mem × Mem => hIB E (adI ad va j61 j71) rl s.1 s.2.1 s.2.2 ((vs j71)) (va j71 0))) (As := [.ref (adI ad va j61 j71 6)]) (rest := []) (fun s : Mem × Mem × Mem => hP E ad va rl x tx tg r w s.2.2 (upF I j61 s.1) (upF H j61 s.2.1) (upN pl j61 j71) vs) (11 + 12 * j61) ((plA j61 ++ plB j71).map (5 + ·)) lk_X6_108 (c_in_begin (ad := adI ad va j61 j71) (Nat.le_refl _)) (by omega) (hP_subB hj61 hj71v) (plNo hj61) (fun _ => rfl) (fun _ => hP_patchB hj61 hj71v) (hP_io _ hj61) rfl rfl rfl (Nat.le_of_ble_eq_true rfl) dX6_start_72 rfl ?_
        rintro ⟨o72, h72, e72⟩
        try dsimp only
        refine b_iload_n (n := 76) 0 dX6_start_75 rfl rfl rfl ?_
        exact b_iret dX6_start_76 rfl rfl
      · refine b_bipush (n := 52) (v := -4) dX6_start_50 rfl (by decide) ?_
        exact b_iret dX6_start_52 rfl rfl
    · refine b_bipush (n := 32) (v := -3) dX6_start_30 rfl (by decide) ?_
      exact b_iret dX6_start_32 rfl rfl
  · refine b_iconst (n := 9) (v := -1) dX6_start_8 rfl (by decide) ?_
    exact b_iret dX6_start_9 rfl rfl
def xe_find (I : Fam) (x1 : Int32)  : Option (Option Nat) :=
  (xs_isInside x1 6).bind fun k3 =>
  if k3 = true then
    ((rx 6 x1).bind fun j19 =>
    if I j19 0 3 = (-1) then
      (some none)
    else
      (some (some j19)))
  else
    (some none)
set_option maxHeartbeats 400000 in
set_option maxRecDepth 100000 in
theorem c_xe_find {l : Launch} {E : Ev} {ad : Ad3} {va : Nat → Nat → Nat} {d : Nat}  {rl : Nat} {x : Mem} {tx : Nat} {tg : Nat} {r : Mem} {w : Mem} {e : Mem} {I : Fam} {H : Fam} {pl : Nat → Nat} {vs : Fam} {x1 : Int32}  (hd : 2 ≤ d) : Ct l yX6_find cX6_find 3 (some (.object "WorkflowEngine$Instance")) d E (hP E ad va rl x tx tg r w e I H pl vs) [.ref (ad 30 0 0), .int x1] (fun r9 : Option Nat => (some (va_rf (r9.map (fun j => ad 10 j 0))), hP E ad va rl x tx tg r w e I H pl vs)) (xe_find I x1) := by
  refine Ct.of2 (own := RX6) (L := [(0, .ref (ad 30 0 0)), (1, .int x1)]) rfl (by decide +kernel) (Nat.le_of_ble_eq_true rfl) rfl ?_
  unfold xe_find
  refine b_iload_n (n := 1) 1 dX6_find_0 rfl rfl rfl ?_
  refine b_bipush (n := 3) (v := 6) dX6_find_1 rfl (by decide) ?_
  refine bSb (n := 6) (As := [.int x1, .int 6]) (rest := []) lk_X6_51 (c_xs_isInside (Nat.le_refl _)) (by omega) rfl rfl (Nat.le_of_ble_eq_true rfl) dX6_find_3 rfl (fun k3 => ?_)
  refine b_bnz (n := 9) (tgt := 11) dX6_find_6 (by decide) rfl (fun h6 => ?_) (fun h6 => ?_)
  · refine b_aload_n (n := 12) 0 dX6_find_11 rfl rfl rfl ?_
    refine b_get (n := 15) (v := .ref (ad 0 0 0)) 0 f_X6_37 dX6_find_12 rfl hP_o300 rfl ?_
    refine b_get (n := 18) (v := .ref (ad 0 0 4)) 5 f_X6_104 dX6_find_15 rfl hP_o0 rfl ?_
    refine b_iload_n (n := 19) 1 dX6_find_18 rfl rfl rfl ?_
    refine b_aald (n := 20) 9 2 dX6_find_19 rfl rfl hP_r4 (fun _ => rfl) (fun j19 hj19 => ?_)
    refine b_astore_n (n := 21) (L' := [(2, .ref (ad 10 j19 0)), (0, .ref (ad 30 0 0)), (1, .int x1)]) dX6_find_20 rfl rfl (Nat.le_of_ble_eq_true rfl) rfl ?_
    refine b_aload_n (n := 22) 0 dX6_find_21 rfl rfl rfl ?_
    refine b_get (n := 25) (v := .int (I j19 0 3)) (11 + 12 * j19) f_X6_118 dX6_find_22 rfl (hP_io _ hj19) rfl ?_
    refine b_iconst (n := 26) (v := -1) dX6_find_25 rfl (by decide) ?_
    refine b_cmp_ne (n := 29) (tgt := 33) dX6_find_26 (by decide) rfl (fun h26 => ?_) (fun h26 => ?_)
    · refine b_null (n := 30) dX6_find_29 rfl ?_
      refine b_goto (n := 34) dX6_find_30 (by decide) ?_
      exact b_aret (v := .null) dX6_find_34 rfl (Or.inl ⟨_, rfl⟩) (Or.inl rfl) rfl
    · refine b_aload_n (n := 34) 0 dX6_find_33 rfl rfl rfl ?_
      exact b_aret (v := .ref (ad 10 j19 0)) dX6_find_34 rfl (Or.inl ⟨_, rfl⟩) (Or.inr ⟨_, rfl⟩) rfl
  · refine b_null (n := 10) dX6_find_9 rfl ?_
    exact b_aret (v := .null) dX6_find_10 rfl (Or.inl ⟨_, rfl⟩) (Or.inl rfl) rfl
def xe_signal  (x1 : Int32) (x2 : Int32) (I : Fam) : Option (Int32 × Fam) :=
  (xe_find I x1).bind fun r2 => match r2 with
  | none =>
    (some ((-1), I))
  | some j2 => gd (j2 < 6) <|
    (xs_isInside x2 8).bind fun k13 =>
    if k13 = true then
      (if I j2 0 3 = 0 then
        ((rd 8 (I j2 17) x2).bind fun v36 =>
        if v36 < 9 then
          ((rd 8 (I j2 17) x2).bind fun v51 =>
          ck 8 x2 <|
          (rd 8 ((upF I j2 (up (I j2) 17 x2.toNatClampNeg (v51 + 1))) j2 17) x2).bind fun v60 =>
          some (v60, upF I j2 (up (I j2) 17 x2.toNatClampNeg (v51 + 1))))
        else
          (some ((-4), I)))
      else
        (some ((-3), I)))
    else
      (some ((-1), I))
set_option maxHeartbeats 400000 in
set_option maxRecDepth 100000 in
theorem c_xe_signal {l : Launch} {E : Ev} {ad : Ad3} {va : Nat → Nat → Nat} {d : Nat}  {rl : Nat} {x : Mem} {tx : Nat} {tg : Nat} {r : Mem} {w : Mem} {e : Mem} {H : Fam} {pl : Nat → Nat} {vs : Fam} {x1 : Int32} {x2 : Int32} {I : Fam} (hd : 3 ≤ d) : Ct l yX6_signal cX6_signal 4 (some .int) d E (hP E ad va rl x tx tg r w e I H pl vs) [.ref (ad 30 0 0), .int x1, .int x2] (fun q : Int32 × Fam => (some (.int q.1), hP E ad va rl x tx tg r w e q.2 H pl vs)) (xe_signal x1 x2 I) := by
  refine Ct.of2 (own := RX6) (L := [(0, .ref (ad 30 0 0)), (1, .int x1), (2, .int x2)]) rfl (by decide +kernel) (Nat.le_of_ble_eq_true rfl) rfl ?_
  unfold xe_signal
  refine b_aload_n (n := 1) 0 dX6_signal_0 rfl rfl rfl ?_
  refine b_iload_n (n := 2) 1 dX6_signal_1 rfl rfl rfl ?_
  refine bVf (n := 5) (As := [.int x1]) (rest := []) 0 lk_X6_114 (c_xe_find (Nat.le_refl _)) (by omega) hP_o300 rfl rfl rfl (Nat.le_of_ble_eq_true rfl) dX6_signal_2 rfl ?_ (fun j2 => ?_)
  · dsimp only
    refine b_astore_nN (n := 6) (L' := [(3, .null), (0, .ref (ad 30 0 0)), (1, .int x1), (2, .int x2)]) dX6_signal_5 rfl rfl (Nat.le_of_ble_eq_true rfl) rfl ?_
    refine b_aload_nN (n := 7) 0 dX6_signal_6 rfl rfl rfl ?_
    refine b_ifnullN (n := 19) dX6_signal_7 (by decide) ?_
    refine b_iconst (n := 20) (v := -1) dX6_signal_19 rfl (by decide) ?_
    exact b_iret dX6_signal_20 rfl rfl
  · dsimp only
    refine b_gd (fun hj2 => ?_)
    refine b_astore_n (n := 6) (L' := [(3, .ref (ad 10 j2 0)), (0, .ref (ad 30 0 0)), (1, .int x1), (2, .int x2)]) dX6_signal_5 rfl rfl (Nat.le_of_ble_eq_true rfl) rfl ?_
    refine b_aload_n (n := 7) 0 dX6_signal_6 rfl rfl rfl ?_
    refine b_ifnull (n := 10) dX6_signal_7 rfl ?_
    refine b_iload_n (n := 11) 3 dX6_signal_10 rfl rfl rfl ?_
    refine b_bipush (n := 13) (v := 8) dX6_signal_11 rfl (by decide) ?_
    refine bSb (n := 16) (As := [.int x2, .int 8]) (rest := []) lk_X6_51 (c_xs_isInside (Nat.le_refl _)) (by omega) rfl rfl (Nat.le_of_ble_eq_true rfl) dX6_signal_13 rfl (fun k13 => ?_)
    refine b_bnz (n := 19) (tgt := 21) dX6_signal_16 (by decide) rfl (fun h16 => ?_) (fun h16 => ?_)
    · refine b_aload_n (n := 22) 0 dX6_signal_21 rfl rfl rfl ?_
      refine b_get (n := 25) (v := .int (I j2 0 3)) (11 + 12 * j2) f_X6_118 dX6_signal_22 rfl (hP_io _ hj2) rfl ?_
      refine b_if_eq (n := 28) (tgt := 31) dX6_signal_25 (by decide) rfl (fun h25 => ?_) (fun h25 => ?_)
      · refine b_aload_n (n := 32) 0 dX6_signal_31 rfl rfl rfl ?_
        refine b_get (n := 35) (v := .ref (ad 10 j2 2)) (11 + 12 * j2) f_X6_121 dX6_signal_32 rfl (hP_io _ hj2) rfl ?_
        refine b_iload_n (n := 36) 3 dX6_signal_35 rfl rfl rfl ?_
        refine b_iald (n := 37) (11 + 12 * j2 + 2) dX6_signal_36 rfl (hP_ip _ hj2) (fun v36 => ?_)
        refine b_bipush (n := 39) (v := 9) dX6_signal_37 rfl (by decide) ?_
        refine b_cmp_lt (n := 42) (tgt := 45) dX6_signal_39 (by decide) rfl (fun h39 => ?_) (fun h39 => ?_)
        · refine b_aload_n (n := 46) 0 dX6_signal_45 rfl rfl rfl ?_
          refine b_get (n := 49) (v := .ref (ad 10 j2 2)) (11 + 12 * j2) f_X6_121 dX6_signal_46 rfl (hP_io _ hj2) rfl ?_
          refine b_iload_n (n := 50) 3 dX6_signal_49 rfl rfl rfl ?_
          refine b_dup2 (n := 51) dX6_signal_50 rfl rfl rfl ?_
          refine b_iald (n := 52) (11 + 12 * j2 + 2) dX6_signal_51 rfl (hP_ip _ hj2) (fun v51 => ?_)
          refine b_iconst (n := 53) (v := 1) dX6_signal_52 rfl (by decide) ?_
          refine b_iadd (n := 54) dX6_signal_53 rfl ?_
          refine b_iast (n := 55) (ws' := hP E ad va rl x tx tg r w e (upF I j2 (up (I j2) 17 x2.toNatClampNeg (v51 + 1))) H pl vs) (11 + 12 * j2 + 2) dX6_signal_54 rfl (hP_ip _ hj2) (hP_sp _ hj2) ?_
          refine b_aload_n (n := 56) 0 dX6_signal_55 rfl rfl rfl ?_
          refine b_get (n := 59) (v := .ref (ad 10 j2 2)) (11 + 12 * j2) f_X6_121 dX6_signal_56 rfl (hP_io _ hj2) rfl ?_
          refine b_iload_n (n := 60) 3 dX6_signal_59 rfl rfl rfl ?_
          refine b_iald (n := 61) (11 + 12 * j2 + 2) dX6_signal_60 rfl (hP_ip _ hj2) (fun v60 => ?_)
          exact b_iret dX6_signal_61 rfl rfl
        · refine b_bipush (n := 44) (v := -4) dX6_signal_42 rfl (by decide) ?_
          exact b_iret dX6_signal_44 rfl rfl
      · refine b_bipush (n := 30) (v := -3) dX6_signal_28 rfl (by decide) ?_
        exact b_iret dX6_signal_30 rfl rfl
    · refine b_iconst (n := 20) (v := -1) dX6_signal_19 rfl (by decide) ?_
      exact b_iret dX6_signal_20 rfl rfl
def xe_abort (N : Nat) (D : Nat) (rl : Nat) (pl : Nat → Nat) (vs : Fam) (x1 : Int32) (e : Mem) (I : Fam) (H : Fam) : Option (Int32 × Mem × Fam × Fam) :=
  (xe_find I x1).bind fun r2 => match r2 with
  | none =>
    (some ((-1), e, I, H))
  | some j2 => gd (j2 < 6) <|
    if I j2 0 3 = 0 then
      (gd (pl j2 < 17) <|
      (in_giveUp N D rl (vs (pl j2)) (I j2) (H j2) e).bind fun (o23, h23, e23) =>
      some ((upF I j2 o23) j2 0 3, e23, upF I j2 o23, upF H j2 h23))
    else
      (some ((-3), e, I, H))
set_option maxHeartbeats 400000 in
set_option maxRecDepth 100000 in
theorem c_xe_abort {l : Launch} {E : Ev} {ad : Ad3} {va : Nat → Nat → Nat} {d : Nat} {N : Nat} {D : Nat} {rl : Nat} {x : Mem} {tx : Nat} {tg : Nat} {r : Mem} {w : Mem} {pl : Nat → Nat} {vs : Fam} {x1 : Int32} {e : Mem} {I : Fam} {H : Fam} (hd : 3 * D + 11 ≤ d) : Ct l yX6_abort cX6_abort 3 (some .int) d E (hP E ad va rl x tx tg r w e I H pl vs) [.ref (ad 30 0 0), .int x1] (fun q : Int32 × Mem × Fam × Fam => (some (.int q.1), hP E ad va rl x tx tg r w q.2.1 q.2.2.1 q.2.2.2 pl vs)) (xe_abort N D rl pl vs x1 e I H) := by
  refine Ct.of2 (own := RX6) (L := [(0, .ref (ad 30 0 0)), (1, .int x1)]) rfl (by decide +kernel) (Nat.le_of_ble_eq_true rfl) rfl ?_
  unfold xe_abort
  refine b_aload_n (n := 1) 0 dX6_abort_0 rfl rfl rfl ?_
  refine b_iload_n (n := 2) 1 dX6_abort_1 rfl rfl rfl ?_
  refine bVf (n := 5) (As := [.int x1]) (rest := []) 0 lk_X6_114 (c_xe_find (Nat.le_refl _)) (by omega) hP_o300 rfl rfl rfl (Nat.le_of_ble_eq_true rfl) dX6_abort_2 rfl ?_ (fun j2 => ?_)
  · dsimp only
    refine b_astore_nN (n := 6) (L' := [(2, .null), (0, .ref (ad 30 0 0)), (1, .int x1)]) dX6_abort_5 rfl rfl (Nat.le_of_ble_eq_true rfl) rfl ?_
    refine b_aload_nN (n := 7) 0 dX6_abort_6 rfl rfl rfl ?_
    refine b_ifnonnullN (n := 10) dX6_abort_7 rfl ?_
    refine b_iconst (n := 11) (v := -1) dX6_abort_10 rfl (by decide) ?_
    exact b_iret dX6_abort_11 rfl rfl
  · dsimp only
    refine b_gd (fun hj2 => ?_)
    refine b_astore_n (n := 6) (L' := [(2, .ref (ad 10 j2 0)), (0, .ref (ad 30 0 0)), (1, .int x1)]) dX6_abort_5 rfl rfl (Nat.le_of_ble_eq_true rfl) rfl ?_
    refine b_aload_n (n := 7) 0 dX6_abort_6 rfl rfl rfl ?_
    refine b_ifnonnull (n := 12) dX6_abort_7 (by decide) ?_
    refine b_aload_n (n := 13) 0 dX6_abort_12 rfl rfl rfl ?_
    refine b_get (n := 16) (v := .int (I j2 0 3)) (11 + 12 * j2) f_X6_118 dX6_abort_13 rfl (hP_io _ hj2) rfl ?_
    refine b_if_eq (n := 19) (tgt := 22) dX6_abort_16 (by decide) rfl (fun h16 => ?_) (fun h16 => ?_)
    · refine b_aload_n (n := 23) 0 dX6_abort_22 rfl rfl rfl ?_
      refine b_gd (fun h23 => ?_)
      refine bVwv (n := 26) (hh := (fun s : Mem × Mem × Mem => hI E (adI ad va j2 (pl j2)) rl s.1 s.2.1 s.2.2 ((vs (pl j2))))) (As := []) (rest := []) (fun s : Mem × Mem × Mem => hP E ad va rl x tx tg r w s.2.2 (upF I j2 s.1) (upF H j2 s.2.1) pl vs) (11 + 12 * j2) ((plA j2 ++ plB (pl j2)).map (5 + ·)) lk_X6_124 (c_in_giveUp (ad := adI ad va j2 (pl j2)) (Nat.le_refl _)) (by omega) (hP_sub hj2 h23) (plNo hj2) (fun _ => rfl) (fun _ => hP_patch hj2 h23) (hP_io _ hj2) rfl rfl rfl (Nat.le_of_ble_eq_true rfl) dX6_abort_23 rfl ?_
      rintro ⟨o23, h23, e23⟩
      try dsimp only
      refine b_aload_n (n := 27) 0 dX6_abort_26 rfl rfl rfl ?_
      refine b_get (n := 30) (v := .int ((upF I j2 o23) j2 0 3)) (11 + 12 * j2) f_X6_118 dX6_abort_27 rfl (hP_io _ hj2) rfl ?_
      exact b_iret dX6_abort_30 rfl rfl
    · refine b_bipush (n := 21) (v := -3) dX6_abort_19 rfl (by decide) ?_
      exact b_iret dX6_abort_21 rfl rfl
def xe_remove (pl : Nat → Nat) (x1 : Int32) (I : Fam) : Option (Int32 × Fam) :=
  (xe_find I x1).bind fun r2 => match r2 with
  | none =>
    (some ((-1), I))
  | some j2 => gd (j2 < 6) <|
    gd (pl j2 < 17) <|
    (in_hasEnded (I j2)).bind fun k13 =>
    if k13 = true then
      (some (I j2 0 3, upF I j2 (up (I j2) 0 3 ((-1)))))
    else
      (some ((-3), I))
set_option maxHeartbeats 400000 in
set_option maxRecDepth 100000 in
theorem c_xe_remove {l : Launch} {E : Ev} {ad : Ad3} {va : Nat → Nat → Nat} {d : Nat}  {rl : Nat} {x : Mem} {tx : Nat} {tg : Nat} {r : Mem} {w : Mem} {e : Mem} {H : Fam} {pl : Nat → Nat} {vs : Fam} {x1 : Int32} {I : Fam} (hd : 3 ≤ d) : Ct l yX6_remove cX6_remove 4 (some .int) d E (hP E ad va rl x tx tg r w e I H pl vs) [.ref (ad 30 0 0), .int x1] (fun q : Int32 × Fam => (some (.int q.1), hP E ad va rl x tx tg r w e q.2 H pl vs)) (xe_remove pl x1 I) := by
  refine Ct.of2 (own := RX6) (L := [(0, .ref (ad 30 0 0)), (1, .int x1)]) rfl (by decide +kernel) (Nat.le_of_ble_eq_true rfl) rfl ?_
  unfold xe_remove
  refine b_aload_n (n := 1) 0 dX6_remove_0 rfl rfl rfl ?_
  refine b_iload_n (n := 2) 1 dX6_remove_1 rfl rfl rfl ?_
  refine bVf (n := 5) (As := [.int x1]) (rest := []) 0 lk_X6_114 (c_xe_find (Nat.le_refl _)) (by omega) hP_o300 rfl rfl rfl (Nat.le_of_ble_eq_true rfl) dX6_remove_2 rfl ?_ (fun j2 => ?_)
  · dsimp only
    refine b_astore_nN (n := 6) (L' := [(2, .null), (0, .ref (ad 30 0 0)), (1, .int x1)]) dX6_remove_5 rfl rfl (Nat.le_of_ble_eq_true rfl) rfl ?_
    refine b_aload_nN (n := 7) 0 dX6_remove_6 rfl rfl rfl ?_
    refine b_ifnonnullN (n := 10) dX6_remove_7 rfl ?_
    refine b_iconst (n := 11) (v := -1) dX6_remove_10 rfl (by decide) ?_
    exact b_iret dX6_remove_11 rfl rfl
  · dsimp only
    refine b_gd (fun hj2 => ?_)
    refine b_astore_n (n := 6) (L' := [(2, .ref (ad 10 j2 0)), (0, .ref (ad 30 0 0)), (1, .int x1)]) dX6_remove_5 rfl rfl (Nat.le_of_ble_eq_true rfl) rfl ?_
    refine b_aload_n (n := 7) 0 dX6_remove_6 rfl rfl rfl ?_
    refine b_ifnonnull (n := 12) dX6_remove_7 (by decide) ?_
    refine b_aload_n (n := 13) 0 dX6_remove_12 rfl rfl rfl ?_
    refine b_gd (fun h13 => ?_)
    refine bVb (n := 16) (As := []) (rest := []) (11 + 12 * j2) ((plA j2 ++ plB (pl j2)).map (5 + ·)) lk_X6_127 (c_in_hasEnded (ad := adI ad va j2 (pl j2)) (Nat.le_refl _)) (by omega) (hP_sub hj2 h13) (plNo hj2) (hP_io _ hj2) rfl rfl rfl (Nat.le_of_ble_eq_true rfl) dX6_remove_13 rfl (fun k13 => ?_)
    refine b_bnz (n := 19) (tgt := 22) dX6_remove_16 (by decide) rfl (fun h16 => ?_) (fun h16 => ?_)
    · refine b_aload_n (n := 23) 0 dX6_remove_22 rfl rfl rfl ?_
      refine b_get (n := 26) (v := .int (I j2 0 3)) (11 + 12 * j2) f_X6_118 dX6_remove_23 rfl (hP_io _ hj2) rfl ?_
      refine b_istore_n (n := 27) (L' := [(3, .int (I j2 0 3)), (2, .ref (ad 10 j2 0)), (0, .ref (ad 30 0 0)), (1, .int x1)]) dX6_remove_26 rfl rfl (Nat.le_of_ble_eq_true rfl) rfl ?_
      refine b_aload_n (n := 28) 1 dX6_remove_27 rfl rfl rfl ?_
      refine b_iconst (n := 29) (v := -1) dX6_remove_28 rfl (by decide) ?_
      refine b_put (n := 32) (ws' := hP E ad va rl x tx tg r w e (upF I j2 (up (I j2) 0 3 ((-1)))) H pl vs) (11 + 12 * j2) fp_X6_118 dX6_remove_29 rfl (hP_io _ hj2) rfl rfl (Nat.le_of_ble_eq_true rfl) (hP_pi _ hj2) ?_
      refine b_iload_n (n := 33) 0 dX6_remove_32 rfl rfl rfl ?_
      exact b_iret dX6_remove_33 rfl rfl
    · refine b_bipush (n := 21) (v := -3) dX6_remove_19 rfl (by decide) ?_
      exact b_iret dX6_remove_21 rfl rfl
def xe_pass (N : Nat) (D : Nat) (rl : Nat) (pl : Nat → Nat) (vs : Fam) (x1 : Int32) (e : Mem) (I : Fam) (H : Fam) : Option (Int32 × Mem × Fam × Fam) :=
  if x1 < 1 then
    (some ((-2), e, I, H))
  else
    (if 200 < x1 then
      (some ((-2), e, I, H))
    else
      (if 99999 < (e 1 2) + x1 then
        (some ((-4), e, I, H))
      else
        ((wo_letPass N D rl pl vs x1 e I H).bind fun (e40, I40, H40) =>
        some (e40 1 2, e40, I40, H40))))
set_option maxHeartbeats 400000 in
set_option maxRecDepth 100000 in
theorem c_xe_pass {l : Launch} {E : Ev} {ad : Ad3} {va : Nat → Nat → Nat} {d : Nat} {N : Nat} {D : Nat} {rl : Nat} {x : Mem} {tx : Nat} {tg : Nat} {r : Mem} {w : Mem} {pl : Nat → Nat} {vs : Fam} {x1 : Int32} {e : Mem} {I : Fam} {H : Fam} (hd : 3 * D + 11 ≤ d) : Ct l yX6_pass cX6_pass 2 (some .int) d E (hP E ad va rl x tx tg r w e I H pl vs) [.ref (ad 30 0 0), .int x1] (fun q : Int32 × Mem × Fam × Fam => (some (.int q.1), hP E ad va rl x tx tg r w q.2.1 q.2.2.1 q.2.2.2 pl vs)) (xe_pass N D rl pl vs x1 e I H) := by
  refine Ct.of2 (own := RX6) (L := [(0, .ref (ad 30 0 0)), (1, .int x1)]) rfl (by decide +kernel) (Nat.le_of_ble_eq_true rfl) rfl ?_
  unfold xe_pass
  refine b_iload_n (n := 1) 1 dX6_pass_0 rfl rfl rfl ?_
  refine b_iconst (n := 2) (v := 1) dX6_pass_1 rfl (by decide) ?_
  refine b_cmp_lt (n := 5) (tgt := 12) dX6_pass_2 (by decide) rfl (fun h2 => ?_) (fun h2 => ?_)
  · refine b_bipush (n := 14) (v := -2) dX6_pass_12 rfl (by decide) ?_
    exact b_iret dX6_pass_14 rfl rfl
  · refine b_iload_n (n := 6) 1 dX6_pass_5 rfl rfl rfl ?_
    refine b_sipush (n := 9) (v := 200) dX6_pass_6 rfl (by decide) ?_
    refine b_cmp_le (n := 12) (tgt := 15) dX6_pass_9 (by decide) rfl (fun h9 => ?_) (fun h9 => ?_)
    · refine b_bipush (n := 14) (v := -2) dX6_pass_12 rfl (by decide) ?_
      exact b_iret dX6_pass_14 rfl rfl
    · refine b_aload_n (n := 16) 0 dX6_pass_15 rfl rfl rfl ?_
      refine b_get (n := 19) (v := .ref (ad 0 0 0)) 0 f_X6_37 dX6_pass_16 rfl hP_o300 rfl ?_
      refine b_get (n := 22) (v := .ref (ad 0 0 1)) 5 f_X6_86 dX6_pass_19 rfl hP_o0 rfl ?_
      refine b_get (n := 25) (v := .int (e 1 2)) 6 f_X6_131 dX6_pass_22 rfl hP_o1 rfl ?_
      refine b_iload_n (n := 26) 1 dX6_pass_25 rfl rfl rfl ?_
      refine b_iadd (n := 27) dX6_pass_26 rfl ?_
      refine b_ldc (n := 29) (v := 99999) k_X6_134 dX6_pass_27 rfl ?_
      refine b_cmp_le (n := 32) (tgt := 35) dX6_pass_29 (by decide) rfl (fun h29 => ?_) (fun h29 => ?_)
      · refine b_bipush (n := 34) (v := -4) dX6_pass_32 rfl (by decide) ?_
        exact b_iret dX6_pass_34 rfl rfl
      · refine b_aload_n (n := 36) 0 dX6_pass_35 rfl rfl rfl ?_
        refine b_get (n := 39) (v := .ref (ad 0 0 0)) 0 f_X6_37 dX6_pass_36 rfl hP_o300 rfl ?_
        refine b_iload_n (n := 40) 1 dX6_pass_39 rfl rfl rfl ?_
        refine bVwv (n := 43) (hh := (fun s : Mem × Fam × Fam => hWV E ad va rl w s.1 s.2.1 s.2.2 pl vs)) (As := [.int x1]) (rest := []) (fun s : Mem × Fam × Fam => hP E ad va rl x tx tg r w s.1 s.2.1 s.2.2 pl vs) 5 ((List.range (hWV E ad va rl w e I H pl vs).length).map (5 + ·)) lk_X6_135 (c_wo_letPass (Nat.le_refl _)) (by omega) hP_tail tailN (fun _ => rfl) (fun _ => hP_tailP) hP_o0 rfl rfl rfl (Nat.le_of_ble_eq_true rfl) dX6_pass_40 rfl ?_
        rintro ⟨e40, I40, H40⟩
        try dsimp only
        refine b_aload_n (n := 44) 0 dX6_pass_43 rfl rfl rfl ?_
        refine b_get (n := 47) (v := .ref (ad 0 0 0)) 0 f_X6_37 dX6_pass_44 rfl hP_o300 rfl ?_
        refine b_get (n := 50) (v := .ref (ad 0 0 1)) 5 f_X6_86 dX6_pass_47 rfl hP_o0 rfl ?_
        refine b_get (n := 53) (v := .int (e40 1 2)) 6 f_X6_131 dX6_pass_50 rfl hP_o1 rfl ?_
        exact b_iret dX6_pass_53 rfl rfl
def xe_instance (pl : Nat → Nat) (vs : Fam) (I : Fam) (H : Fam) (x1 : Int32) (x2 : Int32)  : Option (Int32) :=
  (xe_find I x1).bind fun r2 => match r2 with
  | none =>
    (some ((-1)))
  | some j2 => gd (j2 < 6) <|
    (xs_isInside (x2 - 10) 4).bind fun k17 =>
    if k17 = true then
      ((rd 4 (I j2 16) (x2 - 10)).bind fun v31 =>
      some v31)
    else
      ((xs_isInside (x2 - 20) 8).bind fun k39 =>
      if k39 = true then
        ((rd 8 (I j2 17) (x2 - 20)).bind fun v53 =>
        some v53)
      else
        (if x2 = 0 then
          (some (I j2 0 3))
        else if x2 = 1 then
          (gd (pl j2 < 17) <|
          some (vs (pl j2) 6 0))
        else if x2 = 2 then
          (gd (pl j2 < 17) <|
          some (vs (pl j2) 6 1))
        else if x2 = 3 then
          (some (I j2 0 4))
        else if x2 = 4 then
          (some (I j2 0 5))
        else if x2 = 5 then
          (some (I j2 0 6))
        else if x2 = 6 then
          (some (I j2 0 7))
        else if x2 = 7 then
          (some (I j2 0 8))
        else if x2 = 8 then
          (some (H j2 4 2))
        else 
          (some ((-1)))))
set_option maxHeartbeats 400000 in
set_option maxRecDepth 100000 in
theorem c_xe_instance {l : Launch} {E : Ev} {ad : Ad3} {va : Nat → Nat → Nat} {d : Nat}  {rl : Nat} {x : Mem} {tx : Nat} {tg : Nat} {r : Mem} {w : Mem} {e : Mem} {I : Fam} {H : Fam} {pl : Nat → Nat} {vs : Fam} {x1 : Int32} {x2 : Int32}  (hd : 3 ≤ d) : Ct l yX6_instance cX6_instance 4 (some .int) d E (hP E ad va rl x tx tg r w e I H pl vs) [.ref (ad 30 0 0), .int x1, .int x2] (fun v : Int32 => (some (.int v), hP E ad va rl x tx tg r w e I H pl vs)) (xe_instance pl vs I H x1 x2) := by
  refine Ct.of2 (own := RX6) (L := [(0, .ref (ad 30 0 0)), (1, .int x1), (2, .int x2)]) rfl (by decide +kernel) (Nat.le_of_ble_eq_true rfl) rfl ?_
  unfold xe_instance
  refine b_aload_n (n := 1) 0 dX6_instance_0 rfl rfl rfl ?_
  refine b_iload_n (n := 2) 1 dX6_instance_1 rfl rfl rfl ?_
  refine bVf (n := 5) (As := [.int x1]) (rest := []) 0 lk_X6_114 (c_xe_find (Nat.le_refl _)) (by omega) hP_o300 rfl rfl rfl (Nat.le_of_ble_eq_true rfl) dX6_instance_2 rfl ?_ (fun j2 => ?_)
  · dsimp only
    refine b_astore_nN (n := 6) (L' := [(3, .null), (0, .ref (ad 30 0 0)), (1, .int x1), (2, .int x2)]) dX6_instance_5 rfl rfl (Nat.le_of_ble_eq_true rfl) rfl ?_
    refine b_aload_nN (n := 7) 0 dX6_instance_6 rfl rfl rfl ?_
    refine b_ifnonnullN (n := 10) dX6_instance_7 rfl ?_
    refine b_iconst (n := 11) (v := -1) dX6_instance_10 rfl (by decide) ?_
    exact b_iret dX6_instance_11 rfl rfl
  · dsimp only
    refine b_gd (fun hj2 => ?_)
    refine b_astore_n (n := 6) (L' := [(3, .ref (ad 10 j2 0)), (0, .ref (ad 30 0 0)), (1, .int x1), (2, .int x2)]) dX6_instance_5 rfl rfl (Nat.le_of_ble_eq_true rfl) rfl ?_
    refine b_aload_n (n := 7) 0 dX6_instance_6 rfl rfl rfl ?_
    refine b_ifnonnull (n := 12) dX6_instance_7 (by decide) ?_
    refine b_iload_n (n := 13) 3 dX6_instance_12 rfl rfl rfl ?_
    refine b_bipush (n := 15) (v := 10) dX6_instance_13 rfl (by decide) ?_
    refine b_isub (n := 16) dX6_instance_15 rfl ?_
    refine b_iconst (n := 17) (v := 4) dX6_instance_16 rfl (by decide) ?_
    refine bSb (n := 20) (As := [.int (x2 - 10), .int 4]) (rest := []) lk_X6_51 (c_xs_isInside (Nat.le_refl _)) (by omega) rfl rfl (Nat.le_of_ble_eq_true rfl) dX6_instance_17 rfl (fun k17 => ?_)
    refine b_bz (n := 23) (tgt := 33) dX6_instance_20 (by decide) rfl (fun h20 => ?_) (fun h20 => ?_)
    · refine b_aload_n (n := 24) 0 dX6_instance_23 rfl rfl rfl ?_
      refine b_get (n := 27) (v := .ref (ad 10 j2 1)) (11 + 12 * j2) f_X6_139 dX6_instance_24 rfl (hP_io _ hj2) rfl ?_
      refine b_iload_n (n := 28) 3 dX6_instance_27 rfl rfl rfl ?_
      refine b_bipush (n := 30) (v := 10) dX6_instance_28 rfl (by decide) ?_
      refine b_isub (n := 31) dX6_instance_30 rfl ?_
      refine b_iald (n := 32) (11 + 12 * j2 + 1) dX6_instance_31 rfl (hP_iv _ hj2) (fun v31 => ?_)
      exact b_iret dX6_instance_32 rfl rfl
    · refine b_iload_n (n := 34) 3 dX6_instance_33 rfl rfl rfl ?_
      refine b_bipush (n := 36) (v := 20) dX6_instance_34 rfl (by decide) ?_
      refine b_isub (n := 37) dX6_instance_36 rfl ?_
      refine b_bipush (n := 39) (v := 8) dX6_instance_37 rfl (by decide) ?_
      refine bSb (n := 42) (As := [.int (x2 - 20), .int 8]) (rest := []) lk_X6_51 (c_xs_isInside (Nat.le_refl _)) (by omega) rfl rfl (Nat.le_of_ble_eq_true rfl) dX6_instance_39 rfl (fun k39 => ?_)
      refine b_bz (n := 45) (tgt := 55) dX6_instance_42 (by decide) rfl (fun h42 => ?_) (fun h42 => ?_)
      · refine b_aload_n (n := 46) 0 dX6_instance_45 rfl rfl rfl ?_
        refine b_get (n := 49) (v := .ref (ad 10 j2 2)) (11 + 12 * j2) f_X6_121 dX6_instance_46 rfl (hP_io _ hj2) rfl ?_
        refine b_iload_n (n := 50) 3 dX6_instance_49 rfl rfl rfl ?_
        refine b_bipush (n := 52) (v := 20) dX6_instance_50 rfl (by decide) ?_
        refine b_isub (n := 53) dX6_instance_52 rfl ?_
        refine b_iald (n := 54) (11 + 12 * j2 + 2) dX6_instance_53 rfl (hP_ip _ hj2) (fun v53 => ?_)
        exact b_iret dX6_instance_54 rfl rfl
      · refine b_iload_n (n := 56) 3 dX6_instance_55 rfl rfl rfl ?_
        refine b_if (fun h56_0 => ?_) (fun h56_0 => ?_)
        · refine b_tsIn (n := 108) (w := 0) h56_0 dX6_instance_56 (by decide) (by decide) rfl (by decide) ?_
          refine b_aload_n (n := 109) 0 dX6_instance_108 rfl rfl rfl ?_
          refine b_get (n := 112) (v := .int (I j2 0 3)) (11 + 12 * j2) f_X6_118 dX6_instance_109 rfl (hP_io _ hj2) rfl ?_
          exact b_iret dX6_instance_112 rfl rfl
        refine b_if (fun h56_1 => ?_) (fun h56_1 => ?_)
        · refine b_tsIn (n := 113) (w := 1) h56_1 dX6_instance_56 (by decide) (by decide) rfl (by decide) ?_
          refine b_aload_n (n := 114) 0 dX6_instance_113 rfl rfl rfl ?_
          refine b_gd (fun h114 => ?_)
          refine b_get (n := 117) (v := .ref (va (pl j2) 0)) (11 + 12 * j2) f_X6_142 dX6_instance_114 rfl (hP_io _ hj2) rfl ?_
          refine b_get (n := 120) (v := .int (vs (pl j2) 6 0)) (83 + 10 * (pl j2)) f_X6_146 dX6_instance_117 rfl (hP_vo _ h114) rfl ?_
          exact b_iret dX6_instance_120 rfl rfl
        refine b_if (fun h56_2 => ?_) (fun h56_2 => ?_)
        · refine b_tsIn (n := 121) (w := 2) h56_2 dX6_instance_56 (by decide) (by decide) rfl (by decide) ?_
          refine b_aload_n (n := 122) 0 dX6_instance_121 rfl rfl rfl ?_
          refine b_gd (fun h122 => ?_)
          refine b_get (n := 125) (v := .ref (va (pl j2) 0)) (11 + 12 * j2) f_X6_142 dX6_instance_122 rfl (hP_io _ hj2) rfl ?_
          refine b_get (n := 128) (v := .int (vs (pl j2) 6 1)) (83 + 10 * (pl j2)) f_X6_149 dX6_instance_125 rfl (hP_vo _ h122) rfl ?_
          exact b_iret dX6_instance_128 rfl rfl
        refine b_if (fun h56_3 => ?_) (fun h56_3 => ?_)
        · refine b_tsIn (n := 129) (w := 3) h56_3 dX6_instance_56 (by decide) (by decide) rfl (by decide) ?_
          refine b_aload_n (n := 130) 0 dX6_instance_129 rfl rfl rfl ?_
          refine b_get (n := 133) (v := .int (I j2 0 4)) (11 + 12 * j2) f_X6_152 dX6_instance_130 rfl (hP_io _ hj2) rfl ?_
          exact b_iret dX6_instance_133 rfl rfl
        refine b_if (fun h56_4 => ?_) (fun h56_4 => ?_)
        · refine b_tsIn (n := 134) (w := 4) h56_4 dX6_instance_56 (by decide) (by decide) rfl (by decide) ?_
          refine b_aload_n (n := 135) 0 dX6_instance_134 rfl rfl rfl ?_
          refine b_get (n := 138) (v := .int (I j2 0 5)) (11 + 12 * j2) f_X6_155 dX6_instance_135 rfl (hP_io _ hj2) rfl ?_
          exact b_iret dX6_instance_138 rfl rfl
        refine b_if (fun h56_5 => ?_) (fun h56_5 => ?_)
        · refine b_tsIn (n := 139) (w := 5) h56_5 dX6_instance_56 (by decide) (by decide) rfl (by decide) ?_
          refine b_aload_n (n := 140) 0 dX6_instance_139 rfl rfl rfl ?_
          refine b_get (n := 143) (v := .int (I j2 0 6)) (11 + 12 * j2) f_X6_158 dX6_instance_140 rfl (hP_io _ hj2) rfl ?_
          exact b_iret dX6_instance_143 rfl rfl
        refine b_if (fun h56_6 => ?_) (fun h56_6 => ?_)
        · refine b_tsIn (n := 144) (w := 6) h56_6 dX6_instance_56 (by decide) (by decide) rfl (by decide) ?_
          refine b_aload_n (n := 145) 0 dX6_instance_144 rfl rfl rfl ?_
          refine b_get (n := 148) (v := .int (I j2 0 7)) (11 + 12 * j2) f_X6_161 dX6_instance_145 rfl (hP_io _ hj2) rfl ?_
          exact b_iret dX6_instance_148 rfl rfl
        refine b_if (fun h56_7 => ?_) (fun h56_7 => ?_)
        · refine b_tsIn (n := 149) (w := 7) h56_7 dX6_instance_56 (by decide) (by decide) rfl (by decide) ?_
          refine b_aload_n (n := 150) 0 dX6_instance_149 rfl rfl rfl ?_
          refine b_get (n := 153) (v := .int (I j2 0 8)) (11 + 12 * j2) f_X6_164 dX6_instance_150 rfl (hP_io _ hj2) rfl ?_
          exact b_iret dX6_instance_153 rfl rfl
        refine b_if (fun h56_8 => ?_) (fun h56_8 => ?_)
        · refine b_tsIn (n := 154) (w := 8) h56_8 dX6_instance_56 (by decide) (by decide) rfl (by decide) ?_
          refine b_aload_n (n := 155) 0 dX6_instance_154 rfl rfl rfl ?_
          refine b_get (n := 158) (v := .ref (ad 10 j2 10)) (11 + 12 * j2) f_X6_167 dX6_instance_155 rfl (hP_io _ hj2) rfl ?_
          refine b_get (n := 161) (v := .int (H j2 4 2)) (11 + 12 * j2 + 10) f_X6_171 dX6_instance_158 rfl (hP_ih _ hj2) rfl ?_
          exact b_iret dX6_instance_161 rfl rfl
        refine b_tsOut (n := 162) dX6_instance_56 (by have nh56_0 := i32_ne (k := 0) h56_0 (by decide); have nh56_1 := i32_ne (k := 1) h56_1 (by decide); have nh56_2 := i32_ne (k := 2) h56_2 (by decide); have nh56_3 := i32_ne (k := 3) h56_3 (by decide); have nh56_4 := i32_ne (k := 4) h56_4 (by decide); have nh56_5 := i32_ne (k := 5) h56_5 (by decide); have nh56_6 := i32_ne (k := 6) h56_6 (by decide); have nh56_7 := i32_ne (k := 7) h56_7 (by decide); have nh56_8 := i32_ne (k := 8) h56_8 (by decide); omega) (by decide) ?_
        refine b_iconst (n := 163) (v := -1) dX6_instance_162 rfl (by decide) ?_
        exact b_iret dX6_instance_163 rfl rfl
def xe_entry (rl : Nat) (I : Fam) (H : Fam) (x1 : Int32) (x2 : Int32) (x3 : Int32)  : Option (Int32) :=
  (xe_find I x1).bind fun r2 => match r2 with
  | none =>
    (some ((-1)))
  | some j2 => gd (j2 < 6) <|
    (hi_kept rl (H j2)).bind fun k18 =>
    (xs_isInside x2 k18).bind fun k21 =>
    if k21 = true then
      (if x3 = 0 then
        ((hi_minuteOf rl (H j2) x2).bind fun k62 =>
        some k62)
      else if x3 = 1 then
        ((hi_kindOf rl (H j2) x2).bind fun k72 =>
        some k72)
      else if x3 = 2 then
        ((hi_valueOf rl (H j2) x2).bind fun k82 =>
        some k82)
      else 
        (some ((-1))))
    else
      (some ((-1)))
set_option maxHeartbeats 400000 in
set_option maxRecDepth 100000 in
theorem c_xe_entry {l : Launch} {E : Ev} {ad : Ad3} {va : Nat → Nat → Nat} {d : Nat}  {rl : Nat} {x : Mem} {tx : Nat} {tg : Nat} {r : Mem} {w : Mem} {e : Mem} {I : Fam} {H : Fam} {pl : Nat → Nat} {vs : Fam} {x1 : Int32} {x2 : Int32} {x3 : Int32}  (hd : 3 ≤ d) : Ct l yX6_entry cX6_entry 5 (some .int) d E (hP E ad va rl x tx tg r w e I H pl vs) [.ref (ad 30 0 0), .int x1, .int x2, .int x3] (fun v : Int32 => (some (.int v), hP E ad va rl x tx tg r w e I H pl vs)) (xe_entry rl I H x1 x2 x3) := by
  refine Ct.of2 (own := RX6) (L := [(0, .ref (ad 30 0 0)), (1, .int x1), (2, .int x2), (3, .int x3)]) rfl (by decide +kernel) (Nat.le_of_ble_eq_true rfl) rfl ?_
  unfold xe_entry
  refine b_aload_n (n := 1) 0 dX6_entry_0 rfl rfl rfl ?_
  refine b_iload_n (n := 2) 1 dX6_entry_1 rfl rfl rfl ?_
  refine bVf (n := 5) (As := [.int x1]) (rest := []) 0 lk_X6_114 (c_xe_find (Nat.le_refl _)) (by omega) hP_o300 rfl rfl rfl (Nat.le_of_ble_eq_true rfl) dX6_entry_2 rfl ?_ (fun j2 => ?_)
  · dsimp only
    refine b_astoreN (n := 7) (L' := [(4, .null), (0, .ref (ad 30 0 0)), (1, .int x1), (2, .int x2), (3, .int x3)]) dX6_entry_5 rfl (Nat.le_of_ble_eq_true rfl) rfl ?_
    refine b_aloadN (n := 9) 0 dX6_entry_7 rfl rfl ?_
    refine b_ifnullN (n := 27) dX6_entry_9 (by decide) ?_
    refine b_iconst (n := 28) (v := -1) dX6_entry_27 rfl (by decide) ?_
    exact b_iret dX6_entry_28 rfl rfl
  · dsimp only
    refine b_gd (fun hj2 => ?_)
    refine b_astore (n := 7) (L' := [(4, .ref (ad 10 j2 0)), (0, .ref (ad 30 0 0)), (1, .int x1), (2, .int x2), (3, .int x3)]) dX6_entry_5 rfl (Nat.le_of_ble_eq_true rfl) rfl ?_
    refine b_aload (n := 9) 0 dX6_entry_7 rfl rfl ?_
    refine b_ifnull (n := 12) dX6_entry_9 rfl ?_
    refine b_iload_n (n := 13) 3 dX6_entry_12 rfl rfl rfl ?_
    refine b_aload (n := 15) 0 dX6_entry_13 rfl rfl ?_
    refine b_get (n := 18) (v := .ref (ad 10 j2 10)) (11 + 12 * j2) f_X6_167 dX6_entry_15 rfl (hP_io _ hj2) rfl ?_
    refine bVi (n := 21) (As := []) (rest := [.int x2]) (11 + 12 * j2 + 10) ((plH j2).map (5 + ·)) lk_X6_176 (c_hi_kept (ad := adI ad va j2 0) (Nat.le_refl _)) (by omega) (hP_subH _ hj2) (plHN hj2) (hP_ih _ hj2) rfl rfl rfl (Nat.le_of_ble_eq_true rfl) dX6_entry_18 rfl (fun k18 => ?_)
    refine bSb (n := 24) (As := [.int x2, .int k18]) (rest := []) lk_X6_51 (c_xs_isInside (Nat.le_refl _)) (by omega) rfl rfl (Nat.le_of_ble_eq_true rfl) dX6_entry_21 rfl (fun k21 => ?_)
    refine b_bnz (n := 27) (tgt := 29) dX6_entry_24 (by decide) rfl (fun h24 => ?_) (fun h24 => ?_)
    · refine b_iload_n (n := 30) 4 dX6_entry_29 rfl rfl rfl ?_
      refine b_if (fun h30_0 => ?_) (fun h30_0 => ?_)
      · refine b_tsIn (n := 56) (w := 0) h30_0 dX6_entry_30 (by decide) (by decide) rfl (by decide) ?_
        refine b_aload (n := 58) 0 dX6_entry_56 rfl rfl ?_
        refine b_get (n := 61) (v := .ref (ad 10 j2 10)) (11 + 12 * j2) f_X6_167 dX6_entry_58 rfl (hP_io _ hj2) rfl ?_
        refine b_iload_n (n := 62) 3 dX6_entry_61 rfl rfl rfl ?_
        refine bVi (n := 65) (As := [.int x2]) (rest := []) (11 + 12 * j2 + 10) ((plH j2).map (5 + ·)) lk_X6_179 (c_hi_minuteOf (ad := adI ad va j2 0) (Nat.le_refl _)) (by omega) (hP_subH _ hj2) (plHN hj2) (hP_ih _ hj2) rfl rfl rfl (Nat.le_of_ble_eq_true rfl) dX6_entry_62 rfl (fun k62 => ?_)
        exact b_iret dX6_entry_65 rfl rfl
      refine b_if (fun h30_1 => ?_) (fun h30_1 => ?_)
      · refine b_tsIn (n := 66) (w := 1) h30_1 dX6_entry_30 (by decide) (by decide) rfl (by decide) ?_
        refine b_aload (n := 68) 0 dX6_entry_66 rfl rfl ?_
        refine b_get (n := 71) (v := .ref (ad 10 j2 10)) (11 + 12 * j2) f_X6_167 dX6_entry_68 rfl (hP_io _ hj2) rfl ?_
        refine b_iload_n (n := 72) 3 dX6_entry_71 rfl rfl rfl ?_
        refine bVi (n := 75) (As := [.int x2]) (rest := []) (11 + 12 * j2 + 10) ((plH j2).map (5 + ·)) lk_X6_183 (c_hi_kindOf (ad := adI ad va j2 0) (Nat.le_refl _)) (by omega) (hP_subH _ hj2) (plHN hj2) (hP_ih _ hj2) rfl rfl rfl (Nat.le_of_ble_eq_true rfl) dX6_entry_72 rfl (fun k72 => ?_)
        exact b_iret dX6_entry_75 rfl rfl
      refine b_if (fun h30_2 => ?_) (fun h30_2 => ?_)
      · refine b_tsIn (n := 76) (w := 2) h30_2 dX6_entry_30 (by decide) (by decide) rfl (by decide) ?_
        refine b_aload (n := 78) 0 dX6_entry_76 rfl rfl ?_
        refine b_get (n := 81) (v := .ref (ad 10 j2 10)) (11 + 12 * j2) f_X6_167 dX6_entry_78 rfl (hP_io _ hj2) rfl ?_
        refine b_iload_n (n := 82) 3 dX6_entry_81 rfl rfl rfl ?_
        refine bVi (n := 85) (As := [.int x2]) (rest := []) (11 + 12 * j2 + 10) ((plH j2).map (5 + ·)) lk_X6_186 (c_hi_valueOf (ad := adI ad va j2 0) (Nat.le_refl _)) (by omega) (hP_subH _ hj2) (plHN hj2) (hP_ih _ hj2) rfl rfl rfl (Nat.le_of_ble_eq_true rfl) dX6_entry_82 rfl (fun k82 => ?_)
        exact b_iret dX6_entry_85 rfl rfl
      refine b_tsOut (n := 86) dX6_entry_30 (by have nh30_0 := i32_ne (k := 0) h30_0 (by decide); have nh30_1 := i32_ne (k := 1) h30_1 (by decide); have nh30_2 := i32_ne (k := 2) h30_2 (by decide); omega) (by decide) ?_
      refine b_iconst (n := 87) (v := -1) dX6_entry_86 rfl (by decide) ?_
      exact b_iret dX6_entry_87 rfl rfl
    · refine b_iconst (n := 28) (v := -1) dX6_entry_27 rfl (by decide) ?_
      exact b_iret dX6_entry_28 rfl rfl
def xe_running (N : Nat) (pl : Nat → Nat) (vs : Fam) (I : Fam) (x1 : Int32) (x2 : Int32)  : Option (Int32) :=
  (xe_find I x1).bind fun r2 => match r2 with
  | none =>
    (some ((-1)))
  | some j2 => gd (j2 < 6) <|
    if x2 = (-1) then
      (gd (pl j2 < 17) <|
      (in_runningItems N (vs (pl j2)) (I j2)).bind fun k18 =>
      some k18)
    else
      (gd (pl j2 < 17) <|
      (in_placeOfRunning N (vs (pl j2)) (I j2) x2).bind fun k26 =>
      some k26)
set_option maxHeartbeats 400000 in
set_option maxRecDepth 100000 in
theorem c_xe_running {l : Launch} {E : Ev} {ad : Ad3} {va : Nat → Nat → Nat} {d : Nat} {N : Nat} {rl : Nat} {x : Mem} {tx : Nat} {tg : Nat} {r : Mem} {w : Mem} {e : Mem} {I : Fam} {H : Fam} {pl : Nat → Nat} {vs : Fam} {x1 : Int32} {x2 : Int32}  (hd : 4 ≤ d) : Ct l yX6_running cX6_running 4 (some .int) d E (hP E ad va rl x tx tg r w e I H pl vs) [.ref (ad 30 0 0), .int x1, .int x2] (fun v : Int32 => (some (.int v), hP E ad va rl x tx tg r w e I H pl vs)) (xe_running N pl vs I x1 x2) := by
  refine Ct.of2 (own := RX6) (L := [(0, .ref (ad 30 0 0)), (1, .int x1), (2, .int x2)]) rfl (by decide +kernel) (Nat.le_of_ble_eq_true rfl) rfl ?_
  unfold xe_running
  refine b_aload_n (n := 1) 0 dX6_running_0 rfl rfl rfl ?_
  refine b_iload_n (n := 2) 1 dX6_running_1 rfl rfl rfl ?_
  refine bVf (n := 5) (As := [.int x1]) (rest := []) 0 lk_X6_114 (c_xe_find (Nat.le_refl _)) (by omega) hP_o300 rfl rfl rfl (Nat.le_of_ble_eq_true rfl) dX6_running_2 rfl ?_ (fun j2 => ?_)
  · dsimp only
    refine b_astore_nN (n := 6) (L' := [(3, .null), (0, .ref (ad 30 0 0)), (1, .int x1), (2, .int x2)]) dX6_running_5 rfl rfl (Nat.le_of_ble_eq_true rfl) rfl ?_
    refine b_aload_nN (n := 7) 0 dX6_running_6 rfl rfl rfl ?_
    refine b_ifnonnullN (n := 10) dX6_running_7 rfl ?_
    refine b_iconst (n := 11) (v := -1) dX6_running_10 rfl (by decide) ?_
    exact b_iret dX6_running_11 rfl rfl
  · dsimp only
    refine b_gd (fun hj2 => ?_)
    refine b_astore_n (n := 6) (L' := [(3, .ref (ad 10 j2 0)), (0, .ref (ad 30 0 0)), (1, .int x1), (2, .int x2)]) dX6_running_5 rfl rfl (Nat.le_of_ble_eq_true rfl) rfl ?_
    refine b_aload_n (n := 7) 0 dX6_running_6 rfl rfl rfl ?_
    refine b_ifnonnull (n := 12) dX6_running_7 (by decide) ?_
    refine b_iload_n (n := 13) 3 dX6_running_12 rfl rfl rfl ?_
    refine b_iconst (n := 14) (v := -1) dX6_running_13 rfl (by decide) ?_
    refine b_cmp_ne (n := 17) (tgt := 24) dX6_running_14 (by decide) rfl (fun h14 => ?_) (fun h14 => ?_)
    · refine b_aload_n (n := 18) 0 dX6_running_17 rfl rfl rfl ?_
      refine b_gd (fun h18 => ?_)
      refine bVi (n := 21) (As := []) (rest := []) (11 + 12 * j2) ((plA j2 ++ plB (pl j2)).map (5 + ·)) lk_X6_189 (c_in_runningItems (ad := adI ad va j2 (pl j2)) (Nat.le_refl _)) (by omega) (hP_sub hj2 h18) (plNo hj2) (hP_io _ hj2) rfl rfl rfl (Nat.le_of_ble_eq_true rfl) dX6_running_18 rfl (fun k18 => ?_)
      refine b_goto (n := 29) dX6_running_21 (by decide) ?_
      exact b_iret dX6_running_29 rfl rfl
    · refine b_aload_n (n := 25) 0 dX6_running_24 rfl rfl rfl ?_
      refine b_iload_n (n := 26) 3 dX6_running_25 rfl rfl rfl ?_
      refine b_gd (fun h26 => ?_)
      refine bVi (n := 29) (As := [.int x2]) (rest := []) (11 + 12 * j2) ((plA j2 ++ plB (pl j2)).map (5 + ·)) lk_X6_192 (c_in_placeOfRunning (ad := adI ad va j2 (pl j2)) (Nat.le_refl _)) (by omega) (hP_sub hj2 h26) (plNo hj2) (hP_io _ hj2) rfl rfl rfl (Nat.le_of_ble_eq_true rfl) dX6_running_26 rfl (fun k26 => ?_)
      exact b_iret dX6_running_29 rfl rfl
def xe_due (N : Nat) (pl : Nat → Nat) (I : Fam) (x1 : Int32)  : Option (Int32) :=
  (xe_find I x1).bind fun r2 => match r2 with
  | none =>
    (some ((-1)))
  | some j2 => gd (j2 < 6) <|
    gd (pl j2 < 17) <|
    (in_nextMinute N (I j2)).bind fun k13 =>
    some k13
set_option maxHeartbeats 400000 in
set_option maxRecDepth 100000 in
theorem c_xe_due {l : Launch} {E : Ev} {ad : Ad3} {va : Nat → Nat → Nat} {d : Nat} {N : Nat} {rl : Nat} {x : Mem} {tx : Nat} {tg : Nat} {r : Mem} {w : Mem} {e : Mem} {I : Fam} {H : Fam} {pl : Nat → Nat} {vs : Fam} {x1 : Int32}  (hd : 3 ≤ d) : Ct l yX6_due cX6_due 3 (some .int) d E (hP E ad va rl x tx tg r w e I H pl vs) [.ref (ad 30 0 0), .int x1] (fun v : Int32 => (some (.int v), hP E ad va rl x tx tg r w e I H pl vs)) (xe_due N pl I x1) := by
  refine Ct.of2 (own := RX6) (L := [(0, .ref (ad 30 0 0)), (1, .int x1)]) rfl (by decide +kernel) (Nat.le_of_ble_eq_true rfl) rfl ?_
  unfold xe_due
  refine b_aload_n (n := 1) 0 dX6_due_0 rfl rfl rfl ?_
  refine b_iload_n (n := 2) 1 dX6_due_1 rfl rfl rfl ?_
  refine bVf (n := 5) (As := [.int x1]) (rest := []) 0 lk_X6_114 (c_xe_find (Nat.le_refl _)) (by omega) hP_o300 rfl rfl rfl (Nat.le_of_ble_eq_true rfl) dX6_due_2 rfl ?_ (fun j2 => ?_)
  · dsimp only
    refine b_astore_nN (n := 6) (L' := [(2, .null), (0, .ref (ad 30 0 0)), (1, .int x1)]) dX6_due_5 rfl rfl (Nat.le_of_ble_eq_true rfl) rfl ?_
    refine b_aload_nN (n := 7) 0 dX6_due_6 rfl rfl rfl ?_
    refine b_ifnonnullN (n := 10) dX6_due_7 rfl ?_
    refine b_iconst (n := 11) (v := -1) dX6_due_10 rfl (by decide) ?_
    exact b_iret dX6_due_11 rfl rfl
  · dsimp only
    refine b_gd (fun hj2 => ?_)
    refine b_astore_n (n := 6) (L' := [(2, .ref (ad 10 j2 0)), (0, .ref (ad 30 0 0)), (1, .int x1)]) dX6_due_5 rfl rfl (Nat.le_of_ble_eq_true rfl) rfl ?_
    refine b_aload_n (n := 7) 0 dX6_due_6 rfl rfl rfl ?_
    refine b_ifnonnull (n := 12) dX6_due_7 (by decide) ?_
    refine b_aload_n (n := 13) 0 dX6_due_12 rfl rfl rfl ?_
    refine b_gd (fun h13 => ?_)
    refine bVi (n := 16) (As := []) (rest := []) (11 + 12 * j2) ((plA j2 ++ plB (pl j2)).map (5 + ·)) lk_X6_195 (c_in_nextMinute (ad := adI ad va j2 (pl j2)) (Nat.le_refl _)) (by omega) (hP_sub hj2 h13) (plNo hj2) (hP_io _ hj2) rfl rfl rfl (Nat.le_of_ble_eq_true rfl) dX6_due_13 rfl (fun k13 => ?_)
    exact b_iret dX6_due_16 rfl rfl
def xe_replayed (N : Nat) (rl : Nat) (I : Fam) (H : Fam) (x1 : Int32) (x2 : Int32)  : Option (Int32) :=
  (xe_find I x1).bind fun r2 => match r2 with
  | none =>
    (some ((-1)))
  | some j2 => gd (j2 < 6) <|
    if x2 = 0 then
      ((hi_lastStatus N rl (H j2)).bind fun k56 =>
      some k56)
    else if x2 = 1 then
      ((hi_entriesOf N rl (H j2) 2).bind fun k65 =>
      some k65)
    else if x2 = 2 then
      ((hi_entriesOf N rl (H j2) 6).bind fun k75 =>
      some k75)
    else if x2 = 3 then
      ((hi_entriesOf N rl (H j2) 7).bind fun k85 =>
      some k85)
    else if x2 = 4 then
      ((hi_attempts N rl (H j2)).bind fun k93 =>
      some k93)
    else if x2 = 5 then
      ((hi_entriesOf N rl (H j2) 1).bind fun k102 =>
      some k102)
    else 
      (some ((-1)))
set_option maxHeartbeats 400000 in
set_option maxRecDepth 100000 in
theorem c_xe_replayed {l : Launch} {E : Ev} {ad : Ad3} {va : Nat → Nat → Nat} {d : Nat} {N : Nat} {rl : Nat} {x : Mem} {tx : Nat} {tg : Nat} {r : Mem} {w : Mem} {e : Mem} {I : Fam} {H : Fam} {pl : Nat → Nat} {vs : Fam} {x1 : Int32} {x2 : Int32}  (hd : 5 ≤ d) : Ct l yX6_replayed cX6_replayed 4 (some .int) d E (hP E ad va rl x tx tg r w e I H pl vs) [.ref (ad 30 0 0), .int x1, .int x2] (fun v : Int32 => (some (.int v), hP E ad va rl x tx tg r w e I H pl vs)) (xe_replayed N rl I H x1 x2) := by
  refine Ct.of2 (own := RX6) (L := [(0, .ref (ad 30 0 0)), (1, .int x1), (2, .int x2)]) rfl (by decide +kernel) (Nat.le_of_ble_eq_true rfl) rfl ?_
  unfold xe_replayed
  refine b_aload_n (n := 1) 0 dX6_replayed_0 rfl rfl rfl ?_
  refine b_iload_n (n := 2) 1 dX6_replayed_1 rfl rfl rfl ?_
  refine bVf (n := 5) (As := [.int x1]) (rest := []) 0 lk_X6_114 (c_xe_find (Nat.le_refl _)) (by omega) hP_o300 rfl rfl rfl (Nat.le_of_ble_eq_true rfl) dX6_replayed_2 rfl ?_ (fun j2 => ?_)
  · dsimp only
    refine b_astore_nN (n := 6) (L' := [(3, .null), (0, .ref (ad 30 0 0)), (1, .int x1), (2, .int x2)]) dX6_replayed_5 rfl rfl (Nat.le_of_ble_eq_true rfl) rfl ?_
    refine b_aload_nN (n := 7) 0 dX6_replayed_6 rfl rfl rfl ?_
    refine b_ifnonnullN (n := 10) dX6_replayed_7 rfl ?_
    refine b_iconst (n := 11) (v := -1) dX6_replayed_10 rfl (by decide) ?_
    exact b_iret dX6_replayed_11 rfl rfl
  · dsimp only
    refine b_gd (fun hj2 => ?_)
    refine b_astore_n (n := 6) (L' := [(3, .ref (ad 10 j2 0)), (0, .ref (ad 30 0 0)), (1, .int x1), (2, .int x2)]) dX6_replayed_5 rfl rfl (Nat.le_of_ble_eq_true rfl) rfl ?_
    refine b_aload_n (n := 7) 0 dX6_replayed_6 rfl rfl rfl ?_
    refine b_ifnonnull (n := 12) dX6_replayed_7 (by decide) ?_
    refine b_iload_n (n := 13) 3 dX6_replayed_12 rfl rfl rfl ?_
    refine b_if (fun h13_0 => ?_) (fun h13_0 => ?_)
    · refine b_tsIn (n := 52) (w := 0) h13_0 dX6_replayed_13 (by decide) (by decide) rfl (by decide) ?_
      refine b_aload_n (n := 53) 0 dX6_replayed_52 rfl rfl rfl ?_
      refine b_get (n := 56) (v := .ref (ad 10 j2 10)) (11 + 12 * j2) f_X6_167 dX6_replayed_53 rfl (hP_io _ hj2) rfl ?_
      refine bVi (n := 59) (As := []) (rest := []) (11 + 12 * j2 + 10) ((plH j2).map (5 + ·)) lk_X6_202 (c_hi_lastStatus (ad := adI ad va j2 0) (Nat.le_refl _)) (by omega) (hP_subH _ hj2) (plHN hj2) (hP_ih _ hj2) rfl rfl rfl (Nat.le_of_ble_eq_true rfl) dX6_replayed_56 rfl (fun k56 => ?_)
      exact b_iret dX6_replayed_59 rfl rfl
    refine b_if (fun h13_1 => ?_) (fun h13_1 => ?_)
    · refine b_tsIn (n := 60) (w := 1) h13_1 dX6_replayed_13 (by decide) (by decide) rfl (by decide) ?_
      refine b_aload_n (n := 61) 0 dX6_replayed_60 rfl rfl rfl ?_
      refine b_get (n := 64) (v := .ref (ad 10 j2 10)) (11 + 12 * j2) f_X6_167 dX6_replayed_61 rfl (hP_io _ hj2) rfl ?_
      refine b_iconst (n := 65) (v := 2) dX6_replayed_64 rfl (by decide) ?_
      refine bVi (n := 68) (As := [.int 2]) (rest := []) (11 + 12 * j2 + 10) ((plH j2).map (5 + ·)) lk_X6_205 (c_hi_entriesOf (ad := adI ad va j2 0) (Nat.le_refl _)) (by omega) (hP_subH _ hj2) (plHN hj2) (hP_ih _ hj2) rfl rfl rfl (Nat.le_of_ble_eq_true rfl) dX6_replayed_65 rfl (fun k65 => ?_)
      exact b_iret dX6_replayed_68 rfl rfl
    refine b_if (fun h13_2 => ?_) (fun h13_2 => ?_)
    · refine b_tsIn (n := 69) (w := 2) h13_2 dX6_replayed_13 (by decide) (by decide) rfl (by decide) ?_
      refine b_aload_n (n := 70) 0 dX6_replayed_69 rfl rfl rfl ?_
      refine b_get (n := 73) (v := .ref (ad 10 j2 10)) (11 + 12 * j2) f_X6_167 dX6_replayed_70 rfl (hP_io _ hj2) rfl ?_
      refine b_bipush (n := 75) (v := 6) dX6_replayed_73 rfl (by decide) ?_
      refine bVi (n := 78) (As := [.int 6]) (rest := []) (11 + 12 * j2 + 10) ((plH j2).map (5 + ·)) lk_X6_205 (c_hi_entriesOf (ad := adI ad va j2 0) (Nat.le_refl _)) (by omega) (hP_subH _ hj2) (plHN hj2) (hP_ih _ hj2) rfl rfl rfl (Nat.le_of_ble_eq_true rfl) dX6_replayed_75 rfl (fun k75 => ?_)
      exact b_iret dX6_replayed_78 rfl rfl
    refine b_if (fun h13_3 => ?_) (fun h13_3 => ?_)
    · refine b_tsIn (n := 79) (w := 3) h13_3 dX6_replayed_13 (by decide) (by decide) rfl (by decide) ?_
      refine b_aload_n (n := 80) 0 dX6_replayed_79 rfl rfl rfl ?_
      refine b_get (n := 83) (v := .ref (ad 10 j2 10)) (11 + 12 * j2) f_X6_167 dX6_replayed_80 rfl (hP_io _ hj2) rfl ?_
      refine b_bipush (n := 85) (v := 7) dX6_replayed_83 rfl (by decide) ?_
      refine bVi (n := 88) (As := [.int 7]) (rest := []) (11 + 12 * j2 + 10) ((plH j2).map (5 + ·)) lk_X6_205 (c_hi_entriesOf (ad := adI ad va j2 0) (Nat.le_refl _)) (by omega) (hP_subH _ hj2) (plHN hj2) (hP_ih _ hj2) rfl rfl rfl (Nat.le_of_ble_eq_true rfl) dX6_replayed_85 rfl (fun k85 => ?_)
      exact b_iret dX6_replayed_88 rfl rfl
    refine b_if (fun h13_4 => ?_) (fun h13_4 => ?_)
    · refine b_tsIn (n := 89) (w := 4) h13_4 dX6_replayed_13 (by decide) (by decide) rfl (by decide) ?_
      refine b_aload_n (n := 90) 0 dX6_replayed_89 rfl rfl rfl ?_
      refine b_get (n := 93) (v := .ref (ad 10 j2 10)) (11 + 12 * j2) f_X6_167 dX6_replayed_90 rfl (hP_io _ hj2) rfl ?_
      refine bVi (n := 96) (As := []) (rest := []) (11 + 12 * j2 + 10) ((plH j2).map (5 + ·)) lk_X6_208 (c_hi_attempts (ad := adI ad va j2 0) (Nat.le_refl _)) (by omega) (hP_subH _ hj2) (plHN hj2) (hP_ih _ hj2) rfl rfl rfl (Nat.le_of_ble_eq_true rfl) dX6_replayed_93 rfl (fun k93 => ?_)
      exact b_iret dX6_replayed_96 rfl rfl
    refine b_if (fun h13_5 => ?_) (fun h13_5 => ?_)
    · refine b_tsIn (n := 97) (w := 5) h13_5 dX6_replayed_13 (by decide) (by decide) rfl (by decide) ?_
      refine b_aload_n (n := 98) 0 dX6_replayed_97 rfl rfl rfl ?_
      refine b_get (n := 101) (v := .ref (ad 10 j2 10)) (11 + 12 * j2) f_X6_167 dX6_replayed_98 rfl (hP_io _ hj2) rfl ?_
      refine b_iconst (n := 102) (v := 1) dX6_replayed_101 rfl (by decide) ?_
      refine bVi (n := 105) (As := [.int 1]) (rest := []) (11 + 12 * j2 + 10) ((plH j2).map (5 + ·)) lk_X6_205 (c_hi_entriesOf (ad := adI ad va j2 0) (Nat.le_refl _)) (by omega) (hP_subH _ hj2) (plHN hj2) (hP_ih _ hj2) rfl rfl rfl (Nat.le_of_ble_eq_true rfl) dX6_replayed_102 rfl (fun k102 => ?_)
      exact b_iret dX6_replayed_105 rfl rfl
    refine b_tsOut (n := 106) dX6_replayed_13 (by have nh13_0 := i32_ne (k := 0) h13_0 (by decide); have nh13_1 := i32_ne (k := 1) h13_1 (by decide); have nh13_2 := i32_ne (k := 2) h13_2 (by decide); have nh13_3 := i32_ne (k := 3) h13_3 (by decide); have nh13_4 := i32_ne (k := 4) h13_4 (by decide); have nh13_5 := i32_ne (k := 5) h13_5 (by decide); omega) (by decide) ?_
    refine b_iconst (n := 107) (v := -1) dX6_replayed_106 rfl (by decide) ?_
    exact b_iret dX6_replayed_107 rfl rfl
def xs_floatBits_43 (N : Nat)  (y1 : Int32) (y2 : Int64) (y4 : Int32)  : Option (Int32) :=
  gd (¬ ((y1).toInt64) = 0) <|
  gd (¬ ((2 : Int64)) = 0) <|
  some (((y4 + 149) <<< (23 &&& 31)) + (((((((2 : Int64)) * y2) / ((y1).toInt64)) + ((1 : Int64))) / ((2 : Int64))).toInt32))
set_option maxHeartbeats 400000 in
set_option maxRecDepth 100000 in
theorem w_xs_floatBits_43 {l : Launch} {E : Ev} {A : Nat → Prop} {d : Nat} {N : Nat}    (hd : 1 ≤ d)  (y1 : Int32) (y2 : Int64) (y4 : Int32) : Bd l E A RX6 cX6_floatBits 7 (some .int) d (fun v : Int32 => (some (.int v), [])) 43 [(1, .int y1), (2, .long y2), (4, .int y4)] [] ([]) (xs_floatBits_43 N y1 y2 y4) := by
  unfold xs_floatBits_43
  refine b_ldc2 (n := 46) (v := 2) kl_X6_250 dX6_floatBits_43 rfl ?_
  refine b_lload_n (n := 47) 1 dX6_floatBits_46 rfl rfl rfl ?_
  refine b_lmul (n := 48) dX6_floatBits_47 rfl ?_
  refine b_iload_n (n := 49) 0 dX6_floatBits_48 rfl rfl rfl ?_
  refine b_i2l (n := 50) dX6_floatBits_49 rfl ?_
  refine b_ldiv (n := 51) dX6_floatBits_50 rfl (fun h50 => ?_)
  refine b_lconst (n := 52) (v := 1) dX6_floatBits_51 rfl (by decide) ?_
  refine b_ladd (n := 53) dX6_floatBits_52 rfl ?_
  refine b_ldc2 (n := 56) (v := 2) kl_X6_250 dX6_floatBits_53 rfl ?_
  refine b_ldiv (n := 57) dX6_floatBits_56 rfl (fun h56 => ?_)
  refine b_lstore (n := 59) (L' := [(5, .long ((((((2 : Int64)) * y2) / ((y1).toInt64)) + ((1 : Int64))) / ((2 : Int64)))), (1, .int y1), (2, .long y2), (4, .int y4)]) dX6_floatBits_57 rfl (Nat.le_of_ble_eq_true rfl) rfl ?_
  refine b_iload (n := 61) 3 dX6_floatBits_59 rfl rfl ?_
  refine b_sipush (n := 64) (v := 149) dX6_floatBits_61 rfl (by decide) ?_
  refine b_iadd (n := 65) dX6_floatBits_64 rfl ?_
  refine b_bipush (n := 67) (v := 23) dX6_floatBits_65 rfl (by decide) ?_
  refine b_ishl (n := 68) dX6_floatBits_67 rfl ?_
  refine b_lload (n := 70) 0 dX6_floatBits_68 rfl rfl ?_
  refine b_l2i (n := 71) dX6_floatBits_70 rfl ?_
  refine b_iadd (n := 72) dX6_floatBits_71 rfl ?_
  exact b_iret dX6_floatBits_72 rfl rfl
def xs_floatBits_16 (N : Nat)  : Nat → Int32 → Int64 → Int32 → Option (Int32)
  | 0, _, _, _ => none
  | n + 1, y1, y2, y4 =>
    if (-64) < y4 then
      (if lg_cmp y2 (((y1).toInt64) <<< ((23 : Int32).toInt64 &&& 63)) < 0 then
        (xs_floatBits_16 N n y1 (y2 <<< ((1 : Int32).toInt64 &&& 63)) (y4 + (-1)))
      else
        (xs_floatBits_43 N y1 y2 y4))
    else
      (xs_floatBits_43 N y1 y2 y4)
set_option maxHeartbeats 400000 in
set_option maxRecDepth 100000 in
theorem w_xs_floatBits_16 {l : Launch} {E : Ev} {A : Nat → Prop} {d : Nat} {N : Nat}    (hd : 1 ≤ d)  (n : Nat) : ∀ (y1 : Int32) (y2 : Int64) (y4 : Int32), Bd l E A RX6 cX6_floatBits 7 (some .int) d (fun v : Int32 => (some (.int v), [])) 16 [(1, .int y1), (2, .long y2), (4, .int y4)] [] ([]) (xs_floatBits_16 N n y1 y2 y4) := by
  induction n with
  | zero => intro y1 y2 y4; exact b_none
  | succ n ih =>
    intro y1 y2 y4
    rw [xs_floatBits_16]
    refine b_iload (n := 18) 2 dX6_floatBits_16 rfl rfl ?_
    refine b_bipush (n := 20) (v := -64) dX6_floatBits_18 rfl (by decide) ?_
    refine b_cmp_le (n := 23) (tgt := 43) dX6_floatBits_20 (by decide) rfl (fun h20 => ?_) (fun h20 => ?_)
    · refine b_lload_n (n := 24) 1 dX6_floatBits_23 rfl rfl rfl ?_
      refine b_iload_n (n := 25) 0 dX6_floatBits_24 rfl rfl rfl ?_
      refine b_i2l (n := 26) dX6_floatBits_25 rfl ?_
      refine b_bipush (n := 28) (v := 23) dX6_floatBits_26 rfl (by decide) ?_
      refine b_lshl (n := 29) dX6_floatBits_28 rfl ?_
      refine b_lcmp (n := 30) dX6_floatBits_29 rfl ?_
      refine b_if_ge (n := 33) (tgt := 43) dX6_floatBits_30 (by decide) rfl (fun h30 => ?_) (fun h30 => ?_)
      · refine b_lload_n (n := 34) 1 dX6_floatBits_33 rfl rfl rfl ?_
        refine b_iconst (n := 35) (v := 1) dX6_floatBits_34 rfl (by decide) ?_
        refine b_lshl (n := 36) dX6_floatBits_35 rfl ?_
        refine b_lstore_n (n := 37) (L' := [(2, .long (y2 <<< ((1 : Int32).toInt64 &&& 63))), (1, .int y1), (4, .int y4)]) dX6_floatBits_36 rfl rfl (Nat.le_of_ble_eq_true rfl) rfl ?_
        refine b_iinc (n := 40) (L' := [(4, .int (y4 + (-1))), (2, .long (y2 <<< ((1 : Int32).toInt64 &&& 63))), (1, .int y1)]) 2 (-1) dX6_floatBits_37 rfl rfl (by decide) (Nat.le_of_ble_eq_true rfl) rfl ?_
        refine b_goto (n := 16) dX6_floatBits_40 (by decide) ?_
        refine Bd.sub (L' := [(1, .int y1), (2, .long (y2 <<< ((1 : Int32).toInt64 &&& 63))), (4, .int (y4 + (-1)))]) [2, 1, 0] rfl ?_
        exact ih _ _ _
      · exact w_xs_floatBits_43 hd _ _ _
    · exact w_xs_floatBits_43 hd _ _ _
def xs_floatBits (N : Nat) (x0 : Int32) (x1 : Int32)  : Option (Int32) :=
  if 0 < x0 then
    (if 0 < x1 then
      (xs_floatBits_16 N N x1 ((x0).toInt64) 0)
    else
      (some 0))
  else
    (some 0)
set_option maxHeartbeats 400000 in
set_option maxRecDepth 100000 in
theorem c_xs_floatBits {l : Launch} {E : Ev} {d : Nat} {N : Nat}   {x0 : Int32} {x1 : Int32}  (hd : 1 ≤ d) : Ct l yX6_floatBits cX6_floatBits 7 (some .int) d E ([]) [.int x0, .int x1] (fun v : Int32 => (some (.int v), [])) (xs_floatBits N x0 x1) := by
  refine Ct.of2 (own := RX6) (L := [(0, .int x0), (1, .int x1)]) rfl (by decide +kernel) (Nat.le_of_ble_eq_true rfl) rfl ?_
  unfold xs_floatBits
  refine b_iload_n (n := 1) 0 dX6_floatBits_0 rfl rfl rfl ?_
  refine b_if_le (n := 4) (tgt := 8) dX6_floatBits_1 (by decide) rfl (fun h1 => ?_) (fun h1 => ?_)
  · refine b_iload_n (n := 5) 1 dX6_floatBits_4 rfl rfl rfl ?_
    refine b_if_gt (n := 8) (tgt := 10) dX6_floatBits_5 (by decide) rfl (fun h5 => ?_) (fun h5 => ?_)
    · refine b_iload_n (n := 11) 0 dX6_floatBits_10 rfl rfl rfl ?_
      refine b_i2l (n := 12) dX6_floatBits_11 rfl ?_
      refine b_lstore_n (n := 13) (L' := [(2, .long ((x0).toInt64)), (0, .int x0), (1, .int x1)]) dX6_floatBits_12 rfl rfl (Nat.le_of_ble_eq_true rfl) rfl ?_
      refine b_iconst (n := 14) (v := 0) dX6_floatBits_13 rfl (by decide) ?_
      refine b_istore (n := 16) (L' := [(4, .int 0), (2, .long ((x0).toInt64)), (0, .int x0), (1, .int x1)]) dX6_floatBits_14 rfl (Nat.le_of_ble_eq_true rfl) rfl ?_
      refine Bd.sub (L' := [(1, .int x1), (2, .long ((x0).toInt64)), (4, .int 0)]) [3, 1, 0] rfl ?_
      exact w_xs_floatBits_16 hd _ _ _ _
    · refine b_iconst (n := 9) (v := 0) dX6_floatBits_8 rfl (by decide) ?_
      exact b_iret dX6_floatBits_9 rfl rfl
  · refine b_iconst (n := 9) (v := 0) dX6_floatBits_8 rfl (by decide) ?_
    exact b_iret dX6_floatBits_9 rfl rfl
def xe_statistic (N : Nat) (pl : Nat → Nat) (vs : Fam) (I : Fam) (x1 : Int32) (x2 : Int32)  : Option (Int32) :=
  (xs_isInside x1 4).bind fun k2 =>
  if k2 = true then
    (if x2 < 0 then
      (some ((-1)))
    else
      (if 7 < x2 then
        (some ((-1)))
      else
        (if 4 < x2 then
          (if x2 = 5 then
            ((wo_startedOf N pl vs I x1).bind fun k45 =>
            some k45)
          else
            ((wo_endedOf N pl vs I x1).bind fun k54 =>
            if k54 = 0 then
              (some ((-5)))
            else
              (if x2 = 6 then
                ((wo_minutesOf N pl vs I x1).bind fun k76 =>
                (xs_floatBits N k76 k54).bind fun k96 =>
                some k96)
              else
                ((wo_instancesOf N pl vs I x1 1).bind fun k88 =>
                (xs_floatBits N k88 k54).bind fun k96 =>
                some k96))))
        else
          ((wo_instancesOf N pl vs I x1 x2).bind fun k31 =>
          some k31))))
  else
    (some ((-1)))
set_option maxHeartbeats 400000 in
set_option maxRecDepth 100000 in
theorem c_xe_statistic {l : Launch} {E : Ev} {ad : Ad3} {va : Nat → Nat → Nat} {d : Nat} {N : Nat} {rl : Nat} {x : Mem} {tx : Nat} {tg : Nat} {r : Mem} {w : Mem} {e : Mem} {I : Fam} {H : Fam} {pl : Nat → Nat} {vs : Fam} {x1 : Int32} {x2 : Int32}  (hd : 4 ≤ d) : Ct l yX6_statistic cX6_statistic 5 (some .int) d E (hP E ad va rl x tx tg r w e I H pl vs) [.ref (ad 30 0 0), .int x1, .int x2] (fun v : Int32 => (some (.int v), hP E ad va rl x tx tg r w e I H pl vs)) (xe_statistic N pl vs I x1 x2) := by
  refine Ct.of2 (own := RX6) (L := [(0, .ref (ad 30 0 0)), (1, .int x1), (2, .int x2)]) rfl (by decide +kernel) (Nat.le_of_ble_eq_true rfl) rfl ?_
  unfold xe_statistic
  refine b_iload_n (n := 1) 1 dX6_statistic_0 rfl rfl rfl ?_
  refine b_iconst (n := 2) (v := 4) dX6_statistic_1 rfl (by decide) ?_
  refine bSb (n := 5) (As := [.int x1, .int 4]) (rest := []) lk_X6_51 (c_xs_isInside (Nat.le_refl _)) (by omega) rfl rfl (Nat.le_of_ble_eq_true rfl) dX6_statistic_2 rfl (fun k2 => ?_)
  refine b_bz (n := 8) (tgt := 18) dX6_statistic_5 (by decide) rfl (fun h5 => ?_) (fun h5 => ?_)
  · refine b_iload_n (n := 9) 2 dX6_statistic_8 rfl rfl rfl ?_
    refine b_if_lt (n := 12) (tgt := 18) dX6_statistic_9 (by decide) rfl (fun h9 => ?_) (fun h9 => ?_)
    · refine b_iconst (n := 19) (v := -1) dX6_statistic_18 rfl (by decide) ?_
      exact b_iret dX6_statistic_19 rfl rfl
    · refine b_iload_n (n := 13) 2 dX6_statistic_12 rfl rfl rfl ?_
      refine b_bipush (n := 15) (v := 7) dX6_statistic_13 rfl (by decide) ?_
      refine b_cmp_le (n := 18) (tgt := 20) dX6_statistic_15 (by decide) rfl (fun h15 => ?_) (fun h15 => ?_)
      · refine b_iconst (n := 19) (v := -1) dX6_statistic_18 rfl (by decide) ?_
        exact b_iret dX6_statistic_19 rfl rfl
      · refine b_iload_n (n := 21) 2 dX6_statistic_20 rfl rfl rfl ?_
        refine b_iconst (n := 22) (v := 4) dX6_statistic_21 rfl (by decide) ?_
        refine b_cmp_gt (n := 25) (tgt := 35) dX6_statistic_22 (by decide) rfl (fun h22 => ?_) (fun h22 => ?_)
        · refine b_iload_n (n := 36) 2 dX6_statistic_35 rfl rfl rfl ?_
          refine b_iconst (n := 37) (v := 5) dX6_statistic_36 rfl (by decide) ?_
          refine b_cmp_ne (n := 40) (tgt := 49) dX6_statistic_37 (by decide) rfl (fun h37 => ?_) (fun h37 => ?_)
          · refine b_aload_n (n := 41) 0 dX6_statistic_40 rfl rfl rfl ?_
            refine b_get (n := 44) (v := .ref (ad 0 0 0)) 0 f_X6_37 dX6_statistic_41 rfl hP_o300 rfl ?_
            refine b_iload_n (n := 45) 1 dX6_statistic_44 rfl rfl rfl ?_
            refine bVi (n := 48) (As := [.int x1]) (rest := []) 5 ((List.range (hWV E ad va rl w e I H pl vs).length).map (5 + ·)) lk_X6_215 (c_wo_startedOf (Nat.le_refl _)) (by omega) hP_tail tailN hP_o0 rfl rfl rfl (Nat.le_of_ble_eq_true rfl) dX6_statistic_45 rfl (fun k45 => ?_)
            exact b_iret dX6_statistic_48 rfl rfl
          · refine b_aload_n (n := 50) 0 dX6_statistic_49 rfl rfl rfl ?_
            refine b_get (n := 53) (v := .ref (ad 0 0 0)) 0 f_X6_37 dX6_statistic_50 rfl hP_o300 rfl ?_
            refine b_iload_n (n := 54) 1 dX6_statistic_53 rfl rfl rfl ?_
            refine bVi (n := 57) (As := [.int x1]) (rest := []) 5 ((List.range (hWV E ad va rl w e I H pl vs).length).map (5 + ·)) lk_X6_218 (c_wo_endedOf (Nat.le_refl _)) (by omega) hP_tail tailN hP_o0 rfl rfl rfl (Nat.le_of_ble_eq_true rfl) dX6_statistic_54 rfl (fun k54 => ?_)
            refine b_istore_n (n := 58) (L' := [(3, .int k54), (0, .ref (ad 30 0 0)), (1, .int x1), (2, .int x2)]) dX6_statistic_57 rfl rfl (Nat.le_of_ble_eq_true rfl) rfl ?_
            refine b_iload_n (n := 59) 0 dX6_statistic_58 rfl rfl rfl ?_
            refine b_if_ne (n := 62) (tgt := 65) dX6_statistic_59 (by decide) rfl (fun h59 => ?_) (fun h59 => ?_)
            · refine b_bipush (n := 64) (v := -5) dX6_statistic_62 rfl (by decide) ?_
              exact b_iret dX6_statistic_64 rfl rfl
            · refine b_iload_n (n := 66) 3 dX6_statistic_65 rfl rfl rfl ?_
              refine b_bipush (n := 68) (v := 6) dX6_statistic_66 rfl (by decide) ?_
              refine b_cmp_ne (n := 71) (tgt := 82) dX6_statistic_68 (by decide) rfl (fun h68 => ?_) (fun h68 => ?_)
              · refine b_aload_n (n := 72) 1 dX6_statistic_71 rfl rfl rfl ?_
                refine b_get (n := 75) (v := .ref (ad 0 0 0)) 0 f_X6_37 dX6_statistic_72 rfl hP_o300 rfl ?_
                refine b_iload_n (n := 76) 2 dX6_statistic_75 rfl rfl rfl ?_
                refine bVi (n := 79) (As := [.int x1]) (rest := []) 5 ((List.range (hWV E ad va rl w e I H pl vs).length).map (5 + ·)) lk_X6_221 (c_wo_minutesOf (Nat.le_refl _)) (by omega) hP_tail tailN hP_o0 rfl rfl rfl (Nat.le_of_ble_eq_true rfl) dX6_statistic_76 rfl (fun k76 => ?_)
                refine b_goto (n := 91) dX6_statistic_79 (by decide) ?_
                refine b_istore (n := 93) (L' := [(4, .int k76), (3, .int k54), (0, .ref (ad 30 0 0)), (1, .int x1), (2, .int x2)]) dX6_statistic_91 rfl (Nat.le_of_ble_eq_true rfl) rfl ?_
                refine b_iload (n := 95) 0 dX6_statistic_93 rfl rfl ?_
                refine b_iload_n (n := 96) 1 dX6_statistic_95 rfl rfl rfl ?_
                refine bSi (n := 99) (As := [.int k76, .int k54]) (rest := []) lk_X6_224 (c_xs_floatBits (Nat.le_refl _)) (by omega) rfl rfl (Nat.le_of_ble_eq_true rfl) dX6_statistic_96 rfl (fun k96 => ?_)
                exact b_iret dX6_statistic_99 rfl rfl
              · refine b_aload_n (n := 83) 1 dX6_statistic_82 rfl rfl rfl ?_
                refine b_get (n := 86) (v := .ref (ad 0 0 0)) 0 f_X6_37 dX6_statistic_83 rfl hP_o300 rfl ?_
                refine b_iload_n (n := 87) 2 dX6_statistic_86 rfl rfl rfl ?_
                refine b_iconst (n := 88) (v := 1) dX6_statistic_87 rfl (by decide) ?_
                refine bVi (n := 91) (As := [.int x1, .int 1]) (rest := []) 5 ((List.range (hWV E ad va rl w e I H pl vs).length).map (5 + ·)) lk_X6_211 (c_wo_instancesOf (Nat.le_refl _)) (by omega) hP_tail tailN hP_o0 rfl rfl rfl (Nat.le_of_ble_eq_true rfl) dX6_statistic_88 rfl (fun k88 => ?_)
                refine b_istore (n := 93) (L' := [(4, .int k88), (3, .int k54), (0, .ref (ad 30 0 0)), (1, .int x1), (2, .int x2)]) dX6_statistic_91 rfl (Nat.le_of_ble_eq_true rfl) rfl ?_
                refine b_iload (n := 95) 0 dX6_statistic_93 rfl rfl ?_
                refine b_iload_n (n := 96) 1 dX6_statistic_95 rfl rfl rfl ?_
                refine bSi (n := 99) (As := [.int k88, .int k54]) (rest := []) lk_X6_224 (c_xs_floatBits (Nat.le_refl _)) (by omega) rfl rfl (Nat.le_of_ble_eq_true rfl) dX6_statistic_96 rfl (fun k96 => ?_)
                exact b_iret dX6_statistic_99 rfl rfl
        · refine b_aload_n (n := 26) 0 dX6_statistic_25 rfl rfl rfl ?_
          refine b_get (n := 29) (v := .ref (ad 0 0 0)) 0 f_X6_37 dX6_statistic_26 rfl hP_o300 rfl ?_
          refine b_iload_n (n := 30) 1 dX6_statistic_29 rfl rfl rfl ?_
          refine b_iload_n (n := 31) 2 dX6_statistic_30 rfl rfl rfl ?_
          refine bVi (n := 34) (As := [.int x1, .int x2]) (rest := []) 5 ((List.range (hWV E ad va rl w e I H pl vs).length).map (5 + ·)) lk_X6_211 (c_wo_instancesOf (Nat.le_refl _)) (by omega) hP_tail tailN hP_o0 rfl rfl rfl (Nat.le_of_ble_eq_true rfl) dX6_statistic_31 rfl (fun k31 => ?_)
          exact b_iret dX6_statistic_34 rfl rfl
  · refine b_iconst (n := 19) (v := -1) dX6_statistic_18 rfl (by decide) ?_
    exact b_iret dX6_statistic_19 rfl rfl
def xe_count (N : Nat) (pl : Nat → Nat) (vs : Fam) (I : Fam) (w : Mem) (x : Mem) (e : Mem) (x1 : Int32)  : Option (Int32) :=
  (xs_isInside (x1 - 10) 8).bind fun k6 =>
  if k6 = true then
    ((rd 8 (e 2) (x1 - 10)).bind fun v26 =>
    some v26)
  else
    ((xs_isInside (x1 - 20) 8).bind fun k34 =>
    if k34 = true then
      ((rd 8 (e 3) (x1 - 20)).bind fun v54 =>
      some v54)
    else
      (if x1 = 0 then
        (some (e 1 2))
      else if x1 = 1 then
        ((wo_started N pl vs I).bind fun k111 =>
        some k111)
      else if x1 = 2 then
        ((wo_instancesWith N pl vs I 0).bind fun k120 =>
        some k120)
      else if x1 = 3 then
        ((wo_instancesWith N pl vs I 2).bind fun k129 =>
        some k129)
      else if x1 = 4 then
        (some (x 0 6))
      else if x1 = 5 then
        ((wo_allDefined N w).bind fun k142 =>
        some k142)
      else 
        (some ((-1)))))
set_option maxHeartbeats 400000 in
set_option maxRecDepth 100000 in
theorem c_xe_count {l : Launch} {E : Ev} {ad : Ad3} {va : Nat → Nat → Nat} {d : Nat} {N : Nat} {rl : Nat} {x : Mem} {tx : Nat} {tg : Nat} {r : Mem} {w : Mem} {e : Mem} {I : Fam} {H : Fam} {pl : Nat → Nat} {vs : Fam} {x1 : Int32}  (hd : 4 ≤ d) : Ct l yX6_count cX6_count 2 (some .int) d E (hP E ad va rl x tx tg r w e I H pl vs) [.ref (ad 30 0 0), .int x1] (fun v : Int32 => (some (.int v), hP E ad va rl x tx tg r w e I H pl vs)) (xe_count N pl vs I w x e x1) := by
  refine Ct.of2 (own := RX6) (L := [(0, .ref (ad 30 0 0)), (1, .int x1)]) rfl (by decide +kernel) (Nat.le_of_ble_eq_true rfl) rfl ?_
  unfold xe_count
  refine b_iload_n (n := 1) 1 dX6_count_0 rfl rfl rfl ?_
  refine b_bipush (n := 3) (v := 10) dX6_count_1 rfl (by decide) ?_
  refine b_isub (n := 4) dX6_count_3 rfl ?_
  refine b_bipush (n := 6) (v := 8) dX6_count_4 rfl (by decide) ?_
  refine bSb (n := 9) (As := [.int (x1 - 10), .int 8]) (rest := []) lk_X6_51 (c_xs_isInside (Nat.le_refl _)) (by omega) rfl rfl (Nat.le_of_ble_eq_true rfl) dX6_count_6 rfl (fun k6 => ?_)
  refine b_bz (n := 12) (tgt := 28) dX6_count_9 (by decide) rfl (fun h9 => ?_) (fun h9 => ?_)
  · refine b_aload_n (n := 13) 0 dX6_count_12 rfl rfl rfl ?_
    refine b_get (n := 16) (v := .ref (ad 0 0 0)) 0 f_X6_37 dX6_count_13 rfl hP_o300 rfl ?_
    refine b_get (n := 19) (v := .ref (ad 0 0 1)) 5 f_X6_86 dX6_count_16 rfl hP_o0 rfl ?_
    refine b_get (n := 22) (v := .ref (ad 0 0 2)) 6 f_X6_90 dX6_count_19 rfl hP_o1 rfl ?_
    refine b_iload_n (n := 23) 1 dX6_count_22 rfl rfl rfl ?_
    refine b_bipush (n := 25) (v := 10) dX6_count_23 rfl (by decide) ?_
    refine b_isub (n := 26) dX6_count_25 rfl ?_
    refine b_iald (n := 27) 7 dX6_count_26 rfl hP_a2 (fun v26 => ?_)
    exact b_iret dX6_count_27 rfl rfl
  · refine b_iload_n (n := 29) 1 dX6_count_28 rfl rfl rfl ?_
    refine b_bipush (n := 31) (v := 20) dX6_count_29 rfl (by decide) ?_
    refine b_isub (n := 32) dX6_count_31 rfl ?_
    refine b_bipush (n := 34) (v := 8) dX6_count_32 rfl (by decide) ?_
    refine bSb (n := 37) (As := [.int (x1 - 20), .int 8]) (rest := []) lk_X6_51 (c_xs_isInside (Nat.le_refl _)) (by omega) rfl rfl (Nat.le_of_ble_eq_true rfl) dX6_count_34 rfl (fun k34 => ?_)
    refine b_bz (n := 40) (tgt := 56) dX6_count_37 (by decide) rfl (fun h37 => ?_) (fun h37 => ?_)
    · refine b_aload_n (n := 41) 0 dX6_count_40 rfl rfl rfl ?_
      refine b_get (n := 44) (v := .ref (ad 0 0 0)) 0 f_X6_37 dX6_count_41 rfl hP_o300 rfl ?_
      refine b_get (n := 47) (v := .ref (ad 0 0 1)) 5 f_X6_86 dX6_count_44 rfl hP_o0 rfl ?_
      refine b_get (n := 50) (v := .ref (ad 0 0 3)) 6 f_X6_97 dX6_count_47 rfl hP_o1 rfl ?_
      refine b_iload_n (n := 51) 1 dX6_count_50 rfl rfl rfl ?_
      refine b_bipush (n := 53) (v := 20) dX6_count_51 rfl (by decide) ?_
      refine b_isub (n := 54) dX6_count_53 rfl ?_
      refine b_iald (n := 55) 8 dX6_count_54 rfl hP_a3 (fun v54 => ?_)
      exact b_iret dX6_count_55 rfl rfl
    · refine b_iload_n (n := 57) 1 dX6_count_56 rfl rfl rfl ?_
      refine b_if (fun h57_0 => ?_) (fun h57_0 => ?_)
      · refine b_tsIn (n := 96) (w := 0) h57_0 dX6_count_57 (by decide) (by decide) rfl (by decide) ?_
        refine b_aload_n (n := 97) 0 dX6_count_96 rfl rfl rfl ?_
        refine b_get (n := 100) (v := .ref (ad 0 0 0)) 0 f_X6_37 dX6_count_97 rfl hP_o300 rfl ?_
        refine b_get (n := 103) (v := .ref (ad 0 0 1)) 5 f_X6_86 dX6_count_100 rfl hP_o0 rfl ?_
        refine b_get (n := 106) (v := .int (e 1 2)) 6 f_X6_131 dX6_count_103 rfl hP_o1 rfl ?_
        exact b_iret dX6_count_106 rfl rfl
      refine b_if (fun h57_1 => ?_) (fun h57_1 => ?_)
      · refine b_tsIn (n := 107) (w := 1) h57_1 dX6_count_57 (by decide) (by decide) rfl (by decide) ?_
        refine b_aload_n (n := 108) 0 dX6_count_107 rfl rfl rfl ?_
        refine b_get (n := 111) (v := .ref (ad 0 0 0)) 0 f_X6_37 dX6_count_108 rfl hP_o300 rfl ?_
        refine bVi (n := 114) (As := []) (rest := []) 5 ((List.range (hWV E ad va rl w e I H pl vs).length).map (5 + ·)) lk_X6_231 (c_wo_started (Nat.le_refl _)) (by omega) hP_tail tailN hP_o0 rfl rfl rfl (Nat.le_of_ble_eq_true rfl) dX6_count_111 rfl (fun k111 => ?_)
        exact b_iret dX6_count_114 rfl rfl
      refine b_if (fun h57_2 => ?_) (fun h57_2 => ?_)
      · refine b_tsIn (n := 115) (w := 2) h57_2 dX6_count_57 (by decide) (by decide) rfl (by decide) ?_
        refine b_aload_n (n := 116) 0 dX6_count_115 rfl rfl rfl ?_
        refine b_get (n := 119) (v := .ref (ad 0 0 0)) 0 f_X6_37 dX6_count_116 rfl hP_o300 rfl ?_
        refine b_iconst (n := 120) (v := 0) dX6_count_119 rfl (by decide) ?_
        refine bVi (n := 123) (As := [.int 0]) (rest := []) 5 ((List.range (hWV E ad va rl w e I H pl vs).length).map (5 + ·)) lk_X6_233 (c_wo_instancesWith (Nat.le_refl _)) (by omega) hP_tail tailN hP_o0 rfl rfl rfl (Nat.le_of_ble_eq_true rfl) dX6_count_120 rfl (fun k120 => ?_)
        exact b_iret dX6_count_123 rfl rfl
      refine b_if (fun h57_3 => ?_) (fun h57_3 => ?_)
      · refine b_tsIn (n := 124) (w := 3) h57_3 dX6_count_57 (by decide) (by decide) rfl (by decide) ?_
        refine b_aload_n (n := 125) 0 dX6_count_124 rfl rfl rfl ?_
        refine b_get (n := 128) (v := .ref (ad 0 0 0)) 0 f_X6_37 dX6_count_125 rfl hP_o300 rfl ?_
        refine b_iconst (n := 129) (v := 2) dX6_count_128 rfl (by decide) ?_
        refine bVi (n := 132) (As := [.int 2]) (rest := []) 5 ((List.range (hWV E ad va rl w e I H pl vs).length).map (5 + ·)) lk_X6_233 (c_wo_instancesWith (Nat.le_refl _)) (by omega) hP_tail tailN hP_o0 rfl rfl rfl (Nat.le_of_ble_eq_true rfl) dX6_count_129 rfl (fun k129 => ?_)
        exact b_iret dX6_count_132 rfl rfl
      refine b_if (fun h57_4 => ?_) (fun h57_4 => ?_)
      · refine b_tsIn (n := 133) (w := 4) h57_4 dX6_count_57 (by decide) (by decide) rfl (by decide) ?_
        refine b_aload_n (n := 134) 0 dX6_count_133 rfl rfl rfl ?_
        refine b_get (n := 137) (v := .int (x 0 6)) 0 f_X6_47 dX6_count_134 rfl hP_o300 rfl ?_
        exact b_iret dX6_count_137 rfl rfl
      refine b_if (fun h57_5 => ?_) (fun h57_5 => ?_)
      · refine b_tsIn (n := 138) (w := 5) h57_5 dX6_count_57 (by decide) (by decide) rfl (by decide) ?_
        refine b_aload_n (n := 139) 0 dX6_count_138 rfl rfl rfl ?_
        refine b_get (n := 142) (v := .ref (ad 0 0 0)) 0 f_X6_37 dX6_count_139 rfl hP_o300 rfl ?_
        refine bVi (n := 145) (As := []) (rest := []) 5 ((List.range (hWV E ad va rl w e I H pl vs).length).map (5 + ·)) lk_X6_236 (c_wo_allDefined (Nat.le_refl _)) (by omega) hP_tail tailN hP_o0 rfl rfl rfl (Nat.le_of_ble_eq_true rfl) dX6_count_142 rfl (fun k142 => ?_)
        exact b_iret dX6_count_145 rfl rfl
      refine b_tsOut (n := 146) dX6_count_57 (by have nh57_0 := i32_ne (k := 0) h57_0 (by decide); have nh57_1 := i32_ne (k := 1) h57_1 (by decide); have nh57_2 := i32_ne (k := 2) h57_2 (by decide); have nh57_3 := i32_ne (k := 3) h57_3 (by decide); have nh57_4 := i32_ne (k := 4) h57_4 (by decide); have nh57_5 := i32_ne (k := 5) h57_5 (by decide); omega) (by decide) ?_
      refine b_iconst (n := 147) (v := -1) dX6_count_146 rfl (by decide) ?_
      exact b_iret dX6_count_147 rfl rfl
