def ini0 (j : Nat) : Int32 := if j = 2 then -1 else if j = 464 then 3 else if 114 ≤ j ∧ j < 123 then 2 else 0
theorem ini0_0 {j : Nat} (h1 : j ≠ 2) (h2 : j ≠ 464) (h3 : ¬ (114 ≤ j ∧ j < 123)) : ini0 j = 0 := by unfold ini0; rw [if_neg h1, if_neg h2, if_neg h3]
theorem ini0_2 {j : Nat} (h : 114 ≤ j ∧ j < 123) : ini0 j = 2 := by unfold ini0; rw [if_neg (by omega), if_neg (by omega), if_pos h]
theorem okf_init {f : Nat → Int32} (h : ∀ j, j < 11120 → f j = ini0 j) : okf f := by
  have z : ∀ j, j < 11120 → j ≠ 2 → j ≠ 464 → ¬ (114 ≤ j ∧ j < 123) → f j = 0 := fun j a b c d => by rw [h j a, ini0_0 b c d]
  have z0 : (0 : Int32).toInt = 0 := rfl
  have z2 : (2 : Int32).toInt = 2 := rfl
  have n0 : (0 : Int32).toNatClampNeg = 0 := rfl
  refine ⟨?_, ?_⟩
  · unfold okh
    rw [z 0 (by decide) (by decide) (by decide) (by decide), z 1 (by decide) (by decide) (by decide) (by decide), z 3 (by decide) (by decide) (by decide) (by decide), z 4 (by decide) (by decide) (by decide) (by decide), z 5 (by decide) (by decide) (by decide) (by decide), z0, n0]
    refine ⟨by decide, by decide, Or.inl (h 2 (by decide)), by decide, by decide, by decide, fun e he => ?_, fun k hk => absurd hk (by omega)⟩
    rw [z (10 + 3 * e) (by omega) (by omega) (by omega) (by omega), z (10 + 3 * e + 1) (by omega) (by omega) (by omega) (by omega), z (10 + 3 * e + 2) (by omega) (by omega) (by omega) (by omega), z0]
    decide
  · unfold okst
    rw [z 0 (by decide) (by decide) (by decide) (by decide), z 3 (by decide) (by decide) (by decide) (by decide), n0]
    refine ⟨?_, fun i hi => absurd hi (by omega), fun i j hij hj => absurd hj (by omega)⟩
    have r22 : row f 110 22 = 0 := z 132 (by decide) (by decide) (by decide) (by decide)
    have r263 : row f 110 263 = 0 := z 373 (by decide) (by decide) (by decide) (by decide)
    have r354 : row f 110 354 = 3 := h 464 (by decide)
    unfold okr
    rw [r22, r263, r354, z0]
    have w : ∀ e, e < 9 → row f 110 (4 + e) = 2 := fun e he => by
      show f (110 + (4 + e)) = 2
      rw [h _ (by omega), ini0_2 (by omega)]
    have t : ∀ e, e < 9 → row f 110 (13 + e) = 0 := fun e he => by
      show f (110 + (13 + e)) = 0
      exact z _ (by omega) (by omega) (by omega) (by omega)
    refine ⟨fun j hj => ?_, fun e he => ?_, fun e he => ?_, by decide, by decide, by decide, fun e _ he => ?_⟩
    · rw [show row f 110 j = 0 from z (110 + j) (by omega) (by omega) (by omega) (by omega), z0]; decide
    · rw [w e he, z2]; decide
    · rw [t e he, z0]; decide
    · rw [w e he, t e he, z2, z0]; decide
theorem CR_init {I : gI} {R : gR} {c : Nat} {p : Nat → Nat} {f : Nat → Int32} (hc : coF c I R) (h : ∀ j, j < 11120 → f j = ini0 j) : CR I c p f := by
  have z : ∀ j, j < 11120 → j ≠ 2 → j ≠ 464 → ¬ (114 ≤ j ∧ j < 123) → f j = 0 := fun j a b c d => by rw [h j a, ini0_0 b c d]
  have n0 : (0 : Int32).toNatClampNeg = 0 := rfl
  obtain ⟨⟨a2, a6, a9, a10, a11, a12, a14⟩, ⟨s2, s3, s4, t3, t4, t5⟩, ha, -⟩ := hc
  refine ⟨?_, ?_, fun i hi => ?_⟩
  · unfold coR
    rw [z 0 (by decide) (by decide) (by decide) (by decide), z 1 (by decide) (by decide) (by decide) (by decide), z 3 (by decide) (by decide) (by decide) (by decide), z 4 (by decide) (by decide) (by decide) (by decide), z 5 (by decide) (by decide) (by decide) (by decide), n0]
    refine ⟨a6, a9, a10.trans (h 2 (by decide)).symm, a2, a12, a14, fun e he => ?_, a11, fun e he => ha 131 (by decide) (by decide) e⟩
    rw [z (10 + 3 * e) (by omega) (by omega) (by omega) (by omega), z (10 + 3 * e + 1) (by omega) (by omega) (by omega) (by omega), z (10 + 3 * e + 2) (by omega) (by omega) (by omega) (by omega)]
    exact ⟨ha 126 (by decide) (by decide) e, ha 127 (by decide) (by decide) e, ha 128 (by decide) (by decide) e⟩
  · have r22 : row f 110 22 = 0 := z 132 (by decide) (by decide) (by decide) (by decide)
    have r263 : row f 110 263 = 0 := z 373 (by decide) (by decide) (by decide) (by decide)
    have r354 : row f 110 354 = 3 := h 464 (by decide)
    unfold scR
    rw [r22, r263, r354, n0]
    refine ⟨fun j hj => ?_, fun e he => ?_, fun e he => ?_, t3, t4, t5, fun j hj => absurd hj (by omega), fun j hj => absurd hj (by omega)⟩
    · rw [show row f 110 j = 0 from z (110 + j) (by omega) (by omega) (by omega) (by omega)]; exact s2 j
    · rw [show row f 110 (4 + e) = 2 by show f (110 + (4 + e)) = 2; rw [h _ (by omega), ini0_2 (by omega)]]; exact s3 e he
    · rw [show row f 110 (13 + e) = 0 by show f (110 + (13 + e)) = 0; exact z _ (by omega) (by omega) (by omega) (by omega)]; exact s4 e
  · rw [z 3 (by decide) (by decide) (by decide) (by decide), n0] at hi
    omega
theorem Rel_init {I : gI} {R : gR} (hF : g_Fx R) (hX : spmF 0 I R) (h3 : I 310 3 = 0) (h4 : I 310 4 = -1) (h5 : I 310 5 = -1) (hf : ∀ j, I 311 j = ini0 j) (hg : ∀ j, j < 11120 → I 312 j = I 311 j) : Rel I R := by
  obtain ⟨⟨x6, x7, x8, x9⟩, ⟨⟨hc, -⟩, -⟩, hc2, -⟩ := hX
  have hg' : ∀ j, j < 11120 → I 312 j = ini0 j := fun j hj => by rw [hg j hj, hf]
  have z1 : I 311 1 = 0 := by rw [hf, ini0_0 (by decide) (by decide) (by decide)]
  have y1 : I 312 1 = 0 := by rw [hg' 1 (by decide), ini0_0 (by decide) (by decide) (by decide)]
  refine ⟨⟨hF, ⟨fun i => i, ⟨fun i hi => ⟨hi, ?_⟩, fun i j _ _ e => e⟩, CR_init hc (fun j _ => hf j)⟩, CR_init hc2 hg', okf_init (fun j _ => hf j), okf_init hg', ?_, fun t ht => ?_, ?_⟩, Or.inl x9⟩
  · have := (hc.2.2.2.2.2 i hi).1
    exact this
  · rw [y1, z1]; exact Int.le_refl _
  · rw [z1] at ht; exact absurd ht (by simp)
  · unfold tpR
    rw [h3, h4, h5, x6, x7, x8]
    exact ⟨rfl, ⟨by decide, by decide⟩, fun j hj => absurd hj (by simp), rfl, rfl⟩
