/-- orders by the class's signs -/
theorem tkc_ar {x : Nat} (h1 : 28 ≤ x) (h2 : x ≤ 31) : tkc (10000 + x) = (chO x, 0) := by
  have : x = 28 ∨ x = 29 ∨ x = 30 ∨ x = 31 := by omega
  rcases this with rfl | rfl | rfl | rfl <;> decide
theorem cd_ar : ∀ P : List Nat, (∀ x ∈ P, 28 ≤ x ∧ x ≤ 31) → (cd P).map tkc = P.map (fun x => (chO x, 0))
  | [], _ => rfl
  | x :: P, h => by
    have hx := h x (by simp)
    show tkc (10000 + x) :: (cd P).map tkc = (chO x, 0) :: P.map _
    rw [tkc_ar hx.1 hx.2, cd_ar P (fun y hy => h y (by simp [hy]))]
theorem chO_lt (x : Nat) : chO x < 500 := by
  unfold chO
  repeat' split
  all_goals omega
theorem wt_rng2 {vb : Nat} {ask : Bool} {A C Lg : List Nat} (hA : ∀ x ∈ A, inA x) (hop : opN (A ++ C ++ Lg) ≤ 8) : ∀ w ∈ wtA (bsF vb ask C Lg).length A ++ wtL Lg, w.1 < 500 ∧ w.2 < 100 := by
  intro w hw
  have hl1 := fm_len A
  have hl2 := cnt_op Lg
  have hl3 := bs_len vb ask C Lg
  have hl4 : opN (A ++ C ++ Lg) = opN A + opN C + opN Lg := by rw [opN_app, opN_app]
  have hb : (bsF vb ask C Lg).length ≤ 10 := by rw [hl3]; split <;> omega
  rcases List.mem_append.mp hw with q | q
  · have := wtA_le _ A w q
    refine ⟨?_, by omega⟩
    have key : ∀ (b : Nat) (A : List Nat), ∀ w ∈ wtA b A, w.1 < 500 := by
      intro b A
      induction A with
      | nil => intro w h; simp [wtA] at h
      | cons x A ih =>
        intro w h
        rw [wtA] at h
        split at h
        · exact ih w h
        · rcases List.mem_cons.mp h with q | q
          · subst q; exact chO_lt x
          · exact ih w q
    exact key _ _ w q
  · have key : ∀ (Lg : List Nat), ∀ w ∈ wtL Lg, w.1 < 500 ∧ w.2 < 100 := by
      intro Lg
      induction Lg with
      | nil => intro w h; simp [wtL] at h
      | cons x L ih =>
        intro w h
        rw [wtL] at h
        split at h
        · exact ih w h
        · rcases List.mem_cons.mp h with q | q
          · subst q; refine ⟨?_, by show 1 < 100; omega⟩; show lgO x < 500; unfold lgO; split <;> omega
          · exact ih w q
    exact key _ w q
