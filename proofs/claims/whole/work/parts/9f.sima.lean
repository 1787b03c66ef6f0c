theorem okW_pre : ∀ (A B : List Nat), okW (A ++ B) → okW A
  | [], _, _ => trivial
  | x :: A, B, h => by
    obtain ⟨h1, h2⟩ := h
    refine ⟨okW_pre A B h1, ?_⟩
    rcases h2 with q | q
    · exact Or.inl q
    · cases A with
      | nil => exact Or.inr (Nat.lt_of_le_of_lt (Nat.zero_le _) q)
      | cons y A => exact Or.inr q
theorem br_rep (j : Nat) (A : List Nat) : brN (List.replicate j 40 ++ A) = brN A := by
  unfold brN; rw [List.count_append, List.count_replicate]; simp
theorem spl_cls : ∀ (j : Nat) (A' P A : List Nat), P ++ 32 :: A = List.replicate j 40 ++ A' → ∃ P', P = List.replicate j 40 ++ P' ∧ A' = P' ++ 32 :: A
  | 0, A', P, A, h => ⟨P, rfl, h.symm⟩
  | j + 1, A', P, A, h => by
    cases P with
    | nil => rw [List.replicate_succ] at h; simp at h
    | cons y P =>
      rw [List.replicate_succ, List.cons_append, List.cons_append] at h
      injection h with h1 h2
      obtain ⟨P', e1, e2⟩ := spl_cls j A' P A h2
      exact ⟨P', by rw [h1, e1, List.replicate_succ]; rfl, e2⟩
/-- the plain form's view of what the class has before it -/
def stW (I : gI) (vb : Nat) (pre : List (Nat × Nat)) (s : lst) : Prop :=
  (s.2.2.2.2 = true ∧ s.1 = [] ∧ s.2.1 = [] ∧ vb = 2 ∧ mV I 2 pre [] [] s.2.2.1 (s.2.2.2.1.map tkc) false ∧ I 310 27 = 0) ∨
  (s.2.2.2.2 = true ∧ ¬ (s.1 = [] ∧ s.2.1 = [] ∧ vb = 2) ∧ mV I vb pre s.1 s.2.1 s.2.2.1 (s.2.2.2.1.map tkc) (vb == 2) ∧ I 310 27 = 1) ∨
  (s.2.2.2.2 = false ∧ ∃ j A', s.1 = List.replicate j 40 ++ A' ∧ (∀ y B, A' = y :: B → y ≠ 40) ∧ mV I vb pre A' s.2.1 s.2.2.1 (s.2.2.2.1.map tkc ++ List.replicate j (402, 0)) (vb == 2) ∧ I 310 27 = 2)
theorem simTo1 {G : gG} {I : gI} {R : gR} {L : gL} {Q : gQ} {vb n pl tk v a : Nat} {pre : List (Nat × Nat)} {A C Lg o : List Nat} (hR : g_Fx R) (h : stW I vb pre (A, C, Lg, o, true)) (hok : okLS vb (A, C, Lg, o, true)) (hx : lxM I n pl tk v a) (htk : tk < 40) (hn : ¬ (tk = 11 ∧ vb = 2 ∧ A = [] ∧ C = []))
    (hq : ∀ I', mV I' vb pre A C Lg (o.map tkc) (vb == 2) → lxM I' n pl tk v a → frX I I' → I' 310 27 = 1 → Go G mX7_text 6 0 0 74 [some (.ref 310), none, none] [] SH I' R L Q) : Go G mX7_text 6 0 0 74 [some (.ref 310), none, none] [] SH I R L Q := by
  rcases h with ⟨-, e1, e2, e3, h1, h2⟩ | ⟨-, -, h1, h2⟩ | ⟨e, -⟩
  · simp only at e1 e2
    subst e1; subst e2; subst e3
    have hop := hok.2.2.2.2.2
    exact simAsk hR h1 h2 hx (by simpa [wt] using hop) (fun q => hn ⟨q, rfl, rfl, rfl⟩) htk hq
  · exact hq I h1 hx (frX.refl _) h2
  · cases e
theorem lenW {vb : Nat} {s : lst} (h : okLS vb s) : (wt s).length ≤ 62 := by
  have := okW_len _ h.2.2.2.2.1
  have := h.2.2.2.2.2
  omega
theorem wtA_len (b : Nat) : ∀ A : List Nat, (wtA b A).length ≤ A.length
  | [] => by simp [wtA]
  | x :: A => by
    have := wtA_len b A
    rw [wtA]; split <;> simp <;> omega
theorem wtL_len : ∀ A : List Nat, (wtL A).length ≤ A.length
  | [] => by simp [wtL]
  | x :: A => by
    have := wtL_len A
    rw [wtL]; split <;> simp <;> omega
