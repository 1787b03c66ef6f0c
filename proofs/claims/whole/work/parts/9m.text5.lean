/-- clauses that can be -/
def okCl (cl : List cls) : Prop := (∀ (k : Nat) (c : cls), cl[k]? = some c → (c.1 < 3 → tyc (tyN c.2.2.2) [] = some [decide (c.1 = 2)] ∧ ∀ x ∈ c.2.2.2, okc c.1 x)) ∧ ∀ (i j : Nat) (c d : cls), cl[i]? = some c → cl[j]? = some d → c.1 = d.1 → c.1 < 3 → i = j
theorem okCl_nil : okCl [] := ⟨fun k c h => by simp at h, fun i j c d h => by simp at h⟩
theorem okCl_snoc {cl : List cls} {c : cls} (h : okCl cl) (h1 : c.1 < 3 → tyc (tyN c.2.2.2) [] = some [decide (c.1 = 2)] ∧ ∀ x ∈ c.2.2.2, okc c.1 x) (h2 : c.1 < 3 → ¬ tldN c.1 cl) : okCl (cl ++ [c]) := by
  refine ⟨fun k d hd => ?_, fun i j d e hd he q1 q2 => ?_⟩
  · rcases snoc_at hd with ⟨q1, q2⟩ | ⟨q1, q2⟩
    · exact h.1 k d q2
    · subst q2; exact h1
  · rcases snoc_at hd with ⟨a1, a2⟩ | ⟨a1, a2⟩
    · rcases snoc_at he with ⟨b1, b2⟩ | ⟨b1, b2⟩
      · exact h.2 i j d e a2 b2 q1 q2
      · subst b2; exact absurd ⟨d, List.mem_of_getElem? a2, q1⟩ (h2 (by omega))
    · rcases snoc_at he with ⟨b1, b2⟩ | ⟨b1, b2⟩
      · subst a2; exact absurd ⟨e, List.mem_of_getElem? b2, q1.symm⟩ (h2 q2)
      · omega
theorem TRw_inl {T : Nat → Nat} {n : Nat} {f : Nat × Nat} {cl cl' : List cls} : ∀ m, ¬ TRw T n m (.inl f) cl (.inr cl')
  | 0, h => by
    rcases h with ⟨f', -, e⟩ | ⟨pl, v, a, e, -⟩
    · cases e
    · cases e
  | m + 1, h => by obtain ⟨pl, tk, v, a, σ', cl2, e, -⟩ := h; cases e
theorem TRw_ok {T : Nat → Nat} {n : Nat} {cl' : List cls} : ∀ (m : Nat) (σ : rds) (cl : List cls), okCl cl → TRw T n m σ cl (.inr cl') → okCl cl'
  | 0, σ, cl, h, hr => by
    rcases hr with ⟨f', -, e⟩ | ⟨pl, v, a, -, e⟩
    · cases e
    · cases e; exact h
  | m + 1, σ, cl, h, hr => by
    obtain ⟨pl, tk, v, a, σ', cl2, e, h38, hC, hr'⟩ := hr
    rcases hC with ⟨k, -, e2⟩ | ⟨c2, c3, c4, pl1, tk1, v1, a1, m1, hL, hq⟩ | ⟨c2, c3, c4, pl1, tk1, v1, a1, z, w, hL, hD, e2⟩
    · subst e2; exact absurd hr' (TRw_inl m)
    · rcases hq with ⟨f, hRL, e2⟩ | ⟨pl', tk', v', a', code, hRL, e2, e3⟩
      · subst e2; exact absurd hr' (TRw_inl m)
      · subst e3
        have t0 : tyI tk s0L := ⟨⟨fun x hx => by simp [s0L] at hx, Or.inl rfl, fun x hx => by simp [s0L] at hx, fun _ => rfl, trivial, by simp [s0L, wt, opN]⟩, rfl, fun c hc => by simp [s0L] at hc⟩
        exact TRw_ok m σ' _ (okCl_snoc h (fun _ => ty_law m1 pl1 tk1 v1 a1 s0L pl' tk' v' a' code t0 hRL) (fun _ => c3)) hr'
    · subst e2
      exact TRw_ok m σ' _ (okCl_snoc h (fun q => absurd c2 (by have : tk < 3 := q; omega)) (fun q => absurd c2 (by have : tk < 3 := q; omega))) hr'
theorem tksC_eq {g : Nat → Int32} : ∀ (code : List Nat) (p : Nat), (∀ j, j < code.length → g (p + j) = nI (code.getD j 0)) → (∀ x ∈ code, x < 2 ^ 31) → tksC g p code.length = tyN code
  | [], p, _, _ => rfl
  | c :: code, p, h, hb => by
    have h0 := h 0 (by simp)
    rw [Nat.add_zero] at h0
    have hb0 := hb c (by simp)
    show tkC (g p).toInt :: tksC g (p + 1) code.length = tkC (c : Int) :: tyN code
    rw [tksC_eq code (p + 1) (fun j hj => by have := h (j + 1) (by simp; omega); rw [show p + 1 + j = p + (j + 1) by omega, this]; rfl) (fun x hx => hb x (by simp [hx])), h0]
    rw [show (nI ((c :: code).getD 0 0)).toInt = (c : Int) from nI_toInt hb0]
theorem tkM1_c {vb c : Nat} (h : okc vb c) : tkM1 (nI (tkc c).1) (nI (tkc c).2) = tkC (c : Int) ∧ (tkc c).1 < 500 ∧ (tkc c).1 ≠ 408 ∧ c < 2 ^ 31 := by
  rcases h with h | ⟨h1, h2, -⟩ | ⟨x, rfl, hx⟩
  · have e1 : tkc c = (400, c) := by unfold tkc; rw [if_pos (by omega)]
    have e2 : tkC (c : Int) = (400, (c : Int)) := by unfold tkC; rw [if_pos (by omega)]
    rw [e1, e2]
    refine ⟨?_, by show 400 < 500; decide, by show 400 ≠ 408; decide, by omega⟩
    show ((nI 400).toInt, if nI 400 = 400 ∨ nI 400 = 401 then (nI c).toInt else 0) = _
    rw [if_pos (show nI 400 = 400 ∨ nI 400 = 401 from Or.inl rfl), nI_toInt (show c < 2 ^ 31 by omega)]; rfl
  · have e1 : tkc c = (401, c - 10012) := by unfold tkc; rw [if_neg (by omega), if_pos (by omega)]
    have e2 : tkC (c : Int) = (401, (c : Int) - 10012) := by unfold tkC; rw [if_neg (by omega), if_pos (by omega)]
    rw [e1, e2]
    refine ⟨?_, by show 401 < 500; decide, by show 401 ≠ 408; decide, by omega⟩
    show ((nI 401).toInt, if nI 401 = 400 ∨ nI 401 = 401 then (nI (c - 10012)).toInt else 0) = _
    rw [if_pos (show nI 401 = 400 ∨ nI 401 = 401 from Or.inr rfl), nI_toInt (show c - 10012 < 2 ^ 31 by omega)]
    have : ((c - 10012 : Nat) : Int) = (c : Int) - 10012 := by omega
    rw [this]; rfl
  · have : x = 28 ∨ x = 29 ∨ x = 30 ∨ x = 31 ∨ x = 40 ∨ x = 24 ∨ x = 25 ∨ x = 26 ∨ x = 27 ∨ x = 35 ∨ x = 36 ∨ x = 9 ∨ x = 10 ∨ x = 11 := by
      unfold opx inA inC inL at hx; omega
    rcases this with rfl | rfl | rfl | rfl | rfl | rfl | rfl | rfl | rfl | rfl | rfl | rfl | rfl | rfl <;> exact ⟨rfl, by decide, by decide, by decide⟩
theorem tksM_eq {o v : Nat → Int32} {vb : Nat} : ∀ (code : List Nat) (p : Nat), (∀ j, j < code.length → o (p + j) = nI ((code.map tkc).getD j (0, 0)).1 ∧ v (p + j) = nI ((code.map tkc).getD j (0, 0)).2) → (∀ x ∈ code, okc vb x) → tksM o v p code.length = tyN code
  | [], p, _, _ => rfl
  | c :: code, p, h, hb => by
    have h0 := h 0 (by simp)
    rw [Nat.add_zero] at h0
    have hb0 := hb c (by simp)
    show tkM1 (o p) (v p) :: tksM o v (p + 1) code.length = tkC (c : Int) :: tyN code
    rw [tksM_eq code (p + 1) (fun j hj => by have := h (j + 1) (by simp; omega); rw [show p + 1 + j = p + (j + 1) by omega, this.1, this.2]; exact ⟨rfl, rfl⟩) (fun x hx => hb x (by simp [hx])), h0.1, h0.2]
    rw [show tkM1 (nI (((c :: code).map tkc).getD 0 (0, 0)).1) (nI (((c :: code).map tkc).getD 0 (0, 0)).2) = tkC (c : Int) from (tkM1_c hb0).1]
theorem flat_at {α β : Type} (F : α → List β) (l : List α) (i : Nat) (c : α) (h : l[i]? = some c) (d : β) : l.flatMap F = (l.take i).flatMap F ++ (F c ++ (l.drop (i + 1)).flatMap F) ∧ (l.take (i + 1)).flatMap F = (l.take i).flatMap F ++ F c ∧ ∀ j, j < (F c).length → (l.flatMap F).getD (((l.take i).flatMap F).length + j) d = (F c).getD j d := by
  have hi := (List.getElem?_eq_some_iff.mp h).1
  have e1 : l.take (i + 1) = l.take i ++ [c] := by rw [List.take_add_one, h]; rfl
  have e2 : l.flatMap F = (l.take i).flatMap F ++ (F c ++ (l.drop (i + 1)).flatMap F) := by
    conv => lhs; rw [← List.take_append_drop (i + 1) l, e1]
    simp
  refine ⟨e2, by rw [e1]; simp, fun j hj => ?_⟩
  rw [e2, List.getD_eq_getElem?_getD, List.getD_eq_getElem?_getD, List.getElem?_append_right (by omega), Nat.add_sub_cancel_left, List.getElem?_append_left hj]
