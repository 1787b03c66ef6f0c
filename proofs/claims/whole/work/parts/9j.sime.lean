/-! a text's clauses in the plain form -/
def otM (cl : List cls) : List (Nat × Nat) := cl.flatMap (fun c => c.2.2.2.map tkc ++ [(408, 0)])
theorem otM_snoc (cl : List cls) (c : cls) : otM (cl ++ [c]) = otM cl ++ (c.2.2.2.map tkc ++ [(408, 0)]) := by simp [otM]
def rpM (I : gI) (cl : List cls) : Prop := I 310 28 = nI cl.length ∧ ∀ k c, cl[k]? = some c → I 325 k = nI c.1 ∧ c.1 ≤ 6 ∧ I 326 k = nI (otM (cl.take k)).length ∧ (3 ≤ c.1 → I 327 k = c.2.1) ∧ (c.1 = 3 ∨ c.1 = 4 → I 328 k = c.2.2.1)
theorem rpM_snoc {I I' : gI} {cl : List cls} {c : cls} (h : rpM I cl) (h28 : I' 310 28 = nI (cl.length + 1)) (hk : ∀ k, k < cl.length → I' 325 k = I 325 k ∧ I' 326 k = I 326 k ∧ I' 327 k = I 327 k ∧ I' 328 k = I 328 k) (h1 : I' 325 cl.length = nI c.1) (hc : c.1 ≤ 6) (h2 : I' 326 cl.length = nI (otM cl).length) (h3 : 3 ≤ c.1 → I' 327 cl.length = c.2.1) (h4 : c.1 = 3 ∨ c.1 = 4 → I' 328 cl.length = c.2.2.1) : rpM I' (cl ++ [c]) := by
  refine ⟨by rw [h28]; simp, fun k d hd => ?_⟩
  rcases snoc_at hd with ⟨q1, q2⟩ | ⟨q1, q2⟩
  · obtain ⟨a1, a2, a3, a4⟩ := hk k q1
    rw [a1, a2, a3, a4, List.take_append_of_le_length (by omega)]
    exact h.2 k d q2
  · subst q1; subst q2
    rw [List.take_left' rfl]
    exact ⟨h1, hc, h2, h3, h4⟩
theorem k_X7_wasTold {G : gG} {I : gI} {R : gR} {L : gL} {Q : gQ} {cl : List cls} {w : Nat} (hR : g_Fx R) (h : rpM I cl) (hl : cl.length ≤ 24) (hw : w < 7) (hq1 : tldN w cl → Q (some (.int 1)) SH I R L) (hq0 : ¬ tldN w cl → Q (some (.int 0)) SH I R L) : Mt G mX7_wasTold 1 0 0 [.ref 310, .int (nI w)] SH I R L Q := by
  refine e_X7_wasTold hR ?_
  have main : ∀ (m i : Nat) (b : Int32), i + m = cl.length → ((b = 1 ∧ tldN w (cl.take i)) ∨ (b = 0 ∧ ¬ tldN w (cl.take i))) → Go G mX7_wasTold 1 0 0 4 [some (.ref 310), some (.int (nI w)), some (.int b), some (.int (nI i))] [] SH I R L Q := by
    intro m
    induction m with
    | zero =>
      intro i b hi hb
      rw [show cl.take i = cl from List.take_of_length_le (by omega)] at hb
      refine b_X7_wasTold_4 hR ⟨fun _ => ?_, fun c => absurd (by rw [h.1, show i = cl.length by omega]; exact nI_le (Nat.le_refl _) (by omega)) c⟩
      rcases hb with ⟨rfl, hb⟩ | ⟨rfl, hb⟩
      · exact ⟨Or.inr rfl, hq1 hb⟩
      · exact ⟨Or.inl rfl, hq0 hb⟩
    | succ m ih =>
      intro i b hi hb
      have hlt : i < cl.length := by omega
      obtain ⟨d, hd⟩ : ∃ d, cl[i]? = some d := ⟨cl[i], List.getElem?_eq_getElem hlt⟩
      have et : cl.take (i + 1) = cl.take i ++ [d] := by rw [List.take_add_one, hd]; rfl
      obtain ⟨a1, a2, -⟩ := h.2 i d hd
      refine b_X7_wasTold_4 hR ⟨fun c => absurd c (by rw [h.1]; exact nI_ge hlt (by omega)), fun _ => ⟨fun c => ?_, fun c => ⟨vp_in_nI (by omega) (by decide), ?_⟩⟩⟩
      · rintro _ rfl
        rw [nI_1]
        rcases hb with ⟨rfl, hb⟩ | ⟨rfl, hb⟩
        · refine ih (i + 1) 1 (by omega) (Or.inl ⟨rfl, ?_⟩)
          obtain ⟨e, he, hew⟩ := hb
          exact ⟨e, by rw [et]; exact List.mem_append.mpr (Or.inl he), hew⟩
        · exact absurd rfl c
      · rw [nI_clamp (by omega), a1, nI_eq (by omega) (by omega)]
        have hb0 : ¬ tldN w (cl.take i) := by
          rcases hb with ⟨rfl, hb⟩ | ⟨rfl, hb⟩
          · exact absurd c (by decide)
          · exact hb
        refine ⟨fun c2 => ?_, fun c2 => ?_⟩
        · rintro _ rfl
          rw [nI_1]
          refine ih (i + 1) 0 (by omega) (Or.inr ⟨rfl, fun ⟨e, he, hew⟩ => ?_⟩)
          rw [et] at he
          rcases List.mem_append.mp he with q | q
          · exact hb0 ⟨e, q, hew⟩
          · simp at q; subst q; exact c2 hew
        · rintro _ rfl
          rw [nI_1]
          exact ih (i + 1) 1 (by omega) (Or.inl ⟨rfl, d, by rw [et]; simp, c2⟩)
  exact main cl.length 0 0 (by omega) (Or.inr ⟨rfl, fun ⟨e, he, _⟩ => by simp at he⟩)
theorem tx4 {G : gG} {I : gI} {R : gR} {L : gL} {Q : gQ} (hR : g_Fx R) (h18 : I 310 18 = 0) (h27 : I 310 27 = 4) (h16 : ¬ I 310 16 = 0) (k : Mt G mX7_clause 5 0 0 [.ref 310] SH I R L (fun r S' I' R' L' => Go G mX7_text 6 0 0 164 [some (.ref 310), none, none] (r.toList ++ []) S' I' R' L' Q)) : Go G mX7_text 6 0 0 74 [some (.ref 310), none, none] [] SH I R L Q := by
  have g : Go G mX7_text 6 0 0 96 [some (.ref 310), none, none] [] SH I R L Q := by
    refine b_X7_text_96 hR ?_
    rw [h27]
    exact ⟨fun c => absurd c (by decide), fun c => absurd c (by decide), fun c => absurd c (by decide), fun c => absurd c (by decide), fun _ => k⟩
  exact b_X7_text_74 hR ⟨fun c => absurd h18 c, fun _ => ⟨fun c => absurd h27 c, fun _ => ⟨fun c => absurd c h16, fun _ => g⟩⟩⟩
def fM2 (I I' : gI) : Prop := (∀ c, c ≠ 310 → ¬ (321 ≤ c ∧ c ≤ 330) → I' c = I c) ∧ ∀ j, j ≤ 13 → I' 310 j = I 310 j
theorem fM2.refl (I : gI) : fM2 I I := ⟨fun _ _ _ => rfl, fun _ _ => rfl⟩
theorem fM2.trans {I J K : gI} (h : fM2 I J) (g : fM2 J K) : fM2 I K := ⟨fun c a b => (g.1 c a b).trans (h.1 c a b), fun j a => (g.2 j a).trans (h.2 j a)⟩
theorem fM2_up {I J : gI} {c j : Nat} {x : Int32} (h : fM2 I J) (hc : (c = 310 ∧ 13 < j) ∨ (321 ≤ c ∧ c ≤ 330)) : fM2 I (up J c j x) := by
  refine ⟨fun d a b => by rw [up_off d (by omega)]; exact h.1 d a b, fun k hk => ?_⟩
  rw [up_ne (by omega)]; exact h.2 k hk
theorem fM2_mv {I J : gI} {pl a : Nat} {s t : Int32} (h : fM2 I J) : fM2 I (mvT J pl a s t) := fM2_up (fM2_up (fM2_up (fM2_up h (by omega)) (by omega)) (by omega)) (by omega)
theorem fM2_err {I J : gI} {z : Int32} (h : fM2 I J) : fM2 I (errI J z) := by
  unfold errI
  split
  · exact h
  · exact fM2_up (fM2_up h (by omega)) (by omega)
theorem frV.m {I J : gI} (h : frV I J) : fM2 I J := ⟨fun c a b => h.1 c a (by omega) (by omega) (by omega) (by omega) (by omega) (by omega), fun j hj => h.2 j (by omega)⟩
theorem fH.m {I J : gI} {nc : Nat} (h : fH I J nc) : fM2 I J := ⟨fun c a b => h.1 c a (by omega) (by omega), fun j hj => h.2.2 j (by omega)⟩
/-- where the plain form stands between clauses -/
def stC (I : gI) (T : Nat → Nat) (n : Nat) (σ : rds) (cl : List cls) : Prop := (∃ k p, σ = .inl (k, p) ∧ I 310 18 = nI k ∧ I 310 19 = nI p) ∨ ∃ pl tk v a, σ = .inr (pl, tk, v, a) ∧ I 310 18 = 0 ∧ I 310 19 = -1 ∧ I 310 27 = 4 ∧ mK I [] [] (otM cl) 0 ∧ rpM I cl ∧ lxM I n pl tk v a ∧ (∃ p, Lx T n p pl tk v a) ∧ (otM cl).length ≤ pl ∧ cl.length ≤ 24
