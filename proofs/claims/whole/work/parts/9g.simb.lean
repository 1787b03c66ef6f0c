/-- a law, read by the plain form -/
theorem simL {G : gG} {R : gR} {L : gL} {Q : gQ} {T : Nat → Nat} {n vb nc : Nat} {pre : List (Nat × Nat)} (hR : g_Fx R) (hvb : vb < 3) (r : Nat × Nat ⊕ Nat × Nat × Nat × Nat × List Nat) :
    ∀ (m : Nat) (s : lst) (I : gI) (pl tk v a : Nat), tpM I T n → okLS vb s → stW I vb pre s → lxM I n pl tk v a → (∃ p, Lx T n p pl tk v a) → I 310 28 = nI nc → pre.length + s.2.2.2.1.length + (wt s).length ≤ pl → RLw T n vb m pl tk v a s r →
      (∀ I' k p, r = .inl (k, p) → frV I I' → I' 310 15 = nI p → p ≤ n → Go G mX7_text 6 0 0 74 [some (.ref 310), none, none] [] SH (errI I' (nI k)) R L Q) →
      (∀ I' pl' tk' v' a' code, r = .inr (pl', tk', v', a', code) → mK I' [] [] (pre ++ code.map tkc ++ [(408, 0)]) 0 → lxM I' n pl' tk' v' a' → (∃ p, Lx T n p pl' tk' v' a') → pre.length + code.length + 1 ≤ pl' → (∀ c, c ≠ 310 → c ≠ 321 → c ≠ 322 → c ≠ 323 → c ≠ 324 → c ≠ 329 → c ≠ 330 → I' c = I c) → (∀ j, (j ≤ 13 ∨ j = 18 ∨ j = 19 ∨ j = 29) → I' 310 j = I 310 j) → I' 310 27 = 4 → I' 310 28 = nI (nc + 1) → Go G mX7_text 6 0 0 74 [some (.ref 310), none, none] [] SH I' R L Q) →
      Go G mX7_text 6 0 0 74 [some (.ref 310), none, none] [] SH I R L Q := by
  intro m
  induction m with
  | zero =>
    intro s I pl tk v a hT hok hst hx hLx h28 hlen hRL hf hk
    obtain ⟨p0, hp0⟩ := hLx
    obtain ⟨x1, x2, x3, x4, x5, x6, x7, x8⟩ := Lx_adv hp0
    have hn := hT.1
    have hlw := lenW hok
    rcases hRL with ⟨k, hF, rfl⟩ | ⟨hE, pl', tk', v', a', hL, rfl⟩
    · have flt : ∀ I', frV I I' → I' 310 15 = nI pl → Go G mX7_text 6 0 0 74 [some (.ref 310), none, none] [] SH (errI I' (nI k)) R L Q := fun I' g1 g2 => hf I' k pl rfl g1 g2 x4
      rcases hF with ⟨A, C, Lg, o, e1, e2, rfl, rfl⟩ | ⟨A, C, Lg, o, e1, e2, e3, rfl, rfl⟩ | ⟨A, C, Lg, o, e1, e2, rfl, rfl⟩ | ⟨A, C, Lg, o, e1, e2, e3, e4, e5, rfl, rfl⟩ | ⟨A, C, Lg, o, n1, n2, n3, n4, n5, rfl, rfl⟩
      · exact simTo1 hR hst hok hx (by omega) (by omega) (fun I2 g1 g2 g3 g4 => simFlt hR g1 g4 g2 hvb (by omega) (Or.inl ⟨e1, e2, rfl⟩) (flt I2 g3.v g2.2.2.1))
      · exact simTo1 hR hst hok hx (by omega) (by omega) (fun I2 g1 g2 g3 g4 => simFlt hR g1 g4 g2 hvb (by omega) (Or.inr (Or.inl ⟨e1, e2, e3, rfl⟩)) (flt I2 g3.v g2.2.2.1))
      · have hop : opN (A ++ C ++ Lg) ≤ 8 := hok.2.2.2.2.2
        rcases e1 with e1 | e1 | ⟨e1, ev, eA, eC⟩
        · exact simTo1 hR hst hok hx (by omega) (by omega) (fun I2 g1 g2 g3 g4 => simOpn hR (tpM_x hT g3) g1 g4 g2 hop (Or.inl ⟨e1, rfl, rfl⟩) (fun q => absurd q (by omega)) (fun _ => flt I2 g3.v g2.2.2.1))
        · exact simTo1 hR hst hok hx (by omega) (by omega) (fun I2 g1 g2 g3 g4 => simOpn hR (tpM_x hT g3) g1 g4 g2 hop (Or.inr ⟨e1, rfl, rfl⟩) (fun q => absurd q (by omega)) (fun _ => flt I2 g3.v g2.2.2.1))
        · subst eA; subst eC; subst ev
          rcases hst with ⟨-, -, -, -, g1, g2⟩ | ⟨-, q, -, -⟩ | ⟨e, -⟩
          · exact simNay hR hT g1 g2 hx (by simpa using hop) e1 (fun q => absurd q (by simp at e2; simp; omega)) (fun _ => flt I (frV.refl _) hx.2.2.1)
          · exact absurd ⟨rfl, rfl, rfl⟩ q
          · cases e
      · exact simTo1 hR hst hok hx (by omega) e5 (fun I2 g1 g2 g3 g4 => simFlt hR g1 g4 g2 hvb (by omega) (Or.inr (Or.inr ⟨e1, e2, e3, e4, rfl⟩)) (flt I2 g3.v g2.2.2.1))
      · rcases hst with ⟨e, -⟩ | ⟨e, -⟩ | ⟨-, j, A', e1, h40, g1, g2⟩
        · cases e
        · cases e
        · simp only at e1
          subst e1
          obtain ⟨hA, hC, hLg, hv, hW, hop⟩ := hok
          simp only at hA hC hLg hv g1
          have hA' : ∀ x ∈ A', inA x := fun x hx => hA x (by simp [hx])
          have hW0 : okW (List.replicate j 40 ++ (A' ++ (C ++ Lg))) := by have := hW; unfold wt at this; simpa using this
          have hW1 := okW_tail _ _ hW0
          have hW2 := okW_pre _ _ hW1
          have hW3 := okW_tail C Lg (okW_tail A' _ hW1)
          have hop' : opN (A' ++ C ++ Lg) ≤ 8 := by
            have : opN (List.replicate j 40 ++ A' ++ C ++ Lg) ≤ 8 := hop
            rw [List.append_assoc, List.append_assoc, op_rep, ← List.append_assoc] at this
            omega
          have hl : j + (A'.length + C.length + Lg.length) ≤ 62 := by simp [wt] at hlw; omega
          have hlen' : pre.length + o.length + (j + (A'.length + C.length + Lg.length)) ≤ pl := by simp [wt] at hlen; omega
          have w1 := wtA_len (bsF vb (vb == 2) C Lg).length A'
          have w2 := wtL_len Lg
          rw [br_rep] at n2 n3 n4 n5
          refine simBtw hR hvb g1 g2 hx hA' hC hLg hv hW2 hW3 h40 hop' (by rw [List.length_append]; omega) (by omega) (by simp; omega) (fun w hw => ?_) (by omega) n1 n2 n3 n4 n5 (fun I' q1 q2 => flt I' q1.v q2)
          rw [(wtL_1 _ w hw).2, bs_len]
          by_cases v2 : vb = 2
          · subst v2; simp; omega
          · rw [hv v2] at hw; simp [wtL] at hw
    · obtain ⟨e34, hb, hcv, hw⟩ := hE
      obtain ⟨A, C, Lg, o, w⟩ := s
      simp only at hb hcv hw
      subst hw; subst e34
      rcases hst with ⟨e, -⟩ | ⟨e, -⟩ | ⟨-, j, A', e1, h40, g1, g2⟩
      · cases e
      · cases e
      · simp only at e1 g1
        subst e1
        obtain ⟨hA, hC, hLg, hv, hW, hop⟩ := hok
        simp only at hA hC hLg hv
        have hA' : ∀ x ∈ A', inA x := fun x hx => hA x (by simp [hx])
        have hW0 : okW (List.replicate j 40 ++ (A' ++ (C ++ Lg))) := by have := hW; unfold wt at this; simpa using this
        have hW1 := okW_tail _ _ hW0
        have hW2 := okW_pre _ _ hW1
        have hW3 := okW_tail C Lg (okW_tail A' _ hW1)
        have hop' : opN (A' ++ C ++ Lg) ≤ 8 := by
          have : opN (List.replicate j 40 ++ A' ++ C ++ Lg) ≤ 8 := hop
          rw [List.append_assoc, List.append_assoc, op_rep, ← List.append_assoc] at this
          omega
        have hl : j + (A'.length + C.length + Lg.length) ≤ 62 := by simp [wt] at hlw; omega
        have hlen' : pre.length + o.length + (j + (A'.length + C.length + Lg.length)) ≤ pl := by simp [wt] at hlen; omega
        have w1 := wtA_len (bsF vb (vb == 2) C Lg).length A'
        have w2 := wtL_len Lg
        rw [br_rep] at hb
        have y1 := Lx_adv hL
        have y2 := x5 (by decide)
        have hcl : ∀ code : List Nat, code.length = o.length + (j + (A'.length + C.length + Lg.length)) → pre.length + code.length + 1 ≤ pl' := fun code e => by omega
        by_cases v2 : vb = 2
        · subst v2
          obtain ⟨c, hc, rfl⟩ : ∃ c, inC c ∧ C = [c] := by
            rcases hC with q | ⟨c, q1, q2, -⟩
            · exact absurd q (hcv.mpr rfl)
            · exact ⟨c, q1, q2⟩
          refine simRight hR g1 g2 hx hA' hW2 hW3 h40 hop' (by rw [List.length_append]; simp only [List.length_singleton] at hl; show _ + _ < _; have := wtA_len (bsF 2 true [c] Lg).length A'; omega) (by omega) (by simp at hl ⊢; simp at hlen'; omega) (fun w hw => ?_) hc hLg hb (by omega) (by omega) (fun I' k L' eL hL' q1 q2 q3 q4 => ?_)
          · rw [(wtL_1 _ w hw).2, bs_len]; simp; omega
          · have hlk : k + L'.length = Lg.length := by rw [eL]; simp
            refine simEndB hR (tpM_x hT q3) q1 q4 (by rw [q3.2 28 (by omega)]; exact h28) q2 hL' (by omega) (by simp [cd] at hl hlen' ⊢; omega) hL (fun I2 u1 u2 u3 u4 u5 => ?_)
            refine hk I2 pl' tk' v' a' _ rfl ?_ u2 ⟨_, hL⟩ (hcl _ (by simp [wt, cd]; omega)) (fun c a b d e f g h => (u3.1 c a b e f g h).trans (q3.1 c a b e f g h)) (fun j hj => (u3.2 j hj).trans (q3.2 j (by omega))) u4 u5
            have e : (o ++ cd (wt (List.replicate j 40 ++ A', [c], Lg, o, false))).map tkc = o.map tkc ++ List.replicate j (402, 0) ++ (cd (A' ++ [c] ++ List.replicate k 11)).map tkc ++ (cd L').map tkc := by
              show (o ++ cd (List.replicate j 40 ++ A' ++ [c] ++ Lg)).map tkc = _
              rw [eL, List.map_append, ← cd_40, cd_app, cd_app, cd_app, cd_app, cd_app, cd_app]
              simp
            show mK I2 [] [] (pre ++ (o ++ cd (wt (List.replicate j 40 ++ A', [c], Lg, o, false))).map tkc ++ [(408, 0)]) 0
            rw [e]
            simpa using u1
        · have hC0 : C = [] := Decidable.byContradiction fun q => v2 (hcv.mp q)
          have hL0 := hv v2
          subst hC0; subst hL0
          have ev : (vb == 2) = false := by simp [v2]
          rw [ev] at g1
          refine simEndA hR hT (by omega) g1 g2 h28 hx hA' hW2 h40 hb (by omega) (by simp at hl hlen' ⊢; omega) hL (fun I2 u1 u2 u3 u4 u5 => ?_)
          refine hk I2 pl' tk' v' a' _ rfl ?_ u2 ⟨_, hL⟩ (hcl _ (by simp [wt, cd])) (fun c a b d e f g h => u3.1 c a b e f g h) (fun j hj => u3.2 j hj) u4 u5
          have e : (o ++ cd (wt (List.replicate j 40 ++ A', [], [], o, false))).map tkc = o.map tkc ++ List.replicate j (402, 0) ++ (cd A').map tkc := by
            show (o ++ cd (List.replicate j 40 ++ A' ++ [] ++ [])).map tkc = _
            rw [List.append_nil, List.append_nil, List.map_append, ← cd_40, cd_app]
            simp
          show mK I2 [] [] (pre ++ (o ++ cd (wt (List.replicate j 40 ++ A', [], [], o, false))).map tkc ++ [(408, 0)]) 0
          rw [e]
          simpa using u1
  | succ m ih =>
    intro s I pl tk v a hT hok hst hx hLx h28 hlen hRL hf hk
    obtain ⟨p0, hp0⟩ := hLx
    obtain ⟨x1, x2, x3, x4, x5, x6, x7, x8⟩ := Lx_adv hp0
    have hn := hT.1
    have hlw := lenW hok
    obtain ⟨s', pl', tk', v', a', hS, hL, hRL'⟩ := hRL
    have hok' := okLS_step hok hS
    have h38 : tk ≠ 38 := fun e => by subst e; exact SL_38 hS
    have y1 := Lx_adv hL
    have y2 := x5 h38
    have hsl := SL_len hS
    have next : ∀ I', stW I' vb pre s' → lxM I' n pl' tk' v' a' → frV I I' → Go G mX7_text 6 0 0 74 [some (.ref 310), none, none] [] SH I' R L Q := fun I' g1 g2 g3 =>
      ih s' I' pl' tk' v' a' (tpM_v hT g3) hok' g1 g2 ⟨_, hL⟩ (by rw [g3.2 28 (by omega)]; exact h28) (by omega) hRL' (fun I2 k p e q1 q2 q3 => hf I2 k p e (g3.trans q1) q2 q3) (fun I2 pl2 tk2 v2 a2 code e q1 q2 q3 q4 q5 q6 q7 q8 => hk I2 pl2 tk2 v2 a2 code e q1 q2 q3 q4 (fun c a b d e f g h => (q5 c a b d e f g h).trans (g3.1 c a b d e f g h)) (fun j hj => (q6 j hj).trans (g3.2 j (by omega))) q7 q8)
    clear ih hf hk hRL'
    have hok0 := hok
    rcases hS with ⟨A, C, Lg, o, e1, e2, rfl, rfl⟩ | ⟨A, C, Lg, o, e1, e2, e3, rfl, rfl⟩ | ⟨A, C, Lg, o, e1, e2, rfl, rfl⟩ | ⟨A, C, Lg, o, e1, e2, rfl, rfl⟩ | ⟨Lg, o, e1, e2, e3, rfl, rfl⟩ | ⟨A, C, Lg, o, e1, e2, rfl, rfl⟩ | ⟨A, Lg, o, e1, e2, e3, rfl, rfl⟩ | ⟨A, c, Lg, o, e1, e3, rfl, rfl⟩ | ⟨P, A, C, Lg, o, e1, e2, rfl, rfl⟩
    · obtain ⟨hA, hC, hLg, hv, hW, hop⟩ := hok
      have hW1 : okW A := okW_pre A (C ++ Lg) (by have := hW; unfold wt at this; simpa using this)
      refine simTo1 hR hst hok0 hx (by omega) (by omega) (fun I2 g1 g2 g3 g4 => simOne hR (tpM_x hT g3) g1 g4 g2 hA hW1 hop ?_ hvb hL (Or.inl ⟨e1, e2⟩) (fun I' j A' u1 u2 u3 u4 u5 u6 => next I' (Or.inr (Or.inr ⟨rfl, j, A', u1, u2, ?_, u6⟩)) u4 (g3.trans u5).v))
      · simp [wt] at hlen ⊢; omega
      · rw [if_pos e1] at u3
        show mV I' vb pre A' C Lg ((o ++ [v]).map tkc ++ List.replicate j (402, 0)) (vb == 2)
        rw [List.map_append]; exact u3
    · obtain ⟨hA, hC, hLg, hv, hW, hop⟩ := hok
      have hW1 : okW A := okW_pre A (C ++ Lg) (by have := hW; unfold wt at this; simpa using this)
      refine simTo1 hR hst hok0 hx (by omega) (by omega) (fun I2 g1 g2 g3 g4 => simOne hR (tpM_x hT g3) g1 g4 g2 hA hW1 hop ?_ hvb hL (Or.inr ⟨e1, e2, e3⟩) (fun I' j A' u1 u2 u3 u4 u5 u6 => next I' (Or.inr (Or.inr ⟨rfl, j, A', u1, u2, ?_, u6⟩)) u4 (g3.trans u5).v))
      · simp [wt] at hlen ⊢; omega
      · rw [if_neg (by omega)] at u3
        show mV I' vb pre A' C Lg ((o ++ [10000 + tk]).map tkc ++ List.replicate j (402, 0)) (vb == 2)
        rw [List.map_append]; exact u3
    · obtain ⟨hA, hC, hLg, hv, hW, hop⟩ := hok
      exact simTo1 hR hst hok0 hx (by omega) (by omega) (fun I2 g1 g2 g3 g4 => simOpn hR (tpM_x hT g3) g1 g4 g2 hop (Or.inl ⟨e1, rfl, rfl⟩) (fun _ => ⟨pl', tk', v', a', hL, fun I' u1 u2 u3 u4 => next I' (Or.inr (Or.inl ⟨rfl, (fun q => by cases q.1), u1, u4⟩)) u2 (g3.trans u3).v⟩) (fun q => absurd e2 (by omega)))
    · obtain ⟨hA, hC, hLg, hv, hW, hop⟩ := hok
      exact simTo1 hR hst hok0 hx (by omega) (by omega) (fun I2 g1 g2 g3 g4 => simOpn hR (tpM_x hT g3) g1 g4 g2 hop (Or.inr ⟨e1, rfl, rfl⟩) (fun _ => ⟨pl', tk', v', a', hL, fun I' u1 u2 u3 u4 => next I' (Or.inr (Or.inl ⟨rfl, (fun q => by cases q.1), u1, u4⟩)) u2 (g3.trans u3).v⟩) (fun q => absurd e2 (by omega)))
    · subst e2
      rcases hst with ⟨-, -, -, -, g1, g2⟩ | ⟨-, q, -, -⟩ | ⟨e, -⟩
      · exact simNay hR hT g1 g2 hx (by show opN Lg ≤ 8; omega) e1 (fun _ => ⟨pl', tk', v', a', hL, fun I' u1 u2 u3 u4 => next I' (Or.inl ⟨rfl, rfl, rfl, rfl, u1, u4⟩) u2 u3.v⟩) (fun q => absurd e3 (by simp at q; omega))
      · exact absurd ⟨rfl, rfl, rfl⟩ q
      · cases e
    all_goals
      rcases hst with ⟨e, -⟩ | ⟨e, -⟩ | ⟨-, j, A', eA, h40, g1, g2⟩
      · cases e
      · cases e
    · simp only at eA g1
      subst eA
      obtain ⟨hA, hC, hLg, hv, hW, hop⟩ := hok
      simp only at hA hC hLg hv
      have hA' : ∀ x ∈ A', inA x := fun x hx => hA x (by simp [hx])
      have hW1 : okW (A' ++ (C ++ Lg)) := okW_tail (List.replicate j 40) _ (by have := hW; unfold wt at this; simpa using this)
      have hW2 := okW_pre _ _ hW1
      have hop' : opN (A' ++ C ++ Lg) ≤ 8 := by
        have : opN (List.replicate j 40 ++ A' ++ C ++ Lg) ≤ 8 := hop
        rw [List.append_assoc, List.append_assoc, op_rep, ← List.append_assoc] at this
        omega
      have hl : j + (A'.length + C.length + Lg.length) ≤ 62 := by simp [wt] at hlw; omega
      have hlen' : pre.length + o.length + (j + (A'.length + C.length + Lg.length)) ≤ pl := by simp [wt] at hlen; omega
      have w1 := wtA_len (bsF vb (vb == 2) C Lg).length A'
      have w2 := wtL_len Lg
      have hbt : bdN tk ≤ 6 := bdN_6 (by unfold unN; simp; omega)
      have ers := rs_app (b := bdN tk) (A := List.replicate j 40) (W := A') (fun x hx => by rw [(List.mem_replicate.mp hx).2]; show bdN tk ≤ 7; omega)
      refine simAri hR hT g1 g2 hx hA' hW2 h40 hop' (by rw [List.length_append]; omega) (by simp; omega) (fun w hw => ?_) e1 e2 hL (fun I' u1 u2 u3 u4 => next I' (Or.inr (Or.inl ⟨rfl, (fun q => by cases q.1), ?_, u4⟩)) u2 u3.v)
      · rw [(wtL_1 _ w hw).2, bs_len]
        by_cases v2 : vb = 2
        · subst v2; simp; omega
        · rw [hv v2] at hw; simp [wtL] at hw
      · show mV I' vb pre (tk :: rsN (bdN tk) (List.replicate j 40 ++ A')) C Lg ((o ++ cd (ppN (bdN tk) (List.replicate j 40 ++ A'))).map tkc) (vb == 2)
        rw [ers.1, ers.2, cd_app, List.map_append, List.map_append, cd_40, ← List.append_assoc]
        exact u1
    · simp only at eA g1
      subst eA; subst e2
      obtain ⟨hA, hC, hLg, hv, hW, hop⟩ := hok
      simp only at hA hC hLg hv
      have hA' : ∀ x ∈ A', inA x := fun x hx => hA x (by simp [hx])
      have hW1 : okW (A' ++ ([] ++ Lg)) := okW_tail (List.replicate j 40) _ (by have := hW; unfold wt at this; simpa using this)
      have hW2 := okW_pre _ _ hW1
      have hop' : opN (A' ++ [] ++ Lg) ≤ 8 := by
        have : opN (List.replicate j 40 ++ A' ++ [] ++ Lg) ≤ 8 := hop
        rw [List.append_assoc, List.append_assoc, op_rep, ← List.append_assoc] at this
        omega
      have hl : j + (A'.length + Lg.length) ≤ 62 := by simp [wt] at hlw; omega
      have hlen' : pre.length + o.length + (j + (A'.length + Lg.length)) ≤ pl := by simp [wt] at hlen; omega
      have w1 := wtA_len (bsF 2 true [] Lg).length A'
      have w2 := wtL_len Lg
      rw [br_rep] at e3
      refine simCmp hR hT g1 g2 hx hA' hW2 h40 hop' (by rw [List.length_append]; omega) (by simp; omega) (fun w hw => ?_) e1 e3 hL (fun I' u1 u2 u3 u4 => next I' (Or.inr (Or.inl ⟨rfl, (fun q => by cases q.2.1), ?_, u4⟩)) u2 u3)
      · rw [(wtL_1 _ w hw).2, bs_len]; simp; omega
      · show mV I' 2 pre [] [tk] Lg ((o ++ cd (List.replicate j 40 ++ A')).map tkc) (2 == 2)
        rw [cd_app, List.map_append, List.map_append, cd_40, ← List.append_assoc]
        exact u1
    · simp only at eA g1
      subst eA
      obtain ⟨hA, hC, hLg, hv, hW, hop⟩ := hok
      simp only at hA hC hLg hv
      obtain ⟨hc, v2⟩ : inC c ∧ vb = 2 := by
        rcases hC with q | ⟨c', q1, q2, q3⟩
        · cases q
        · cases q2; exact ⟨q1, q3⟩
      subst v2
      have hA' : ∀ x ∈ A', inA x := fun x hx => hA x (by simp [hx])
      have hW1 : okW (A' ++ ([c] ++ Lg)) := okW_tail (List.replicate j 40) _ (by have := hW; unfold wt at this; simpa using this)
      have hW2 := okW_pre _ _ hW1
      have hW3 := okW_tail [c] Lg (okW_tail A' _ hW1)
      have hop' : opN (A' ++ [c] ++ Lg) ≤ 8 := by
        have : opN (List.replicate j 40 ++ A' ++ [c] ++ Lg) ≤ 8 := hop
        rw [List.append_assoc, List.append_assoc, op_rep, ← List.append_assoc] at this
        omega
      have hl : j + (A'.length + 1 + Lg.length) ≤ 62 := by simp [wt] at hlw; omega
      have hlen' : pre.length + o.length + (j + (A'.length + 1 + Lg.length)) ≤ pl := by simp [wt] at hlen; omega
      have w1 := wtA_len (bsF 2 true [c] Lg).length A'
      have w2 := wtL_len Lg
      rw [br_rep] at e3
      have hb3 : bdN tk ≤ 3 := by rcases e1 with rfl | rfl <;> decide
      refine simRight hR g1 g2 hx hA' hW2 hW3 h40 hop' (by rw [List.length_append]; show _ + _ < _; omega) (by omega) (by simp; omega) (fun w hw => ?_) hc hLg e3 (by omega) (by omega) (fun I1 k L' eL hL' q1 q2 q3 q4 => ?_)
      · rw [(wtL_1 _ w hw).2, bs_len]; simp; omega
      · have hlk : k + L'.length = Lg.length := by rw [eL]; simp
        have ers := rs_app (b := bdN tk) (A := List.replicate k 11) (W := L') (fun x hx => by rw [(List.mem_replicate.mp hx).2]; show bdN tk ≤ 3; omega)
        refine simLgc hR (tpM_x hT q3) q1 q4 q2 hL' (by omega) (by simp [cd]; omega) e1 hL (fun I' u1 u2 u3 u4 => next I' (Or.inl ⟨rfl, rfl, rfl, rfl, ?_, u4⟩) u2 (q3.trans u3).v)
        show mV I' 2 pre [] [] (tk :: rsN (bdN tk) Lg) ((o ++ cd (List.replicate j 40 ++ A' ++ [c] ++ ppN (bdN tk) Lg)).map tkc) false
        have e : (o ++ cd (List.replicate j 40 ++ A' ++ [c] ++ ppN (bdN tk) Lg)).map tkc = o.map tkc ++ List.replicate j (402, 0) ++ (cd (A' ++ [c] ++ List.replicate k 11)).map tkc ++ (cd (ppN (bdN tk) L')).map tkc := by
          rw [eL, ers.2, List.map_append, ← cd_40, cd_app, cd_app, cd_app, cd_app, cd_app, cd_app]
          simp
        rw [e, show rsN (bdN tk) Lg = rsN (bdN tk) L' by rw [eL]; exact ers.1]
        exact u1
    · simp only at eA g1
      obtain ⟨P', eP, eA'⟩ := spl_cls j A' P A eA
      subst eP; subst eA'; subst e1
      obtain ⟨hA, hC, hLg, hv, hW, hop⟩ := hok
      simp only at hA hC hLg hv
      have hA' : ∀ x ∈ P' ++ 32 :: A, inA x := fun x hx => hA x (by
        rcases List.mem_append.mp hx with q | q
        · exact List.mem_append.mpr (Or.inl (List.mem_append.mpr (Or.inr q)))
        · exact List.mem_append.mpr (Or.inr q))
      have hW1 : okW ((P' ++ 32 :: A) ++ (C ++ Lg)) := okW_tail (List.replicate j 40) _ (by have := hW; unfold wt at this; simpa using this)
      have hW2 := okW_pre _ _ hW1
      have hop' : opN (P' ++ 32 :: A ++ C ++ Lg) ≤ 8 := by
        have : opN (List.replicate j 40 ++ P' ++ 32 :: A ++ C ++ Lg) ≤ 8 := hop
        rw [show List.replicate j 40 ++ P' ++ 32 :: A ++ C ++ Lg = List.replicate j 40 ++ (P' ++ 32 :: A ++ C ++ Lg) by simp, op_rep] at this
        omega
      have hl : j + (P'.length + (A.length + 1) + C.length + Lg.length) ≤ 62 := by simp [wt] at hlw; omega
      have hlen' : pre.length + o.length + (j + (P'.length + (A.length + 1) + C.length + Lg.length)) ≤ pl := by simp [wt] at hlen; omega
      have w1 := wtA_len (bsF vb (vb == 2) C Lg).length (P' ++ 32 :: A)
      have w2 := wtL_len Lg
      rw [br_rep] at e2
      refine simCls hR hT g1 g2 hx hA' hW2 h40 hop' (by rw [List.length_append]; simp at w1; omega) (by simp; omega) (by omega) (fun w hw => ?_) e2 hL (fun I' j2 A2 u1 u2 u3 u4 u5 u6 => next I' (Or.inr (Or.inr ⟨rfl, j2, A2, u1, u2, ?_, u6⟩)) u4 u5.v)
      · rw [(wtL_1 _ w hw).2, bs_len]
        by_cases v2 : vb = 2
        · subst v2; simp; omega
        · rw [hv v2] at hw; simp [wtL] at hw
      · show mV I' vb pre A2 C Lg ((o ++ cd (List.replicate j 40 ++ P')).map tkc ++ List.replicate j2 (402, 0)) (vb == 2)
        rw [cd_app, List.map_append, List.map_append, cd_40, ← List.append_assoc]
        exact u3
