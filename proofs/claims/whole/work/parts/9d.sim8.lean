theorem tk_s3 {I : gI} {n pl tk v a : Nat} (hx : lxM I n pl tk v a) (htk : tk < 40) {t : Nat} (h1 : 24 ≤ t) (h2 : t ≤ 36) : (I 310 16 = 3 ∧ I 310 17 = nI (chO t)) ↔ tk = t := by
  obtain ⟨x13, x14, x15, xt⟩ := hx
  have ti := tkR_i xt
  refine ⟨fun ⟨h3, e⟩ => ?_, fun e => ?_⟩
  · rcases Nat.lt_or_ge tk 24 with q | q
    · rw [(ti.2.1 q).1] at h3; exact absurd h3 (by decide)
    · rcases Nat.lt_or_ge tk 37 with q2 | q2
      · have t3 := (ti.2.2.1 q (by clear ti; omega)).2
        rw [e] at t3
        have key : ∀ t, t < 37 → 24 ≤ t → ∀ u, u < 37 → 24 ≤ u → nI (chO t) = nI (chO u) → u = t := by decide +kernel
        exact key t (by clear ti; omega) h1 tk q2 q t3
      · have : tk = 37 ∨ tk = 38 ∨ tk = 39 := by clear ti; omega
        rcases this with q3 | q3 | q3
        · rw [(ti.1 q3).1] at h3; exact absurd h3 (by decide)
        · rw [ti.2.2.2.1 q3] at h3; exact absurd h3 (by decide)
        · rcases ti.2.2.2.2 q3 with q4 | ⟨q4, q5⟩
          · rw [q4] at h3; exact absurd h3 (by decide)
          · rw [q5] at e
            have key : ∀ t, t < 37 → 24 ≤ t → (44 : Int32) ≠ nI (chO t) := by decide +kernel
            exact absurd e (key t (by clear ti; omega) h1)
  · subst e
    exact ti.2.2.1 h1 h2
theorem tk_s1 {I : gI} {n pl tk v a : Nat} (hx : lxM I n pl tk v a) (htk : tk < 40) {t : Nat} (h1 : t < 24) : (I 310 16 = 1 ∧ I 310 17 = nI t) ↔ tk = t := by
  obtain ⟨x13, x14, x15, xt⟩ := hx
  have ti := tkR_i xt
  refine ⟨fun ⟨h3, e⟩ => ?_, fun e => ?_⟩
  · rcases Nat.lt_or_ge tk 24 with q | q
    · rw [(ti.2.1 q).2] at e
      clear ti
      exact (nI_eq (by omega) (by omega)).mp e
    · rcases Nat.lt_or_ge tk 37 with q2 | q2
      · rw [(ti.2.2.1 q (by clear ti; omega)).1] at h3; exact absurd h3 (by decide)
      · have : tk = 37 ∨ tk = 38 ∨ tk = 39 := by clear ti; omega
        rcases this with q3 | q3 | q3
        · rw [(ti.1 q3).1] at h3; exact absurd h3 (by decide)
        · rw [ti.2.2.2.1 q3] at h3; exact absurd h3 (by decide)
        · rcases ti.2.2.2.2 q3 with q4 | ⟨q4, q5⟩
          · rw [q4] at h3; exact absurd h3 (by decide)
          · rw [q4] at h3; exact absurd h3 (by decide)
  · subst e
    exact ti.2.1 h1
theorem mK_pop {I : gI} {F : List Nat} {Wt out : List (Nat × Nat)} {op f : Nat} (h : mK I (f :: F) Wt out op) : mK (up I 310 21 (I 310 21 - 1)) F Wt out op ∧ frN I (up I 310 21 (I 310 21 - 1)) := by
  obtain ⟨⟨a1, a2⟩, ⟨b1, b2, b3⟩, c1, d1, d2, d3⟩ := h
  rw [a1, List.length_cons, nI_pred]
  refine ⟨⟨⟨up_eq _ _ _ _, stN_of (fun k hk => ?_) a2.2⟩, ⟨?_, stN_of (fun k _ => ?_) b2, stN_of (fun k _ => ?_) b3⟩, ?_, ?_, lsN_of (fun k _ => ?_) d2, lsN_of (fun k _ => ?_) d3⟩, frN_up (frN.refl _) (by omega)⟩
  · rw [up_nc (by decide)]
  · rw [up_ni (by decide)]; exact b1
  · rw [up_nc (by decide)]
  · rw [up_nc (by decide)]
  · rw [up_ni (by decide)]; exact c1
  · rw [up_ni (by decide)]; exact d1
  · rw [up_nc (by decide)]
  · rw [up_nc (by decide)]
theorem tkc_C {c : Nat} (h : inC c) : tkc (10000 + c) = (chO c, 0) := by
  have : c = 24 ∨ c = 25 ∨ c = 26 ∨ c = 27 ∨ c = 35 ∨ c = 36 := by unfold inC at h; omega
  rcases this with rfl | rfl | rfl | rfl | rfl | rfl <;> decide
theorem cd_11 (k : Nat) : (cd (List.replicate k 11)).map tkc = List.replicate k (405, 0) := by
  induction k with
  | zero => rfl
  | succ k ih => rw [List.replicate_succ, List.replicate_succ]; show tkc (10000 + 11) :: (cd (List.replicate k 11)).map tkc = _; rw [ih]; rfl
theorem cd_40 (k : Nat) : (cd (List.replicate k 40)).map tkc = List.replicate k (402, 0) := by
  induction k with
  | zero => rfl
  | succ k ih => rw [List.replicate_succ, List.replicate_succ]; show tkc (10000 + 40) :: (cd (List.replicate k 40)).map tkc = _; rw [ih]; rfl
theorem cd_lg : ∀ P : List Nat, (∀ x ∈ P, x = 9 ∨ x = 10) → (cd P).map tkc = P.map (fun x => (lgO x, 0))
  | [], _ => rfl
  | x :: P, h => by
    have hx := h x (by simp)
    show tkc (10000 + x) :: (cd P).map tkc = (lgO x, 0) :: P.map _
    rw [cd_lg P (fun y hy => h y (by simp [hy]))]
    rcases hx with rfl | rfl <;> rfl
theorem cd_app (A B : List Nat) : cd (A ++ B) = cd A ++ cd B := by simp [cd]
theorem ct_lg {Lx : List Nat} (h : ∀ x ∈ Lx, x = 9 ∨ x = 10) : Lx.count 11 = 0 ∧ opN Lx = 0 := by
  refine ⟨List.count_eq_zero.mpr (fun q => by have := h 11 q; omega), ?_⟩
  unfold opN
  rw [List.countP_eq_zero]
  intro x hx
  rcases h x hx with rfl | rfl <;> decide
/-- the second sum of a comparison ends -/
theorem simRight {G : gG} {I : gI} {R : gR} {L : gL} {Q : gQ} {n pl tk v a c : Nat} {pre o : List (Nat × Nat)} {A Lg : List Nat} (hR : g_Fx R) (h : mV I 2 pre A [c] Lg o true) (h27 : I 310 27 = 2) (hx : lxM I n pl tk v a) (hA : ∀ x ∈ A, inA x) (hW : okW A) (hWL : okW Lg) (h40 : ∀ y B, A = y :: B → y ≠ 40) (hop : opN (A ++ [c] ++ Lg) ≤ 8) (hAl : (wtA (bsF 2 true [c] Lg).length A ++ wtL Lg).length < 80) (hA2 : A.length < 80) (hlen : (pre ++ o).length + 100 ≤ 400) (hM : ∀ w ∈ wtL Lg, w.2 < (bsF 2 true [c] Lg).length) (hc : inC c) (hLg : ∀ x ∈ Lg, inL x) (hb : brN A = 0) (htk : ¬ (28 ≤ tk ∧ tk ≤ 31)) (htk2 : tk < 40)
    (hq : ∀ I' k L', Lg = List.replicate k 11 ++ L' → (∀ x ∈ L', x = 9 ∨ x = 10) → mV I' 2 pre [] [] L' (o ++ (cd (A ++ [c] ++ List.replicate k 11)).map tkc) false → lxM I' n pl tk v a → frX I I' → I' 310 27 = 3 → Go G mX7_text 6 0 0 74 [some (.ref 310), none, none] [] SH I' R L Q) : Go G mX7_text 6 0 0 74 [some (.ref 310), none, none] [] SH I R L Q := by
  obtain ⟨k, L', eL, hL'⟩ := L_spl Lg hLg hWL
  have hct := ct_lg hL'
  have hfm := fm_br0 hA hW h40 hb
  have hopA := op_fm A hA
  rw [hfm] at hopA
  have eb : bsF 2 true [c] Lg = 5 :: nsF 2 Lg := by simp [bsF, asF]
  have ens : nsF 2 Lg = List.replicate k 3 ++ [2] := by
    unfold nsF
    rw [eL, List.count_append, hct.1, List.count_replicate_self]; rfl
  have eop : opN ([] ++ [c] ++ Lg) = 0 + k := by
    rw [eL, List.nil_append, opN_app, opN_app, hct.2]
    have e1 : opN [c] = 0 := by simp [opN, (bdC hc).2]
    have e2 : opN (List.replicate k 11) = k := by unfold opN; rw [List.countP_replicate]; simp [unN]
    omega
  have hk8 : k ≤ 8 := by
    have : opN (A ++ [c] ++ Lg) = opN A + opN ([] ++ [c] ++ Lg) := by rw [List.append_assoc, opN_app]; rfl
    omega
  have hk0 := h.1
  rw [hfm, List.nil_append, eb] at hk0
  have hns : (nsF 2 Lg).length = k + 1 := by rw [ens]; simp
  refine tx2 hR h.2.2.2 h27 (goOn hR hk0 (by omega) hx htk htk2 (b_X7_goesOn_65 hR ⟨fun _ => b_X7_goesOn_116 hR ⟨fun _ => b_X7_goesOn_181 hR ⟨fun q => absurd rfl q, fun _ => ?_⟩, fun q => absurd q (by decide)⟩, fun q => absurd q (by decide)⟩))
  refine worksA hR h hA hW h40 hop hAl (by omega) hM (fun I1 g1 g2 => b_X7_goesOn_191 hR ?_)
  have e5 := rs5 hA hb
  rw [e5.1, e5.2] at g1
  have k1 := g1.1
  have kc := g1.2.1 c rfl
  rw [show fmA [] = [] from rfl, List.nil_append, eb] at k1
  rw [eb, List.length_cons, hns] at kc
  have k1l : I1 310 21 = nI (k + 1 + 1) := by rw [k1.1.1, List.length_cons, hns]
  refine ⟨by rw [k1l]; exact vp_in_nI (by omega) (by decide), ?_⟩
  rintro _ rfl _ rfl
  rw [show I1 322 (I1 310 21).toNatClampNeg = nI (chO c) by rw [k1l, nI_clamp (by omega)]; exact kc]
  have k2 := mK_pop k1
  have hol : (pre ++ (o ++ (cd A).map tkc)).length < 392 := by simp [cd] at hlen ⊢; omega
  refine ⟨by rw [k2.1.2.2.2.1]; exact vp_in_nI (by omega) (by decide), ?_⟩
  rintro _ rfl
  have k3 := mK_em (o := chO c) (v := 0) k2.1 (by omega)
  have k4 := k3.1
  rw [ens, eop] at k4
  have f3 := (g2.trans k2.2).trans k3.2
  refine k_X7_askIsOver hR k4 (by simp; omega) ⟨2, [], rfl, by decide, by decide⟩ (by rw [List.length_append]; simp only [List.length_singleton]; omega) (fun I' g3 g4 => b_X7_goesOn_221 hR (b_X7_text_150 hR ?_))
  have f4 := (f3.trans g4).x
  have f5 : frX I (up I' 310 27 3) := frX_up f4 (by omega)
  have f6 : ∀ j, j ≠ 20 → j ≠ 21 → j ≠ 24 → j ≠ 27 → j ≠ 34 → up I' 310 27 3 310 j = I 310 j := fun j a b c d e => by rw [up_ni d]; exact (f3.trans g4).2 j a b c d e
  refine hq _ k L' eL hL' (mV_x h f5 (mK_up ?_ (by decide) (by decide) (by decide) (by decide)) (fun c e => by cases e)) ⟨?_, ?_, ?_, ?_⟩ f5 (up_eq _ _ _ _)
  · have e1 : fmA [] ++ bsF 2 false [] L' = [2] := by simp [fmA, bsF, asF, nsF, hct.1]
    have e2 : wtA (bsF 2 false [] L').length [] ++ wtL L' = wtL Lg := by rw [eL, wtL_11]; rfl
    have e3 : opN ([] ++ [] ++ L') = 0 := by simpa using hct.2
    rw [e1, e2, e3, cd_app, cd_app, List.map_append, List.map_append, cd_11, show (cd [c]).map tkc = [(chO c, 0)] by rw [← tkc_C hc]; rfl]
    have g5 : mK I' [2] (wtL Lg) (pre ++ (o ++ (cd A).map tkc) ++ [(chO c, 0)] ++ List.replicate k (405, 0)) 0 := g3
    simpa using g5
  · rw [f6 13 (by decide) (by decide) (by decide) (by decide) (by decide)]; exact hx.1
  · rw [f6 14 (by decide) (by decide) (by decide) (by decide) (by decide)]; exact hx.2.1
  · rw [f6 15 (by decide) (by decide) (by decide) (by decide) (by decide)]; exact hx.2.2.1
  · rw [f6 16 (by decide) (by decide) (by decide) (by decide) (by decide), f6 17 (by decide) (by decide) (by decide) (by decide) (by decide)]; exact hx.2.2.2
