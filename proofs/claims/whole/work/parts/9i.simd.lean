/-- a deed's clause leaves all but its own cells -/
def fH (I I' : gI) (nc : Nat) : Prop := (∀ c, c ≠ 310 → ¬ (321 ≤ c ∧ c ≤ 324) → ¬ (327 ≤ c ∧ c ≤ 330) → I' c = I c) ∧ (∀ k, k ≠ nc → I' 327 k = I 327 k ∧ I' 328 k = I 328 k) ∧ ∀ j, (j ≤ 13 ∨ j = 29) → I' 310 j = I 310 j
theorem fH.refl (I : gI) (nc : Nat) : fH I I nc := ⟨fun _ _ _ _ => rfl, fun _ _ => ⟨rfl, rfl⟩, fun _ _ => rfl⟩
theorem fH.trans {I J K : gI} {nc : Nat} (h : fH I J nc) (g : fH J K nc) : fH I K nc := ⟨fun c a b d => (g.1 c a b d).trans (h.1 c a b d), fun k hk => ⟨(g.2.1 k hk).1.trans (h.2.1 k hk).1, (g.2.1 k hk).2.trans (h.2.1 k hk).2⟩, fun j a => (g.2.2 j a).trans (h.2.2 j a)⟩
theorem frD3.h {I J : gI} {nc : Nat} (h : frD3 I J) : fH I J nc := ⟨fun c a _ _ => h.1 c a, fun k _ => ⟨by rw [h.1 327 (by decide)], by rw [h.1 328 (by decide)]⟩, fun j hj => h.2 j (by omega)⟩
theorem fH_up {I J : gI} {nc c : Nat} {x : Int32} (h : fH I J nc) (hc : c = 327 ∨ c = 328) : fH I (up J c nc x) nc := by
  refine ⟨fun d a b e => by rw [up_off d (by omega)]; exact h.1 d a b e, fun k hk => ⟨?_, ?_⟩, fun j hj => by rw [up_nc (by omega)]; exact h.2.2 j hj⟩
  · rw [up_ni hk]; exact (h.2.1 k hk).1
  · rw [up_ni hk]; exact (h.2.1 k hk).2
/-- behind a deed -/
def aftD (I : gI) (T : Nat → Nat) (n nc : Nat) (out : List (Nat × Nat)) (σ : rds) : Prop := (∃ k p, σ = .inl (k, p) ∧ k ≠ 0 ∧ k ≤ 6 ∧ p ≤ n ∧ I 310 18 = nI k ∧ I 310 19 = nI p) ∨ ∃ pl tk v a, σ = .inr (pl, tk, v, a) ∧ I 310 18 = 0 ∧ I 310 19 = -1 ∧ I 310 27 = 4 ∧ I 310 28 = nI (nc + 1) ∧ mK I [] [] (out ++ [(408, 0)]) 0 ∧ lxM I n pl tk v a ∧ ∃ p, Lx T n p pl tk v a
theorem simD9 {G : gG} {I : gI} {R : gR} {L : gL} {Q : gQ} {T : Nat → Nat} {n nc : Nat} {σ σ' : rds} {out : List (Nat × Nat)} (hR : g_Fx R) (hT : tpM I T n) (h : rdM I T n σ) (hN : EX T n 34 σ σ') (hm : mK I [] [] out 0) (h28 : I 310 28 = nI nc) (ho : out.length < 400)
    (hq : ∀ I', aftD I' T n nc out σ' → fH I I' nc → (∀ c, c = 327 ∨ c = 328 → I' c = I c) → Q none SH I' R L) : Go G mX7_clause 5 0 0 283 [some (.ref 310)] [] SH I R L Q := by
  refine b_X7_clause_283 hR ?_
  rcases hN with ⟨f, e, rfl⟩ | ⟨pl, tk, v, a, e, hN⟩
  · rcases h with ⟨k, p, e1, h1, h2, h3, h4, h5⟩ | ⟨pl, tk, v, a, e1, -⟩
    · have hk0 : ¬ I 310 18 = 0 := by rw [h4]; exact nI_ne0 (by omega) (by omega)
      refine ⟨fun _ => ⟨fun _ => hq I (Or.inl ⟨k, p, by rw [← e, e1], h1, h2, h3, h4, h5⟩) (fH.refl _ _) (fun _ _ => rfl), fun c => absurd c hk0⟩, fun c => absurd c hk0⟩
    · rw [e] at e1; cases e1
  · rcases h with ⟨k, p, e1, -⟩ | ⟨pl0, tk0, v0, a0, e1, h1, h9, hx, p, hp⟩
    · rw [e] at e1; cases e1
    · rw [e] at e1; cases e1
      obtain ⟨x1, x2, x3, x4, x5, x6, x7, x8⟩ := Lx_adv hp
      have ix := tk_s3 hx (by omega) (t := 34) (by omega) (by omega)
      refine ⟨fun c => absurd h1 c, fun _ => ?_⟩
      rcases hN with ⟨nd, rfl⟩ | ⟨rfl, pl', tk', v', a', hL, rfl⟩
      · refine ⟨fun c => absurd (ix.mp c) nd, fun _ => ?_⟩
        rintro _ rfl
        have f2 := frD3_err (k := 1) h1 hx.2.2.1
        exact ⟨fun _ => b_X7_clause_315 hR (hq _ (Or.inl ⟨1, pl, rfl, by decide, by decide, x4, f2.2.1, f2.2.2⟩) f2.1.h (fun c hc => f2.1.1 c (by omega))), fun c => absurd (f2.2.1.symm.trans c) (by decide)⟩
      · refine ⟨fun _ => ⟨fun c => absurd h1 c, fun _ => ?_⟩, fun c => absurd (ix.mpr rfl) c⟩
        refine k_X7_clauseIsOver hR hT hm hx.1 hx.2.1 h28 hL (by simp) (fun w hw => by simp at hw) (by simp) (by simpa using ho) (fun I' g1 g2 g3 g4 g5 => b_X7_clause_315 hR (hq I' (Or.inr ⟨pl', tk', v', a', rfl, (g3.2 18 (by omega)).trans h1, (g3.2 19 (by omega)).trans h9, g4, g5, by simpa using g1, g2, _, hL⟩) ⟨fun c a b d => g3.1 c a (by omega) (by omega) (by omega) (by omega) (by omega), fun k _ => ⟨?_, ?_⟩, fun j hj => g3.2 j (by omega)⟩ (fun c hc => g3.1 c (by omega) (by omega) (by omega) (by omega) (by omega) (by omega))))
        · rw [g3.1 327 (by decide) (by decide) (by decide) (by decide) (by decide) (by decide)]
        · rw [g3.1 328 (by decide) (by decide) (by decide) (by decide) (by decide) (by decide)]
theorem simD {G : gG} {I : gI} {R : gR} {L : gL} {Q : gQ} {T : Nat → Nat} {n nc vb : Nat} {σ σ' : rds} {z w : Int32} {out : List (Nat × Nat)} (hR : g_Fx R) (hT : tpM I T n) (h : rdM I T n σ) (hN : DR T n vb σ σ' z w) (hm : mK I [] [] out 0) (h28 : I 310 28 = nI nc) (hnc : nc < 24) (h29 : I 310 29 = nI vb) (ho : out.length < 400)
    (hq : ∀ I', aftD I' T n nc out σ' → fH I I' nc → ((∃ q, σ' = .inr q) → I' 327 nc = z ∧ (vb ≤ 4 → I' 328 nc = w)) → Q none SH I' R L) : Go G mX7_clause 5 0 0 131 [some (.ref 310)] [] SH I R L Q := by
  have nu_inr : ∀ {lo hi : Nat} {σ σ' : rds} {z : Int32}, NU T n lo hi σ σ' z → (∃ q, σ' = .inr q) → ∃ q, σ = .inr q := by
    rintro lo hi σ σ' z (⟨f, e1, e2⟩ | ⟨pl, tk, v, a, e, -⟩) ⟨q, hq⟩
    · rw [e2] at hq; cases hq
    · exact ⟨_, e⟩
  have ex_inr : ∀ {due : Nat} {σ σ' : rds}, EX T n due σ σ' → (∃ q, σ' = .inr q) → ∃ q, σ = .inr q := by
    rintro due σ σ' (⟨f, e1, e2⟩ | ⟨pl, tk, v, a, e, -⟩) ⟨q, hq⟩
    · rw [e2] at hq; cases hq
    · exact ⟨_, e⟩
  -- the first number, kept
  have one : ∀ (hi : Nat) (σ1 : rds) (J : gI) (x : Int32), rdM J T n σ1 → ((∃ q, σ1 = .inr q) → x = z) → frD3 I J → tpM (up J 327 nc x) T n ∧ rdM (up J 327 nc x) T n σ1 ∧ mK (up J 327 nc x) [] [] out 0 ∧ up J 327 nc x 310 28 = nI nc ∧ up J 327 nc x 310 29 = nI vb ∧ fH I (up J 327 nc x) nc ∧ ((∃ q, σ1 = .inr q) → up J 327 nc x 327 nc = z) := by
    intro hi σ1 J x g1 g2 g3
    refine ⟨?_, rdM_up g1 (by decide), mK_upo (mK_d3 hm g3) (by omega), ?_, ?_, fH_up g3.h (Or.inl rfl), fun q => by rw [up_eq]; exact g2 q⟩
    · have := tpM_d3 hT g3
      exact ⟨this.1, fun j hj => by rw [up_nc (by decide)]; exact this.2 j hj⟩
    · rw [up_nc (by decide), g3.2 28 (by omega)]; exact h28
    · rw [up_nc (by decide), g3.2 29 (by omega)]; exact h29
  refine b_X7_clause_131 hR ?_
  -- a second number behind a word
  have two : ∀ (due hi : Nat) (σ1 σ2 σ3 : rds) (J : gI), due < 24 → hi < 100 → (vb = 3 ∧ due = 7 ∧ hi = 2 ∨ vb = 4 ∧ due = 8 ∧ hi = 1) → tpM J T n → rdM J T n σ1 → mK J [] [] out 0 → J 310 28 = nI nc → J 310 29 = nI vb → fH I J nc → ((∃ q, σ1 = .inr q) → J 327 nc = z) → EX T n due σ1 σ2 → NU T n 0 hi σ2 σ3 w → EX T n 34 σ3 σ' → Go G mX7_clause 5 0 0 237 [some (.ref 310)] [] SH J R L Q := by
    intro due hi σ1 σ2 σ3 J hdue hhi hv j1 j2 j3 j4 j5 j6 j7 d1 d2 d3
    have g253 : Go G mX7_clause 5 0 0 253 [some (.ref 310)] [.int (nI due), .ref 310] SH J R L Q := by
      refine b_X7_clause_253 hR (k_X7_wants hR j1 j2 d1 hdue (fun J2 g1 g2 => b_X7_clause_256 hR ?_))
      have e28 : J2 310 28 = nI nc := (g2.2 28 (by omega)).trans j4
      have e29 : J2 310 29 = nI vb := (g2.2 29 (by omega)).trans j5
      have fin : Go G mX7_clause 5 0 0 279 [some (.ref 310)] [.int (nI hi), .int (nI 0), .ref 310, .int (nI nc), .ref 328] SH J2 R L Q := by
        refine b_X7_clause_279 hR (k_X7_number hR (tpM_d3 j1 g2) g1 d2 (by omega) hhi (fun J3 x u1 u2 u3 => b_X7_clause_282 hR ⟨vp_in_nI hnc (by decide), ?_⟩))
        rintro _ rfl
        rw [nI_clamp (by omega)]
        have t3 := tpM_d3 (tpM_d3 j1 g2) u3
        have f23 := g2.trans u3
        refine simD9 hR ⟨t3.1, fun j hj => by rw [up_nc (by decide)]; exact t3.2 j hj⟩ (rdM_up u1 (by decide)) d3 (mK_upo (mK_d3 j3 f23) (by omega)) (by rw [up_nc (by decide), f23.2 28 (by omega)]; exact j4) ho (fun I' q1 q2 q3 => hq I' q1 ((j6.trans (fH_up f23.h (Or.inr rfl))).trans q2) (fun q => ?_))
        have i3 := ex_inr d3 q
        have i2 := nu_inr d2 i3
        have i1 := ex_inr d1 i2
        refine ⟨?_, fun _ => ?_⟩
        · rw [q3 327 (Or.inl rfl), up_nc (by decide), f23.1 327 (by decide)]; exact j7 i1
        · rw [q3 328 (Or.inr rfl), up_eq]; exact u2 i3
      rw [e28, e29]
      rcases hv with ⟨rfl, -, rfl⟩ | ⟨rfl, -, rfl⟩
      · exact ⟨fun c => absurd rfl c, fun _ => fin⟩
      · exact ⟨fun _ => fin, fun c => absurd c (by decide)⟩
    refine b_X7_clause_237 hR ?_
    rw [j5]
    rcases hv with ⟨rfl, rfl, -⟩ | ⟨rfl, rfl, -⟩
    · exact ⟨fun c => absurd rfl c, fun _ => g253⟩
    · exact ⟨fun _ => g253, fun c => absurd c (by decide)⟩
  rw [h28, h29]
  rcases hN with ⟨rfl, σ1, σ2, σ3, a1, a2, a3, a4⟩ | ⟨rfl, σ1, σ2, σ3, a1, a2, a3, a4⟩ | ⟨rfl, σ1, a1, a2⟩ | ⟨rfl, σ1, a1, a2⟩
  · refine ⟨fun _ => ⟨fun _ => ⟨fun _ => b_X7_clause_217 hR ?_, fun c => absurd c (by decide)⟩, fun c => absurd c (by decide)⟩, fun c => absurd (by decide) c⟩
    refine k_X7_number (lo := 0) (hi := 8) hR hT h a1 (by decide) (by decide) (fun J x g1 g2 g3 => b_X7_clause_220 hR ⟨vp_in_nI hnc (by decide), ?_⟩)
    rintro _ rfl
    rw [nI_clamp (by omega)]
    obtain ⟨k1, k2, k3, k4, k5, k6, k7⟩ := one 8 σ1 J x g1 g2 g3
    rw [k5]
    exact ⟨fun _ => two 7 2 σ1 σ2 σ3 _ (by decide) (by decide) (Or.inl ⟨rfl, rfl, rfl⟩) k1 k2 k3 k4 k5 k6 k7 a2 a3 a4, fun c => absurd rfl c⟩
  · refine ⟨fun _ => ⟨fun _ => ⟨fun _ => b_X7_clause_217 hR ?_, fun c => absurd c (by decide)⟩, fun c => absurd c (by decide)⟩, fun c => absurd (by decide) c⟩
    refine k_X7_number (lo := 0) (hi := 8) hR hT h a1 (by decide) (by decide) (fun J x g1 g2 g3 => b_X7_clause_220 hR ⟨vp_in_nI hnc (by decide), ?_⟩)
    rintro _ rfl
    rw [nI_clamp (by omega)]
    obtain ⟨k1, k2, k3, k4, k5, k6, k7⟩ := one 8 σ1 J x g1 g2 g3
    rw [k5]
    exact ⟨fun c => absurd c (by decide), fun _ => ⟨fun c => absurd rfl c, fun _ => two 8 1 σ1 σ2 σ3 _ (by decide) (by decide) (Or.inr ⟨rfl, rfl, rfl⟩) k1 k2 k3 k4 k5 k6 k7 a2 a3 a4⟩⟩
  · refine ⟨fun _ => ⟨fun _ => ⟨fun c => absurd rfl c, fun _ => b_X7_clause_217 hR ?_⟩, fun c => absurd c (by decide)⟩, fun c => absurd (by decide) c⟩
    refine k_X7_number (lo := 0) (hi := 1) hR hT h a1 (by decide) (by decide) (fun J x g1 g2 g3 => b_X7_clause_220 hR ⟨vp_in_nI hnc (by decide), ?_⟩)
    rintro _ rfl
    rw [nI_clamp (by omega)]
    obtain ⟨k1, k2, k3, k4, k5, k6, k7⟩ := one 8 σ1 J x g1 g2 g3
    rw [k5]
    refine ⟨fun c => absurd c (by decide), fun _ => ⟨fun _ => simD9 hR k1 k2 a2 k3 k4 ho (fun I' q1 q2 q3 => hq I' q1 (k6.trans q2) (fun q => ⟨?_, fun c => absurd c (by decide)⟩)), fun c => absurd c (by decide)⟩⟩
    rw [q3 327 (Or.inl rfl)]; exact k7 (ex_inr a2 q)
  · refine ⟨fun _ => ⟨fun c => absurd rfl c, fun _ => ?_⟩, fun c => absurd (by decide) c⟩
    refine k_X7_number (lo := 1) (hi := 40) hR hT h a1 (by decide) (by decide) (fun J x g1 g2 g3 => b_X7_clause_198 hR (b_X7_clause_220 hR ⟨vp_in_nI hnc (by decide), ?_⟩))
    rintro _ rfl
    rw [nI_clamp (by omega)]
    obtain ⟨k1, k2, k3, k4, k5, k6, k7⟩ := one 8 σ1 J x g1 g2 g3
    rw [k5]
    refine ⟨fun c => absurd c (by decide), fun _ => ⟨fun _ => simD9 hR k1 k2 a2 k3 k4 ho (fun I' q1 q2 q3 => hq I' q1 (k6.trans q2) (fun q => ⟨?_, fun c => absurd c (by decide)⟩)), fun c => absurd c (by decide)⟩⟩
    rw [q3 327 (Or.inl rfl)]; exact k7 (ex_inr a2 q)
