/-! deeds, read by the plain form -/
def frD3 (I I' : gI) : Prop := (∀ c, c ≠ 310 → I' c = I c) ∧ ∀ j, ¬ (14 ≤ j ∧ j ≤ 19) → I' 310 j = I 310 j
theorem frD3.refl (I : gI) : frD3 I I := ⟨fun _ _ => rfl, fun _ _ => rfl⟩
theorem frD3.trans {I J K : gI} (h : frD3 I J) (g : frD3 J K) : frD3 I K := ⟨fun c a => (g.1 c a).trans (h.1 c a), fun j a => (g.2 j a).trans (h.2 j a)⟩
theorem frD3_up {I J : gI} {j : Nat} {x : Int32} (h : frD3 I J) (hj : 14 ≤ j ∧ j ≤ 19) : frD3 I (up J 310 j x) := ⟨fun c a => by rw [up_off c a]; exact h.1 c a, fun k hk => by rw [up_ni (by rintro rfl; exact hk hj)]; exact h.2 k hk⟩
theorem frD3_mv {I J : gI} {pl a : Nat} {s t : Int32} (h : frD3 I J) : frD3 I (mvT J pl a s t) := frD3_up (frD3_up (frD3_up (frD3_up h (by omega)) (by omega)) (by omega)) (by omega)
theorem frD3_err {I : gI} {k pl : Nat} (h18 : I 310 18 = 0) (h15 : I 310 15 = nI pl) : frD3 I (errI I (nI k)) ∧ errI I (nI k) 310 18 = nI k ∧ errI I (nI k) 310 19 = nI pl := by
  rw [err_eq h18 h15]
  exact ⟨frD3_up (frD3_up (frD3.refl _) (by omega)) (by omega), by rw [up_ni (by decide), up_eq], up_eq _ _ _ _⟩
theorem mK_d3 {I I' : gI} {F : List Nat} {Wt out : List (Nat × Nat)} {op : Nat} (h : mK I F Wt out op) (g : frD3 I I') : mK I' F Wt out op := by
  obtain ⟨⟨a1, a2⟩, ⟨b1, b2, b3⟩, c1, d1, d2, d3⟩ := h
  have e : ∀ c, c ≠ 310 → ∀ k, I' c k = I c k := fun c hc k => by rw [g.1 c hc]
  exact ⟨⟨(g.2 21 (by omega)).trans a1, stN_of (fun k _ => e 321 (by decide) k) a2⟩, ⟨(g.2 24 (by omega)).trans b1, stN_of (fun k _ => e 323 (by decide) k) b2, stN_of (fun k _ => e 324 (by decide) k) b3⟩, (g.2 20 (by omega)).trans c1, (g.2 34 (by omega)).trans d1, lsN_of (fun k _ => e 329 (by decide) k) d2, lsN_of (fun k _ => e 330 (by decide) k) d3⟩
theorem mK_upo {I : gI} {F : List Nat} {Wt out : List (Nat × Nat)} {op c j : Nat} {x : Int32} (h : mK I F Wt out op) (hc : c = 325 ∨ c = 326 ∨ c = 327 ∨ c = 328) : mK (up I c j x) F Wt out op := by
  obtain ⟨⟨a1, a2⟩, ⟨b1, b2, b3⟩, c1, d1, d2, d3⟩ := h
  have e : ∀ d, d ≠ c → ∀ k, up I c j x d k = I d k := fun d hd k => up_nc hd
  exact ⟨⟨(e 310 (by omega) 21).trans a1, stN_of (fun k _ => e 321 (by omega) k) a2⟩, ⟨(e 310 (by omega) 24).trans b1, stN_of (fun k _ => e 323 (by omega) k) b2, stN_of (fun k _ => e 324 (by omega) k) b3⟩, (e 310 (by omega) 20).trans c1, (e 310 (by omega) 34).trans d1, lsN_of (fun k _ => e 329 (by omega) k) d2, lsN_of (fun k _ => e 330 (by omega) k) d3⟩
def rdM (I : gI) (T : Nat → Nat) (n : Nat) (σ : rds) : Prop := (∃ k p, σ = .inl (k, p) ∧ k ≠ 0 ∧ k ≤ 6 ∧ p ≤ n ∧ I 310 18 = nI k ∧ I 310 19 = nI p) ∨ ∃ pl tk v a, σ = .inr (pl, tk, v, a) ∧ I 310 18 = 0 ∧ I 310 19 = -1 ∧ lxM I n pl tk v a ∧ ∃ p, Lx T n p pl tk v a
theorem rdM_up {I : gI} {T : Nat → Nat} {n c j : Nat} {x : Int32} {σ : rds} (h : rdM I T n σ) (hc : c ≠ 310) : rdM (up I c j x) T n σ := by
  have e : ∀ k, up I c j x 310 k = I 310 k := fun k => up_nc (Ne.symm hc)
  rcases h with ⟨k, p, e1, h1, h2, h3, h4, h5⟩ | ⟨pl, tk, v, a, e1, h1, h9, ⟨l1, l2, l3, l4⟩, h3⟩
  · exact Or.inl ⟨k, p, e1, h1, h2, h3, (e 18).trans h4, (e 19).trans h5⟩
  · exact Or.inr ⟨pl, tk, v, a, e1, (e 18).trans h1, (e 19).trans h9, ⟨(e 13).trans l1, (e 14).trans l2, (e 15).trans l3, by rw [e 16, e 17]; exact l4⟩, h3⟩
theorem tpM_d3 {I J : gI} {T : Nat → Nat} {n : Nat} (h : tpM I T n) (g : frD3 I J) : tpM J T n := ⟨h.1, fun j hj => by rw [g.1 313 (by decide)]; exact h.2 j hj⟩
theorem errI_id {I : gI} {z : Int32} (h : ¬ I 310 18 = 0) : errI I z = I := by
  unfold errI; rw [if_pos h]
theorem rdM_f {I : gI} {T : Nat → Nat} {n pl k : Nat} (h18 : I 310 18 = 0) (h15 : I 310 15 = nI pl) (hp : pl ≤ n) (hk : k ≠ 0) (hk6 : k ≤ 6) : rdM (errI I (nI k)) T n (.inl (k, pl)) ∧ frD3 I (errI I (nI k)) := by
  have := frD3_err (k := k) h18 h15
  exact ⟨Or.inl ⟨k, pl, rfl, hk, hk6, hp, this.2.1, this.2.2⟩, this.1⟩
theorem k_X7_number {G : gG} {I : gI} {R : gR} {L : gL} {Q : gQ} {T : Nat → Nat} {n lo hi : Nat} {σ σ' : rds} {z : Int32} (hR : g_Fx R) (hT : tpM I T n) (h : rdM I T n σ) (hN : NU T n lo hi σ σ' z) (hlo : lo < 100) (hhi : hi < 100)
    (hq : ∀ I' x, rdM I' T n σ' → ((∃ q, σ' = .inr q) → x = z) → frD3 I I' → Q (some (.int x)) SH I' R L) : Mt G mX7_number 4 0 0 [.ref 310, .int (nI lo), .int (nI hi)] SH I R L Q := by
  refine e_X7_number hR ?_
  rcases hN with ⟨f, e, rfl⟩ | ⟨pl, tk, v, a, e, hN⟩
  · rcases h with ⟨k, p, e1, h1, h2, h3, h4, h5⟩ | ⟨pl, tk, v, a, e1, -⟩
    · have hk0 : ¬ I 310 18 = 0 := by rw [h4]; exact nI_ne0 (by omega) (by omega)
      have hk1 : (0 : Int32) < I 310 18 := by rw [h4]; exact nI_lt (a := 0) (by omega) (by omega)
      refine ⟨fun _ => ?_, fun c => absurd hk1 c⟩
      rintro _ rfl
      rw [errI_id hk0]
      refine hq I _ (Or.inl ⟨k, p, by rw [← e, e1], h1, h2, h3, h4, h5⟩) (fun ⟨q, hq2⟩ => by cases hq2) (frD3.refl _)
    · rw [e] at e1; cases e1
  · rcases h with ⟨k, p, e1, -⟩ | ⟨pl0, tk0, v0, a0, e1, h1, h9, hx, p, hp⟩
    · rw [e] at e1; cases e1
    · rw [e] at e1; cases e1
      obtain ⟨x1, x2, x3, x4, x5, x6, x7, x8⟩ := Lx_adv hp
      obtain ⟨l13, l14, l15, lt⟩ := hx
      have ti := tkR_i lt
      refine ⟨fun c => absurd c (by rw [h1]; decide), fun _ => ?_⟩
      rcases hN with ⟨n37, rfl⟩ | ⟨t37, nb, rfl⟩ | ⟨t37, b1, b2, rfl, pl', tk', v', a', hL, rfl⟩
      · have hs2 : ¬ I 310 16 = 2 := by
          intro c
          rcases Nat.lt_or_ge tk 24 with q | q
          · rw [(ti.2.1 q).1] at c; exact absurd c (by decide)
          · rcases Nat.lt_or_ge tk 37 with q2 | q2
            · rw [(ti.2.2.1 q (by clear ti; omega)).1] at c; exact absurd c (by decide)
            · have : tk = 38 ∨ tk = 39 := by clear ti; omega
              rcases this with q3 | q3
              · rw [ti.2.2.2.1 q3] at c; exact absurd c (by decide)
              · rcases ti.2.2.2.2 q3 with q4 | ⟨q4, -⟩
                · rw [q4] at c; exact absurd c (by decide)
                · rw [q4] at c; exact absurd c (by decide)
        refine ⟨fun c => absurd c hs2, fun _ => ?_⟩
        rintro _ rfl
        have ff := rdM_f (T := T) (k := 1) h1 l15 x4 (by decide) (by decide)
        exact hq _ _ ff.1 (fun ⟨q, hq2⟩ => by cases hq2) ff.2
      · obtain ⟨s2, u, t1, t2, t3⟩ := ti.1 t37
        clear ti
        rw [s2, t1, nleI (by omega) (by omega), nleI (by omega) (by omega)]
        refine ⟨fun _ => ⟨fun c => absurd c (by omega), fun _ => ?_⟩, fun c => absurd rfl c⟩
        rintro _ rfl
        have ff := rdM_f (T := T) (k := 2) h1 l15 x4 (by decide) (by decide)
        exact hq _ _ ff.1 (fun ⟨q, hq2⟩ => by cases hq2) ff.2
      · obtain ⟨s2, u, t1, t2, t3⟩ := ti.1 t37
        clear ti
        rw [s2, t1, nleI (by omega) (by omega), nleI (by omega) (by omega)]
        refine ⟨fun _ => ⟨fun _ => ?_, fun c => absurd (by omega) c⟩, fun c => absurd rfl c⟩
        rintro _ rfl
        refine k_X7_nextToken hR hT l13 l14 hL (fun s t ht => b_X7_number_50 hR ?_)
        refine hq _ _ (Or.inr ⟨pl', tk', v', a', rfl, by rw [mv_o (by omega)]; exact h1, by rw [mv_o (by omega)]; exact h9, lxM_mv l13 ht, _, hL⟩) (fun _ => ?_) (frD3_mv (frD3.refl _))
        congr 1; omega
theorem k_X7_wants {G : gG} {I : gI} {R : gR} {L : gL} {Q : gQ} {T : Nat → Nat} {n due : Nat} {σ σ' : rds} (hR : g_Fx R) (hT : tpM I T n) (h : rdM I T n σ) (hN : EX T n due σ σ') (hdue : due < 24)
    (hq : ∀ I', rdM I' T n σ' → frD3 I I' → Q none SH I' R L) : Mt G mX7_wants 4 0 0 [.ref 310, .int (nI due)] SH I R L Q := by
  refine e_X7_wants hR ?_
  rcases hN with ⟨f, e, rfl⟩ | ⟨pl, tk, v, a, e, hN⟩
  · rcases h with ⟨k, p, e1, h1, h2, h3, h4, h5⟩ | ⟨pl, tk, v, a, e1, -⟩
    · have hk0 : ¬ I 310 18 = 0 := by rw [h4]; exact nI_ne0 (by omega) (by omega)
      refine ⟨fun _ => ⟨fun _ => hq I (Or.inl ⟨k, p, by rw [← e, e1], h1, h2, h3, h4, h5⟩) (frD3.refl _), fun c => absurd c hk0⟩, fun c => absurd c hk0⟩
    · rw [e] at e1; cases e1
  · rcases h with ⟨k, p, e1, -⟩ | ⟨pl0, tk0, v0, a0, e1, h1, h9, hx, p, hp⟩
    · rw [e] at e1; cases e1
    · rw [e] at e1; cases e1
      obtain ⟨x1, x2, x3, x4, x5, x6, x7, x8⟩ := Lx_adv hp
      have ix := tk_s1 hx (by omega) (t := due) hdue
      refine ⟨fun c => absurd h1 c, fun _ => ?_⟩
      rcases hN with ⟨nd, rfl⟩ | ⟨rfl, pl', tk', v', a', hL, rfl⟩
      · refine ⟨fun c => absurd (ix.mp c) nd, fun _ => ?_⟩
        rintro _ rfl
        have ff := rdM_f (T := T) (k := 1) h1 hx.2.2.1 x4 (by decide) (by decide)
        have f2 := frD3_err (k := 1) h1 hx.2.2.1
        exact ⟨fun _ => b_X7_wants_31 hR (hq _ ff.1 ff.2), fun c => absurd (f2.2.1.symm.trans c) (by decide)⟩
      · refine ⟨fun _ => ⟨fun c => absurd h1 c, fun _ => ?_⟩, fun c => absurd (ix.mpr rfl) c⟩
        refine k_X7_nextToken hR hT hx.1 hx.2.1 hL (fun s t ht => b_X7_wants_31 hR ?_)
        exact hq _ (Or.inr ⟨pl', tk', v', a', rfl, by rw [mv_o (by omega)]; exact h1, by rw [mv_o (by omega)]; exact h9, lxM_mv hx.1 ht, _, hL⟩) (frD3_mv (frD3.refl _))
